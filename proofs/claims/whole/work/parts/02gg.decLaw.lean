theorem d_Law_law_779 : decode b_Law_law 779 = .ok (.invokevirtual 65, 3) := by decide +kernel
theorem d_Law_law_782 : decode b_Law_law 782 = .ok (.iload 5, 2) := by decide +kernel
theorem d_Law_law_784 : decode b_Law_law 784 = .ok (.if_icmp .eq 5, 3) := by decide +kernel
theorem d_Law_law_787 : decode b_Law_law 787 = .ok (.iconst 0, 1) := by decide +kernel
theorem d_Law_law_788 : decode b_Law_law 788 = .ok (.ireturn, 1) := by decide +kernel
theorem d_Law_law_789 : decode b_Law_law 789 = .ok (.iload 5, 2) := by decide +kernel
theorem d_Law_law_791 : decode b_Law_law 791 = .ok (.ifCond .ne 15, 3) := by decide +kernel
theorem d_Law_law_794 : decode b_Law_law 794 = .ok (.aload_n 3, 1) := by decide +kernel
theorem d_Law_law_795 : decode b_Law_law 795 = .ok (.iconst 0, 1) := by decide +kernel
theorem d_Law_law_796 : decode b_Law_law 796 = .ok (.laload, 1) := by decide +kernel
theorem d_Law_law_797 : decode b_Law_law 797 = .ok (.iload 6, 2) := by decide +kernel
theorem d_Law_law_799 : decode b_Law_law 799 = .ok (.i2l, 1) := by decide +kernel
theorem d_Law_law_800 : decode b_Law_law 800 = .ok (.lcmp, 1) := by decide +kernel
theorem d_Law_law_801 : decode b_Law_law 801 = .ok (.ifCond .eq 5, 3) := by decide +kernel
theorem d_Law_law_804 : decode b_Law_law 804 = .ok (.iconst 0, 1) := by decide +kernel
theorem d_Law_law_805 : decode b_Law_law 805 = .ok (.ireturn, 1) := by decide +kernel
theorem d_Law_law_806 : decode b_Law_law 806 = .ok (.goto 308, 3) := by decide +kernel
theorem d_Law_law_809 : decode b_Law_law 809 = .ok (.aload_n 1, 1) := by decide +kernel
theorem d_Law_law_810 : decode b_Law_law 810 = .ok (.aload_n 0, 1) := by decide +kernel
theorem d_Law_law_811 : decode b_Law_law 811 = .ok (.iload 4, 2) := by decide +kernel
theorem d_Law_law_813 : decode b_Law_law 813 = .ok (.iconst 1, 1) := by decide +kernel
theorem d_Law_law_814 : decode b_Law_law 814 = .ok (.iadd, 1) := by decide +kernel
theorem d_Law_law_815 : decode b_Law_law 815 = .ok (.iaload, 1) := by decide +kernel
theorem d_Law_law_816 : decode b_Law_law 816 = .ok (.invokevirtual 110, 3) := by decide +kernel
theorem d_Law_law_819 : decode b_Law_law 819 = .ok (.aload_n 2, 1) := by decide +kernel
theorem d_Law_law_820 : decode b_Law_law 820 = .ok (.aload_n 0, 1) := by decide +kernel
theorem d_Law_law_821 : decode b_Law_law 821 = .ok (.iload 4, 2) := by decide +kernel
theorem d_Law_law_823 : decode b_Law_law 823 = .ok (.iconst 1, 1) := by decide +kernel
theorem d_Law_law_824 : decode b_Law_law 824 = .ok (.iadd, 1) := by decide +kernel
theorem d_Law_law_825 : decode b_Law_law 825 = .ok (.iaload, 1) := by decide +kernel
theorem d_Law_law_826 : decode b_Law_law 826 = .ok (.invokevirtual 114, 3) := by decide +kernel
theorem d_Law_law_829 : decode b_Law_law 829 = .ok (.if_icmp .eq 285, 3) := by decide +kernel
theorem d_Law_law_832 : decode b_Law_law 832 = .ok (.iconst 0, 1) := by decide +kernel
theorem d_Law_law_833 : decode b_Law_law 833 = .ok (.ireturn, 1) := by decide +kernel
theorem d_Law_law_834 : decode b_Law_law 834 = .ok (.aload_n 1, 1) := by decide +kernel
theorem d_Law_law_835 : decode b_Law_law 835 = .ok (.invokevirtual 115, 3) := by decide +kernel
theorem d_Law_law_838 : decode b_Law_law 838 = .ok (.aload_n 2, 1) := by decide +kernel
theorem d_Law_law_839 : decode b_Law_law 839 = .ok (.invokevirtual 118, 3) := by decide +kernel
theorem d_Law_law_842 : decode b_Law_law 842 = .ok (.if_icmp .eq 272, 3) := by decide +kernel
theorem d_Law_law_845 : decode b_Law_law 845 = .ok (.iconst 0, 1) := by decide +kernel
theorem d_Law_law_846 : decode b_Law_law 846 = .ok (.ireturn, 1) := by decide +kernel
theorem d_Law_law_847 : decode b_Law_law 847 = .ok (.aload_n 1, 1) := by decide +kernel
theorem d_Law_law_848 : decode b_Law_law 848 = .ok (.aload_n 0, 1) := by decide +kernel
theorem d_Law_law_849 : decode b_Law_law 849 = .ok (.iload 4, 2) := by decide +kernel
theorem d_Law_law_851 : decode b_Law_law 851 = .ok (.iconst 1, 1) := by decide +kernel
theorem d_Law_law_852 : decode b_Law_law 852 = .ok (.iadd, 1) := by decide +kernel
theorem d_Law_law_853 : decode b_Law_law 853 = .ok (.iaload, 1) := by decide +kernel
theorem d_Law_law_854 : decode b_Law_law 854 = .ok (.aload_n 0, 1) := by decide +kernel
theorem d_Law_law_855 : decode b_Law_law 855 = .ok (.iload 4, 2) := by decide +kernel
theorem d_Law_law_857 : decode b_Law_law 857 = .ok (.iconst 2, 1) := by decide +kernel
theorem d_Law_law_858 : decode b_Law_law 858 = .ok (.iadd, 1) := by decide +kernel
theorem d_Law_law_859 : decode b_Law_law 859 = .ok (.iaload, 1) := by decide +kernel
theorem d_Law_law_860 : decode b_Law_law 860 = .ok (.aload_n 0, 1) := by decide +kernel
theorem d_Law_law_861 : decode b_Law_law 861 = .ok (.iload 4, 2) := by decide +kernel
theorem d_Law_law_863 : decode b_Law_law 863 = .ok (.iconst 3, 1) := by decide +kernel
theorem d_Law_law_864 : decode b_Law_law 864 = .ok (.iadd, 1) := by decide +kernel
theorem d_Law_law_865 : decode b_Law_law 865 = .ok (.iaload, 1) := by decide +kernel
theorem d_Law_law_866 : decode b_Law_law 866 = .ok (.invokevirtual 119, 3) := by decide +kernel
theorem d_Law_law_869 : decode b_Law_law 869 = .ok (.aload_n 2, 1) := by decide +kernel
theorem d_Law_law_870 : decode b_Law_law 870 = .ok (.aload_n 0, 1) := by decide +kernel
theorem d_Law_law_871 : decode b_Law_law 871 = .ok (.iload 4, 2) := by decide +kernel
theorem d_Law_law_873 : decode b_Law_law 873 = .ok (.iconst 1, 1) := by decide +kernel
theorem d_Law_law_874 : decode b_Law_law 874 = .ok (.iadd, 1) := by decide +kernel
theorem d_Law_law_875 : decode b_Law_law 875 = .ok (.iaload, 1) := by decide +kernel
theorem d_Law_law_876 : decode b_Law_law 876 = .ok (.aload_n 0, 1) := by decide +kernel
theorem d_Law_law_877 : decode b_Law_law 877 = .ok (.iload 4, 2) := by decide +kernel
theorem d_Law_law_879 : decode b_Law_law 879 = .ok (.iconst 2, 1) := by decide +kernel
theorem d_Law_law_880 : decode b_Law_law 880 = .ok (.iadd, 1) := by decide +kernel
theorem d_Law_law_881 : decode b_Law_law 881 = .ok (.iaload, 1) := by decide +kernel
theorem d_Law_law_882 : decode b_Law_law 882 = .ok (.aload_n 0, 1) := by decide +kernel
theorem d_Law_law_883 : decode b_Law_law 883 = .ok (.iload 4, 2) := by decide +kernel
theorem d_Law_law_885 : decode b_Law_law 885 = .ok (.iconst 3, 1) := by decide +kernel
theorem d_Law_law_886 : decode b_Law_law 886 = .ok (.iadd, 1) := by decide +kernel
theorem d_Law_law_887 : decode b_Law_law 887 = .ok (.iaload, 1) := by decide +kernel
theorem d_Law_law_888 : decode b_Law_law 888 = .ok (.invokevirtual 122, 3) := by decide +kernel
theorem d_Law_law_891 : decode b_Law_law 891 = .ok (.if_icmp .eq 223, 3) := by decide +kernel
theorem d_Law_law_894 : decode b_Law_law 894 = .ok (.iconst 0, 1) := by decide +kernel
theorem d_Law_law_895 : decode b_Law_law 895 = .ok (.ireturn, 1) := by decide +kernel
theorem d_Law_law_896 : decode b_Law_law 896 = .ok (.aload_n 1, 1) := by decide +kernel
theorem d_Law_law_897 : decode b_Law_law 897 = .ok (.aload_n 0, 1) := by decide +kernel
theorem d_Law_law_898 : decode b_Law_law 898 = .ok (.iload 4, 2) := by decide +kernel
theorem d_Law_law_900 : decode b_Law_law 900 = .ok (.iconst 1, 1) := by decide +kernel
theorem d_Law_law_901 : decode b_Law_law 901 = .ok (.iadd, 1) := by decide +kernel
theorem d_Law_law_902 : decode b_Law_law 902 = .ok (.iaload, 1) := by decide +kernel
theorem d_Law_law_903 : decode b_Law_law 903 = .ok (.aload_n 0, 1) := by decide +kernel
theorem d_Law_law_904 : decode b_Law_law 904 = .ok (.iload 4, 2) := by decide +kernel
theorem d_Law_law_906 : decode b_Law_law 906 = .ok (.iconst 2, 1) := by decide +kernel
theorem d_Law_law_907 : decode b_Law_law 907 = .ok (.iadd, 1) := by decide +kernel
theorem d_Law_law_908 : decode b_Law_law 908 = .ok (.iaload, 1) := by decide +kernel
theorem d_Law_law_909 : decode b_Law_law 909 = .ok (.ifCond .eq 7, 3) := by decide +kernel
theorem d_Law_law_912 : decode b_Law_law 912 = .ok (.iconst 1, 1) := by decide +kernel
theorem d_Law_law_913 : decode b_Law_law 913 = .ok (.goto 4, 3) := by decide +kernel
theorem d_Law_law_916 : decode b_Law_law 916 = .ok (.iconst 0, 1) := by decide +kernel
theorem d_Law_law_917 : decode b_Law_law 917 = .ok (.aload_n 0, 1) := by decide +kernel
theorem d_Law_law_918 : decode b_Law_law 918 = .ok (.iload 4, 2) := by decide +kernel
theorem d_Law_law_920 : decode b_Law_law 920 = .ok (.iconst 3, 1) := by decide +kernel
theorem d_Law_law_921 : decode b_Law_law 921 = .ok (.iadd, 1) := by decide +kernel
theorem d_Law_law_922 : decode b_Law_law 922 = .ok (.iaload, 1) := by decide +kernel
theorem d_Law_law_923 : decode b_Law_law 923 = .ok (.invokevirtual 123, 3) := by decide +kernel
theorem d_Law_law_926 : decode b_Law_law 926 = .ok (.aload_n 2, 1) := by decide +kernel
