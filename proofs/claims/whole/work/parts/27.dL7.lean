theorem d_L_law_814 : decode code 814 = .ok (.iload_n 3, 1) := by decide +kernel
theorem d_L_law_815 : decode code 815 = .ok (.iconst 1, 1) := by decide +kernel
theorem d_L_law_816 : decode code 816 = .ok (.iadd, 1) := by decide +kernel
theorem d_L_law_817 : decode code 817 = .ok (.iaload, 1) := by decide +kernel
theorem d_L_law_818 : decode code 818 = .ok (.i2l, 1) := by decide +kernel
theorem d_L_law_819 : decode code 819 = .ok (.bipush 32, 2) := by decide +kernel
theorem d_L_law_821 : decode code 821 = .ok (.lshl, 1) := by decide +kernel
theorem d_L_law_822 : decode code 822 = .ok (.aload_n 0, 1) := by decide +kernel
theorem d_L_law_823 : decode code 823 = .ok (.iload_n 3, 1) := by decide +kernel
theorem d_L_law_824 : decode code 824 = .ok (.iconst 2, 1) := by decide +kernel
theorem d_L_law_825 : decode code 825 = .ok (.iadd, 1) := by decide +kernel
theorem d_L_law_826 : decode code 826 = .ok (.iaload, 1) := by decide +kernel
theorem d_L_law_827 : decode code 827 = .ok (.i2l, 1) := by decide +kernel
theorem d_L_law_828 : decode code 828 = .ok (.ldc2_w 23, 3) := by decide +kernel
theorem d_L_law_831 : decode code 831 = .ok (.land, 1) := by decide +kernel
theorem d_L_law_832 : decode code 832 = .ok (.lor, 1) := by decide +kernel
theorem d_L_law_833 : decode code 833 = .ok (.aload_n 0, 1) := by decide +kernel
theorem d_L_law_834 : decode code 834 = .ok (.iload_n 3, 1) := by decide +kernel
theorem d_L_law_835 : decode code 835 = .ok (.iconst 3, 1) := by decide +kernel
theorem d_L_law_836 : decode code 836 = .ok (.iadd, 1) := by decide +kernel
theorem d_L_law_837 : decode code 837 = .ok (.iaload, 1) := by decide +kernel
theorem d_L_law_838 : decode code 838 = .ok (.i2l, 1) := by decide +kernel
theorem d_L_law_839 : decode code 839 = .ok (.bipush 32, 2) := by decide +kernel
theorem d_L_law_841 : decode code 841 = .ok (.lshl, 1) := by decide +kernel
theorem d_L_law_842 : decode code 842 = .ok (.aload_n 0, 1) := by decide +kernel
theorem d_L_law_843 : decode code 843 = .ok (.iload_n 3, 1) := by decide +kernel
theorem d_L_law_844 : decode code 844 = .ok (.iconst 4, 1) := by decide +kernel
theorem d_L_law_845 : decode code 845 = .ok (.iadd, 1) := by decide +kernel
theorem d_L_law_846 : decode code 846 = .ok (.iaload, 1) := by decide +kernel
theorem d_L_law_847 : decode code 847 = .ok (.i2l, 1) := by decide +kernel
theorem d_L_law_848 : decode code 848 = .ok (.ldc2_w 23, 3) := by decide +kernel
theorem d_L_law_851 : decode code 851 = .ok (.land, 1) := by decide +kernel
theorem d_L_law_852 : decode code 852 = .ok (.lor, 1) := by decide +kernel
theorem d_L_law_853 : decode code 853 = .ok (.invokevirtual 94, 3) := by decide +kernel
theorem d_L_law_856 : decode code 856 = .ok (.aload_n 2, 1) := by decide +kernel
theorem d_L_law_857 : decode code 857 = .ok (.aload_n 0, 1) := by decide +kernel
theorem d_L_law_858 : decode code 858 = .ok (.iload_n 3, 1) := by decide +kernel
theorem d_L_law_859 : decode code 859 = .ok (.iconst 1, 1) := by decide +kernel
theorem d_L_law_860 : decode code 860 = .ok (.iadd, 1) := by decide +kernel
theorem d_L_law_861 : decode code 861 = .ok (.iaload, 1) := by decide +kernel
theorem d_L_law_862 : decode code 862 = .ok (.i2l, 1) := by decide +kernel
theorem d_L_law_863 : decode code 863 = .ok (.bipush 32, 2) := by decide +kernel
theorem d_L_law_865 : decode code 865 = .ok (.lshl, 1) := by decide +kernel
theorem d_L_law_866 : decode code 866 = .ok (.aload_n 0, 1) := by decide +kernel
theorem d_L_law_867 : decode code 867 = .ok (.iload_n 3, 1) := by decide +kernel
theorem d_L_law_868 : decode code 868 = .ok (.iconst 2, 1) := by decide +kernel
theorem d_L_law_869 : decode code 869 = .ok (.iadd, 1) := by decide +kernel
theorem d_L_law_870 : decode code 870 = .ok (.iaload, 1) := by decide +kernel
theorem d_L_law_871 : decode code 871 = .ok (.i2l, 1) := by decide +kernel
theorem d_L_law_872 : decode code 872 = .ok (.ldc2_w 23, 3) := by decide +kernel
theorem d_L_law_875 : decode code 875 = .ok (.land, 1) := by decide +kernel
theorem d_L_law_876 : decode code 876 = .ok (.lor, 1) := by decide +kernel
theorem d_L_law_877 : decode code 877 = .ok (.aload_n 0, 1) := by decide +kernel
theorem d_L_law_878 : decode code 878 = .ok (.iload_n 3, 1) := by decide +kernel
theorem d_L_law_879 : decode code 879 = .ok (.iconst 3, 1) := by decide +kernel
theorem d_L_law_880 : decode code 880 = .ok (.iadd, 1) := by decide +kernel
theorem d_L_law_881 : decode code 881 = .ok (.iaload, 1) := by decide +kernel
theorem d_L_law_882 : decode code 882 = .ok (.i2l, 1) := by decide +kernel
theorem d_L_law_883 : decode code 883 = .ok (.bipush 32, 2) := by decide +kernel
theorem d_L_law_885 : decode code 885 = .ok (.lshl, 1) := by decide +kernel
theorem d_L_law_886 : decode code 886 = .ok (.aload_n 0, 1) := by decide +kernel
theorem d_L_law_887 : decode code 887 = .ok (.iload_n 3, 1) := by decide +kernel
theorem d_L_law_888 : decode code 888 = .ok (.iconst 4, 1) := by decide +kernel
theorem d_L_law_889 : decode code 889 = .ok (.iadd, 1) := by decide +kernel
theorem d_L_law_890 : decode code 890 = .ok (.iaload, 1) := by decide +kernel
theorem d_L_law_891 : decode code 891 = .ok (.i2l, 1) := by decide +kernel
theorem d_L_law_892 : decode code 892 = .ok (.ldc2_w 23, 3) := by decide +kernel
theorem d_L_law_895 : decode code 895 = .ok (.land, 1) := by decide +kernel
theorem d_L_law_896 : decode code 896 = .ok (.lor, 1) := by decide +kernel
theorem d_L_law_897 : decode code 897 = .ok (.invokevirtual 98, 3) := by decide +kernel
theorem d_L_law_900 : decode code 900 = .ok (.if_icmp .eq 5, 3) := by decide +kernel
theorem d_L_law_903 : decode code 903 = .ok (.iconst 0, 1) := by decide +kernel
theorem d_L_law_904 : decode code 904 = .ok (.ireturn, 1) := by decide +kernel
theorem d_L_law_905 : decode code 905 = .ok (.iinc 3 5, 3) := by decide +kernel
theorem d_L_law_908 : decode code 908 = .ok (.goto (-890), 3) := by decide +kernel
theorem d_L_law_911 : decode code 911 = .ok (.iconst 1, 1) := by decide +kernel
theorem d_L_law_912 : decode code 912 = .ok (.ireturn, 1) := by decide +kernel
