theorem dL_law_782 : decode code 782 = .ok (.aload_n 1, 1) := by decide +kernel
theorem dL_law_783 : decode code 783 = .ok (.aload_n 0, 1) := by decide +kernel
theorem dL_law_784 : decode code 784 = .ok (.iload_n 3, 1) := by decide +kernel
theorem dL_law_785 : decode code 785 = .ok (.iconst 1, 1) := by decide +kernel
theorem dL_law_786 : decode code 786 = .ok (.iadd, 1) := by decide +kernel
theorem dL_law_787 : decode code 787 = .ok (.iaload, 1) := by decide +kernel
theorem dL_law_788 : decode code 788 = .ok (.aload_n 0, 1) := by decide +kernel
theorem dL_law_789 : decode code 789 = .ok (.iload_n 3, 1) := by decide +kernel
theorem dL_law_790 : decode code 790 = .ok (.iconst 2, 1) := by decide +kernel
theorem dL_law_791 : decode code 791 = .ok (.iadd, 1) := by decide +kernel
theorem dL_law_792 : decode code 792 = .ok (.iaload, 1) := by decide +kernel
theorem dL_law_793 : decode code 793 = .ok (.invokevirtual 100, 3) := by decide +kernel
theorem dL_law_796 : decode code 796 = .ok (.pop, 1) := by decide +kernel
theorem dL_law_797 : decode code 797 = .ok (.aload_n 2, 1) := by decide +kernel
theorem dL_law_798 : decode code 798 = .ok (.aload_n 0, 1) := by decide +kernel
theorem dL_law_799 : decode code 799 = .ok (.iload_n 3, 1) := by decide +kernel
theorem dL_law_800 : decode code 800 = .ok (.iconst 1, 1) := by decide +kernel
theorem dL_law_801 : decode code 801 = .ok (.iadd, 1) := by decide +kernel
theorem dL_law_802 : decode code 802 = .ok (.iaload, 1) := by decide +kernel
theorem dL_law_803 : decode code 803 = .ok (.aload_n 0, 1) := by decide +kernel
theorem dL_law_804 : decode code 804 = .ok (.iload_n 3, 1) := by decide +kernel
theorem dL_law_805 : decode code 805 = .ok (.iconst 2, 1) := by decide +kernel
theorem dL_law_806 : decode code 806 = .ok (.iadd, 1) := by decide +kernel
theorem dL_law_807 : decode code 807 = .ok (.iaload, 1) := by decide +kernel
theorem dL_law_808 : decode code 808 = .ok (.invokevirtual 103, 3) := by decide +kernel
theorem dL_law_811 : decode code 811 = .ok (.pop, 1) := by decide +kernel
theorem dL_law_812 : decode code 812 = .ok (.goto 583, 3) := by decide +kernel
theorem dL_law_815 : decode code 815 = .ok (.aload_n 1, 1) := by decide +kernel
theorem dL_law_816 : decode code 816 = .ok (.aload_n 0, 1) := by decide +kernel
theorem dL_law_817 : decode code 817 = .ok (.iload_n 3, 1) := by decide +kernel
theorem dL_law_818 : decode code 818 = .ok (.iconst 1, 1) := by decide +kernel
theorem dL_law_819 : decode code 819 = .ok (.iadd, 1) := by decide +kernel
theorem dL_law_820 : decode code 820 = .ok (.iaload, 1) := by decide +kernel
theorem dL_law_821 : decode code 821 = .ok (.invokevirtual 104, 3) := by decide +kernel
theorem dL_law_824 : decode code 824 = .ok (.pop, 1) := by decide +kernel
theorem dL_law_825 : decode code 825 = .ok (.aload_n 2, 1) := by decide +kernel
theorem dL_law_826 : decode code 826 = .ok (.aload_n 0, 1) := by decide +kernel
theorem dL_law_827 : decode code 827 = .ok (.iload_n 3, 1) := by decide +kernel
theorem dL_law_828 : decode code 828 = .ok (.iconst 1, 1) := by decide +kernel
theorem dL_law_829 : decode code 829 = .ok (.iadd, 1) := by decide +kernel
theorem dL_law_830 : decode code 830 = .ok (.iaload, 1) := by decide +kernel
theorem dL_law_831 : decode code 831 = .ok (.invokevirtual 107, 3) := by decide +kernel
theorem dL_law_834 : decode code 834 = .ok (.pop, 1) := by decide +kernel
theorem dL_law_835 : decode code 835 = .ok (.goto 560, 3) := by decide +kernel
theorem dL_law_838 : decode code 838 = .ok (.aload_n 1, 1) := by decide +kernel
theorem dL_law_839 : decode code 839 = .ok (.aload_n 0, 1) := by decide +kernel
theorem dL_law_840 : decode code 840 = .ok (.iload_n 3, 1) := by decide +kernel
theorem dL_law_841 : decode code 841 = .ok (.iconst 1, 1) := by decide +kernel
theorem dL_law_842 : decode code 842 = .ok (.iadd, 1) := by decide +kernel
theorem dL_law_843 : decode code 843 = .ok (.iaload, 1) := by decide +kernel
theorem dL_law_844 : decode code 844 = .ok (.invokevirtual 108, 3) := by decide +kernel
theorem dL_law_847 : decode code 847 = .ok (.pop, 1) := by decide +kernel
theorem dL_law_848 : decode code 848 = .ok (.aload_n 2, 1) := by decide +kernel
theorem dL_law_849 : decode code 849 = .ok (.aload_n 0, 1) := by decide +kernel
theorem dL_law_850 : decode code 850 = .ok (.iload_n 3, 1) := by decide +kernel
theorem dL_law_851 : decode code 851 = .ok (.iconst 1, 1) := by decide +kernel
theorem dL_law_852 : decode code 852 = .ok (.iadd, 1) := by decide +kernel
theorem dL_law_853 : decode code 853 = .ok (.iaload, 1) := by decide +kernel
theorem dL_law_854 : decode code 854 = .ok (.invokevirtual 111, 3) := by decide +kernel
theorem dL_law_857 : decode code 857 = .ok (.pop, 1) := by decide +kernel
theorem dL_law_858 : decode code 858 = .ok (.goto 537, 3) := by decide +kernel
theorem dL_law_861 : decode code 861 = .ok (.aload_n 1, 1) := by decide +kernel
theorem dL_law_862 : decode code 862 = .ok (.invokevirtual 112, 3) := by decide +kernel
theorem dL_law_865 : decode code 865 = .ok (.pop, 1) := by decide +kernel
theorem dL_law_866 : decode code 866 = .ok (.aload_n 2, 1) := by decide +kernel
theorem dL_law_867 : decode code 867 = .ok (.invokevirtual 115, 3) := by decide +kernel
theorem dL_law_870 : decode code 870 = .ok (.pop, 1) := by decide +kernel
theorem dL_law_871 : decode code 871 = .ok (.goto 524, 3) := by decide +kernel
theorem dL_law_874 : decode code 874 = .ok (.aload_n 1, 1) := by decide +kernel
theorem dL_law_875 : decode code 875 = .ok (.aload_n 0, 1) := by decide +kernel
theorem dL_law_876 : decode code 876 = .ok (.iload_n 3, 1) := by decide +kernel
theorem dL_law_877 : decode code 877 = .ok (.iconst 1, 1) := by decide +kernel
theorem dL_law_878 : decode code 878 = .ok (.iadd, 1) := by decide +kernel
theorem dL_law_879 : decode code 879 = .ok (.iaload, 1) := by decide +kernel
theorem dL_law_880 : decode code 880 = .ok (.invokevirtual 116, 3) := by decide +kernel
theorem dL_law_883 : decode code 883 = .ok (.pop, 1) := by decide +kernel
theorem dL_law_884 : decode code 884 = .ok (.aload_n 2, 1) := by decide +kernel
theorem dL_law_885 : decode code 885 = .ok (.aload_n 0, 1) := by decide +kernel
theorem dL_law_886 : decode code 886 = .ok (.iload_n 3, 1) := by decide +kernel
theorem dL_law_887 : decode code 887 = .ok (.iconst 1, 1) := by decide +kernel
theorem dL_law_888 : decode code 888 = .ok (.iadd, 1) := by decide +kernel
theorem dL_law_889 : decode code 889 = .ok (.iaload, 1) := by decide +kernel
theorem dL_law_890 : decode code 890 = .ok (.invokevirtual 119, 3) := by decide +kernel
theorem dL_law_893 : decode code 893 = .ok (.pop, 1) := by decide +kernel
theorem dL_law_894 : decode code 894 = .ok (.goto 501, 3) := by decide +kernel
theorem dL_law_897 : decode code 897 = .ok (.aload_n 1, 1) := by decide +kernel
theorem dL_law_898 : decode code 898 = .ok (.aload_n 0, 1) := by decide +kernel
theorem dL_law_899 : decode code 899 = .ok (.iload_n 3, 1) := by decide +kernel
theorem dL_law_900 : decode code 900 = .ok (.iconst 1, 1) := by decide +kernel
theorem dL_law_901 : decode code 901 = .ok (.iadd, 1) := by decide +kernel
theorem dL_law_902 : decode code 902 = .ok (.iaload, 1) := by decide +kernel
theorem dL_law_903 : decode code 903 = .ok (.invokevirtual 120, 3) := by decide +kernel
theorem dL_law_906 : decode code 906 = .ok (.pop, 1) := by decide +kernel
theorem dL_law_907 : decode code 907 = .ok (.aload_n 2, 1) := by decide +kernel
theorem dL_law_908 : decode code 908 = .ok (.aload_n 0, 1) := by decide +kernel
theorem dL_law_909 : decode code 909 = .ok (.iload_n 3, 1) := by decide +kernel
theorem dL_law_910 : decode code 910 = .ok (.iconst 1, 1) := by decide +kernel
theorem dL_law_911 : decode code 911 = .ok (.iadd, 1) := by decide +kernel
theorem dL_law_912 : decode code 912 = .ok (.iaload, 1) := by decide +kernel
theorem dL_law_913 : decode code 913 = .ok (.invokevirtual 123, 3) := by decide +kernel
theorem dL_law_916 : decode code 916 = .ok (.pop, 1) := by decide +kernel
theorem dL_law_917 : decode code 917 = .ok (.goto 478, 3) := by decide +kernel
theorem dL_law_920 : decode code 920 = .ok (.aload_n 1, 1) := by decide +kernel
theorem dL_law_921 : decode code 921 = .ok (.aload_n 0, 1) := by decide +kernel
theorem dL_law_922 : decode code 922 = .ok (.iload_n 3, 1) := by decide +kernel
theorem dL_law_923 : decode code 923 = .ok (.iconst 1, 1) := by decide +kernel
theorem dL_law_924 : decode code 924 = .ok (.iadd, 1) := by decide +kernel
theorem dL_law_925 : decode code 925 = .ok (.iaload, 1) := by decide +kernel
theorem dL_law_926 : decode code 926 = .ok (.aload_n 0, 1) := by decide +kernel
theorem dL_law_927 : decode code 927 = .ok (.iload_n 3, 1) := by decide +kernel
theorem dL_law_928 : decode code 928 = .ok (.iconst 2, 1) := by decide +kernel
theorem dL_law_929 : decode code 929 = .ok (.iadd, 1) := by decide +kernel
theorem dL_law_930 : decode code 930 = .ok (.iaload, 1) := by decide +kernel
theorem dL_law_931 : decode code 931 = .ok (.invokevirtual 124, 3) := by decide +kernel
theorem dL_law_934 : decode code 934 = .ok (.pop, 1) := by decide +kernel
theorem dL_law_935 : decode code 935 = .ok (.aload_n 2, 1) := by decide +kernel
theorem dL_law_936 : decode code 936 = .ok (.aload_n 0, 1) := by decide +kernel
theorem dL_law_937 : decode code 937 = .ok (.iload_n 3, 1) := by decide +kernel
theorem dL_law_938 : decode code 938 = .ok (.iconst 1, 1) := by decide +kernel
theorem dL_law_939 : decode code 939 = .ok (.iadd, 1) := by decide +kernel
theorem dL_law_940 : decode code 940 = .ok (.iaload, 1) := by decide +kernel
theorem dL_law_941 : decode code 941 = .ok (.aload_n 0, 1) := by decide +kernel
theorem dL_law_942 : decode code 942 = .ok (.iload_n 3, 1) := by decide +kernel
theorem dL_law_943 : decode code 943 = .ok (.iconst 2, 1) := by decide +kernel
theorem dL_law_944 : decode code 944 = .ok (.iadd, 1) := by decide +kernel
theorem dL_law_945 : decode code 945 = .ok (.iaload, 1) := by decide +kernel
theorem dL_law_946 : decode code 946 = .ok (.invokevirtual 127, 3) := by decide +kernel
theorem dL_law_949 : decode code 949 = .ok (.pop, 1) := by decide +kernel
theorem dL_law_950 : decode code 950 = .ok (.goto 445, 3) := by decide +kernel
theorem dL_law_953 : decode code 953 = .ok (.aload_n 1, 1) := by decide +kernel
theorem dL_law_954 : decode code 954 = .ok (.aload_n 0, 1) := by decide +kernel
theorem dL_law_955 : decode code 955 = .ok (.iload_n 3, 1) := by decide +kernel
theorem dL_law_956 : decode code 956 = .ok (.iconst 1, 1) := by decide +kernel
theorem dL_law_957 : decode code 957 = .ok (.iadd, 1) := by decide +kernel
theorem dL_law_958 : decode code 958 = .ok (.iaload, 1) := by decide +kernel
theorem dL_law_959 : decode code 959 = .ok (.invokevirtual 128, 3) := by decide +kernel
theorem dL_law_962 : decode code 962 = .ok (.pop, 1) := by decide +kernel
theorem dL_law_963 : decode code 963 = .ok (.aload_n 2, 1) := by decide +kernel
theorem dL_law_964 : decode code 964 = .ok (.aload_n 0, 1) := by decide +kernel
theorem dL_law_965 : decode code 965 = .ok (.iload_n 3, 1) := by decide +kernel
theorem dL_law_966 : decode code 966 = .ok (.iconst 1, 1) := by decide +kernel
theorem dL_law_967 : decode code 967 = .ok (.iadd, 1) := by decide +kernel
theorem dL_law_968 : decode code 968 = .ok (.iaload, 1) := by decide +kernel
theorem dL_law_969 : decode code 969 = .ok (.invokevirtual 131, 3) := by decide +kernel
theorem dL_law_972 : decode code 972 = .ok (.pop, 1) := by decide +kernel
theorem dL_law_973 : decode code 973 = .ok (.goto 422, 3) := by decide +kernel
theorem dL_law_976 : decode code 976 = .ok (.aload_n 1, 1) := by decide +kernel
theorem dL_law_977 : decode code 977 = .ok (.aload_n 0, 1) := by decide +kernel
theorem dL_law_978 : decode code 978 = .ok (.iload_n 3, 1) := by decide +kernel
theorem dL_law_979 : decode code 979 = .ok (.iconst 1, 1) := by decide +kernel
theorem dL_law_980 : decode code 980 = .ok (.iadd, 1) := by decide +kernel
theorem dL_law_981 : decode code 981 = .ok (.iaload, 1) := by decide +kernel
theorem dL_law_982 : decode code 982 = .ok (.invokevirtual 132, 3) := by decide +kernel
theorem dL_law_985 : decode code 985 = .ok (.pop, 1) := by decide +kernel
theorem dL_law_986 : decode code 986 = .ok (.aload_n 2, 1) := by decide +kernel
theorem dL_law_987 : decode code 987 = .ok (.aload_n 0, 1) := by decide +kernel
theorem dL_law_988 : decode code 988 = .ok (.iload_n 3, 1) := by decide +kernel
theorem dL_law_989 : decode code 989 = .ok (.iconst 1, 1) := by decide +kernel
theorem dL_law_990 : decode code 990 = .ok (.iadd, 1) := by decide +kernel
theorem dL_law_991 : decode code 991 = .ok (.iaload, 1) := by decide +kernel
theorem dL_law_992 : decode code 992 = .ok (.invokevirtual 135, 3) := by decide +kernel
theorem dL_law_995 : decode code 995 = .ok (.pop, 1) := by decide +kernel
theorem dL_law_996 : decode code 996 = .ok (.goto 399, 3) := by decide +kernel
theorem dL_law_999 : decode code 999 = .ok (.aload_n 1, 1) := by decide +kernel
theorem dL_law_1000 : decode code 1000 = .ok (.aload_n 0, 1) := by decide +kernel
theorem dL_law_1001 : decode code 1001 = .ok (.iload_n 3, 1) := by decide +kernel
theorem dL_law_1002 : decode code 1002 = .ok (.iconst 1, 1) := by decide +kernel
theorem dL_law_1003 : decode code 1003 = .ok (.iadd, 1) := by decide +kernel
theorem dL_law_1004 : decode code 1004 = .ok (.iaload, 1) := by decide +kernel
theorem dL_law_1005 : decode code 1005 = .ok (.invokevirtual 136, 3) := by decide +kernel
theorem dL_law_1008 : decode code 1008 = .ok (.pop, 1) := by decide +kernel
theorem dL_law_1009 : decode code 1009 = .ok (.aload_n 2, 1) := by decide +kernel
theorem dL_law_1010 : decode code 1010 = .ok (.aload_n 0, 1) := by decide +kernel
theorem dL_law_1011 : decode code 1011 = .ok (.iload_n 3, 1) := by decide +kernel
theorem dL_law_1012 : decode code 1012 = .ok (.iconst 1, 1) := by decide +kernel
theorem dL_law_1013 : decode code 1013 = .ok (.iadd, 1) := by decide +kernel
theorem dL_law_1014 : decode code 1014 = .ok (.iaload, 1) := by decide +kernel
theorem dL_law_1015 : decode code 1015 = .ok (.invokevirtual 139, 3) := by decide +kernel
theorem dL_law_1018 : decode code 1018 = .ok (.pop, 1) := by decide +kernel
theorem dL_law_1019 : decode code 1019 = .ok (.goto 376, 3) := by decide +kernel
theorem kw_1040 : Cond.methodLink "FootholdWallLaw" 100 yX11_shut ∈ gw := gw_of (tb_of 1040 (by decide +kernel)) (by decide +kernel)
theorem kw_1041 : Cond.instanceMethod yX11_shut ∈ gw := gw_of (tb_of 1041 (by decide +kernel)) (by decide +kernel)
theorem kw_1042 : Cond.selects "FootholdWall" yX11_shut yX11_shut ∈ gw := gw_of (tb_of 1042 (by decide +kernel)) (by decide +kernel)
theorem kw_1043 : Cond.code yX11_shut cX11_shut 4 (some (.int)) ∈ gw := gw_of (tb_of 1043 (by decide +kernel)) (by decide +kernel)
theorem kw_1051 : Cond.methodLink "FootholdWallLaw" 104 yX11_needed ∈ gw := gw_of (tb_of 1051 (by decide +kernel)) (by decide +kernel)
theorem kw_1052 : Cond.instanceMethod yX11_needed ∈ gw := gw_of (tb_of 1052 (by decide +kernel)) (by decide +kernel)
theorem kw_1053 : Cond.selects "FootholdWall" yX11_needed yX11_needed ∈ gw := gw_of (tb_of 1053 (by decide +kernel)) (by decide +kernel)
theorem kw_1054 : Cond.code yX11_needed cX11_needed 4 (some (.int)) ∈ gw := gw_of (tb_of 1054 (by decide +kernel)) (by decide +kernel)
theorem kw_1063 : Cond.methodLink "FootholdWallLaw" 108 yX11_idle ∈ gw := gw_of (tb_of 1063 (by decide +kernel)) (by decide +kernel)
theorem kw_1064 : Cond.instanceMethod yX11_idle ∈ gw := gw_of (tb_of 1064 (by decide +kernel)) (by decide +kernel)
theorem kw_1065 : Cond.selects "FootholdWall" yX11_idle yX11_idle ∈ gw := gw_of (tb_of 1065 (by decide +kernel)) (by decide +kernel)
theorem kw_1066 : Cond.code yX11_idle cX11_idle 3 (some (.int)) ∈ gw := gw_of (tb_of 1066 (by decide +kernel)) (by decide +kernel)
theorem kw_1093 : Cond.methodLink "FootholdWallLaw" 112 yX11_able ∈ gw := gw_of (tb_of 1093 (by decide +kernel)) (by decide +kernel)
theorem kw_1094 : Cond.instanceMethod yX11_able ∈ gw := gw_of (tb_of 1094 (by decide +kernel)) (by decide +kernel)
theorem kw_1095 : Cond.selects "FootholdWall" yX11_able yX11_able ∈ gw := gw_of (tb_of 1095 (by decide +kernel)) (by decide +kernel)
theorem kw_1096 : Cond.code yX11_able cX11_able 3 (some (.int)) ∈ gw := gw_of (tb_of 1096 (by decide +kernel)) (by decide +kernel)
theorem kw_1097 : Cond.methodLink "FootholdWallLaw" 116 yX11_needers ∈ gw := gw_of (tb_of 1097 (by decide +kernel)) (by decide +kernel)
theorem kw_1098 : Cond.instanceMethod yX11_needers ∈ gw := gw_of (tb_of 1098 (by decide +kernel)) (by decide +kernel)
theorem kw_1099 : Cond.selects "FootholdWall" yX11_needers yX11_needers ∈ gw := gw_of (tb_of 1099 (by decide +kernel)) (by decide +kernel)
theorem kw_1100 : Cond.code yX11_needers cX11_needers 4 (some (.int)) ∈ gw := gw_of (tb_of 1100 (by decide +kernel)) (by decide +kernel)
theorem kw_1101 : Cond.methodLink "FootholdWallLaw" 120 yX11_highest ∈ gw := gw_of (tb_of 1101 (by decide +kernel)) (by decide +kernel)
theorem kw_1102 : Cond.instanceMethod yX11_highest ∈ gw := gw_of (tb_of 1102 (by decide +kernel)) (by decide +kernel)
theorem kw_1103 : Cond.selects "FootholdWall" yX11_highest yX11_highest ∈ gw := gw_of (tb_of 1103 (by decide +kernel)) (by decide +kernel)
theorem kw_1104 : Cond.code yX11_highest cX11_highest 5 (some (.int)) ∈ gw := gw_of (tb_of 1104 (by decide +kernel)) (by decide +kernel)
theorem kw_1106 : Cond.methodLink "FootholdWallLaw" 124 yX11_together ∈ gw := gw_of (tb_of 1106 (by decide +kernel)) (by decide +kernel)
theorem kw_1107 : Cond.instanceMethod yX11_together ∈ gw := gw_of (tb_of 1107 (by decide +kernel)) (by decide +kernel)
theorem kw_1108 : Cond.selects "FootholdWall" yX11_together yX11_together ∈ gw := gw_of (tb_of 1108 (by decide +kernel)) (by decide +kernel)
theorem kw_1109 : Cond.code yX11_together cX11_together 11 (some (.int)) ∈ gw := gw_of (tb_of 1109 (by decide +kernel)) (by decide +kernel)
theorem kw_1110 : Cond.methodLink "FootholdWallLaw" 128 yX11_leastLeg ∈ gw := gw_of (tb_of 1110 (by decide +kernel)) (by decide +kernel)
theorem kw_1111 : Cond.instanceMethod yX11_leastLeg ∈ gw := gw_of (tb_of 1111 (by decide +kernel)) (by decide +kernel)
theorem kw_1112 : Cond.selects "FootholdWall" yX11_leastLeg yX11_leastLeg ∈ gw := gw_of (tb_of 1112 (by decide +kernel)) (by decide +kernel)
theorem kw_1113 : Cond.code yX11_leastLeg cX11_leastLeg 4 (some (.int)) ∈ gw := gw_of (tb_of 1113 (by decide +kernel)) (by decide +kernel)
theorem kw_1114 : Cond.methodLink "FootholdWallLaw" 132 yX11_opens ∈ gw := gw_of (tb_of 1114 (by decide +kernel)) (by decide +kernel)
theorem kw_1115 : Cond.instanceMethod yX11_opens ∈ gw := gw_of (tb_of 1115 (by decide +kernel)) (by decide +kernel)
theorem kw_1116 : Cond.selects "FootholdWall" yX11_opens yX11_opens ∈ gw := gw_of (tb_of 1116 (by decide +kernel)) (by decide +kernel)
theorem kw_1117 : Cond.code yX11_opens cX11_opens 6 (some (.int)) ∈ gw := gw_of (tb_of 1117 (by decide +kernel)) (by decide +kernel)
theorem kw_1119 : Cond.methodLink "FootholdWallLaw" 136 yX11_dearest ∈ gw := gw_of (tb_of 1119 (by decide +kernel)) (by decide +kernel)
theorem kw_1120 : Cond.instanceMethod yX11_dearest ∈ gw := gw_of (tb_of 1120 (by decide +kernel)) (by decide +kernel)
theorem kw_1121 : Cond.selects "FootholdWall" yX11_dearest yX11_dearest ∈ gw := gw_of (tb_of 1121 (by decide +kernel)) (by decide +kernel)
theorem kw_1122 : Cond.code yX11_dearest cX11_dearest 7 (some (.int)) ∈ gw := gw_of (tb_of 1122 (by decide +kernel)) (by decide +kernel)
theorem kw_1664 : Cond.methodLink "FootholdWallLaw" 103 yX12_shut ∈ gw := gw_of (tb_of 1664 (by decide +kernel)) (by decide +kernel)
theorem kw_1665 : Cond.instanceMethod yX12_shut ∈ gw := gw_of (tb_of 1665 (by decide +kernel)) (by decide +kernel)
theorem kw_1666 : Cond.selects "FootholdWallModel" yX12_shut yX12_shut ∈ gw := gw_of (tb_of 1666 (by decide +kernel)) (by decide +kernel)
theorem kw_1667 : Cond.code yX12_shut cX12_shut 4 (some (.int)) ∈ gw := gw_of (tb_of 1667 (by decide +kernel)) (by decide +kernel)
theorem kw_1668 : Cond.methodLink "FootholdWallLaw" 107 yX12_needed ∈ gw := gw_of (tb_of 1668 (by decide +kernel)) (by decide +kernel)
theorem kw_1669 : Cond.instanceMethod yX12_needed ∈ gw := gw_of (tb_of 1669 (by decide +kernel)) (by decide +kernel)
theorem kw_1670 : Cond.selects "FootholdWallModel" yX12_needed yX12_needed ∈ gw := gw_of (tb_of 1670 (by decide +kernel)) (by decide +kernel)
theorem kw_1671 : Cond.code yX12_needed cX12_needed 2 (some (.int)) ∈ gw := gw_of (tb_of 1671 (by decide +kernel)) (by decide +kernel)
theorem kw_1676 : Cond.methodLink "FootholdWallLaw" 119 yX12_needers ∈ gw := gw_of (tb_of 1676 (by decide +kernel)) (by decide +kernel)
theorem kw_1677 : Cond.instanceMethod yX12_needers ∈ gw := gw_of (tb_of 1677 (by decide +kernel)) (by decide +kernel)
theorem kw_1678 : Cond.selects "FootholdWallModel" yX12_needers yX12_needers ∈ gw := gw_of (tb_of 1678 (by decide +kernel)) (by decide +kernel)
theorem kw_1679 : Cond.code yX12_needers cX12_needers 4 (some (.int)) ∈ gw := gw_of (tb_of 1679 (by decide +kernel)) (by decide +kernel)
theorem kw_1680 : Cond.methodLink "FootholdWallLaw" 123 yX12_highest ∈ gw := gw_of (tb_of 1680 (by decide +kernel)) (by decide +kernel)
theorem kw_1681 : Cond.instanceMethod yX12_highest ∈ gw := gw_of (tb_of 1681 (by decide +kernel)) (by decide +kernel)
theorem kw_1682 : Cond.selects "FootholdWallModel" yX12_highest yX12_highest ∈ gw := gw_of (tb_of 1682 (by decide +kernel)) (by decide +kernel)
theorem kw_1683 : Cond.code yX12_highest cX12_highest 5 (some (.int)) ∈ gw := gw_of (tb_of 1683 (by decide +kernel)) (by decide +kernel)
theorem kw_1684 : Cond.methodLink "FootholdWallLaw" 127 yX12_together ∈ gw := gw_of (tb_of 1684 (by decide +kernel)) (by decide +kernel)
theorem kw_1685 : Cond.instanceMethod yX12_together ∈ gw := gw_of (tb_of 1685 (by decide +kernel)) (by decide +kernel)
theorem kw_1686 : Cond.selects "FootholdWallModel" yX12_together yX12_together ∈ gw := gw_of (tb_of 1686 (by decide +kernel)) (by decide +kernel)
theorem kw_1687 : Cond.code yX12_together cX12_together 5 (some (.int)) ∈ gw := gw_of (tb_of 1687 (by decide +kernel)) (by decide +kernel)
theorem kw_1688 : Cond.methodLink "FootholdWallLaw" 111 yX12_idle ∈ gw := gw_of (tb_of 1688 (by decide +kernel)) (by decide +kernel)
theorem kw_1689 : Cond.instanceMethod yX12_idle ∈ gw := gw_of (tb_of 1689 (by decide +kernel)) (by decide +kernel)
theorem kw_1690 : Cond.selects "FootholdWallModel" yX12_idle yX12_idle ∈ gw := gw_of (tb_of 1690 (by decide +kernel)) (by decide +kernel)
theorem kw_1691 : Cond.code yX12_idle cX12_idle 4 (some (.int)) ∈ gw := gw_of (tb_of 1691 (by decide +kernel)) (by decide +kernel)
theorem kw_1692 : Cond.methodLink "FootholdWallLaw" 115 yX12_able ∈ gw := gw_of (tb_of 1692 (by decide +kernel)) (by decide +kernel)
theorem kw_1693 : Cond.instanceMethod yX12_able ∈ gw := gw_of (tb_of 1693 (by decide +kernel)) (by decide +kernel)
theorem kw_1694 : Cond.selects "FootholdWallModel" yX12_able yX12_able ∈ gw := gw_of (tb_of 1694 (by decide +kernel)) (by decide +kernel)
theorem kw_1695 : Cond.code yX12_able cX12_able 3 (some (.int)) ∈ gw := gw_of (tb_of 1695 (by decide +kernel)) (by decide +kernel)
theorem kw_1696 : Cond.methodLink "FootholdWallLaw" 131 yX12_leastLeg ∈ gw := gw_of (tb_of 1696 (by decide +kernel)) (by decide +kernel)
theorem kw_1697 : Cond.instanceMethod yX12_leastLeg ∈ gw := gw_of (tb_of 1697 (by decide +kernel)) (by decide +kernel)
theorem kw_1698 : Cond.selects "FootholdWallModel" yX12_leastLeg yX12_leastLeg ∈ gw := gw_of (tb_of 1698 (by decide +kernel)) (by decide +kernel)
theorem kw_1699 : Cond.code yX12_leastLeg cX12_leastLeg 3 (some (.int)) ∈ gw := gw_of (tb_of 1699 (by decide +kernel)) (by decide +kernel)
theorem kw_1700 : Cond.methodLink "FootholdWallLaw" 135 yX12_opens ∈ gw := gw_of (tb_of 1700 (by decide +kernel)) (by decide +kernel)
theorem kw_1701 : Cond.instanceMethod yX12_opens ∈ gw := gw_of (tb_of 1701 (by decide +kernel)) (by decide +kernel)
theorem kw_1702 : Cond.selects "FootholdWallModel" yX12_opens yX12_opens ∈ gw := gw_of (tb_of 1702 (by decide +kernel)) (by decide +kernel)
theorem kw_1703 : Cond.code yX12_opens cX12_opens 4 (some (.int)) ∈ gw := gw_of (tb_of 1703 (by decide +kernel)) (by decide +kernel)
theorem kw_1712 : Cond.methodLink "FootholdWallLaw" 139 yX12_dearest ∈ gw := gw_of (tb_of 1712 (by decide +kernel)) (by decide +kernel)
theorem kw_1713 : Cond.instanceMethod yX12_dearest ∈ gw := gw_of (tb_of 1713 (by decide +kernel)) (by decide +kernel)
theorem kw_1714 : Cond.selects "FootholdWallModel" yX12_dearest yX12_dearest ∈ gw := gw_of (tb_of 1714 (by decide +kernel)) (by decide +kernel)
theorem kw_1715 : Cond.code yX12_dearest cX12_dearest 5 (some (.int)) ∈ gw := gw_of (tb_of 1715 (by decide +kernel)) (by decide +kernel)
