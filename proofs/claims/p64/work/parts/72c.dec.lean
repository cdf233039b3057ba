theorem dL_thrown_750 : decode cL_thrown 750 = .ok (.if_icmp .ne 56, 3) := by decide +kernel
theorem dL_thrown_753 : decode cL_thrown 753 = .ok (.aload_n 0, 1) := by decide +kernel
theorem dL_thrown_754 : decode cL_thrown 754 = .ok (.iload 7, 2) := by decide +kernel
theorem dL_thrown_756 : decode cL_thrown 756 = .ok (.invokestatic 215, 3) := by decide +kernel
theorem dL_thrown_759 : decode cL_thrown 759 = .ok (.sipush (-1002), 3) := by decide +kernel
theorem dL_thrown_762 : decode cL_thrown 762 = .ok (.if_icmp .ne 98, 3) := by decide +kernel
theorem dL_thrown_765 : decode cL_thrown 765 = .ok (.aload_n 0, 1) := by decide +kernel
theorem dL_thrown_766 : decode cL_thrown 766 = .ok (.iconst 5, 1) := by decide +kernel
theorem dL_thrown_767 : decode cL_thrown 767 = .ok (.iload 7, 2) := by decide +kernel
theorem dL_thrown_769 : decode cL_thrown 769 = .ok (.invokestatic 329, 3) := by decide +kernel
theorem dL_thrown_772 : decode cL_thrown 772 = .ok (.ifCond .eq 88, 3) := by decide +kernel
theorem dL_thrown_775 : decode cL_thrown 775 = .ok (.aload_n 0, 1) := by decide +kernel
theorem dL_thrown_776 : decode cL_thrown 776 = .ok (.iload 7, 2) := by decide +kernel
theorem dL_thrown_778 : decode cL_thrown 778 = .ok (.aload_n 0, 1) := by decide +kernel
theorem dL_thrown_779 : decode cL_thrown 779 = .ok (.iload 7, 2) := by decide +kernel
theorem dL_thrown_781 : decode cL_thrown 781 = .ok (.invokestatic 339, 3) := by decide +kernel
theorem dL_thrown_784 : decode cL_thrown 784 = .ok (.invokestatic 293, 3) := by decide +kernel
theorem dL_thrown_787 : decode cL_thrown 787 = .ok (.sipush (-1002), 3) := by decide +kernel
theorem dL_thrown_790 : decode cL_thrown 790 = .ok (.if_icmp .ne 70, 3) := by decide +kernel
theorem dL_thrown_793 : decode cL_thrown 793 = .ok (.aload_n 0, 1) := by decide +kernel
theorem dL_thrown_794 : decode cL_thrown 794 = .ok (.iconst 5, 1) := by decide +kernel
theorem dL_thrown_795 : decode cL_thrown 795 = .ok (.iload 7, 2) := by decide +kernel
theorem dL_thrown_797 : decode cL_thrown 797 = .ok (.invokestatic 329, 3) := by decide +kernel
theorem dL_thrown_800 : decode cL_thrown 800 = .ok (.ifCond .eq 60, 3) := by decide +kernel
theorem dL_thrown_803 : decode cL_thrown 803 = .ok (.goto 53, 3) := by decide +kernel
theorem dL_thrown_806 : decode cL_thrown 806 = .ok (.aload_n 0, 1) := by decide +kernel
theorem dL_thrown_807 : decode cL_thrown 807 = .ok (.iload 7, 2) := by decide +kernel
theorem dL_thrown_809 : decode cL_thrown 809 = .ok (.invokestatic 291, 3) := by decide +kernel
theorem dL_thrown_812 : decode cL_thrown 812 = .ok (.sipush (-1002), 3) := by decide +kernel
theorem dL_thrown_815 : decode cL_thrown 815 = .ok (.if_icmp .ne 45, 3) := by decide +kernel
theorem dL_thrown_818 : decode cL_thrown 818 = .ok (.aload_n 0, 1) := by decide +kernel
theorem dL_thrown_819 : decode cL_thrown 819 = .ok (.bipush 6, 2) := by decide +kernel
theorem dL_thrown_821 : decode cL_thrown 821 = .ok (.iload 7, 2) := by decide +kernel
theorem dL_thrown_823 : decode cL_thrown 823 = .ok (.invokestatic 329, 3) := by decide +kernel
theorem dL_thrown_826 : decode cL_thrown 826 = .ok (.ifCond .eq 34, 3) := by decide +kernel
theorem dL_thrown_829 : decode cL_thrown 829 = .ok (.aload_n 0, 1) := by decide +kernel
theorem dL_thrown_830 : decode cL_thrown 830 = .ok (.iload 7, 2) := by decide +kernel
theorem dL_thrown_832 : decode cL_thrown 832 = .ok (.aload_n 0, 1) := by decide +kernel
theorem dL_thrown_833 : decode cL_thrown 833 = .ok (.iload 7, 2) := by decide +kernel
theorem dL_thrown_835 : decode cL_thrown 835 = .ok (.invokestatic 339, 3) := by decide +kernel
theorem dL_thrown_838 : decode cL_thrown 838 = .ok (.invokestatic 293, 3) := by decide +kernel
theorem dL_thrown_841 : decode cL_thrown 841 = .ok (.sipush (-1002), 3) := by decide +kernel
theorem dL_thrown_844 : decode cL_thrown 844 = .ok (.if_icmp .ne 16, 3) := by decide +kernel
theorem dL_thrown_847 : decode cL_thrown 847 = .ok (.aload_n 0, 1) := by decide +kernel
theorem dL_thrown_848 : decode cL_thrown 848 = .ok (.iconst 2, 1) := by decide +kernel
theorem dL_thrown_849 : decode cL_thrown 849 = .ok (.iconst 0, 1) := by decide +kernel
theorem dL_thrown_850 : decode cL_thrown 850 = .ok (.invokestatic 329, 3) := by decide +kernel
theorem dL_thrown_853 : decode cL_thrown 853 = .ok (.ifCond .eq 7, 3) := by decide +kernel
theorem dL_thrown_856 : decode cL_thrown 856 = .ok (.iconst 1, 1) := by decide +kernel
theorem dL_thrown_857 : decode cL_thrown 857 = .ok (.goto 4, 3) := by decide +kernel
theorem dL_thrown_860 : decode cL_thrown 860 = .ok (.iconst 0, 1) := by decide +kernel
theorem dL_thrown_861 : decode cL_thrown 861 = .ok (.istore 5, 2) := by decide +kernel
theorem dL_thrown_863 : decode cL_thrown 863 = .ok (.aload_n 0, 1) := by decide +kernel
theorem dL_thrown_864 : decode cL_thrown 864 = .ok (.iload 7, 2) := by decide +kernel
theorem dL_thrown_866 : decode cL_thrown 866 = .ok (.invokestatic 341, 3) := by decide +kernel
theorem dL_thrown_869 : decode cL_thrown 869 = .ok (.ifCond .ne 41, 3) := by decide +kernel
theorem dL_thrown_872 : decode cL_thrown 872 = .ok (.iload 5, 2) := by decide +kernel
theorem dL_thrown_874 : decode cL_thrown 874 = .ok (.ifCond .eq 30, 3) := by decide +kernel
theorem dL_thrown_877 : decode cL_thrown 877 = .ok (.aload_n 0, 1) := by decide +kernel
theorem dL_thrown_878 : decode cL_thrown 878 = .ok (.iload 7, 2) := by decide +kernel
theorem dL_thrown_880 : decode cL_thrown 880 = .ok (.invokestatic 298, 3) := by decide +kernel
theorem dL_thrown_883 : decode cL_thrown 883 = .ok (.sipush (-1002), 3) := by decide +kernel
theorem dL_thrown_886 : decode cL_thrown 886 = .ok (.if_icmp .ne 18, 3) := by decide +kernel
theorem dL_thrown_889 : decode cL_thrown 889 = .ok (.aload_n 0, 1) := by decide +kernel
theorem dL_thrown_890 : decode cL_thrown 890 = .ok (.bipush 8, 2) := by decide +kernel
theorem dL_thrown_892 : decode cL_thrown 892 = .ok (.iload 4, 2) := by decide +kernel
theorem dL_thrown_894 : decode cL_thrown 894 = .ok (.invokestatic 329, 3) := by decide +kernel
theorem dL_thrown_897 : decode cL_thrown 897 = .ok (.ifCond .eq 7, 3) := by decide +kernel
theorem dL_thrown_900 : decode cL_thrown 900 = .ok (.iconst 1, 1) := by decide +kernel
theorem dL_thrown_901 : decode cL_thrown 901 = .ok (.goto 4, 3) := by decide +kernel
theorem dL_thrown_904 : decode cL_thrown 904 = .ok (.iconst 0, 1) := by decide +kernel
theorem dL_thrown_905 : decode cL_thrown 905 = .ok (.istore 5, 2) := by decide +kernel
theorem dL_thrown_907 : decode cL_thrown 907 = .ok (.goto 47, 3) := by decide +kernel
theorem dL_thrown_910 : decode cL_thrown 910 = .ok (.iload 4, 2) := by decide +kernel
theorem dL_thrown_912 : decode cL_thrown 912 = .ok (.ifCond .ne 42, 3) := by decide +kernel
theorem dL_thrown_915 : decode cL_thrown 915 = .ok (.iload 5, 2) := by decide +kernel
theorem dL_thrown_917 : decode cL_thrown 917 = .ok (.ifCond .eq 34, 3) := by decide +kernel
theorem dL_thrown_920 : decode cL_thrown 920 = .ok (.aload_n 0, 1) := by decide +kernel
theorem dL_thrown_921 : decode cL_thrown 921 = .ok (.iload 7, 2) := by decide +kernel
theorem dL_thrown_923 : decode cL_thrown 923 = .ok (.invokestatic 298, 3) := by decide +kernel
theorem dL_thrown_926 : decode cL_thrown 926 = .ok (.sipush (-1002), 3) := by decide +kernel
theorem dL_thrown_929 : decode cL_thrown 929 = .ok (.if_icmp .ne 22, 3) := by decide +kernel
theorem dL_thrown_932 : decode cL_thrown 932 = .ok (.aload_n 0, 1) := by decide +kernel
theorem dL_thrown_933 : decode cL_thrown 933 = .ok (.bipush 9, 2) := by decide +kernel
theorem dL_thrown_935 : decode cL_thrown 935 = .ok (.aload_n 0, 1) := by decide +kernel
theorem dL_thrown_936 : decode cL_thrown 936 = .ok (.iload 7, 2) := by decide +kernel
theorem dL_thrown_938 : decode cL_thrown 938 = .ok (.invokestatic 341, 3) := by decide +kernel
theorem dL_thrown_941 : decode cL_thrown 941 = .ok (.invokestatic 329, 3) := by decide +kernel
theorem dL_thrown_944 : decode cL_thrown 944 = .ok (.ifCond .eq 7, 3) := by decide +kernel
theorem dL_thrown_947 : decode cL_thrown 947 = .ok (.iconst 1, 1) := by decide +kernel
theorem dL_thrown_948 : decode cL_thrown 948 = .ok (.goto 4, 3) := by decide +kernel
theorem dL_thrown_951 : decode cL_thrown 951 = .ok (.iconst 0, 1) := by decide +kernel
theorem dL_thrown_952 : decode cL_thrown 952 = .ok (.istore 5, 2) := by decide +kernel
theorem dL_thrown_954 : decode cL_thrown 954 = .ok (.iinc 6 1, 3) := by decide +kernel
theorem dL_thrown_957 : decode cL_thrown 957 = .ok (.goto (-247), 3) := by decide +kernel
theorem dL_thrown_960 : decode cL_thrown 960 = .ok (.iload 5, 2) := by decide +kernel
theorem dL_thrown_962 : decode cL_thrown 962 = .ok (.ifCond .eq 361, 3) := by decide +kernel
theorem dL_thrown_965 : decode cL_thrown 965 = .ok (.aload_n 0, 1) := by decide +kernel
theorem dL_thrown_966 : decode cL_thrown 966 = .ok (.bipush 6, 2) := by decide +kernel
theorem dL_thrown_968 : decode cL_thrown 968 = .ok (.iconst 0, 1) := by decide +kernel
theorem dL_thrown_969 : decode cL_thrown 969 = .ok (.invokestatic 333, 3) := by decide +kernel
theorem dL_thrown_972 : decode cL_thrown 972 = .ok (.sipush (-1001), 3) := by decide +kernel
theorem dL_thrown_975 : decode cL_thrown 975 = .ok (.if_icmp .ne 348, 3) := by decide +kernel
theorem dL_thrown_978 : decode cL_thrown 978 = .ok (.aload_n 0, 1) := by decide +kernel
theorem dL_thrown_979 : decode cL_thrown 979 = .ok (.iconst 2, 1) := by decide +kernel
theorem dL_thrown_980 : decode cL_thrown 980 = .ok (.iconst 2, 1) := by decide +kernel
theorem dL_thrown_981 : decode cL_thrown 981 = .ok (.invokestatic 333, 3) := by decide +kernel
theorem dL_thrown_984 : decode cL_thrown 984 = .ok (.ifCond .ne 339, 3) := by decide +kernel
theorem dL_thrown_987 : decode cL_thrown 987 = .ok (.aload_n 0, 1) := by decide +kernel
theorem dL_thrown_988 : decode cL_thrown 988 = .ok (.iconst (-1), 1) := by decide +kernel
theorem dL_thrown_989 : decode cL_thrown 989 = .ok (.iconst 0, 1) := by decide +kernel
theorem dL_thrown_990 : decode cL_thrown 990 = .ok (.invokestatic 276, 3) := by decide +kernel
theorem dL_thrown_993 : decode cL_thrown 993 = .ok (.sipush (-1001), 3) := by decide +kernel
theorem dL_thrown_996 : decode cL_thrown 996 = .ok (.if_icmp .ne 327, 3) := by decide +kernel
theorem dL_thrown_999 : decode cL_thrown 999 = .ok (.aload_n 0, 1) := by decide +kernel
theorem dL_thrown_1000 : decode cL_thrown 1000 = .ok (.iconst 0, 1) := by decide +kernel
theorem dL_thrown_1001 : decode cL_thrown 1001 = .ok (.bipush 6, 2) := by decide +kernel
theorem dL_thrown_1003 : decode cL_thrown 1003 = .ok (.invokestatic 344, 3) := by decide +kernel
theorem dL_thrown_1006 : decode cL_thrown 1006 = .ok (.sipush (-1001), 3) := by decide +kernel
theorem dL_thrown_1009 : decode cL_thrown 1009 = .ok (.if_icmp .ne 314, 3) := by decide +kernel
theorem dL_thrown_1012 : decode cL_thrown 1012 = .ok (.aload_n 0, 1) := by decide +kernel
theorem dL_thrown_1013 : decode cL_thrown 1013 = .ok (.bipush 6, 2) := by decide +kernel
theorem dL_thrown_1015 : decode cL_thrown 1015 = .ok (.iconst 0, 1) := by decide +kernel
theorem dL_thrown_1016 : decode cL_thrown 1016 = .ok (.iconst 0, 1) := by decide +kernel
theorem dL_thrown_1017 : decode cL_thrown 1017 = .ok (.invokestatic 347, 3) := by decide +kernel
theorem dL_thrown_1020 : decode cL_thrown 1020 = .ok (.sipush (-1001), 3) := by decide +kernel
theorem dL_thrown_1023 : decode cL_thrown 1023 = .ok (.if_icmp .ne 300, 3) := by decide +kernel
theorem dL_thrown_1026 : decode cL_thrown 1026 = .ok (.aload_n 0, 1) := by decide +kernel
theorem dL_thrown_1027 : decode cL_thrown 1027 = .ok (.bipush 6, 2) := by decide +kernel
theorem dL_thrown_1029 : decode cL_thrown 1029 = .ok (.invokestatic 350, 3) := by decide +kernel
theorem dL_thrown_1032 : decode cL_thrown 1032 = .ok (.sipush (-1001), 3) := by decide +kernel
theorem dL_thrown_1035 : decode cL_thrown 1035 = .ok (.if_icmp .ne 288, 3) := by decide +kernel
theorem dL_thrown_1038 : decode cL_thrown 1038 = .ok (.aload_n 0, 1) := by decide +kernel
theorem dL_thrown_1039 : decode cL_thrown 1039 = .ok (.iconst (-1), 1) := by decide +kernel
theorem dL_thrown_1040 : decode cL_thrown 1040 = .ok (.invokestatic 353, 3) := by decide +kernel
theorem dL_thrown_1043 : decode cL_thrown 1043 = .ok (.sipush (-1001), 3) := by decide +kernel
theorem dL_thrown_1046 : decode cL_thrown 1046 = .ok (.if_icmp .ne 277, 3) := by decide +kernel
theorem dL_thrown_1049 : decode cL_thrown 1049 = .ok (.aload_n 0, 1) := by decide +kernel
theorem dL_thrown_1050 : decode cL_thrown 1050 = .ok (.bipush 99, 2) := by decide +kernel
theorem dL_thrown_1052 : decode cL_thrown 1052 = .ok (.invokestatic 339, 3) := by decide +kernel
theorem dL_thrown_1055 : decode cL_thrown 1055 = .ok (.sipush (-1001), 3) := by decide +kernel
theorem dL_thrown_1058 : decode cL_thrown 1058 = .ok (.if_icmp .ne 265, 3) := by decide +kernel
theorem dL_thrown_1061 : decode cL_thrown 1061 = .ok (.aload_n 0, 1) := by decide +kernel
theorem dL_thrown_1062 : decode cL_thrown 1062 = .ok (.iconst (-1), 1) := by decide +kernel
theorem dL_thrown_1063 : decode cL_thrown 1063 = .ok (.invokestatic 341, 3) := by decide +kernel
theorem dL_thrown_1066 : decode cL_thrown 1066 = .ok (.sipush (-1001), 3) := by decide +kernel
theorem dL_thrown_1069 : decode cL_thrown 1069 = .ok (.if_icmp .ne 254, 3) := by decide +kernel
theorem dL_thrown_1072 : decode cL_thrown 1072 = .ok (.aload_n 0, 1) := by decide +kernel
theorem dL_thrown_1073 : decode cL_thrown 1073 = .ok (.bipush 99, 2) := by decide +kernel
theorem dL_thrown_1075 : decode cL_thrown 1075 = .ok (.invokestatic 337, 3) := by decide +kernel
theorem dL_thrown_1078 : decode cL_thrown 1078 = .ok (.sipush (-1001), 3) := by decide +kernel
theorem dL_thrown_1081 : decode cL_thrown 1081 = .ok (.if_icmp .ne 242, 3) := by decide +kernel
theorem dL_thrown_1084 : decode cL_thrown 1084 = .ok (.aload_n 0, 1) := by decide +kernel
theorem dL_thrown_1085 : decode cL_thrown 1085 = .ok (.bipush 99, 2) := by decide +kernel
theorem dL_thrown_1087 : decode cL_thrown 1087 = .ok (.invokestatic 283, 3) := by decide +kernel
theorem dL_thrown_1090 : decode cL_thrown 1090 = .ok (.sipush (-1001), 3) := by decide +kernel
theorem dL_thrown_1093 : decode cL_thrown 1093 = .ok (.if_icmp .ne 230, 3) := by decide +kernel
theorem dL_thrown_1096 : decode cL_thrown 1096 = .ok (.aload_n 0, 1) := by decide +kernel
theorem dL_thrown_1097 : decode cL_thrown 1097 = .ok (.bipush 99, 2) := by decide +kernel
theorem dL_thrown_1099 : decode cL_thrown 1099 = .ok (.invokestatic 356, 3) := by decide +kernel
theorem dL_thrown_1102 : decode cL_thrown 1102 = .ok (.sipush (-1001), 3) := by decide +kernel
theorem dL_thrown_1105 : decode cL_thrown 1105 = .ok (.if_icmp .ne 218, 3) := by decide +kernel
theorem dL_thrown_1108 : decode cL_thrown 1108 = .ok (.aload_n 0, 1) := by decide +kernel
theorem dL_thrown_1109 : decode cL_thrown 1109 = .ok (.bipush 6, 2) := by decide +kernel
theorem dL_thrown_1111 : decode cL_thrown 1111 = .ok (.invokestatic 335, 3) := by decide +kernel
theorem dL_thrown_1114 : decode cL_thrown 1114 = .ok (.sipush (-1001), 3) := by decide +kernel
theorem dL_thrown_1117 : decode cL_thrown 1117 = .ok (.if_icmp .ne 206, 3) := by decide +kernel
theorem dL_thrown_1120 : decode cL_thrown 1120 = .ok (.aload_n 0, 1) := by decide +kernel
theorem dL_thrown_1121 : decode cL_thrown 1121 = .ok (.iconst (-1), 1) := by decide +kernel
theorem dL_thrown_1122 : decode cL_thrown 1122 = .ok (.invokestatic 359, 3) := by decide +kernel
theorem dL_thrown_1125 : decode cL_thrown 1125 = .ok (.sipush (-1001), 3) := by decide +kernel
theorem dL_thrown_1128 : decode cL_thrown 1128 = .ok (.if_icmp .ne 195, 3) := by decide +kernel
theorem dL_thrown_1131 : decode cL_thrown 1131 = .ok (.aload_n 0, 1) := by decide +kernel
theorem dL_thrown_1132 : decode cL_thrown 1132 = .ok (.bipush 6, 2) := by decide +kernel
theorem dL_thrown_1134 : decode cL_thrown 1134 = .ok (.iconst 0, 1) := by decide +kernel
theorem dL_thrown_1135 : decode cL_thrown 1135 = .ok (.invokestatic 362, 3) := by decide +kernel
theorem dL_thrown_1138 : decode cL_thrown 1138 = .ok (.sipush (-1001), 3) := by decide +kernel
theorem dL_thrown_1141 : decode cL_thrown 1141 = .ok (.if_icmp .ne 182, 3) := by decide +kernel
theorem dL_thrown_1144 : decode cL_thrown 1144 = .ok (.aload_n 0, 1) := by decide +kernel
theorem dL_thrown_1145 : decode cL_thrown 1145 = .ok (.iconst 0, 1) := by decide +kernel
theorem dL_thrown_1146 : decode cL_thrown 1146 = .ok (.iconst 5, 1) := by decide +kernel
theorem dL_thrown_1147 : decode cL_thrown 1147 = .ok (.invokestatic 362, 3) := by decide +kernel
theorem dL_thrown_1150 : decode cL_thrown 1150 = .ok (.sipush (-1002), 3) := by decide +kernel
theorem dL_thrown_1153 : decode cL_thrown 1153 = .ok (.if_icmp .ne 170, 3) := by decide +kernel
theorem dL_thrown_1156 : decode cL_thrown 1156 = .ok (.aload_n 0, 1) := by decide +kernel
theorem dL_thrown_1157 : decode cL_thrown 1157 = .ok (.iconst 0, 1) := by decide +kernel
theorem dL_thrown_1158 : decode cL_thrown 1158 = .ok (.iconst (-1), 1) := by decide +kernel
theorem dL_thrown_1159 : decode cL_thrown 1159 = .ok (.invokestatic 362, 3) := by decide +kernel
theorem dL_thrown_1162 : decode cL_thrown 1162 = .ok (.sipush (-1002), 3) := by decide +kernel
theorem dL_thrown_1165 : decode cL_thrown 1165 = .ok (.if_icmp .ne 158, 3) := by decide +kernel
theorem dL_thrown_1168 : decode cL_thrown 1168 = .ok (.aload_n 0, 1) := by decide +kernel
theorem dL_thrown_1169 : decode cL_thrown 1169 = .ok (.bipush 6, 2) := by decide +kernel
theorem dL_thrown_1171 : decode cL_thrown 1171 = .ok (.invokestatic 268, 3) := by decide +kernel
theorem dL_thrown_1174 : decode cL_thrown 1174 = .ok (.sipush (-1001), 3) := by decide +kernel
theorem dL_thrown_1177 : decode cL_thrown 1177 = .ok (.if_icmp .ne 146, 3) := by decide +kernel
theorem dL_thrown_1180 : decode cL_thrown 1180 = .ok (.aload_n 0, 1) := by decide +kernel
theorem dL_thrown_1181 : decode cL_thrown 1181 = .ok (.bipush 6, 2) := by decide +kernel
theorem dL_thrown_1183 : decode cL_thrown 1183 = .ok (.invokestatic 364, 3) := by decide +kernel
theorem dL_thrown_1186 : decode cL_thrown 1186 = .ok (.sipush (-1001), 3) := by decide +kernel
theorem dL_thrown_1189 : decode cL_thrown 1189 = .ok (.if_icmp .ne 134, 3) := by decide +kernel
theorem dL_thrown_1192 : decode cL_thrown 1192 = .ok (.aload_n 0, 1) := by decide +kernel
theorem dL_thrown_1193 : decode cL_thrown 1193 = .ok (.bipush 6, 2) := by decide +kernel
theorem dL_thrown_1195 : decode cL_thrown 1195 = .ok (.invokestatic 271, 3) := by decide +kernel
theorem dL_thrown_1198 : decode cL_thrown 1198 = .ok (.sipush (-1001), 3) := by decide +kernel
theorem dL_thrown_1201 : decode cL_thrown 1201 = .ok (.if_icmp .ne 122, 3) := by decide +kernel
theorem dL_thrown_1204 : decode cL_thrown 1204 = .ok (.aload_n 0, 1) := by decide +kernel
theorem dL_thrown_1205 : decode cL_thrown 1205 = .ok (.iconst (-1), 1) := by decide +kernel
theorem dL_thrown_1206 : decode cL_thrown 1206 = .ok (.invokestatic 367, 3) := by decide +kernel
theorem dL_thrown_1209 : decode cL_thrown 1209 = .ok (.sipush (-1001), 3) := by decide +kernel
theorem dL_thrown_1212 : decode cL_thrown 1212 = .ok (.if_icmp .ne 111, 3) := by decide +kernel
theorem dL_thrown_1215 : decode cL_thrown 1215 = .ok (.aload_n 0, 1) := by decide +kernel
theorem dL_thrown_1216 : decode cL_thrown 1216 = .ok (.iconst 4, 1) := by decide +kernel
theorem dL_thrown_1217 : decode cL_thrown 1217 = .ok (.invokestatic 367, 3) := by decide +kernel
theorem dL_thrown_1220 : decode cL_thrown 1220 = .ok (.sipush (-1001), 3) := by decide +kernel
theorem dL_thrown_1223 : decode cL_thrown 1223 = .ok (.if_icmp .ne 100, 3) := by decide +kernel
theorem dL_thrown_1226 : decode cL_thrown 1226 = .ok (.aload_n 0, 1) := by decide +kernel
theorem dL_thrown_1227 : decode cL_thrown 1227 = .ok (.iconst 0, 1) := by decide +kernel
theorem dL_thrown_1228 : decode cL_thrown 1228 = .ok (.invokestatic 266, 3) := by decide +kernel
theorem dL_thrown_1231 : decode cL_thrown 1231 = .ok (.sipush (-1001), 3) := by decide +kernel
theorem dL_thrown_1234 : decode cL_thrown 1234 = .ok (.if_icmp .ne 89, 3) := by decide +kernel
theorem dL_thrown_1237 : decode cL_thrown 1237 = .ok (.aload_n 0, 1) := by decide +kernel
theorem dL_thrown_1238 : decode cL_thrown 1238 = .ok (.bipush 99, 2) := by decide +kernel
theorem dL_thrown_1240 : decode cL_thrown 1240 = .ok (.invokestatic 369, 3) := by decide +kernel
theorem dL_thrown_1243 : decode cL_thrown 1243 = .ok (.sipush (-1001), 3) := by decide +kernel
theorem dL_thrown_1246 : decode cL_thrown 1246 = .ok (.if_icmp .ne 77, 3) := by decide +kernel
theorem dL_thrown_1249 : decode cL_thrown 1249 = .ok (.aload_n 0, 1) := by decide +kernel
theorem dL_thrown_1250 : decode cL_thrown 1250 = .ok (.iload_n 3, 1) := by decide +kernel
theorem dL_thrown_1251 : decode cL_thrown 1251 = .ok (.invokestatic 280, 3) := by decide +kernel
theorem dL_thrown_1254 : decode cL_thrown 1254 = .ok (.sipush (-1001), 3) := by decide +kernel
theorem dL_thrown_1257 : decode cL_thrown 1257 = .ok (.if_icmp .ne 66, 3) := by decide +kernel
theorem dL_thrown_1260 : decode cL_thrown 1260 = .ok (.aload_n 0, 1) := by decide +kernel
theorem dL_thrown_1261 : decode cL_thrown 1261 = .ok (.iconst (-1), 1) := by decide +kernel
theorem dL_thrown_1262 : decode cL_thrown 1262 = .ok (.invokestatic 273, 3) := by decide +kernel
theorem dL_thrown_1265 : decode cL_thrown 1265 = .ok (.sipush (-1001), 3) := by decide +kernel
theorem dL_thrown_1268 : decode cL_thrown 1268 = .ok (.if_icmp .ne 55, 3) := by decide +kernel
theorem dL_thrown_1271 : decode cL_thrown 1271 = .ok (.aload_n 0, 1) := by decide +kernel
theorem dL_thrown_1272 : decode cL_thrown 1272 = .ok (.bipush 6, 2) := by decide +kernel
theorem dL_thrown_1274 : decode cL_thrown 1274 = .ok (.invokestatic 278, 3) := by decide +kernel
theorem dL_thrown_1277 : decode cL_thrown 1277 = .ok (.sipush (-1001), 3) := by decide +kernel
theorem dL_thrown_1280 : decode cL_thrown 1280 = .ok (.if_icmp .ne 43, 3) := by decide +kernel
theorem dL_thrown_1283 : decode cL_thrown 1283 = .ok (.aload_n 0, 1) := by decide +kernel
theorem dL_thrown_1284 : decode cL_thrown 1284 = .ok (.iconst (-1), 1) := by decide +kernel
theorem dL_thrown_1285 : decode cL_thrown 1285 = .ok (.invokestatic 198, 3) := by decide +kernel
theorem dL_thrown_1288 : decode cL_thrown 1288 = .ok (.sipush (-1001), 3) := by decide +kernel
theorem dL_thrown_1291 : decode cL_thrown 1291 = .ok (.if_icmp .ne 32, 3) := by decide +kernel
theorem dL_thrown_1294 : decode cL_thrown 1294 = .ok (.aload_n 0, 1) := by decide +kernel
theorem dL_thrown_1295 : decode cL_thrown 1295 = .ok (.bipush 60, 2) := by decide +kernel
theorem dL_thrown_1297 : decode cL_thrown 1297 = .ok (.invokestatic 198, 3) := by decide +kernel
theorem dL_thrown_1300 : decode cL_thrown 1300 = .ok (.sipush (-1001), 3) := by decide +kernel
theorem dL_thrown_1303 : decode cL_thrown 1303 = .ok (.if_icmp .ne 20, 3) := by decide +kernel
theorem dL_thrown_1306 : decode cL_thrown 1306 = .ok (.aload_n 0, 1) := by decide +kernel
theorem dL_thrown_1307 : decode cL_thrown 1307 = .ok (.sipush 200, 3) := by decide +kernel
theorem dL_thrown_1310 : decode cL_thrown 1310 = .ok (.invokestatic 180, 3) := by decide +kernel
theorem dL_thrown_1313 : decode cL_thrown 1313 = .ok (.sipush (-1001), 3) := by decide +kernel
theorem dL_thrown_1316 : decode cL_thrown 1316 = .ok (.if_icmp .ne 7, 3) := by decide +kernel
theorem dL_thrown_1319 : decode cL_thrown 1319 = .ok (.iconst 1, 1) := by decide +kernel
theorem dL_thrown_1320 : decode cL_thrown 1320 = .ok (.goto 4, 3) := by decide +kernel
theorem dL_thrown_1323 : decode cL_thrown 1323 = .ok (.iconst 0, 1) := by decide +kernel
theorem dL_thrown_1324 : decode cL_thrown 1324 = .ok (.istore 5, 2) := by decide +kernel
theorem dL_thrown_1326 : decode cL_thrown 1326 = .ok (.aload_n 0, 1) := by decide +kernel
theorem dL_thrown_1327 : decode cL_thrown 1327 = .ok (.invokestatic 189, 3) := by decide +kernel
theorem dL_thrown_1330 : decode cL_thrown 1330 = .ok (.istore 6, 2) := by decide +kernel
theorem dL_thrown_1332 : decode cL_thrown 1332 = .ok (.aload_n 0, 1) := by decide +kernel
theorem dL_thrown_1333 : decode cL_thrown 1333 = .ok (.invokestatic 192, 3) := by decide +kernel
theorem dL_thrown_1336 : decode cL_thrown 1336 = .ok (.istore 7, 2) := by decide +kernel
theorem dL_thrown_1338 : decode cL_thrown 1338 = .ok (.iload 5, 2) := by decide +kernel
theorem dL_thrown_1340 : decode cL_thrown 1340 = .ok (.ifCond .eq 170, 3) := by decide +kernel
theorem dL_thrown_1343 : decode cL_thrown 1343 = .ok (.aload_n 0, 1) := by decide +kernel
theorem dL_thrown_1344 : decode cL_thrown 1344 = .ok (.ldc_w 371, 3) := by decide +kernel
theorem dL_thrown_1347 : decode cL_thrown 1347 = .ok (.invokestatic 321, 3) := by decide +kernel
theorem dL_thrown_1350 : decode cL_thrown 1350 = .ok (.sipush (-1001), 3) := by decide +kernel
theorem dL_thrown_1353 : decode cL_thrown 1353 = .ok (.if_icmp .ne 157, 3) := by decide +kernel
theorem dL_thrown_1356 : decode cL_thrown 1356 = .ok (.aload_n 0, 1) := by decide +kernel
theorem dL_thrown_1357 : decode cL_thrown 1357 = .ok (.invokestatic 373, 3) := by decide +kernel
theorem dL_thrown_1360 : decode cL_thrown 1360 = .ok (.ifCond .ne 150, 3) := by decide +kernel
theorem dL_thrown_1363 : decode cL_thrown 1363 = .ok (.aload_n 0, 1) := by decide +kernel
theorem dL_thrown_1364 : decode cL_thrown 1364 = .ok (.ldc_w 376, 3) := by decide +kernel
theorem dL_thrown_1367 : decode cL_thrown 1367 = .ok (.invokestatic 321, 3) := by decide +kernel
theorem dL_thrown_1370 : decode cL_thrown 1370 = .ok (.sipush (-1002), 3) := by decide +kernel
theorem dL_thrown_1373 : decode cL_thrown 1373 = .ok (.if_icmp .ne 137, 3) := by decide +kernel
theorem dL_thrown_1376 : decode cL_thrown 1376 = .ok (.aload_n 0, 1) := by decide +kernel
theorem dL_thrown_1377 : decode cL_thrown 1377 = .ok (.ldc_w 378, 3) := by decide +kernel
theorem dL_thrown_1380 : decode cL_thrown 1380 = .ok (.invokestatic 321, 3) := by decide +kernel
theorem dL_thrown_1383 : decode cL_thrown 1383 = .ok (.sipush (-1002), 3) := by decide +kernel
theorem dL_thrown_1386 : decode cL_thrown 1386 = .ok (.if_icmp .ne 124, 3) := by decide +kernel
theorem dL_thrown_1389 : decode cL_thrown 1389 = .ok (.aload_n 0, 1) := by decide +kernel
theorem dL_thrown_1390 : decode cL_thrown 1390 = .ok (.invokestatic 189, 3) := by decide +kernel
theorem dL_thrown_1393 : decode cL_thrown 1393 = .ok (.iload 6, 2) := by decide +kernel
theorem dL_thrown_1395 : decode cL_thrown 1395 = .ok (.if_icmp .ne 115, 3) := by decide +kernel
theorem dL_thrown_1398 : decode cL_thrown 1398 = .ok (.aload_n 0, 1) := by decide +kernel
theorem dL_thrown_1399 : decode cL_thrown 1399 = .ok (.invokestatic 192, 3) := by decide +kernel
theorem dL_thrown_1402 : decode cL_thrown 1402 = .ok (.iload 7, 2) := by decide +kernel
theorem dL_thrown_1404 : decode cL_thrown 1404 = .ok (.if_icmp .ne 106, 3) := by decide +kernel
theorem dL_thrown_1407 : decode cL_thrown 1407 = .ok (.aload_n 0, 1) := by decide +kernel
theorem dL_thrown_1408 : decode cL_thrown 1408 = .ok (.new 302, 3) := by decide +kernel
theorem dL_thrown_1411 : decode cL_thrown 1411 = .ok (.dup, 1) := by decide +kernel
theorem dL_thrown_1412 : decode cL_thrown 1412 = .ok (.invokespecial 304, 3) := by decide +kernel
theorem dL_thrown_1415 : decode cL_thrown 1415 = .ok (.ldc_w 380, 3) := by decide +kernel
theorem dL_thrown_1418 : decode cL_thrown 1418 = .ok (.invokevirtual 307, 3) := by decide +kernel
theorem dL_thrown_1421 : decode cL_thrown 1421 = .ok (.iload_n 3, 1) := by decide +kernel
theorem dL_thrown_1422 : decode cL_thrown 1422 = .ok (.ifCond .ne 8, 3) := by decide +kernel
theorem dL_thrown_1425 : decode cL_thrown 1425 = .ok (.bipush 99, 2) := by decide +kernel
theorem dL_thrown_1427 : decode cL_thrown 1427 = .ok (.goto 8, 3) := by decide +kernel
theorem dL_thrown_1430 : decode cL_thrown 1430 = .ok (.aload_n 0, 1) := by decide +kernel
theorem dL_thrown_1431 : decode cL_thrown 1431 = .ok (.iconst 0, 1) := by decide +kernel
theorem dL_thrown_1432 : decode cL_thrown 1432 = .ok (.invokestatic 280, 3) := by decide +kernel
theorem dL_thrown_1435 : decode cL_thrown 1435 = .ok (.invokevirtual 310, 3) := by decide +kernel
theorem dL_thrown_1438 : decode cL_thrown 1438 = .ok (.ldc_w 319, 3) := by decide +kernel
theorem dL_thrown_1441 : decode cL_thrown 1441 = .ok (.invokevirtual 307, 3) := by decide +kernel
theorem dL_thrown_1444 : decode cL_thrown 1444 = .ok (.iload_n 3, 1) := by decide +kernel
theorem dL_thrown_1445 : decode cL_thrown 1445 = .ok (.ifCond .ne 7, 3) := by decide +kernel
theorem dL_thrown_1448 : decode cL_thrown 1448 = .ok (.iconst 0, 1) := by decide +kernel
theorem dL_thrown_1449 : decode cL_thrown 1449 = .ok (.goto 12, 3) := by decide +kernel
theorem dL_thrown_1452 : decode cL_thrown 1452 = .ok (.aload_n 0, 1) := by decide +kernel
theorem dL_thrown_1453 : decode cL_thrown 1453 = .ok (.aload_n 0, 1) := by decide +kernel
theorem dL_thrown_1454 : decode cL_thrown 1454 = .ok (.iconst 0, 1) := by decide +kernel
theorem dL_thrown_1455 : decode cL_thrown 1455 = .ok (.invokestatic 280, 3) := by decide +kernel
theorem dL_thrown_1458 : decode cL_thrown 1458 = .ok (.invokestatic 339, 3) := by decide +kernel
theorem dL_thrown_1461 : decode cL_thrown 1461 = .ok (.invokevirtual 310, 3) := by decide +kernel
theorem dL_thrown_1464 : decode cL_thrown 1464 = .ok (.invokevirtual 313, 3) := by decide +kernel
theorem dL_thrown_1467 : decode cL_thrown 1467 = .ok (.invokestatic 321, 3) := by decide +kernel
theorem dL_thrown_1470 : decode cL_thrown 1470 = .ok (.ifCond .ge 40, 3) := by decide +kernel
theorem dL_thrown_1473 : decode cL_thrown 1473 = .ok (.iload_n 3, 1) := by decide +kernel
theorem dL_thrown_1474 : decode cL_thrown 1474 = .ok (.ifCond .eq 23, 3) := by decide +kernel
theorem dL_thrown_1477 : decode cL_thrown 1477 = .ok (.aload_n 0, 1) := by decide +kernel
theorem dL_thrown_1478 : decode cL_thrown 1478 = .ok (.aload_n 0, 1) := by decide +kernel
theorem dL_thrown_1479 : decode cL_thrown 1479 = .ok (.iconst 0, 1) := by decide +kernel
theorem dL_thrown_1480 : decode cL_thrown 1480 = .ok (.invokestatic 280, 3) := by decide +kernel
theorem dL_thrown_1483 : decode cL_thrown 1483 = .ok (.invokestatic 337, 3) := by decide +kernel
theorem dL_thrown_1486 : decode cL_thrown 1486 = .ok (.iconst 1, 1) := by decide +kernel
theorem dL_thrown_1487 : decode cL_thrown 1487 = .ok (.if_icmp .eq 10, 3) := by decide +kernel
theorem dL_thrown_1490 : decode cL_thrown 1490 = .ok (.aload_n 0, 1) := by decide +kernel
theorem dL_thrown_1491 : decode cL_thrown 1491 = .ok (.invokestatic 382, 3) := by decide +kernel
theorem dL_thrown_1494 : decode cL_thrown 1494 = .ok (.ifCond .eq 16, 3) := by decide +kernel
theorem dL_thrown_1497 : decode cL_thrown 1497 = .ok (.aload_n 0, 1) := by decide +kernel
theorem dL_thrown_1498 : decode cL_thrown 1498 = .ok (.invokestatic 325, 3) := by decide +kernel
theorem dL_thrown_1501 : decode cL_thrown 1501 = .ok (.lload_n 1, 1) := by decide +kernel
theorem dL_thrown_1502 : decode cL_thrown 1502 = .ok (.lcmp, 1) := by decide +kernel
theorem dL_thrown_1503 : decode cL_thrown 1503 = .ok (.ifCond .ne 7, 3) := by decide +kernel
theorem dL_thrown_1506 : decode cL_thrown 1506 = .ok (.iconst 1, 1) := by decide +kernel
theorem dL_thrown_1507 : decode cL_thrown 1507 = .ok (.goto 4, 3) := by decide +kernel
theorem dL_thrown_1510 : decode cL_thrown 1510 = .ok (.iconst 0, 1) := by decide +kernel
theorem dL_thrown_1511 : decode cL_thrown 1511 = .ok (.ireturn, 1) := by decide +kernel
