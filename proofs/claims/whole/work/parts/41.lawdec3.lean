theorem d_L_law_867 : decode code 867 = .ok (.iconst 0, 1) := by decide +kernel
theorem d_L_law_868 : decode code 868 = .ok (.laload, 1) := by decide +kernel
theorem d_L_law_869 : decode code 869 = .ok (.iload 6, 2) := by decide +kernel
theorem d_L_law_871 : decode code 871 = .ok (.i2l, 1) := by decide +kernel
theorem d_L_law_872 : decode code 872 = .ok (.lcmp, 1) := by decide +kernel
theorem d_L_law_873 : decode code 873 = .ok (.ifCond .eq 5, 3) := by decide +kernel
theorem d_L_law_876 : decode code 876 = .ok (.iconst 0, 1) := by decide +kernel
theorem d_L_law_877 : decode code 877 = .ok (.ireturn, 1) := by decide +kernel
theorem d_L_law_878 : decode code 878 = .ok (.goto 488, 3) := by decide +kernel
theorem d_L_law_881 : decode code 881 = .ok (.aload_n 1, 1) := by decide +kernel
theorem d_L_law_882 : decode code 882 = .ok (.aload_n 0, 1) := by decide +kernel
theorem d_L_law_883 : decode code 883 = .ok (.iload 4, 2) := by decide +kernel
theorem d_L_law_885 : decode code 885 = .ok (.iconst 1, 1) := by decide +kernel
theorem d_L_law_886 : decode code 886 = .ok (.iadd, 1) := by decide +kernel
theorem d_L_law_887 : decode code 887 = .ok (.iaload, 1) := by decide +kernel
theorem d_L_law_888 : decode code 888 = .ok (.aload_n 3, 1) := by decide +kernel
theorem d_L_law_889 : decode code 889 = .ok (.invokestatic 136, 3) := by decide +kernel
theorem d_L_law_892 : decode code 892 = .ok (.istore 5, 2) := by decide +kernel
theorem d_L_law_894 : decode code 894 = .ok (.aload_n 2, 1) := by decide +kernel
theorem d_L_law_895 : decode code 895 = .ok (.aload_n 0, 1) := by decide +kernel
theorem d_L_law_896 : decode code 896 = .ok (.iload 4, 2) := by decide +kernel
theorem d_L_law_898 : decode code 898 = .ok (.iconst 1, 1) := by decide +kernel
theorem d_L_law_899 : decode code 899 = .ok (.iadd, 1) := by decide +kernel
theorem d_L_law_900 : decode code 900 = .ok (.iaload, 1) := by decide +kernel
theorem d_L_law_901 : decode code 901 = .ok (.invokevirtual 138, 3) := by decide +kernel
theorem d_L_law_904 : decode code 904 = .ok (.istore 6, 2) := by decide +kernel
theorem d_L_law_906 : decode code 906 = .ok (.aload_n 2, 1) := by decide +kernel
theorem d_L_law_907 : decode code 907 = .ok (.invokevirtual 90, 3) := by decide +kernel
theorem d_L_law_910 : decode code 910 = .ok (.iload 5, 2) := by decide +kernel
theorem d_L_law_912 : decode code 912 = .ok (.if_icmp .eq 5, 3) := by decide +kernel
theorem d_L_law_915 : decode code 915 = .ok (.iconst 0, 1) := by decide +kernel
theorem d_L_law_916 : decode code 916 = .ok (.ireturn, 1) := by decide +kernel
theorem d_L_law_917 : decode code 917 = .ok (.iload 5, 2) := by decide +kernel
theorem d_L_law_919 : decode code 919 = .ok (.ifCond .ne 15, 3) := by decide +kernel
theorem d_L_law_922 : decode code 922 = .ok (.aload_n 3, 1) := by decide +kernel
theorem d_L_law_923 : decode code 923 = .ok (.iconst 0, 1) := by decide +kernel
theorem d_L_law_924 : decode code 924 = .ok (.laload, 1) := by decide +kernel
theorem d_L_law_925 : decode code 925 = .ok (.iload 6, 2) := by decide +kernel
theorem d_L_law_927 : decode code 927 = .ok (.i2l, 1) := by decide +kernel
theorem d_L_law_928 : decode code 928 = .ok (.lcmp, 1) := by decide +kernel
theorem d_L_law_929 : decode code 929 = .ok (.ifCond .eq 5, 3) := by decide +kernel
theorem d_L_law_932 : decode code 932 = .ok (.iconst 0, 1) := by decide +kernel
theorem d_L_law_933 : decode code 933 = .ok (.ireturn, 1) := by decide +kernel
theorem d_L_law_934 : decode code 934 = .ok (.goto 432, 3) := by decide +kernel
theorem d_L_law_937 : decode code 937 = .ok (.aload_n 1, 1) := by decide +kernel
theorem d_L_law_938 : decode code 938 = .ok (.aload_n 0, 1) := by decide +kernel
theorem d_L_law_939 : decode code 939 = .ok (.iload 4, 2) := by decide +kernel
theorem d_L_law_941 : decode code 941 = .ok (.iconst 1, 1) := by decide +kernel
theorem d_L_law_942 : decode code 942 = .ok (.iadd, 1) := by decide +kernel
theorem d_L_law_943 : decode code 943 = .ok (.iaload, 1) := by decide +kernel
theorem d_L_law_944 : decode code 944 = .ok (.aload_n 0, 1) := by decide +kernel
theorem d_L_law_945 : decode code 945 = .ok (.iload 4, 2) := by decide +kernel
theorem d_L_law_947 : decode code 947 = .ok (.iconst 2, 1) := by decide +kernel
theorem d_L_law_948 : decode code 948 = .ok (.iadd, 1) := by decide +kernel
theorem d_L_law_949 : decode code 949 = .ok (.iaload, 1) := by decide +kernel
theorem d_L_law_950 : decode code 950 = .ok (.aload_n 3, 1) := by decide +kernel
theorem d_L_law_951 : decode code 951 = .ok (.invokestatic 139, 3) := by decide +kernel
theorem d_L_law_954 : decode code 954 = .ok (.istore 5, 2) := by decide +kernel
theorem d_L_law_956 : decode code 956 = .ok (.aload_n 2, 1) := by decide +kernel
theorem d_L_law_957 : decode code 957 = .ok (.aload_n 0, 1) := by decide +kernel
theorem d_L_law_958 : decode code 958 = .ok (.iload 4, 2) := by decide +kernel
theorem d_L_law_960 : decode code 960 = .ok (.iconst 1, 1) := by decide +kernel
theorem d_L_law_961 : decode code 961 = .ok (.iadd, 1) := by decide +kernel
theorem d_L_law_962 : decode code 962 = .ok (.iaload, 1) := by decide +kernel
theorem d_L_law_963 : decode code 963 = .ok (.aload_n 0, 1) := by decide +kernel
theorem d_L_law_964 : decode code 964 = .ok (.iload 4, 2) := by decide +kernel
theorem d_L_law_966 : decode code 966 = .ok (.iconst 2, 1) := by decide +kernel
theorem d_L_law_967 : decode code 967 = .ok (.iadd, 1) := by decide +kernel
theorem d_L_law_968 : decode code 968 = .ok (.iaload, 1) := by decide +kernel
theorem d_L_law_969 : decode code 969 = .ok (.invokevirtual 141, 3) := by decide +kernel
theorem d_L_law_972 : decode code 972 = .ok (.istore 6, 2) := by decide +kernel
theorem d_L_law_974 : decode code 974 = .ok (.aload_n 2, 1) := by decide +kernel
theorem d_L_law_975 : decode code 975 = .ok (.invokevirtual 90, 3) := by decide +kernel
theorem d_L_law_978 : decode code 978 = .ok (.iload 5, 2) := by decide +kernel
theorem d_L_law_980 : decode code 980 = .ok (.if_icmp .eq 5, 3) := by decide +kernel
theorem d_L_law_983 : decode code 983 = .ok (.iconst 0, 1) := by decide +kernel
theorem d_L_law_984 : decode code 984 = .ok (.ireturn, 1) := by decide +kernel
theorem d_L_law_985 : decode code 985 = .ok (.iload 5, 2) := by decide +kernel
theorem d_L_law_987 : decode code 987 = .ok (.ifCond .ne 15, 3) := by decide +kernel
theorem d_L_law_990 : decode code 990 = .ok (.aload_n 3, 1) := by decide +kernel
theorem d_L_law_991 : decode code 991 = .ok (.iconst 0, 1) := by decide +kernel
theorem d_L_law_992 : decode code 992 = .ok (.laload, 1) := by decide +kernel
theorem d_L_law_993 : decode code 993 = .ok (.iload 6, 2) := by decide +kernel
theorem d_L_law_995 : decode code 995 = .ok (.i2l, 1) := by decide +kernel
theorem d_L_law_996 : decode code 996 = .ok (.lcmp, 1) := by decide +kernel
theorem d_L_law_997 : decode code 997 = .ok (.ifCond .eq 5, 3) := by decide +kernel
theorem d_L_law_1000 : decode code 1000 = .ok (.iconst 0, 1) := by decide +kernel
theorem d_L_law_1001 : decode code 1001 = .ok (.ireturn, 1) := by decide +kernel
theorem d_L_law_1002 : decode code 1002 = .ok (.goto 364, 3) := by decide +kernel
theorem d_L_law_1005 : decode code 1005 = .ok (.aload_n 1, 1) := by decide +kernel
theorem d_L_law_1006 : decode code 1006 = .ok (.aload_n 0, 1) := by decide +kernel
theorem d_L_law_1007 : decode code 1007 = .ok (.iload 4, 2) := by decide +kernel
theorem d_L_law_1009 : decode code 1009 = .ok (.iconst 1, 1) := by decide +kernel
theorem d_L_law_1010 : decode code 1010 = .ok (.iadd, 1) := by decide +kernel
theorem d_L_law_1011 : decode code 1011 = .ok (.iaload, 1) := by decide +kernel
theorem d_L_law_1012 : decode code 1012 = .ok (.aload_n 0, 1) := by decide +kernel
theorem d_L_law_1013 : decode code 1013 = .ok (.iload 4, 2) := by decide +kernel
theorem d_L_law_1015 : decode code 1015 = .ok (.iconst 2, 1) := by decide +kernel
theorem d_L_law_1016 : decode code 1016 = .ok (.iadd, 1) := by decide +kernel
theorem d_L_law_1017 : decode code 1017 = .ok (.iaload, 1) := by decide +kernel
theorem d_L_law_1018 : decode code 1018 = .ok (.aload_n 3, 1) := by decide +kernel
theorem d_L_law_1019 : decode code 1019 = .ok (.invokestatic 142, 3) := by decide +kernel
theorem d_L_law_1022 : decode code 1022 = .ok (.istore 5, 2) := by decide +kernel
theorem d_L_law_1024 : decode code 1024 = .ok (.aload_n 2, 1) := by decide +kernel
theorem d_L_law_1025 : decode code 1025 = .ok (.aload_n 0, 1) := by decide +kernel
theorem d_L_law_1026 : decode code 1026 = .ok (.iload 4, 2) := by decide +kernel
theorem d_L_law_1028 : decode code 1028 = .ok (.iconst 1, 1) := by decide +kernel
theorem d_L_law_1029 : decode code 1029 = .ok (.iadd, 1) := by decide +kernel
theorem d_L_law_1030 : decode code 1030 = .ok (.iaload, 1) := by decide +kernel
theorem d_L_law_1031 : decode code 1031 = .ok (.aload_n 0, 1) := by decide +kernel
theorem d_L_law_1032 : decode code 1032 = .ok (.iload 4, 2) := by decide +kernel
theorem d_L_law_1034 : decode code 1034 = .ok (.iconst 2, 1) := by decide +kernel
theorem d_L_law_1035 : decode code 1035 = .ok (.iadd, 1) := by decide +kernel
theorem d_L_law_1036 : decode code 1036 = .ok (.iaload, 1) := by decide +kernel
theorem d_L_law_1037 : decode code 1037 = .ok (.invokevirtual 144, 3) := by decide +kernel
theorem d_L_law_1040 : decode code 1040 = .ok (.istore 6, 2) := by decide +kernel
theorem d_L_law_1042 : decode code 1042 = .ok (.aload_n 2, 1) := by decide +kernel
theorem d_L_law_1043 : decode code 1043 = .ok (.invokevirtual 90, 3) := by decide +kernel
theorem d_L_law_1046 : decode code 1046 = .ok (.iload 5, 2) := by decide +kernel
theorem d_L_law_1048 : decode code 1048 = .ok (.if_icmp .eq 5, 3) := by decide +kernel
theorem d_L_law_1051 : decode code 1051 = .ok (.iconst 0, 1) := by decide +kernel
theorem d_L_law_1052 : decode code 1052 = .ok (.ireturn, 1) := by decide +kernel
theorem d_L_law_1053 : decode code 1053 = .ok (.iload 5, 2) := by decide +kernel
theorem d_L_law_1055 : decode code 1055 = .ok (.ifCond .ne 15, 3) := by decide +kernel
theorem d_L_law_1058 : decode code 1058 = .ok (.aload_n 3, 1) := by decide +kernel
theorem d_L_law_1059 : decode code 1059 = .ok (.iconst 0, 1) := by decide +kernel
theorem d_L_law_1060 : decode code 1060 = .ok (.laload, 1) := by decide +kernel
theorem d_L_law_1061 : decode code 1061 = .ok (.iload 6, 2) := by decide +kernel
theorem d_L_law_1063 : decode code 1063 = .ok (.i2l, 1) := by decide +kernel
theorem d_L_law_1064 : decode code 1064 = .ok (.lcmp, 1) := by decide +kernel
theorem d_L_law_1065 : decode code 1065 = .ok (.ifCond .eq 5, 3) := by decide +kernel
theorem d_L_law_1068 : decode code 1068 = .ok (.iconst 0, 1) := by decide +kernel
theorem d_L_law_1069 : decode code 1069 = .ok (.ireturn, 1) := by decide +kernel
theorem d_L_law_1070 : decode code 1070 = .ok (.goto 296, 3) := by decide +kernel
theorem d_L_law_1073 : decode code 1073 = .ok (.aload_n 1, 1) := by decide +kernel
theorem d_L_law_1074 : decode code 1074 = .ok (.aload_n 0, 1) := by decide +kernel
theorem d_L_law_1075 : decode code 1075 = .ok (.iload 4, 2) := by decide +kernel
theorem d_L_law_1077 : decode code 1077 = .ok (.iconst 1, 1) := by decide +kernel
theorem d_L_law_1078 : decode code 1078 = .ok (.iadd, 1) := by decide +kernel
theorem d_L_law_1079 : decode code 1079 = .ok (.iaload, 1) := by decide +kernel
theorem d_L_law_1080 : decode code 1080 = .ok (.aload_n 3, 1) := by decide +kernel
theorem d_L_law_1081 : decode code 1081 = .ok (.invokestatic 145, 3) := by decide +kernel
theorem d_L_law_1084 : decode code 1084 = .ok (.istore 5, 2) := by decide +kernel
theorem d_L_law_1086 : decode code 1086 = .ok (.aload_n 2, 1) := by decide +kernel
theorem d_L_law_1087 : decode code 1087 = .ok (.aload_n 0, 1) := by decide +kernel
theorem d_L_law_1088 : decode code 1088 = .ok (.iload 4, 2) := by decide +kernel
theorem d_L_law_1090 : decode code 1090 = .ok (.iconst 1, 1) := by decide +kernel
theorem d_L_law_1091 : decode code 1091 = .ok (.iadd, 1) := by decide +kernel
theorem d_L_law_1092 : decode code 1092 = .ok (.iaload, 1) := by decide +kernel
theorem d_L_law_1093 : decode code 1093 = .ok (.invokevirtual 147, 3) := by decide +kernel
theorem d_L_law_1096 : decode code 1096 = .ok (.istore 6, 2) := by decide +kernel
theorem d_L_law_1098 : decode code 1098 = .ok (.aload_n 2, 1) := by decide +kernel
theorem d_L_law_1099 : decode code 1099 = .ok (.invokevirtual 90, 3) := by decide +kernel
theorem d_L_law_1102 : decode code 1102 = .ok (.iload 5, 2) := by decide +kernel
theorem d_L_law_1104 : decode code 1104 = .ok (.if_icmp .eq 5, 3) := by decide +kernel
theorem d_L_law_1107 : decode code 1107 = .ok (.iconst 0, 1) := by decide +kernel
theorem d_L_law_1108 : decode code 1108 = .ok (.ireturn, 1) := by decide +kernel
theorem d_L_law_1109 : decode code 1109 = .ok (.iload 5, 2) := by decide +kernel
theorem d_L_law_1111 : decode code 1111 = .ok (.ifCond .ne 15, 3) := by decide +kernel
theorem d_L_law_1114 : decode code 1114 = .ok (.aload_n 3, 1) := by decide +kernel
theorem d_L_law_1115 : decode code 1115 = .ok (.iconst 0, 1) := by decide +kernel
theorem d_L_law_1116 : decode code 1116 = .ok (.laload, 1) := by decide +kernel
theorem d_L_law_1117 : decode code 1117 = .ok (.iload 6, 2) := by decide +kernel
theorem d_L_law_1119 : decode code 1119 = .ok (.i2l, 1) := by decide +kernel
theorem d_L_law_1120 : decode code 1120 = .ok (.lcmp, 1) := by decide +kernel
theorem d_L_law_1121 : decode code 1121 = .ok (.ifCond .eq 5, 3) := by decide +kernel
theorem d_L_law_1124 : decode code 1124 = .ok (.iconst 0, 1) := by decide +kernel
theorem d_L_law_1125 : decode code 1125 = .ok (.ireturn, 1) := by decide +kernel
theorem d_L_law_1126 : decode code 1126 = .ok (.goto 240, 3) := by decide +kernel
theorem d_L_law_1129 : decode code 1129 = .ok (.aload_n 1, 1) := by decide +kernel
theorem d_L_law_1130 : decode code 1130 = .ok (.aload_n 0, 1) := by decide +kernel
theorem d_L_law_1131 : decode code 1131 = .ok (.iload 4, 2) := by decide +kernel
theorem d_L_law_1133 : decode code 1133 = .ok (.iconst 1, 1) := by decide +kernel
theorem d_L_law_1134 : decode code 1134 = .ok (.iadd, 1) := by decide +kernel
theorem d_L_law_1135 : decode code 1135 = .ok (.iaload, 1) := by decide +kernel
theorem d_L_law_1136 : decode code 1136 = .ok (.aload_n 3, 1) := by decide +kernel
theorem d_L_law_1137 : decode code 1137 = .ok (.invokestatic 148, 3) := by decide +kernel
theorem d_L_law_1140 : decode code 1140 = .ok (.istore 5, 2) := by decide +kernel
theorem d_L_law_1142 : decode code 1142 = .ok (.aload_n 2, 1) := by decide +kernel
theorem d_L_law_1143 : decode code 1143 = .ok (.aload_n 0, 1) := by decide +kernel
theorem d_L_law_1144 : decode code 1144 = .ok (.iload 4, 2) := by decide +kernel
theorem d_L_law_1146 : decode code 1146 = .ok (.iconst 1, 1) := by decide +kernel
theorem d_L_law_1147 : decode code 1147 = .ok (.iadd, 1) := by decide +kernel
theorem d_L_law_1148 : decode code 1148 = .ok (.iaload, 1) := by decide +kernel
theorem d_L_law_1149 : decode code 1149 = .ok (.invokevirtual 150, 3) := by decide +kernel
theorem d_L_law_1152 : decode code 1152 = .ok (.istore 6, 2) := by decide +kernel
theorem d_L_law_1154 : decode code 1154 = .ok (.aload_n 2, 1) := by decide +kernel
theorem d_L_law_1155 : decode code 1155 = .ok (.invokevirtual 90, 3) := by decide +kernel
theorem d_L_law_1158 : decode code 1158 = .ok (.iload 5, 2) := by decide +kernel
theorem d_L_law_1160 : decode code 1160 = .ok (.if_icmp .eq 5, 3) := by decide +kernel
theorem d_L_law_1163 : decode code 1163 = .ok (.iconst 0, 1) := by decide +kernel
theorem d_L_law_1164 : decode code 1164 = .ok (.ireturn, 1) := by decide +kernel
theorem d_L_law_1165 : decode code 1165 = .ok (.iload 5, 2) := by decide +kernel
theorem d_L_law_1167 : decode code 1167 = .ok (.ifCond .ne 15, 3) := by decide +kernel
theorem d_L_law_1170 : decode code 1170 = .ok (.aload_n 3, 1) := by decide +kernel
theorem d_L_law_1171 : decode code 1171 = .ok (.iconst 0, 1) := by decide +kernel
theorem d_L_law_1172 : decode code 1172 = .ok (.laload, 1) := by decide +kernel
theorem d_L_law_1173 : decode code 1173 = .ok (.iload 6, 2) := by decide +kernel
theorem d_L_law_1175 : decode code 1175 = .ok (.i2l, 1) := by decide +kernel
theorem d_L_law_1176 : decode code 1176 = .ok (.lcmp, 1) := by decide +kernel
theorem d_L_law_1177 : decode code 1177 = .ok (.ifCond .eq 5, 3) := by decide +kernel
theorem d_L_law_1180 : decode code 1180 = .ok (.iconst 0, 1) := by decide +kernel
theorem d_L_law_1181 : decode code 1181 = .ok (.ireturn, 1) := by decide +kernel
theorem d_L_law_1182 : decode code 1182 = .ok (.goto 184, 3) := by decide +kernel
theorem d_L_law_1185 : decode code 1185 = .ok (.aload_n 1, 1) := by decide +kernel
theorem d_L_law_1186 : decode code 1186 = .ok (.aload_n 0, 1) := by decide +kernel
theorem d_L_law_1187 : decode code 1187 = .ok (.iload 4, 2) := by decide +kernel
theorem d_L_law_1189 : decode code 1189 = .ok (.iconst 1, 1) := by decide +kernel
theorem d_L_law_1190 : decode code 1190 = .ok (.iadd, 1) := by decide +kernel
theorem d_L_law_1191 : decode code 1191 = .ok (.iaload, 1) := by decide +kernel
theorem d_L_law_1192 : decode code 1192 = .ok (.aload_n 0, 1) := by decide +kernel
theorem d_L_law_1193 : decode code 1193 = .ok (.iload 4, 2) := by decide +kernel
theorem d_L_law_1195 : decode code 1195 = .ok (.iconst 2, 1) := by decide +kernel
theorem d_L_law_1196 : decode code 1196 = .ok (.iadd, 1) := by decide +kernel
theorem d_L_law_1197 : decode code 1197 = .ok (.iaload, 1) := by decide +kernel
theorem d_L_law_1198 : decode code 1198 = .ok (.aload_n 0, 1) := by decide +kernel
theorem d_L_law_1199 : decode code 1199 = .ok (.iload 4, 2) := by decide +kernel
theorem d_L_law_1201 : decode code 1201 = .ok (.iconst 3, 1) := by decide +kernel
theorem d_L_law_1202 : decode code 1202 = .ok (.iadd, 1) := by decide +kernel
theorem d_L_law_1203 : decode code 1203 = .ok (.iaload, 1) := by decide +kernel
theorem d_L_law_1204 : decode code 1204 = .ok (.i2l, 1) := by decide +kernel
theorem d_L_law_1205 : decode code 1205 = .ok (.bipush 32, 2) := by decide +kernel
theorem d_L_law_1207 : decode code 1207 = .ok (.lshl, 1) := by decide +kernel
theorem d_L_law_1208 : decode code 1208 = .ok (.aload_n 0, 1) := by decide +kernel
theorem d_L_law_1209 : decode code 1209 = .ok (.iload 4, 2) := by decide +kernel
theorem d_L_law_1211 : decode code 1211 = .ok (.iconst 4, 1) := by decide +kernel
theorem d_L_law_1212 : decode code 1212 = .ok (.iadd, 1) := by decide +kernel
theorem d_L_law_1213 : decode code 1213 = .ok (.iaload, 1) := by decide +kernel
theorem d_L_law_1214 : decode code 1214 = .ok (.i2l, 1) := by decide +kernel
theorem d_L_law_1215 : decode code 1215 = .ok (.ldc2_w 151, 3) := by decide +kernel
theorem d_L_law_1218 : decode code 1218 = .ok (.land, 1) := by decide +kernel
theorem d_L_law_1219 : decode code 1219 = .ok (.lor, 1) := by decide +kernel
theorem d_L_law_1220 : decode code 1220 = .ok (.aload_n 3, 1) := by decide +kernel
theorem d_L_law_1221 : decode code 1221 = .ok (.invokestatic 153, 3) := by decide +kernel
theorem d_L_law_1224 : decode code 1224 = .ok (.istore 5, 2) := by decide +kernel
theorem d_L_law_1226 : decode code 1226 = .ok (.aload_n 2, 1) := by decide +kernel
theorem d_L_law_1227 : decode code 1227 = .ok (.aload_n 0, 1) := by decide +kernel
theorem d_L_law_1228 : decode code 1228 = .ok (.iload 4, 2) := by decide +kernel
theorem d_L_law_1230 : decode code 1230 = .ok (.iconst 1, 1) := by decide +kernel
theorem d_L_law_1231 : decode code 1231 = .ok (.iadd, 1) := by decide +kernel
theorem d_L_law_1232 : decode code 1232 = .ok (.iaload, 1) := by decide +kernel
theorem d_L_law_1233 : decode code 1233 = .ok (.aload_n 0, 1) := by decide +kernel
theorem d_L_law_1234 : decode code 1234 = .ok (.iload 4, 2) := by decide +kernel
theorem d_L_law_1236 : decode code 1236 = .ok (.iconst 2, 1) := by decide +kernel
theorem d_L_law_1237 : decode code 1237 = .ok (.iadd, 1) := by decide +kernel
theorem d_L_law_1238 : decode code 1238 = .ok (.iaload, 1) := by decide +kernel
theorem d_L_law_1239 : decode code 1239 = .ok (.aload_n 0, 1) := by decide +kernel
theorem d_L_law_1240 : decode code 1240 = .ok (.iload 4, 2) := by decide +kernel
theorem d_L_law_1242 : decode code 1242 = .ok (.iconst 3, 1) := by decide +kernel
theorem d_L_law_1243 : decode code 1243 = .ok (.iadd, 1) := by decide +kernel
