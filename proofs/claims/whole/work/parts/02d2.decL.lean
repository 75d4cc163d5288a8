theorem d_L_law_893 : decode code 893 = .ok (.iconst 1, 1) := by decide +kernel
theorem d_L_law_894 : decode code 894 = .ok (.iadd, 1) := by decide +kernel
theorem d_L_law_895 : decode code 895 = .ok (.iaload, 1) := by decide +kernel
theorem d_L_law_896 : decode code 896 = .ok (.aload_n 0, 1) := by decide +kernel
theorem d_L_law_897 : decode code 897 = .ok (.iload 4, 2) := by decide +kernel
theorem d_L_law_899 : decode code 899 = .ok (.iconst 2, 1) := by decide +kernel
theorem d_L_law_900 : decode code 900 = .ok (.iadd, 1) := by decide +kernel
theorem d_L_law_901 : decode code 901 = .ok (.iaload, 1) := by decide +kernel
theorem d_L_law_902 : decode code 902 = .ok (.i2l, 1) := by decide +kernel
theorem d_L_law_903 : decode code 903 = .ok (.bipush 32, 2) := by decide +kernel
theorem d_L_law_905 : decode code 905 = .ok (.lshl, 1) := by decide +kernel
theorem d_L_law_906 : decode code 906 = .ok (.aload_n 0, 1) := by decide +kernel
theorem d_L_law_907 : decode code 907 = .ok (.iload 4, 2) := by decide +kernel
theorem d_L_law_909 : decode code 909 = .ok (.iconst 3, 1) := by decide +kernel
theorem d_L_law_910 : decode code 910 = .ok (.iadd, 1) := by decide +kernel
theorem d_L_law_911 : decode code 911 = .ok (.iaload, 1) := by decide +kernel
theorem d_L_law_912 : decode code 912 = .ok (.i2l, 1) := by decide +kernel
theorem d_L_law_913 : decode code 913 = .ok (.ldc2_w 99, 3) := by decide +kernel
theorem d_L_law_916 : decode code 916 = .ok (.land, 1) := by decide +kernel
theorem d_L_law_917 : decode code 917 = .ok (.lor, 1) := by decide +kernel
theorem d_L_law_918 : decode code 918 = .ok (.aload_n 3, 1) := by decide +kernel
theorem d_L_law_919 : decode code 919 = .ok (.invokestatic 127, 3) := by decide +kernel
theorem d_L_law_922 : decode code 922 = .ok (.istore 5, 2) := by decide +kernel
theorem d_L_law_924 : decode code 924 = .ok (.aload_n 2, 1) := by decide +kernel
theorem d_L_law_925 : decode code 925 = .ok (.aload_n 0, 1) := by decide +kernel
theorem d_L_law_926 : decode code 926 = .ok (.iload 4, 2) := by decide +kernel
theorem d_L_law_928 : decode code 928 = .ok (.iconst 1, 1) := by decide +kernel
theorem d_L_law_929 : decode code 929 = .ok (.iadd, 1) := by decide +kernel
theorem d_L_law_930 : decode code 930 = .ok (.iaload, 1) := by decide +kernel
theorem d_L_law_931 : decode code 931 = .ok (.aload_n 0, 1) := by decide +kernel
theorem d_L_law_932 : decode code 932 = .ok (.iload 4, 2) := by decide +kernel
theorem d_L_law_934 : decode code 934 = .ok (.iconst 2, 1) := by decide +kernel
theorem d_L_law_935 : decode code 935 = .ok (.iadd, 1) := by decide +kernel
theorem d_L_law_936 : decode code 936 = .ok (.iaload, 1) := by decide +kernel
theorem d_L_law_937 : decode code 937 = .ok (.i2l, 1) := by decide +kernel
theorem d_L_law_938 : decode code 938 = .ok (.bipush 32, 2) := by decide +kernel
theorem d_L_law_940 : decode code 940 = .ok (.lshl, 1) := by decide +kernel
theorem d_L_law_941 : decode code 941 = .ok (.aload_n 0, 1) := by decide +kernel
theorem d_L_law_942 : decode code 942 = .ok (.iload 4, 2) := by decide +kernel
theorem d_L_law_944 : decode code 944 = .ok (.iconst 3, 1) := by decide +kernel
theorem d_L_law_945 : decode code 945 = .ok (.iadd, 1) := by decide +kernel
theorem d_L_law_946 : decode code 946 = .ok (.iaload, 1) := by decide +kernel
theorem d_L_law_947 : decode code 947 = .ok (.i2l, 1) := by decide +kernel
theorem d_L_law_948 : decode code 948 = .ok (.ldc2_w 99, 3) := by decide +kernel
theorem d_L_law_951 : decode code 951 = .ok (.land, 1) := by decide +kernel
theorem d_L_law_952 : decode code 952 = .ok (.lor, 1) := by decide +kernel
theorem d_L_law_953 : decode code 953 = .ok (.invokevirtual 129, 3) := by decide +kernel
theorem d_L_law_956 : decode code 956 = .ok (.istore 6, 2) := by decide +kernel
theorem d_L_law_958 : decode code 958 = .ok (.aload_n 2, 1) := by decide +kernel
theorem d_L_law_959 : decode code 959 = .ok (.invokevirtual 91, 3) := by decide +kernel
theorem d_L_law_962 : decode code 962 = .ok (.iload 5, 2) := by decide +kernel
theorem d_L_law_964 : decode code 964 = .ok (.if_icmp .eq 5, 3) := by decide +kernel
theorem d_L_law_967 : decode code 967 = .ok (.iconst 0, 1) := by decide +kernel
theorem d_L_law_968 : decode code 968 = .ok (.ireturn, 1) := by decide +kernel
theorem d_L_law_969 : decode code 969 = .ok (.iload 5, 2) := by decide +kernel
theorem d_L_law_971 : decode code 971 = .ok (.ifCond .ne 15, 3) := by decide +kernel
theorem d_L_law_974 : decode code 974 = .ok (.aload_n 3, 1) := by decide +kernel
theorem d_L_law_975 : decode code 975 = .ok (.iconst 0, 1) := by decide +kernel
theorem d_L_law_976 : decode code 976 = .ok (.laload, 1) := by decide +kernel
theorem d_L_law_977 : decode code 977 = .ok (.iload 6, 2) := by decide +kernel
theorem d_L_law_979 : decode code 979 = .ok (.i2l, 1) := by decide +kernel
theorem d_L_law_980 : decode code 980 = .ok (.lcmp, 1) := by decide +kernel
theorem d_L_law_981 : decode code 981 = .ok (.ifCond .eq 5, 3) := by decide +kernel
theorem d_L_law_984 : decode code 984 = .ok (.iconst 0, 1) := by decide +kernel
theorem d_L_law_985 : decode code 985 = .ok (.ireturn, 1) := by decide +kernel
theorem d_L_law_986 : decode code 986 = .ok (.goto 605, 3) := by decide +kernel
theorem d_L_law_989 : decode code 989 = .ok (.aload_n 1, 1) := by decide +kernel
theorem d_L_law_990 : decode code 990 = .ok (.aload_n 0, 1) := by decide +kernel
theorem d_L_law_991 : decode code 991 = .ok (.iload 4, 2) := by decide +kernel
theorem d_L_law_993 : decode code 993 = .ok (.iconst 1, 1) := by decide +kernel
theorem d_L_law_994 : decode code 994 = .ok (.iadd, 1) := by decide +kernel
theorem d_L_law_995 : decode code 995 = .ok (.iaload, 1) := by decide +kernel
theorem d_L_law_996 : decode code 996 = .ok (.aload_n 3, 1) := by decide +kernel
theorem d_L_law_997 : decode code 997 = .ok (.invokestatic 130, 3) := by decide +kernel
theorem d_L_law_1000 : decode code 1000 = .ok (.istore 5, 2) := by decide +kernel
theorem d_L_law_1002 : decode code 1002 = .ok (.aload_n 2, 1) := by decide +kernel
theorem d_L_law_1003 : decode code 1003 = .ok (.aload_n 0, 1) := by decide +kernel
theorem d_L_law_1004 : decode code 1004 = .ok (.iload 4, 2) := by decide +kernel
theorem d_L_law_1006 : decode code 1006 = .ok (.iconst 1, 1) := by decide +kernel
theorem d_L_law_1007 : decode code 1007 = .ok (.iadd, 1) := by decide +kernel
theorem d_L_law_1008 : decode code 1008 = .ok (.iaload, 1) := by decide +kernel
theorem d_L_law_1009 : decode code 1009 = .ok (.invokevirtual 132, 3) := by decide +kernel
theorem d_L_law_1012 : decode code 1012 = .ok (.istore 6, 2) := by decide +kernel
theorem d_L_law_1014 : decode code 1014 = .ok (.aload_n 2, 1) := by decide +kernel
theorem d_L_law_1015 : decode code 1015 = .ok (.invokevirtual 91, 3) := by decide +kernel
theorem d_L_law_1018 : decode code 1018 = .ok (.iload 5, 2) := by decide +kernel
theorem d_L_law_1020 : decode code 1020 = .ok (.if_icmp .eq 5, 3) := by decide +kernel
theorem d_L_law_1023 : decode code 1023 = .ok (.iconst 0, 1) := by decide +kernel
theorem d_L_law_1024 : decode code 1024 = .ok (.ireturn, 1) := by decide +kernel
theorem d_L_law_1025 : decode code 1025 = .ok (.iload 5, 2) := by decide +kernel
theorem d_L_law_1027 : decode code 1027 = .ok (.ifCond .ne 22, 3) := by decide +kernel
theorem d_L_law_1030 : decode code 1030 = .ok (.aload_n 3, 1) := by decide +kernel
theorem d_L_law_1031 : decode code 1031 = .ok (.iconst 0, 1) := by decide +kernel
theorem d_L_law_1032 : decode code 1032 = .ok (.laload, 1) := by decide +kernel
theorem d_L_law_1033 : decode code 1033 = .ok (.iload 6, 2) := by decide +kernel
theorem d_L_law_1035 : decode code 1035 = .ok (.ifCond .eq 7, 3) := by decide +kernel
theorem d_L_law_1038 : decode code 1038 = .ok (.lconst 1, 1) := by decide +kernel
theorem d_L_law_1039 : decode code 1039 = .ok (.goto 4, 3) := by decide +kernel
theorem d_L_law_1042 : decode code 1042 = .ok (.lconst 0, 1) := by decide +kernel
theorem d_L_law_1043 : decode code 1043 = .ok (.lcmp, 1) := by decide +kernel
theorem d_L_law_1044 : decode code 1044 = .ok (.ifCond .eq 5, 3) := by decide +kernel
theorem d_L_law_1047 : decode code 1047 = .ok (.iconst 0, 1) := by decide +kernel
theorem d_L_law_1048 : decode code 1048 = .ok (.ireturn, 1) := by decide +kernel
theorem d_L_law_1049 : decode code 1049 = .ok (.goto 542, 3) := by decide +kernel
theorem d_L_law_1052 : decode code 1052 = .ok (.aload_n 1, 1) := by decide +kernel
theorem d_L_law_1053 : decode code 1053 = .ok (.aload_n 0, 1) := by decide +kernel
theorem d_L_law_1054 : decode code 1054 = .ok (.iload 4, 2) := by decide +kernel
theorem d_L_law_1056 : decode code 1056 = .ok (.iconst 1, 1) := by decide +kernel
theorem d_L_law_1057 : decode code 1057 = .ok (.iadd, 1) := by decide +kernel
theorem d_L_law_1058 : decode code 1058 = .ok (.iaload, 1) := by decide +kernel
theorem d_L_law_1059 : decode code 1059 = .ok (.aload_n 0, 1) := by decide +kernel
theorem d_L_law_1060 : decode code 1060 = .ok (.iload 4, 2) := by decide +kernel
theorem d_L_law_1062 : decode code 1062 = .ok (.iconst 2, 1) := by decide +kernel
theorem d_L_law_1063 : decode code 1063 = .ok (.iadd, 1) := by decide +kernel
theorem d_L_law_1064 : decode code 1064 = .ok (.iaload, 1) := by decide +kernel
theorem d_L_law_1065 : decode code 1065 = .ok (.aload_n 3, 1) := by decide +kernel
theorem d_L_law_1066 : decode code 1066 = .ok (.invokestatic 133, 3) := by decide +kernel
theorem d_L_law_1069 : decode code 1069 = .ok (.istore 5, 2) := by decide +kernel
theorem d_L_law_1071 : decode code 1071 = .ok (.aload_n 2, 1) := by decide +kernel
theorem d_L_law_1072 : decode code 1072 = .ok (.aload_n 0, 1) := by decide +kernel
theorem d_L_law_1073 : decode code 1073 = .ok (.iload 4, 2) := by decide +kernel
theorem d_L_law_1075 : decode code 1075 = .ok (.iconst 1, 1) := by decide +kernel
theorem d_L_law_1076 : decode code 1076 = .ok (.iadd, 1) := by decide +kernel
theorem d_L_law_1077 : decode code 1077 = .ok (.iaload, 1) := by decide +kernel
theorem d_L_law_1078 : decode code 1078 = .ok (.aload_n 0, 1) := by decide +kernel
theorem d_L_law_1079 : decode code 1079 = .ok (.iload 4, 2) := by decide +kernel
theorem d_L_law_1081 : decode code 1081 = .ok (.iconst 2, 1) := by decide +kernel
theorem d_L_law_1082 : decode code 1082 = .ok (.iadd, 1) := by decide +kernel
theorem d_L_law_1083 : decode code 1083 = .ok (.iaload, 1) := by decide +kernel
theorem d_L_law_1084 : decode code 1084 = .ok (.invokevirtual 135, 3) := by decide +kernel
theorem d_L_law_1087 : decode code 1087 = .ok (.istore 6, 2) := by decide +kernel
theorem d_L_law_1089 : decode code 1089 = .ok (.aload_n 2, 1) := by decide +kernel
theorem d_L_law_1090 : decode code 1090 = .ok (.invokevirtual 91, 3) := by decide +kernel
theorem d_L_law_1093 : decode code 1093 = .ok (.iload 5, 2) := by decide +kernel
theorem d_L_law_1095 : decode code 1095 = .ok (.if_icmp .eq 5, 3) := by decide +kernel
theorem d_L_law_1098 : decode code 1098 = .ok (.iconst 0, 1) := by decide +kernel
theorem d_L_law_1099 : decode code 1099 = .ok (.ireturn, 1) := by decide +kernel
theorem d_L_law_1100 : decode code 1100 = .ok (.iload 5, 2) := by decide +kernel
theorem d_L_law_1102 : decode code 1102 = .ok (.ifCond .ne 15, 3) := by decide +kernel
theorem d_L_law_1105 : decode code 1105 = .ok (.aload_n 3, 1) := by decide +kernel
theorem d_L_law_1106 : decode code 1106 = .ok (.iconst 0, 1) := by decide +kernel
theorem d_L_law_1107 : decode code 1107 = .ok (.laload, 1) := by decide +kernel
theorem d_L_law_1108 : decode code 1108 = .ok (.iload 6, 2) := by decide +kernel
theorem d_L_law_1110 : decode code 1110 = .ok (.i2l, 1) := by decide +kernel
theorem d_L_law_1111 : decode code 1111 = .ok (.lcmp, 1) := by decide +kernel
theorem d_L_law_1112 : decode code 1112 = .ok (.ifCond .eq 5, 3) := by decide +kernel
theorem d_L_law_1115 : decode code 1115 = .ok (.iconst 0, 1) := by decide +kernel
theorem d_L_law_1116 : decode code 1116 = .ok (.ireturn, 1) := by decide +kernel
theorem d_L_law_1117 : decode code 1117 = .ok (.goto 474, 3) := by decide +kernel
theorem d_L_law_1120 : decode code 1120 = .ok (.aload_n 1, 1) := by decide +kernel
theorem d_L_law_1121 : decode code 1121 = .ok (.aload_n 0, 1) := by decide +kernel
theorem d_L_law_1122 : decode code 1122 = .ok (.iload 4, 2) := by decide +kernel
theorem d_L_law_1124 : decode code 1124 = .ok (.iconst 1, 1) := by decide +kernel
theorem d_L_law_1125 : decode code 1125 = .ok (.iadd, 1) := by decide +kernel
theorem d_L_law_1126 : decode code 1126 = .ok (.iaload, 1) := by decide +kernel
theorem d_L_law_1127 : decode code 1127 = .ok (.aload_n 0, 1) := by decide +kernel
theorem d_L_law_1128 : decode code 1128 = .ok (.iload 4, 2) := by decide +kernel
theorem d_L_law_1130 : decode code 1130 = .ok (.iconst 2, 1) := by decide +kernel
theorem d_L_law_1131 : decode code 1131 = .ok (.iadd, 1) := by decide +kernel
theorem d_L_law_1132 : decode code 1132 = .ok (.iaload, 1) := by decide +kernel
theorem d_L_law_1133 : decode code 1133 = .ok (.aload_n 3, 1) := by decide +kernel
theorem d_L_law_1134 : decode code 1134 = .ok (.invokestatic 136, 3) := by decide +kernel
theorem d_L_law_1137 : decode code 1137 = .ok (.istore 5, 2) := by decide +kernel
theorem d_L_law_1139 : decode code 1139 = .ok (.aload_n 2, 1) := by decide +kernel
theorem d_L_law_1140 : decode code 1140 = .ok (.aload_n 0, 1) := by decide +kernel
theorem d_L_law_1141 : decode code 1141 = .ok (.iload 4, 2) := by decide +kernel
theorem d_L_law_1143 : decode code 1143 = .ok (.iconst 1, 1) := by decide +kernel
theorem d_L_law_1144 : decode code 1144 = .ok (.iadd, 1) := by decide +kernel
theorem d_L_law_1145 : decode code 1145 = .ok (.iaload, 1) := by decide +kernel
theorem d_L_law_1146 : decode code 1146 = .ok (.aload_n 0, 1) := by decide +kernel
theorem d_L_law_1147 : decode code 1147 = .ok (.iload 4, 2) := by decide +kernel
theorem d_L_law_1149 : decode code 1149 = .ok (.iconst 2, 1) := by decide +kernel
theorem d_L_law_1150 : decode code 1150 = .ok (.iadd, 1) := by decide +kernel
theorem d_L_law_1151 : decode code 1151 = .ok (.iaload, 1) := by decide +kernel
theorem d_L_law_1152 : decode code 1152 = .ok (.invokevirtual 138, 3) := by decide +kernel
theorem d_L_law_1155 : decode code 1155 = .ok (.istore 6, 2) := by decide +kernel
theorem d_L_law_1157 : decode code 1157 = .ok (.aload_n 2, 1) := by decide +kernel
theorem d_L_law_1158 : decode code 1158 = .ok (.invokevirtual 91, 3) := by decide +kernel
theorem d_L_law_1161 : decode code 1161 = .ok (.iload 5, 2) := by decide +kernel
theorem d_L_law_1163 : decode code 1163 = .ok (.if_icmp .eq 5, 3) := by decide +kernel
theorem d_L_law_1166 : decode code 1166 = .ok (.iconst 0, 1) := by decide +kernel
theorem d_L_law_1167 : decode code 1167 = .ok (.ireturn, 1) := by decide +kernel
theorem d_L_law_1168 : decode code 1168 = .ok (.iload 5, 2) := by decide +kernel
theorem d_L_law_1170 : decode code 1170 = .ok (.ifCond .ne 15, 3) := by decide +kernel
theorem d_L_law_1173 : decode code 1173 = .ok (.aload_n 3, 1) := by decide +kernel
theorem d_L_law_1174 : decode code 1174 = .ok (.iconst 0, 1) := by decide +kernel
theorem d_L_law_1175 : decode code 1175 = .ok (.laload, 1) := by decide +kernel
theorem d_L_law_1176 : decode code 1176 = .ok (.iload 6, 2) := by decide +kernel
theorem d_L_law_1178 : decode code 1178 = .ok (.i2l, 1) := by decide +kernel
theorem d_L_law_1179 : decode code 1179 = .ok (.lcmp, 1) := by decide +kernel
theorem d_L_law_1180 : decode code 1180 = .ok (.ifCond .eq 5, 3) := by decide +kernel
theorem d_L_law_1183 : decode code 1183 = .ok (.iconst 0, 1) := by decide +kernel
theorem d_L_law_1184 : decode code 1184 = .ok (.ireturn, 1) := by decide +kernel
theorem d_L_law_1185 : decode code 1185 = .ok (.goto 406, 3) := by decide +kernel
theorem d_L_law_1188 : decode code 1188 = .ok (.aload_n 1, 1) := by decide +kernel
theorem d_L_law_1189 : decode code 1189 = .ok (.aload_n 0, 1) := by decide +kernel
theorem d_L_law_1190 : decode code 1190 = .ok (.iload 4, 2) := by decide +kernel
theorem d_L_law_1192 : decode code 1192 = .ok (.iconst 1, 1) := by decide +kernel
theorem d_L_law_1193 : decode code 1193 = .ok (.iadd, 1) := by decide +kernel
theorem d_L_law_1194 : decode code 1194 = .ok (.iaload, 1) := by decide +kernel
theorem d_L_law_1195 : decode code 1195 = .ok (.aload_n 0, 1) := by decide +kernel
theorem d_L_law_1196 : decode code 1196 = .ok (.iload 4, 2) := by decide +kernel
theorem d_L_law_1198 : decode code 1198 = .ok (.iconst 2, 1) := by decide +kernel
theorem d_L_law_1199 : decode code 1199 = .ok (.iadd, 1) := by decide +kernel
theorem d_L_law_1200 : decode code 1200 = .ok (.iaload, 1) := by decide +kernel
theorem d_L_law_1201 : decode code 1201 = .ok (.aload_n 3, 1) := by decide +kernel
theorem d_L_law_1202 : decode code 1202 = .ok (.invokestatic 139, 3) := by decide +kernel
theorem d_L_law_1205 : decode code 1205 = .ok (.istore 5, 2) := by decide +kernel
theorem d_L_law_1207 : decode code 1207 = .ok (.aload_n 2, 1) := by decide +kernel
theorem d_L_law_1208 : decode code 1208 = .ok (.aload_n 0, 1) := by decide +kernel
theorem d_L_law_1209 : decode code 1209 = .ok (.iload 4, 2) := by decide +kernel
theorem d_L_law_1211 : decode code 1211 = .ok (.iconst 1, 1) := by decide +kernel
theorem d_L_law_1212 : decode code 1212 = .ok (.iadd, 1) := by decide +kernel
theorem d_L_law_1213 : decode code 1213 = .ok (.iaload, 1) := by decide +kernel
theorem d_L_law_1214 : decode code 1214 = .ok (.aload_n 0, 1) := by decide +kernel
theorem d_L_law_1215 : decode code 1215 = .ok (.iload 4, 2) := by decide +kernel
theorem d_L_law_1217 : decode code 1217 = .ok (.iconst 2, 1) := by decide +kernel
theorem d_L_law_1218 : decode code 1218 = .ok (.iadd, 1) := by decide +kernel
theorem d_L_law_1219 : decode code 1219 = .ok (.iaload, 1) := by decide +kernel
theorem d_L_law_1220 : decode code 1220 = .ok (.invokevirtual 141, 3) := by decide +kernel
theorem d_L_law_1223 : decode code 1223 = .ok (.istore 6, 2) := by decide +kernel
theorem d_L_law_1225 : decode code 1225 = .ok (.aload_n 2, 1) := by decide +kernel
theorem d_L_law_1226 : decode code 1226 = .ok (.invokevirtual 91, 3) := by decide +kernel
theorem d_L_law_1229 : decode code 1229 = .ok (.iload 5, 2) := by decide +kernel
theorem d_L_law_1231 : decode code 1231 = .ok (.if_icmp .eq 5, 3) := by decide +kernel
theorem d_L_law_1234 : decode code 1234 = .ok (.iconst 0, 1) := by decide +kernel
theorem d_L_law_1235 : decode code 1235 = .ok (.ireturn, 1) := by decide +kernel
theorem d_L_law_1236 : decode code 1236 = .ok (.iload 5, 2) := by decide +kernel
theorem d_L_law_1238 : decode code 1238 = .ok (.ifCond .ne 15, 3) := by decide +kernel
theorem d_L_law_1241 : decode code 1241 = .ok (.aload_n 3, 1) := by decide +kernel
theorem d_L_law_1242 : decode code 1242 = .ok (.iconst 0, 1) := by decide +kernel
theorem d_L_law_1243 : decode code 1243 = .ok (.laload, 1) := by decide +kernel
theorem d_L_law_1244 : decode code 1244 = .ok (.iload 6, 2) := by decide +kernel
theorem d_L_law_1246 : decode code 1246 = .ok (.i2l, 1) := by decide +kernel
theorem d_L_law_1247 : decode code 1247 = .ok (.lcmp, 1) := by decide +kernel
theorem d_L_law_1248 : decode code 1248 = .ok (.ifCond .eq 5, 3) := by decide +kernel
theorem d_L_law_1251 : decode code 1251 = .ok (.iconst 0, 1) := by decide +kernel
theorem d_L_law_1252 : decode code 1252 = .ok (.ireturn, 1) := by decide +kernel
theorem d_L_law_1253 : decode code 1253 = .ok (.goto 338, 3) := by decide +kernel
theorem d_L_law_1256 : decode code 1256 = .ok (.aload_n 1, 1) := by decide +kernel
theorem d_L_law_1257 : decode code 1257 = .ok (.aload_n 0, 1) := by decide +kernel
theorem d_L_law_1258 : decode code 1258 = .ok (.iload 4, 2) := by decide +kernel
theorem d_L_law_1260 : decode code 1260 = .ok (.iconst 1, 1) := by decide +kernel
theorem d_L_law_1261 : decode code 1261 = .ok (.iadd, 1) := by decide +kernel
theorem d_L_law_1262 : decode code 1262 = .ok (.iaload, 1) := by decide +kernel
theorem d_L_law_1263 : decode code 1263 = .ok (.aload_n 0, 1) := by decide +kernel
theorem d_L_law_1264 : decode code 1264 = .ok (.iload 4, 2) := by decide +kernel
theorem d_L_law_1266 : decode code 1266 = .ok (.iconst 2, 1) := by decide +kernel
theorem d_L_law_1267 : decode code 1267 = .ok (.iadd, 1) := by decide +kernel
theorem d_L_law_1268 : decode code 1268 = .ok (.iaload, 1) := by decide +kernel
theorem d_L_law_1269 : decode code 1269 = .ok (.i2l, 1) := by decide +kernel
theorem d_L_law_1270 : decode code 1270 = .ok (.bipush 32, 2) := by decide +kernel
theorem d_L_law_1272 : decode code 1272 = .ok (.lshl, 1) := by decide +kernel
theorem d_L_law_1273 : decode code 1273 = .ok (.aload_n 0, 1) := by decide +kernel
theorem d_L_law_1274 : decode code 1274 = .ok (.iload 4, 2) := by decide +kernel
theorem d_L_law_1276 : decode code 1276 = .ok (.iconst 3, 1) := by decide +kernel
theorem d_L_law_1277 : decode code 1277 = .ok (.iadd, 1) := by decide +kernel
theorem d_L_law_1278 : decode code 1278 = .ok (.iaload, 1) := by decide +kernel
theorem d_L_law_1279 : decode code 1279 = .ok (.i2l, 1) := by decide +kernel
theorem d_L_law_1280 : decode code 1280 = .ok (.ldc2_w 99, 3) := by decide +kernel
theorem d_L_law_1283 : decode code 1283 = .ok (.land, 1) := by decide +kernel
theorem d_L_law_1284 : decode code 1284 = .ok (.lor, 1) := by decide +kernel
theorem d_L_law_1285 : decode code 1285 = .ok (.aload_n 3, 1) := by decide +kernel
theorem d_L_law_1286 : decode code 1286 = .ok (.invokestatic 142, 3) := by decide +kernel
theorem d_L_law_1289 : decode code 1289 = .ok (.istore 5, 2) := by decide +kernel
theorem d_L_law_1291 : decode code 1291 = .ok (.aload_n 2, 1) := by decide +kernel
theorem d_L_law_1292 : decode code 1292 = .ok (.aload_n 0, 1) := by decide +kernel
theorem d_L_law_1293 : decode code 1293 = .ok (.iload 4, 2) := by decide +kernel
theorem d_L_law_1295 : decode code 1295 = .ok (.iconst 1, 1) := by decide +kernel
theorem d_L_law_1296 : decode code 1296 = .ok (.iadd, 1) := by decide +kernel
theorem d_L_law_1297 : decode code 1297 = .ok (.iaload, 1) := by decide +kernel
theorem d_L_law_1298 : decode code 1298 = .ok (.aload_n 0, 1) := by decide +kernel
theorem d_L_law_1299 : decode code 1299 = .ok (.iload 4, 2) := by decide +kernel
theorem d_L_law_1301 : decode code 1301 = .ok (.iconst 2, 1) := by decide +kernel
theorem d_L_law_1302 : decode code 1302 = .ok (.iadd, 1) := by decide +kernel
theorem d_L_law_1303 : decode code 1303 = .ok (.iaload, 1) := by decide +kernel
theorem d_L_law_1304 : decode code 1304 = .ok (.i2l, 1) := by decide +kernel
theorem d_L_law_1305 : decode code 1305 = .ok (.bipush 32, 2) := by decide +kernel
theorem d_L_law_1307 : decode code 1307 = .ok (.lshl, 1) := by decide +kernel
theorem d_L_law_1308 : decode code 1308 = .ok (.aload_n 0, 1) := by decide +kernel
theorem d_L_law_1309 : decode code 1309 = .ok (.iload 4, 2) := by decide +kernel
theorem d_L_law_1311 : decode code 1311 = .ok (.iconst 3, 1) := by decide +kernel
theorem d_L_law_1312 : decode code 1312 = .ok (.iadd, 1) := by decide +kernel
theorem d_L_law_1313 : decode code 1313 = .ok (.iaload, 1) := by decide +kernel
theorem d_L_law_1314 : decode code 1314 = .ok (.i2l, 1) := by decide +kernel
theorem d_L_law_1315 : decode code 1315 = .ok (.ldc2_w 99, 3) := by decide +kernel
theorem d_L_law_1318 : decode code 1318 = .ok (.land, 1) := by decide +kernel
theorem d_L_law_1319 : decode code 1319 = .ok (.lor, 1) := by decide +kernel
theorem d_L_law_1320 : decode code 1320 = .ok (.invokevirtual 144, 3) := by decide +kernel
theorem d_L_law_1323 : decode code 1323 = .ok (.lstore 6, 2) := by decide +kernel
theorem d_L_law_1325 : decode code 1325 = .ok (.aload_n 2, 1) := by decide +kernel
theorem d_L_law_1326 : decode code 1326 = .ok (.invokevirtual 91, 3) := by decide +kernel
theorem d_L_law_1329 : decode code 1329 = .ok (.iload 5, 2) := by decide +kernel
theorem d_L_law_1331 : decode code 1331 = .ok (.if_icmp .eq 5, 3) := by decide +kernel
theorem d_L_law_1334 : decode code 1334 = .ok (.iconst 0, 1) := by decide +kernel
theorem d_L_law_1335 : decode code 1335 = .ok (.ireturn, 1) := by decide +kernel
theorem d_L_law_1336 : decode code 1336 = .ok (.iload 5, 2) := by decide +kernel
theorem d_L_law_1338 : decode code 1338 = .ok (.ifCond .ne 14, 3) := by decide +kernel
theorem d_L_law_1341 : decode code 1341 = .ok (.aload_n 3, 1) := by decide +kernel
theorem d_L_law_1342 : decode code 1342 = .ok (.iconst 0, 1) := by decide +kernel
theorem d_L_law_1343 : decode code 1343 = .ok (.laload, 1) := by decide +kernel
theorem d_L_law_1344 : decode code 1344 = .ok (.lload 6, 2) := by decide +kernel
theorem d_L_law_1346 : decode code 1346 = .ok (.lcmp, 1) := by decide +kernel
theorem d_L_law_1347 : decode code 1347 = .ok (.ifCond .eq 5, 3) := by decide +kernel
theorem d_L_law_1350 : decode code 1350 = .ok (.iconst 0, 1) := by decide +kernel
theorem d_L_law_1351 : decode code 1351 = .ok (.ireturn, 1) := by decide +kernel
theorem d_L_law_1352 : decode code 1352 = .ok (.goto 239, 3) := by decide +kernel
theorem d_L_law_1355 : decode code 1355 = .ok (.aload_n 1, 1) := by decide +kernel
theorem d_L_law_1356 : decode code 1356 = .ok (.aload_n 0, 1) := by decide +kernel
theorem d_L_law_1357 : decode code 1357 = .ok (.iload 4, 2) := by decide +kernel
theorem d_L_law_1359 : decode code 1359 = .ok (.iconst 1, 1) := by decide +kernel
theorem d_L_law_1360 : decode code 1360 = .ok (.iadd, 1) := by decide +kernel
theorem d_L_law_1361 : decode code 1361 = .ok (.iaload, 1) := by decide +kernel
theorem d_L_law_1362 : decode code 1362 = .ok (.aload_n 3, 1) := by decide +kernel
theorem d_L_law_1363 : decode code 1363 = .ok (.invokestatic 145, 3) := by decide +kernel
theorem d_L_law_1366 : decode code 1366 = .ok (.istore 5, 2) := by decide +kernel
theorem d_L_law_1368 : decode code 1368 = .ok (.aload_n 2, 1) := by decide +kernel
theorem d_L_law_1369 : decode code 1369 = .ok (.aload_n 0, 1) := by decide +kernel
theorem d_L_law_1370 : decode code 1370 = .ok (.iload 4, 2) := by decide +kernel
theorem d_L_law_1372 : decode code 1372 = .ok (.iconst 1, 1) := by decide +kernel
theorem d_L_law_1373 : decode code 1373 = .ok (.iadd, 1) := by decide +kernel
theorem d_L_law_1374 : decode code 1374 = .ok (.iaload, 1) := by decide +kernel
theorem d_L_law_1375 : decode code 1375 = .ok (.invokevirtual 147, 3) := by decide +kernel
theorem d_L_law_1378 : decode code 1378 = .ok (.istore 6, 2) := by decide +kernel
theorem d_L_law_1380 : decode code 1380 = .ok (.aload_n 2, 1) := by decide +kernel
theorem d_L_law_1381 : decode code 1381 = .ok (.invokevirtual 91, 3) := by decide +kernel
theorem d_L_law_1384 : decode code 1384 = .ok (.iload 5, 2) := by decide +kernel
theorem d_L_law_1386 : decode code 1386 = .ok (.if_icmp .eq 5, 3) := by decide +kernel
theorem d_L_law_1389 : decode code 1389 = .ok (.iconst 0, 1) := by decide +kernel
theorem d_L_law_1390 : decode code 1390 = .ok (.ireturn, 1) := by decide +kernel
theorem d_L_law_1391 : decode code 1391 = .ok (.iload 5, 2) := by decide +kernel
theorem d_L_law_1393 : decode code 1393 = .ok (.ifCond .ne 15, 3) := by decide +kernel
theorem d_L_law_1396 : decode code 1396 = .ok (.aload_n 3, 1) := by decide +kernel
theorem d_L_law_1397 : decode code 1397 = .ok (.iconst 0, 1) := by decide +kernel
theorem d_L_law_1398 : decode code 1398 = .ok (.laload, 1) := by decide +kernel
theorem d_L_law_1399 : decode code 1399 = .ok (.iload 6, 2) := by decide +kernel
theorem d_L_law_1401 : decode code 1401 = .ok (.i2l, 1) := by decide +kernel
theorem d_L_law_1402 : decode code 1402 = .ok (.lcmp, 1) := by decide +kernel
theorem d_L_law_1403 : decode code 1403 = .ok (.ifCond .eq 5, 3) := by decide +kernel
theorem d_L_law_1406 : decode code 1406 = .ok (.iconst 0, 1) := by decide +kernel
theorem d_L_law_1407 : decode code 1407 = .ok (.ireturn, 1) := by decide +kernel
theorem d_L_law_1408 : decode code 1408 = .ok (.goto 183, 3) := by decide +kernel
theorem d_L_law_1411 : decode code 1411 = .ok (.aload_n 1, 1) := by decide +kernel
theorem d_L_law_1412 : decode code 1412 = .ok (.aload_n 0, 1) := by decide +kernel
theorem d_L_law_1413 : decode code 1413 = .ok (.iload 4, 2) := by decide +kernel
theorem d_L_law_1415 : decode code 1415 = .ok (.iconst 1, 1) := by decide +kernel
theorem d_L_law_1416 : decode code 1416 = .ok (.iadd, 1) := by decide +kernel
theorem d_L_law_1417 : decode code 1417 = .ok (.iaload, 1) := by decide +kernel
theorem d_L_law_1418 : decode code 1418 = .ok (.aload_n 3, 1) := by decide +kernel
theorem d_L_law_1419 : decode code 1419 = .ok (.invokestatic 148, 3) := by decide +kernel
theorem d_L_law_1422 : decode code 1422 = .ok (.istore 5, 2) := by decide +kernel
theorem d_L_law_1424 : decode code 1424 = .ok (.aload_n 2, 1) := by decide +kernel
theorem d_L_law_1425 : decode code 1425 = .ok (.aload_n 0, 1) := by decide +kernel
theorem d_L_law_1426 : decode code 1426 = .ok (.iload 4, 2) := by decide +kernel
theorem d_L_law_1428 : decode code 1428 = .ok (.iconst 1, 1) := by decide +kernel
theorem d_L_law_1429 : decode code 1429 = .ok (.iadd, 1) := by decide +kernel
theorem d_L_law_1430 : decode code 1430 = .ok (.iaload, 1) := by decide +kernel
theorem d_L_law_1431 : decode code 1431 = .ok (.invokevirtual 150, 3) := by decide +kernel
theorem d_L_law_1434 : decode code 1434 = .ok (.istore 6, 2) := by decide +kernel
theorem d_L_law_1436 : decode code 1436 = .ok (.aload_n 2, 1) := by decide +kernel
theorem d_L_law_1437 : decode code 1437 = .ok (.invokevirtual 91, 3) := by decide +kernel
theorem d_L_law_1440 : decode code 1440 = .ok (.iload 5, 2) := by decide +kernel
theorem d_L_law_1442 : decode code 1442 = .ok (.if_icmp .eq 5, 3) := by decide +kernel
theorem d_L_law_1445 : decode code 1445 = .ok (.iconst 0, 1) := by decide +kernel
theorem d_L_law_1446 : decode code 1446 = .ok (.ireturn, 1) := by decide +kernel
theorem d_L_law_1447 : decode code 1447 = .ok (.iload 5, 2) := by decide +kernel
theorem d_L_law_1449 : decode code 1449 = .ok (.ifCond .ne 15, 3) := by decide +kernel
theorem d_L_law_1452 : decode code 1452 = .ok (.aload_n 3, 1) := by decide +kernel
theorem d_L_law_1453 : decode code 1453 = .ok (.iconst 0, 1) := by decide +kernel
theorem d_L_law_1454 : decode code 1454 = .ok (.laload, 1) := by decide +kernel
theorem d_L_law_1455 : decode code 1455 = .ok (.iload 6, 2) := by decide +kernel
theorem d_L_law_1457 : decode code 1457 = .ok (.i2l, 1) := by decide +kernel
theorem d_L_law_1458 : decode code 1458 = .ok (.lcmp, 1) := by decide +kernel
theorem d_L_law_1459 : decode code 1459 = .ok (.ifCond .eq 5, 3) := by decide +kernel
theorem d_L_law_1462 : decode code 1462 = .ok (.iconst 0, 1) := by decide +kernel
theorem d_L_law_1463 : decode code 1463 = .ok (.ireturn, 1) := by decide +kernel
theorem d_L_law_1464 : decode code 1464 = .ok (.goto 127, 3) := by decide +kernel
theorem d_L_law_1467 : decode code 1467 = .ok (.aload_n 1, 1) := by decide +kernel
theorem d_L_law_1468 : decode code 1468 = .ok (.aload_n 0, 1) := by decide +kernel
theorem d_L_law_1469 : decode code 1469 = .ok (.iload 4, 2) := by decide +kernel
theorem d_L_law_1471 : decode code 1471 = .ok (.iconst 1, 1) := by decide +kernel
theorem d_L_law_1472 : decode code 1472 = .ok (.iadd, 1) := by decide +kernel
theorem d_L_law_1473 : decode code 1473 = .ok (.iaload, 1) := by decide +kernel
theorem d_L_law_1474 : decode code 1474 = .ok (.aload_n 3, 1) := by decide +kernel
theorem d_L_law_1475 : decode code 1475 = .ok (.invokestatic 151, 3) := by decide +kernel
theorem d_L_law_1478 : decode code 1478 = .ok (.istore 5, 2) := by decide +kernel
theorem d_L_law_1480 : decode code 1480 = .ok (.aload_n 2, 1) := by decide +kernel
theorem d_L_law_1481 : decode code 1481 = .ok (.aload_n 0, 1) := by decide +kernel
theorem d_L_law_1482 : decode code 1482 = .ok (.iload 4, 2) := by decide +kernel
theorem d_L_law_1484 : decode code 1484 = .ok (.iconst 1, 1) := by decide +kernel
theorem d_L_law_1485 : decode code 1485 = .ok (.iadd, 1) := by decide +kernel
theorem d_L_law_1486 : decode code 1486 = .ok (.iaload, 1) := by decide +kernel
theorem d_L_law_1487 : decode code 1487 = .ok (.invokevirtual 153, 3) := by decide +kernel
theorem d_L_law_1490 : decode code 1490 = .ok (.istore 6, 2) := by decide +kernel
theorem d_L_law_1492 : decode code 1492 = .ok (.aload_n 2, 1) := by decide +kernel
theorem d_L_law_1493 : decode code 1493 = .ok (.invokevirtual 91, 3) := by decide +kernel
theorem d_L_law_1496 : decode code 1496 = .ok (.iload 5, 2) := by decide +kernel
theorem d_L_law_1498 : decode code 1498 = .ok (.if_icmp .eq 5, 3) := by decide +kernel
theorem d_L_law_1501 : decode code 1501 = .ok (.iconst 0, 1) := by decide +kernel
theorem d_L_law_1502 : decode code 1502 = .ok (.ireturn, 1) := by decide +kernel
theorem d_L_law_1503 : decode code 1503 = .ok (.iload 5, 2) := by decide +kernel
theorem d_L_law_1505 : decode code 1505 = .ok (.ifCond .ne 15, 3) := by decide +kernel
theorem d_L_law_1508 : decode code 1508 = .ok (.aload_n 3, 1) := by decide +kernel
theorem d_L_law_1509 : decode code 1509 = .ok (.iconst 0, 1) := by decide +kernel
theorem d_L_law_1510 : decode code 1510 = .ok (.laload, 1) := by decide +kernel
theorem d_L_law_1511 : decode code 1511 = .ok (.iload 6, 2) := by decide +kernel
theorem d_L_law_1513 : decode code 1513 = .ok (.i2l, 1) := by decide +kernel
theorem d_L_law_1514 : decode code 1514 = .ok (.lcmp, 1) := by decide +kernel
theorem d_L_law_1515 : decode code 1515 = .ok (.ifCond .eq 5, 3) := by decide +kernel
theorem d_L_law_1518 : decode code 1518 = .ok (.iconst 0, 1) := by decide +kernel
theorem d_L_law_1519 : decode code 1519 = .ok (.ireturn, 1) := by decide +kernel
theorem d_L_law_1520 : decode code 1520 = .ok (.goto 71, 3) := by decide +kernel
theorem d_L_law_1523 : decode code 1523 = .ok (.aload_n 1, 1) := by decide +kernel
theorem d_L_law_1524 : decode code 1524 = .ok (.aload_n 0, 1) := by decide +kernel
theorem d_L_law_1525 : decode code 1525 = .ok (.iload 4, 2) := by decide +kernel
theorem d_L_law_1527 : decode code 1527 = .ok (.iconst 1, 1) := by decide +kernel
theorem d_L_law_1528 : decode code 1528 = .ok (.iadd, 1) := by decide +kernel
theorem d_L_law_1529 : decode code 1529 = .ok (.iaload, 1) := by decide +kernel
theorem d_L_law_1530 : decode code 1530 = .ok (.aload_n 0, 1) := by decide +kernel
theorem d_L_law_1531 : decode code 1531 = .ok (.iload 4, 2) := by decide +kernel
