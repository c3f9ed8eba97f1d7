theorem d_Law_983 : decode code 983 = .ok (.iadd, 1) := by decide +kernel
theorem d_Law_984 : decode code 984 = .ok (.iaload, 1) := by decide +kernel
theorem d_Law_985 : decode code 985 = .ok (.aload_n 3, 1) := by decide +kernel
theorem d_Law_986 : decode code 986 = .ok (.invokestatic 144, 3) := by decide +kernel
theorem d_Law_989 : decode code 989 = .ok (.istore 5, 2) := by decide +kernel
theorem d_Law_991 : decode code 991 = .ok (.aload_n 2, 1) := by decide +kernel
theorem d_Law_992 : decode code 992 = .ok (.aload_n 0, 1) := by decide +kernel
theorem d_Law_993 : decode code 993 = .ok (.iload 4, 2) := by decide +kernel
theorem d_Law_995 : decode code 995 = .ok (.iconst 1, 1) := by decide +kernel
theorem d_Law_996 : decode code 996 = .ok (.iadd, 1) := by decide +kernel
theorem d_Law_997 : decode code 997 = .ok (.iaload, 1) := by decide +kernel
theorem d_Law_998 : decode code 998 = .ok (.i2l, 1) := by decide +kernel
theorem d_Law_999 : decode code 999 = .ok (.bipush 32, 2) := by decide +kernel
theorem d_Law_1001 : decode code 1001 = .ok (.lshl, 1) := by decide +kernel
theorem d_Law_1002 : decode code 1002 = .ok (.aload_n 0, 1) := by decide +kernel
theorem d_Law_1003 : decode code 1003 = .ok (.iload 4, 2) := by decide +kernel
theorem d_Law_1005 : decode code 1005 = .ok (.iconst 2, 1) := by decide +kernel
theorem d_Law_1006 : decode code 1006 = .ok (.iadd, 1) := by decide +kernel
theorem d_Law_1007 : decode code 1007 = .ok (.iaload, 1) := by decide +kernel
theorem d_Law_1008 : decode code 1008 = .ok (.i2l, 1) := by decide +kernel
theorem d_Law_1009 : decode code 1009 = .ok (.ldc2_w 142, 3) := by decide +kernel
theorem d_Law_1012 : decode code 1012 = .ok (.land, 1) := by decide +kernel
theorem d_Law_1013 : decode code 1013 = .ok (.lor, 1) := by decide +kernel
theorem d_Law_1014 : decode code 1014 = .ok (.aload_n 0, 1) := by decide +kernel
theorem d_Law_1015 : decode code 1015 = .ok (.iload 4, 2) := by decide +kernel
theorem d_Law_1017 : decode code 1017 = .ok (.iconst 3, 1) := by decide +kernel
theorem d_Law_1018 : decode code 1018 = .ok (.iadd, 1) := by decide +kernel
theorem d_Law_1019 : decode code 1019 = .ok (.iaload, 1) := by decide +kernel
theorem d_Law_1020 : decode code 1020 = .ok (.invokevirtual 147, 3) := by decide +kernel
theorem d_Law_1023 : decode code 1023 = .ok (.istore 6, 2) := by decide +kernel
theorem d_Law_1025 : decode code 1025 = .ok (.aload_n 2, 1) := by decide +kernel
theorem d_Law_1026 : decode code 1026 = .ok (.invokevirtual 96, 3) := by decide +kernel
theorem d_Law_1029 : decode code 1029 = .ok (.iload 5, 2) := by decide +kernel
theorem d_Law_1031 : decode code 1031 = .ok (.if_icmp .eq 5, 3) := by decide +kernel
theorem d_Law_1034 : decode code 1034 = .ok (.iconst 0, 1) := by decide +kernel
theorem d_Law_1035 : decode code 1035 = .ok (.ireturn, 1) := by decide +kernel
theorem d_Law_1036 : decode code 1036 = .ok (.iload 5, 2) := by decide +kernel
theorem d_Law_1038 : decode code 1038 = .ok (.ifCond .ne 15, 3) := by decide +kernel
theorem d_Law_1041 : decode code 1041 = .ok (.aload_n 3, 1) := by decide +kernel
theorem d_Law_1042 : decode code 1042 = .ok (.iconst 0, 1) := by decide +kernel
theorem d_Law_1043 : decode code 1043 = .ok (.laload, 1) := by decide +kernel
theorem d_Law_1044 : decode code 1044 = .ok (.iload 6, 2) := by decide +kernel
theorem d_Law_1046 : decode code 1046 = .ok (.i2l, 1) := by decide +kernel
theorem d_Law_1047 : decode code 1047 = .ok (.lcmp, 1) := by decide +kernel
theorem d_Law_1048 : decode code 1048 = .ok (.ifCond .eq 5, 3) := by decide +kernel
theorem d_Law_1051 : decode code 1051 = .ok (.iconst 0, 1) := by decide +kernel
theorem d_Law_1052 : decode code 1052 = .ok (.ireturn, 1) := by decide +kernel
theorem d_Law_1053 : decode code 1053 = .ok (.goto 384, 3) := by decide +kernel
theorem d_Law_1056 : decode code 1056 = .ok (.aload_n 1, 1) := by decide +kernel
theorem d_Law_1057 : decode code 1057 = .ok (.aload_n 0, 1) := by decide +kernel
theorem d_Law_1058 : decode code 1058 = .ok (.iload 4, 2) := by decide +kernel
theorem d_Law_1060 : decode code 1060 = .ok (.iconst 1, 1) := by decide +kernel
theorem d_Law_1061 : decode code 1061 = .ok (.iadd, 1) := by decide +kernel
theorem d_Law_1062 : decode code 1062 = .ok (.iaload, 1) := by decide +kernel
theorem d_Law_1063 : decode code 1063 = .ok (.aload_n 3, 1) := by decide +kernel
theorem d_Law_1064 : decode code 1064 = .ok (.invokestatic 148, 3) := by decide +kernel
theorem d_Law_1067 : decode code 1067 = .ok (.istore 5, 2) := by decide +kernel
theorem d_Law_1069 : decode code 1069 = .ok (.aload_n 2, 1) := by decide +kernel
theorem d_Law_1070 : decode code 1070 = .ok (.aload_n 0, 1) := by decide +kernel
theorem d_Law_1071 : decode code 1071 = .ok (.iload 4, 2) := by decide +kernel
theorem d_Law_1073 : decode code 1073 = .ok (.iconst 1, 1) := by decide +kernel
theorem d_Law_1074 : decode code 1074 = .ok (.iadd, 1) := by decide +kernel
theorem d_Law_1075 : decode code 1075 = .ok (.iaload, 1) := by decide +kernel
theorem d_Law_1076 : decode code 1076 = .ok (.invokevirtual 151, 3) := by decide +kernel
theorem d_Law_1079 : decode code 1079 = .ok (.istore 6, 2) := by decide +kernel
theorem d_Law_1081 : decode code 1081 = .ok (.aload_n 2, 1) := by decide +kernel
theorem d_Law_1082 : decode code 1082 = .ok (.invokevirtual 96, 3) := by decide +kernel
theorem d_Law_1085 : decode code 1085 = .ok (.iload 5, 2) := by decide +kernel
theorem d_Law_1087 : decode code 1087 = .ok (.if_icmp .eq 5, 3) := by decide +kernel
theorem d_Law_1090 : decode code 1090 = .ok (.iconst 0, 1) := by decide +kernel
theorem d_Law_1091 : decode code 1091 = .ok (.ireturn, 1) := by decide +kernel
theorem d_Law_1092 : decode code 1092 = .ok (.iload 5, 2) := by decide +kernel
theorem d_Law_1094 : decode code 1094 = .ok (.ifCond .ne 15, 3) := by decide +kernel
theorem d_Law_1097 : decode code 1097 = .ok (.aload_n 3, 1) := by decide +kernel
theorem d_Law_1098 : decode code 1098 = .ok (.iconst 0, 1) := by decide +kernel
theorem d_Law_1099 : decode code 1099 = .ok (.laload, 1) := by decide +kernel
theorem d_Law_1100 : decode code 1100 = .ok (.iload 6, 2) := by decide +kernel
theorem d_Law_1102 : decode code 1102 = .ok (.i2l, 1) := by decide +kernel
theorem d_Law_1103 : decode code 1103 = .ok (.lcmp, 1) := by decide +kernel
theorem d_Law_1104 : decode code 1104 = .ok (.ifCond .eq 5, 3) := by decide +kernel
theorem d_Law_1107 : decode code 1107 = .ok (.iconst 0, 1) := by decide +kernel
theorem d_Law_1108 : decode code 1108 = .ok (.ireturn, 1) := by decide +kernel
theorem d_Law_1109 : decode code 1109 = .ok (.goto 328, 3) := by decide +kernel
theorem d_Law_1112 : decode code 1112 = .ok (.aload_n 1, 1) := by decide +kernel
theorem d_Law_1113 : decode code 1113 = .ok (.aload_n 0, 1) := by decide +kernel
theorem d_Law_1114 : decode code 1114 = .ok (.iload 4, 2) := by decide +kernel
theorem d_Law_1116 : decode code 1116 = .ok (.iconst 1, 1) := by decide +kernel
theorem d_Law_1117 : decode code 1117 = .ok (.iadd, 1) := by decide +kernel
theorem d_Law_1118 : decode code 1118 = .ok (.iaload, 1) := by decide +kernel
theorem d_Law_1119 : decode code 1119 = .ok (.aload_n 0, 1) := by decide +kernel
theorem d_Law_1120 : decode code 1120 = .ok (.iload 4, 2) := by decide +kernel
theorem d_Law_1122 : decode code 1122 = .ok (.iconst 2, 1) := by decide +kernel
theorem d_Law_1123 : decode code 1123 = .ok (.iadd, 1) := by decide +kernel
theorem d_Law_1124 : decode code 1124 = .ok (.iaload, 1) := by decide +kernel
theorem d_Law_1125 : decode code 1125 = .ok (.invokestatic 152, 3) := by decide +kernel
theorem d_Law_1128 : decode code 1128 = .ok (.istore 5, 2) := by decide +kernel
theorem d_Law_1130 : decode code 1130 = .ok (.aload_n 2, 1) := by decide +kernel
theorem d_Law_1131 : decode code 1131 = .ok (.aload_n 0, 1) := by decide +kernel
theorem d_Law_1132 : decode code 1132 = .ok (.iload 4, 2) := by decide +kernel
theorem d_Law_1134 : decode code 1134 = .ok (.iconst 1, 1) := by decide +kernel
theorem d_Law_1135 : decode code 1135 = .ok (.iadd, 1) := by decide +kernel
theorem d_Law_1136 : decode code 1136 = .ok (.iaload, 1) := by decide +kernel
theorem d_Law_1137 : decode code 1137 = .ok (.aload_n 0, 1) := by decide +kernel
theorem d_Law_1138 : decode code 1138 = .ok (.iload 4, 2) := by decide +kernel
theorem d_Law_1140 : decode code 1140 = .ok (.iconst 2, 1) := by decide +kernel
theorem d_Law_1141 : decode code 1141 = .ok (.iadd, 1) := by decide +kernel
theorem d_Law_1142 : decode code 1142 = .ok (.iaload, 1) := by decide +kernel
theorem d_Law_1143 : decode code 1143 = .ok (.invokevirtual 154, 3) := by decide +kernel
theorem d_Law_1146 : decode code 1146 = .ok (.aload_n 2, 1) := by decide +kernel
theorem d_Law_1147 : decode code 1147 = .ok (.invokevirtual 96, 3) := by decide +kernel
theorem d_Law_1150 : decode code 1150 = .ok (.iload 5, 2) := by decide +kernel
theorem d_Law_1152 : decode code 1152 = .ok (.if_icmp .eq 5, 3) := by decide +kernel
theorem d_Law_1155 : decode code 1155 = .ok (.iconst 0, 1) := by decide +kernel
theorem d_Law_1156 : decode code 1156 = .ok (.ireturn, 1) := by decide +kernel
theorem d_Law_1157 : decode code 1157 = .ok (.goto 280, 3) := by decide +kernel
theorem d_Law_1160 : decode code 1160 = .ok (.aload_n 1, 1) := by decide +kernel
theorem d_Law_1161 : decode code 1161 = .ok (.aload_n 0, 1) := by decide +kernel
theorem d_Law_1162 : decode code 1162 = .ok (.iload 4, 2) := by decide +kernel
theorem d_Law_1164 : decode code 1164 = .ok (.iconst 1, 1) := by decide +kernel
theorem d_Law_1165 : decode code 1165 = .ok (.iadd, 1) := by decide +kernel
theorem d_Law_1166 : decode code 1166 = .ok (.iaload, 1) := by decide +kernel
theorem d_Law_1167 : decode code 1167 = .ok (.aload_n 0, 1) := by decide +kernel
theorem d_Law_1168 : decode code 1168 = .ok (.iload 4, 2) := by decide +kernel
theorem d_Law_1170 : decode code 1170 = .ok (.iconst 2, 1) := by decide +kernel
theorem d_Law_1171 : decode code 1171 = .ok (.iadd, 1) := by decide +kernel
theorem d_Law_1172 : decode code 1172 = .ok (.iaload, 1) := by decide +kernel
theorem d_Law_1173 : decode code 1173 = .ok (.aload_n 0, 1) := by decide +kernel
theorem d_Law_1174 : decode code 1174 = .ok (.iload 4, 2) := by decide +kernel
theorem d_Law_1176 : decode code 1176 = .ok (.iconst 3, 1) := by decide +kernel
theorem d_Law_1177 : decode code 1177 = .ok (.iadd, 1) := by decide +kernel
theorem d_Law_1178 : decode code 1178 = .ok (.iaload, 1) := by decide +kernel
theorem d_Law_1179 : decode code 1179 = .ok (.aload_n 3, 1) := by decide +kernel
theorem d_Law_1180 : decode code 1180 = .ok (.invokestatic 155, 3) := by decide +kernel
theorem d_Law_1183 : decode code 1183 = .ok (.istore 5, 2) := by decide +kernel
theorem d_Law_1185 : decode code 1185 = .ok (.aload_n 2, 1) := by decide +kernel
theorem d_Law_1186 : decode code 1186 = .ok (.aload_n 0, 1) := by decide +kernel
theorem d_Law_1187 : decode code 1187 = .ok (.iload 4, 2) := by decide +kernel
theorem d_Law_1189 : decode code 1189 = .ok (.iconst 1, 1) := by decide +kernel
theorem d_Law_1190 : decode code 1190 = .ok (.iadd, 1) := by decide +kernel
theorem d_Law_1191 : decode code 1191 = .ok (.iaload, 1) := by decide +kernel
theorem d_Law_1192 : decode code 1192 = .ok (.aload_n 0, 1) := by decide +kernel
theorem d_Law_1193 : decode code 1193 = .ok (.iload 4, 2) := by decide +kernel
theorem d_Law_1195 : decode code 1195 = .ok (.iconst 2, 1) := by decide +kernel
theorem d_Law_1196 : decode code 1196 = .ok (.iadd, 1) := by decide +kernel
theorem d_Law_1197 : decode code 1197 = .ok (.iaload, 1) := by decide +kernel
theorem d_Law_1198 : decode code 1198 = .ok (.aload_n 0, 1) := by decide +kernel
theorem d_Law_1199 : decode code 1199 = .ok (.iload 4, 2) := by decide +kernel
theorem d_Law_1201 : decode code 1201 = .ok (.iconst 3, 1) := by decide +kernel
theorem d_Law_1202 : decode code 1202 = .ok (.iadd, 1) := by decide +kernel
theorem d_Law_1203 : decode code 1203 = .ok (.iaload, 1) := by decide +kernel
