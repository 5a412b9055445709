/-! DECODED: the law -/
theorem fW_law_997 : decode (m_cc M_W_law) 997 = .ok (.iaload, 1) := by decide +kernel
theorem fW_law_998 : decode (m_cc M_W_law) 998 = .ok (.invokevirtual 124, 3) := by decide +kernel
theorem fW_law_1001 : decode (m_cc M_W_law) 1001 = .ok (.istore 6, 2) := by decide +kernel
theorem fW_law_1003 : decode (m_cc M_W_law) 1003 = .ok (.aload_n 2, 1) := by decide +kernel
theorem fW_law_1004 : decode (m_cc M_W_law) 1004 = .ok (.invokevirtual 80, 3) := by decide +kernel
theorem fW_law_1007 : decode (m_cc M_W_law) 1007 = .ok (.iload 5, 2) := by decide +kernel
theorem fW_law_1009 : decode (m_cc M_W_law) 1009 = .ok (.if_icmp .eq 5, 3) := by decide +kernel
theorem fW_law_1012 : decode (m_cc M_W_law) 1012 = .ok (.iconst 0, 1) := by decide +kernel
theorem fW_law_1013 : decode (m_cc M_W_law) 1013 = .ok (.ireturn, 1) := by decide +kernel
theorem fW_law_1014 : decode (m_cc M_W_law) 1014 = .ok (.iload 5, 2) := by decide +kernel
theorem fW_law_1016 : decode (m_cc M_W_law) 1016 = .ok (.ifCond .ne 15, 3) := by decide +kernel
theorem fW_law_1019 : decode (m_cc M_W_law) 1019 = .ok (.aload_n 3, 1) := by decide +kernel
theorem fW_law_1020 : decode (m_cc M_W_law) 1020 = .ok (.iconst 0, 1) := by decide +kernel
theorem fW_law_1021 : decode (m_cc M_W_law) 1021 = .ok (.laload, 1) := by decide +kernel
theorem fW_law_1022 : decode (m_cc M_W_law) 1022 = .ok (.iload 6, 2) := by decide +kernel
theorem fW_law_1024 : decode (m_cc M_W_law) 1024 = .ok (.i2l, 1) := by decide +kernel
theorem fW_law_1025 : decode (m_cc M_W_law) 1025 = .ok (.lcmp, 1) := by decide +kernel
theorem fW_law_1026 : decode (m_cc M_W_law) 1026 = .ok (.ifCond .eq 5, 3) := by decide +kernel
theorem fW_law_1029 : decode (m_cc M_W_law) 1029 = .ok (.iconst 0, 1) := by decide +kernel
theorem fW_law_1030 : decode (m_cc M_W_law) 1030 = .ok (.ireturn, 1) := by decide +kernel
theorem fW_law_1031 : decode (m_cc M_W_law) 1031 = .ok (.goto 151, 3) := by decide +kernel
theorem fW_law_1034 : decode (m_cc M_W_law) 1034 = .ok (.aload_n 1, 1) := by decide +kernel
theorem fW_law_1035 : decode (m_cc M_W_law) 1035 = .ok (.aload_n 0, 1) := by decide +kernel
theorem fW_law_1036 : decode (m_cc M_W_law) 1036 = .ok (.iload 4, 2) := by decide +kernel
theorem fW_law_1038 : decode (m_cc M_W_law) 1038 = .ok (.iconst 1, 1) := by decide +kernel
theorem fW_law_1039 : decode (m_cc M_W_law) 1039 = .ok (.iadd, 1) := by decide +kernel
theorem fW_law_1040 : decode (m_cc M_W_law) 1040 = .ok (.iaload, 1) := by decide +kernel
theorem fW_law_1041 : decode (m_cc M_W_law) 1041 = .ok (.aload_n 0, 1) := by decide +kernel
theorem fW_law_1042 : decode (m_cc M_W_law) 1042 = .ok (.iload 4, 2) := by decide +kernel
theorem fW_law_1044 : decode (m_cc M_W_law) 1044 = .ok (.iconst 2, 1) := by decide +kernel
theorem fW_law_1045 : decode (m_cc M_W_law) 1045 = .ok (.iadd, 1) := by decide +kernel
theorem fW_law_1046 : decode (m_cc M_W_law) 1046 = .ok (.iaload, 1) := by decide +kernel
theorem fW_law_1047 : decode (m_cc M_W_law) 1047 = .ok (.aload_n 3, 1) := by decide +kernel
theorem fW_law_1048 : decode (m_cc M_W_law) 1048 = .ok (.invokestatic 125, 3) := by decide +kernel
theorem fW_law_1051 : decode (m_cc M_W_law) 1051 = .ok (.istore 5, 2) := by decide +kernel
theorem fW_law_1053 : decode (m_cc M_W_law) 1053 = .ok (.aload_n 2, 1) := by decide +kernel
theorem fW_law_1054 : decode (m_cc M_W_law) 1054 = .ok (.aload_n 0, 1) := by decide +kernel
theorem fW_law_1055 : decode (m_cc M_W_law) 1055 = .ok (.iload 4, 2) := by decide +kernel
theorem fW_law_1057 : decode (m_cc M_W_law) 1057 = .ok (.iconst 1, 1) := by decide +kernel
theorem fW_law_1058 : decode (m_cc M_W_law) 1058 = .ok (.iadd, 1) := by decide +kernel
theorem fW_law_1059 : decode (m_cc M_W_law) 1059 = .ok (.iaload, 1) := by decide +kernel
theorem fW_law_1060 : decode (m_cc M_W_law) 1060 = .ok (.aload_n 0, 1) := by decide +kernel
theorem fW_law_1061 : decode (m_cc M_W_law) 1061 = .ok (.iload 4, 2) := by decide +kernel
theorem fW_law_1063 : decode (m_cc M_W_law) 1063 = .ok (.iconst 2, 1) := by decide +kernel
theorem fW_law_1064 : decode (m_cc M_W_law) 1064 = .ok (.iadd, 1) := by decide +kernel
theorem fW_law_1065 : decode (m_cc M_W_law) 1065 = .ok (.iaload, 1) := by decide +kernel
theorem fW_law_1066 : decode (m_cc M_W_law) 1066 = .ok (.invokevirtual 127, 3) := by decide +kernel
theorem fW_law_1069 : decode (m_cc M_W_law) 1069 = .ok (.istore 6, 2) := by decide +kernel
theorem fW_law_1071 : decode (m_cc M_W_law) 1071 = .ok (.aload_n 2, 1) := by decide +kernel
theorem fW_law_1072 : decode (m_cc M_W_law) 1072 = .ok (.invokevirtual 80, 3) := by decide +kernel
theorem fW_law_1075 : decode (m_cc M_W_law) 1075 = .ok (.iload 5, 2) := by decide +kernel
theorem fW_law_1077 : decode (m_cc M_W_law) 1077 = .ok (.if_icmp .eq 5, 3) := by decide +kernel
theorem fW_law_1080 : decode (m_cc M_W_law) 1080 = .ok (.iconst 0, 1) := by decide +kernel
theorem fW_law_1081 : decode (m_cc M_W_law) 1081 = .ok (.ireturn, 1) := by decide +kernel
theorem fW_law_1082 : decode (m_cc M_W_law) 1082 = .ok (.iload 5, 2) := by decide +kernel
theorem fW_law_1084 : decode (m_cc M_W_law) 1084 = .ok (.ifCond .ne 15, 3) := by decide +kernel
theorem fW_law_1087 : decode (m_cc M_W_law) 1087 = .ok (.aload_n 3, 1) := by decide +kernel
theorem fW_law_1088 : decode (m_cc M_W_law) 1088 = .ok (.iconst 0, 1) := by decide +kernel
theorem fW_law_1089 : decode (m_cc M_W_law) 1089 = .ok (.laload, 1) := by decide +kernel
theorem fW_law_1090 : decode (m_cc M_W_law) 1090 = .ok (.iload 6, 2) := by decide +kernel
theorem fW_law_1092 : decode (m_cc M_W_law) 1092 = .ok (.i2l, 1) := by decide +kernel
theorem fW_law_1093 : decode (m_cc M_W_law) 1093 = .ok (.lcmp, 1) := by decide +kernel
theorem fW_law_1094 : decode (m_cc M_W_law) 1094 = .ok (.ifCond .eq 5, 3) := by decide +kernel
theorem fW_law_1097 : decode (m_cc M_W_law) 1097 = .ok (.iconst 0, 1) := by decide +kernel
theorem fW_law_1098 : decode (m_cc M_W_law) 1098 = .ok (.ireturn, 1) := by decide +kernel
theorem fW_law_1099 : decode (m_cc M_W_law) 1099 = .ok (.goto 83, 3) := by decide +kernel
theorem fW_law_1102 : decode (m_cc M_W_law) 1102 = .ok (.aload_n 1, 1) := by decide +kernel
theorem fW_law_1103 : decode (m_cc M_W_law) 1103 = .ok (.aload_n 0, 1) := by decide +kernel
theorem fW_law_1104 : decode (m_cc M_W_law) 1104 = .ok (.iload 4, 2) := by decide +kernel
theorem fW_law_1106 : decode (m_cc M_W_law) 1106 = .ok (.iconst 1, 1) := by decide +kernel
theorem fW_law_1107 : decode (m_cc M_W_law) 1107 = .ok (.iadd, 1) := by decide +kernel
theorem fW_law_1108 : decode (m_cc M_W_law) 1108 = .ok (.iaload, 1) := by decide +kernel
theorem fW_law_1109 : decode (m_cc M_W_law) 1109 = .ok (.aload_n 3, 1) := by decide +kernel
theorem fW_law_1110 : decode (m_cc M_W_law) 1110 = .ok (.invokestatic 128, 3) := by decide +kernel
theorem fW_law_1113 : decode (m_cc M_W_law) 1113 = .ok (.istore 5, 2) := by decide +kernel
theorem fW_law_1115 : decode (m_cc M_W_law) 1115 = .ok (.aload_n 2, 1) := by decide +kernel
theorem fW_law_1116 : decode (m_cc M_W_law) 1116 = .ok (.aload_n 0, 1) := by decide +kernel
theorem fW_law_1117 : decode (m_cc M_W_law) 1117 = .ok (.iload 4, 2) := by decide +kernel
theorem fW_law_1119 : decode (m_cc M_W_law) 1119 = .ok (.iconst 1, 1) := by decide +kernel
theorem fW_law_1120 : decode (m_cc M_W_law) 1120 = .ok (.iadd, 1) := by decide +kernel
theorem fW_law_1121 : decode (m_cc M_W_law) 1121 = .ok (.iaload, 1) := by decide +kernel
theorem fW_law_1122 : decode (m_cc M_W_law) 1122 = .ok (.invokevirtual 130, 3) := by decide +kernel
theorem fW_law_1125 : decode (m_cc M_W_law) 1125 = .ok (.lstore 6, 2) := by decide +kernel
theorem fW_law_1127 : decode (m_cc M_W_law) 1127 = .ok (.aload_n 2, 1) := by decide +kernel
theorem fW_law_1128 : decode (m_cc M_W_law) 1128 = .ok (.invokevirtual 80, 3) := by decide +kernel
theorem fW_law_1131 : decode (m_cc M_W_law) 1131 = .ok (.iload 5, 2) := by decide +kernel
theorem fW_law_1133 : decode (m_cc M_W_law) 1133 = .ok (.if_icmp .eq 5, 3) := by decide +kernel
theorem fW_law_1136 : decode (m_cc M_W_law) 1136 = .ok (.iconst 0, 1) := by decide +kernel
theorem fW_law_1137 : decode (m_cc M_W_law) 1137 = .ok (.ireturn, 1) := by decide +kernel
theorem fW_law_1138 : decode (m_cc M_W_law) 1138 = .ok (.iload 5, 2) := by decide +kernel
theorem fW_law_1140 : decode (m_cc M_W_law) 1140 = .ok (.ifCond .ne 14, 3) := by decide +kernel
theorem fW_law_1143 : decode (m_cc M_W_law) 1143 = .ok (.aload_n 3, 1) := by decide +kernel
theorem fW_law_1144 : decode (m_cc M_W_law) 1144 = .ok (.iconst 0, 1) := by decide +kernel
theorem fW_law_1145 : decode (m_cc M_W_law) 1145 = .ok (.laload, 1) := by decide +kernel
theorem fW_law_1146 : decode (m_cc M_W_law) 1146 = .ok (.lload 6, 2) := by decide +kernel
theorem fW_law_1148 : decode (m_cc M_W_law) 1148 = .ok (.lcmp, 1) := by decide +kernel
theorem fW_law_1149 : decode (m_cc M_W_law) 1149 = .ok (.ifCond .eq 5, 3) := by decide +kernel
theorem fW_law_1152 : decode (m_cc M_W_law) 1152 = .ok (.iconst 0, 1) := by decide +kernel
theorem fW_law_1153 : decode (m_cc M_W_law) 1153 = .ok (.ireturn, 1) := by decide +kernel
theorem fW_law_1154 : decode (m_cc M_W_law) 1154 = .ok (.goto 28, 3) := by decide +kernel
theorem fW_law_1157 : decode (m_cc M_W_law) 1157 = .ok (.aload_n 1, 1) := by decide +kernel
theorem fW_law_1158 : decode (m_cc M_W_law) 1158 = .ok (.aload_n 0, 1) := by decide +kernel
theorem fW_law_1159 : decode (m_cc M_W_law) 1159 = .ok (.iload 4, 2) := by decide +kernel
theorem fW_law_1161 : decode (m_cc M_W_law) 1161 = .ok (.iconst 1, 1) := by decide +kernel
theorem fW_law_1162 : decode (m_cc M_W_law) 1162 = .ok (.iadd, 1) := by decide +kernel
theorem fW_law_1163 : decode (m_cc M_W_law) 1163 = .ok (.iaload, 1) := by decide +kernel
theorem fW_law_1164 : decode (m_cc M_W_law) 1164 = .ok (.invokevirtual 131, 3) := by decide +kernel
theorem fW_law_1167 : decode (m_cc M_W_law) 1167 = .ok (.aload_n 2, 1) := by decide +kernel
theorem fW_law_1168 : decode (m_cc M_W_law) 1168 = .ok (.aload_n 0, 1) := by decide +kernel
theorem fW_law_1169 : decode (m_cc M_W_law) 1169 = .ok (.iload 4, 2) := by decide +kernel
theorem fW_law_1171 : decode (m_cc M_W_law) 1171 = .ok (.iconst 1, 1) := by decide +kernel
theorem fW_law_1172 : decode (m_cc M_W_law) 1172 = .ok (.iadd, 1) := by decide +kernel
theorem fW_law_1173 : decode (m_cc M_W_law) 1173 = .ok (.iaload, 1) := by decide +kernel
theorem fW_law_1174 : decode (m_cc M_W_law) 1174 = .ok (.invokevirtual 134, 3) := by decide +kernel
theorem fW_law_1177 : decode (m_cc M_W_law) 1177 = .ok (.if_icmp .eq 5, 3) := by decide +kernel
theorem fW_law_1180 : decode (m_cc M_W_law) 1180 = .ok (.iconst 0, 1) := by decide +kernel
theorem fW_law_1181 : decode (m_cc M_W_law) 1181 = .ok (.ireturn, 1) := by decide +kernel
theorem fW_law_1182 : decode (m_cc M_W_law) 1182 = .ok (.iinc 4 5, 3) := by decide +kernel
theorem fW_law_1185 : decode (m_cc M_W_law) 1185 = .ok (.goto (-1162), 3) := by decide +kernel
theorem fW_law_1188 : decode (m_cc M_W_law) 1188 = .ok (.iconst 1, 1) := by decide +kernel
theorem fW_law_1189 : decode (m_cc M_W_law) 1189 = .ok (.ireturn, 1) := by decide +kernel
