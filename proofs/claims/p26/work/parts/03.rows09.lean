theorem dL_acts_1088 : decode cL_acts 1088 = .ok (.iadd, 1) := by decide +kernel
theorem dL_acts_1089 : decode cL_acts 1089 = .ok (.dup2, 1) := by decide +kernel
theorem dL_acts_1090 : decode cL_acts 1090 = .ok (.iaload, 1) := by decide +kernel
theorem dL_acts_1091 : decode cL_acts 1091 = .ok (.iconst 1, 1) := by decide +kernel
theorem dL_acts_1092 : decode cL_acts 1092 = .ok (.iload 9, 2) := by decide +kernel
theorem dL_acts_1094 : decode cL_acts 1094 = .ok (.bipush 20, 2) := by decide +kernel
theorem dL_acts_1096 : decode cL_acts 1096 = .ok (.irem, 1) := by decide +kernel
theorem dL_acts_1097 : decode cL_acts 1097 = .ok (.ishl, 1) := by decide +kernel
theorem dL_acts_1098 : decode cL_acts 1098 = .ok (.ior, 1) := by decide +kernel
theorem dL_acts_1099 : decode cL_acts 1099 = .ok (.iastore, 1) := by decide +kernel
theorem dL_acts_1100 : decode cL_acts 1100 = .ok (.iload 14, 2) := by decide +kernel
theorem dL_acts_1102 : decode cL_acts 1102 = .ok (.ifCond .ge 8, 3) := by decide +kernel
theorem dL_acts_1105 : decode cL_acts 1105 = .ok (.iload 11, 2) := by decide +kernel
theorem dL_acts_1107 : decode cL_acts 1107 = .ok (.goto 43, 3) := by decide +kernel
theorem dL_acts_1110 : decode cL_acts 1110 = .ok (.iload 14, 2) := by decide +kernel
theorem dL_acts_1112 : decode cL_acts 1112 = .ok (.ifCond .ne 11, 3) := by decide +kernel
theorem dL_acts_1115 : decode cL_acts 1115 = .ok (.iload 11, 2) := by decide +kernel
theorem dL_acts_1117 : decode cL_acts 1117 = .ok (.bipush 16, 2) := by decide +kernel
theorem dL_acts_1119 : decode cL_acts 1119 = .ok (.isub, 1) := by decide +kernel
theorem dL_acts_1120 : decode cL_acts 1120 = .ok (.goto 30, 3) := by decide +kernel
theorem dL_acts_1123 : decode cL_acts 1123 = .ok (.iload 11, 2) := by decide +kernel
theorem dL_acts_1125 : decode cL_acts 1125 = .ok (.bipush 32, 2) := by decide +kernel
theorem dL_acts_1127 : decode cL_acts 1127 = .ok (.iadd, 1) := by decide +kernel
theorem dL_acts_1128 : decode cL_acts 1128 = .ok (.iload 11, 2) := by decide +kernel
theorem dL_acts_1130 : decode cL_acts 1130 = .ok (.sipush 1000, 3) := by decide +kernel
theorem dL_acts_1133 : decode cL_acts 1133 = .ok (.if_icmp .le 15, 3) := by decide +kernel
theorem dL_acts_1136 : decode cL_acts 1136 = .ok (.iload 11, 2) := by decide +kernel
theorem dL_acts_1138 : decode cL_acts 1138 = .ok (.sipush 1000, 3) := by decide +kernel
theorem dL_acts_1141 : decode cL_acts 1141 = .ok (.isub, 1) := by decide +kernel
theorem dL_acts_1142 : decode cL_acts 1142 = .ok (.bipush 50, 2) := by decide +kernel
theorem dL_acts_1144 : decode cL_acts 1144 = .ok (.idiv, 1) := by decide +kernel
theorem dL_acts_1145 : decode cL_acts 1145 = .ok (.goto 4, 3) := by decide +kernel
theorem dL_acts_1148 : decode cL_acts 1148 = .ok (.iconst 0, 1) := by decide +kernel
theorem dL_acts_1149 : decode cL_acts 1149 = .ok (.isub, 1) := by decide +kernel
theorem dL_acts_1150 : decode cL_acts 1150 = .ok (.istore 15, 2) := by decide +kernel
theorem dL_acts_1152 : decode cL_acts 1152 = .ok (.aload_n 0, 1) := by decide +kernel
theorem dL_acts_1153 : decode cL_acts 1153 = .ok (.iload 7, 2) := by decide +kernel
theorem dL_acts_1155 : decode cL_acts 1155 = .ok (.iload 9, 2) := by decide +kernel
theorem dL_acts_1157 : decode cL_acts 1157 = .ok (.iconst 4, 1) := by decide +kernel
theorem dL_acts_1158 : decode cL_acts 1158 = .ok (.invokestatic 152, 3) := by decide +kernel
theorem dL_acts_1161 : decode cL_acts 1161 = .ok (.ldc 18, 2) := by decide +kernel
theorem dL_acts_1163 : decode cL_acts 1163 = .ok (.if_icmp .ne 62, 3) := by decide +kernel
theorem dL_acts_1166 : decode cL_acts 1166 = .ok (.aload_n 0, 1) := by decide +kernel
theorem dL_acts_1167 : decode cL_acts 1167 = .ok (.iload 7, 2) := by decide +kernel
theorem dL_acts_1169 : decode cL_acts 1169 = .ok (.iload 9, 2) := by decide +kernel
theorem dL_acts_1171 : decode cL_acts 1171 = .ok (.iload 12, 2) := by decide +kernel
theorem dL_acts_1173 : decode cL_acts 1173 = .ok (.invokestatic 152, 3) := by decide +kernel
theorem dL_acts_1176 : decode cL_acts 1176 = .ok (.iload 14, 2) := by decide +kernel
theorem dL_acts_1178 : decode cL_acts 1178 = .ok (.if_icmp .ne 47, 3) := by decide +kernel
theorem dL_acts_1181 : decode cL_acts 1181 = .ok (.aload_n 0, 1) := by decide +kernel
theorem dL_acts_1182 : decode cL_acts 1182 = .ok (.iload 7, 2) := by decide +kernel
theorem dL_acts_1184 : decode cL_acts 1184 = .ok (.iload 10, 2) := by decide +kernel
theorem dL_acts_1186 : decode cL_acts 1186 = .ok (.invokestatic 114, 3) := by decide +kernel
theorem dL_acts_1189 : decode cL_acts 1189 = .ok (.iload 15, 2) := by decide +kernel
theorem dL_acts_1191 : decode cL_acts 1191 = .ok (.bipush 100, 2) := by decide +kernel
theorem dL_acts_1193 : decode cL_acts 1193 = .ok (.if_icmp .ge 8, 3) := by decide +kernel
theorem dL_acts_1196 : decode cL_acts 1196 = .ok (.bipush 100, 2) := by decide +kernel
theorem dL_acts_1198 : decode cL_acts 1198 = .ok (.goto 5, 3) := by decide +kernel
theorem dL_acts_1201 : decode cL_acts 1201 = .ok (.iload 15, 2) := by decide +kernel
theorem dL_acts_1203 : decode cL_acts 1203 = .ok (.if_icmp .ne 22, 3) := by decide +kernel
theorem dL_acts_1206 : decode cL_acts 1206 = .ok (.aload_n 0, 1) := by decide +kernel
theorem dL_acts_1207 : decode cL_acts 1207 = .ok (.iload 7, 2) := by decide +kernel
theorem dL_acts_1209 : decode cL_acts 1209 = .ok (.iload 9, 2) := by decide +kernel
theorem dL_acts_1211 : decode cL_acts 1211 = .ok (.iload 12, 2) := by decide +kernel
theorem dL_acts_1213 : decode cL_acts 1213 = .ok (.invokestatic 152, 3) := by decide +kernel
theorem dL_acts_1216 : decode cL_acts 1216 = .ok (.ldc 32, 2) := by decide +kernel
theorem dL_acts_1218 : decode cL_acts 1218 = .ok (.if_icmp .ne 7, 3) := by decide +kernel
theorem dL_acts_1221 : decode cL_acts 1221 = .ok (.iconst 1, 1) := by decide +kernel
theorem dL_acts_1222 : decode cL_acts 1222 = .ok (.goto 4, 3) := by decide +kernel
theorem dL_acts_1225 : decode cL_acts 1225 = .ok (.iconst 0, 1) := by decide +kernel
theorem dL_acts_1226 : decode cL_acts 1226 = .ok (.ireturn, 1) := by decide +kernel
theorem dL_law_0 : decode cL_law 0 = .ok (.new 11, 3) := by decide +kernel
theorem dL_law_3 : decode cL_law 3 = .ok (.dup, 1) := by decide +kernel
theorem dL_law_4 : decode cL_law 4 = .ok (.invokespecial 155, 3) := by decide +kernel
theorem dL_law_7 : decode cL_law 7 = .ok (.astore_n 1, 1) := by decide +kernel
theorem dL_law_8 : decode cL_law 8 = .ok (.bipush 16, 2) := by decide +kernel
theorem dL_law_10 : decode cL_law 10 = .ok (.newarray .int, 2) := by decide +kernel
theorem dL_law_12 : decode cL_law 12 = .ok (.astore_n 2, 1) := by decide +kernel
theorem dL_law_13 : decode cL_law 13 = .ok (.bipush 8, 2) := by decide +kernel
theorem dL_law_15 : decode cL_law 15 = .ok (.newarray .int, 2) := by decide +kernel
theorem dL_law_17 : decode cL_law 17 = .ok (.astore_n 3, 1) := by decide +kernel
theorem dL_law_18 : decode cL_law 18 = .ok (.bipush 7, 2) := by decide +kernel
theorem dL_law_20 : decode cL_law 20 = .ok (.newarray .int, 2) := by decide +kernel
theorem dL_law_22 : decode cL_law 22 = .ok (.astore 4, 2) := by decide +kernel
theorem dL_law_24 : decode cL_law 24 = .ok (.aload_n 1, 1) := by decide +kernel
theorem dL_law_25 : decode cL_law 25 = .ok (.invokevirtual 149, 3) := by decide +kernel
theorem dL_law_28 : decode cL_law 28 = .ok (.ifCond .ne 70, 3) := by decide +kernel
theorem dL_law_31 : decode cL_law 31 = .ok (.aload_n 1, 1) := by decide +kernel
theorem dL_law_32 : decode cL_law 32 = .ok (.invokevirtual 105, 3) := by decide +kernel
theorem dL_law_35 : decode cL_law 35 = .ok (.ifCond .ne 63, 3) := by decide +kernel
theorem dL_law_38 : decode cL_law 38 = .ok (.aload_n 1, 1) := by decide +kernel
theorem dL_law_39 : decode cL_law 39 = .ok (.invokevirtual 133, 3) := by decide +kernel
theorem dL_law_42 : decode cL_law 42 = .ok (.iconst (-1), 1) := by decide +kernel
theorem dL_law_43 : decode cL_law 43 = .ok (.if_icmp .ne 55, 3) := by decide +kernel
theorem dL_law_46 : decode cL_law 46 = .ok (.aload_n 1, 1) := by decide +kernel
theorem dL_law_47 : decode cL_law 47 = .ok (.invokestatic 130, 3) := by decide +kernel
theorem dL_law_50 : decode cL_law 50 = .ok (.ifCond .ne 48, 3) := by decide +kernel
theorem dL_law_53 : decode cL_law 53 = .ok (.aload_n 1, 1) := by decide +kernel
theorem dL_law_54 : decode cL_law 54 = .ok (.iconst 0, 1) := by decide +kernel
theorem dL_law_55 : decode cL_law 55 = .ok (.invokestatic 99, 3) := by decide +kernel
theorem dL_law_58 : decode cL_law 58 = .ok (.iconst (-1), 1) := by decide +kernel
theorem dL_law_59 : decode cL_law 59 = .ok (.if_icmp .ne 39, 3) := by decide +kernel
theorem dL_law_62 : decode cL_law 62 = .ok (.aload_n 1, 1) := by decide +kernel
theorem dL_law_63 : decode cL_law 63 = .ok (.iconst 0, 1) := by decide +kernel
theorem dL_law_64 : decode cL_law 64 = .ok (.invokestatic 103, 3) := by decide +kernel
theorem dL_law_67 : decode cL_law 67 = .ok (.ldc 32, 2) := by decide +kernel
theorem dL_law_69 : decode cL_law 69 = .ok (.if_icmp .ne 29, 3) := by decide +kernel
theorem dL_law_72 : decode cL_law 72 = .ok (.aload_n 1, 1) := by decide +kernel
theorem dL_law_73 : decode cL_law 73 = .ok (.iconst 0, 1) := by decide +kernel
theorem dL_law_74 : decode cL_law 74 = .ok (.iconst 0, 1) := by decide +kernel
theorem dL_law_75 : decode cL_law 75 = .ok (.invokestatic 141, 3) := by decide +kernel
theorem dL_law_78 : decode cL_law 78 = .ok (.ldc 18, 2) := by decide +kernel
theorem dL_law_80 : decode cL_law 80 = .ok (.if_icmp .ne 18, 3) := by decide +kernel
theorem dL_law_83 : decode cL_law 83 = .ok (.aload_n 1, 1) := by decide +kernel
theorem dL_law_84 : decode cL_law 84 = .ok (.iconst 0, 1) := by decide +kernel
theorem dL_law_85 : decode cL_law 85 = .ok (.iconst 1, 1) := by decide +kernel
theorem dL_law_86 : decode cL_law 86 = .ok (.invokestatic 141, 3) := by decide +kernel
theorem dL_law_89 : decode cL_law 89 = .ok (.ldc 38, 2) := by decide +kernel
theorem dL_law_91 : decode cL_law 91 = .ok (.if_icmp .ne 7, 3) := by decide +kernel
theorem dL_law_94 : decode cL_law 94 = .ok (.iconst 1, 1) := by decide +kernel
theorem dL_law_95 : decode cL_law 95 = .ok (.goto 4, 3) := by decide +kernel
theorem dL_law_98 : decode cL_law 98 = .ok (.iconst 0, 1) := by decide +kernel
theorem dL_law_99 : decode cL_law 99 = .ok (.istore 5, 2) := by decide +kernel
theorem dL_law_101 : decode cL_law 101 = .ok (.aload 4, 2) := by decide +kernel
theorem dL_law_103 : decode cL_law 103 = .ok (.iconst 0, 1) := by decide +kernel
theorem dL_law_104 : decode cL_law 104 = .ok (.iconst 1, 1) := by decide +kernel
theorem dL_law_105 : decode cL_law 105 = .ok (.iastore, 1) := by decide +kernel
theorem dL_law_106 : decode cL_law 106 = .ok (.iconst 0, 1) := by decide +kernel
theorem dL_law_107 : decode cL_law 107 = .ok (.istore 6, 2) := by decide +kernel
theorem dL_law_109 : decode cL_law 109 = .ok (.iload 6, 2) := by decide +kernel
theorem dL_law_111 : decode cL_law 111 = .ok (.sipush 250, 3) := by decide +kernel
theorem dL_law_114 : decode cL_law 114 = .ok (.if_icmp .ge 157, 3) := by decide +kernel
theorem dL_law_117 : decode cL_law 117 = .ok (.iload 5, 2) := by decide +kernel
theorem dL_law_119 : decode cL_law 119 = .ok (.ifCond .eq 152, 3) := by decide +kernel
theorem dL_law_122 : decode cL_law 122 = .ok (.aload_n 0, 1) := by decide +kernel
theorem dL_law_123 : decode cL_law 123 = .ok (.iconst 2, 1) := by decide +kernel
theorem dL_law_124 : decode cL_law 124 = .ok (.iload 6, 2) := by decide +kernel
theorem dL_law_126 : decode cL_law 126 = .ok (.imul, 1) := by decide +kernel
theorem dL_law_127 : decode cL_law 127 = .ok (.invokestatic 156, 3) := by decide +kernel
theorem dL_law_130 : decode cL_law 130 = .ok (.istore 7, 2) := by decide +kernel
theorem dL_law_132 : decode cL_law 132 = .ok (.aload_n 0, 1) := by decide +kernel
theorem dL_law_133 : decode cL_law 133 = .ok (.iconst 2, 1) := by decide +kernel
theorem dL_law_134 : decode cL_law 134 = .ok (.iload 6, 2) := by decide +kernel
theorem dL_law_136 : decode cL_law 136 = .ok (.imul, 1) := by decide +kernel
theorem dL_law_137 : decode cL_law 137 = .ok (.iconst 1, 1) := by decide +kernel
theorem dL_law_138 : decode cL_law 138 = .ok (.iadd, 1) := by decide +kernel
theorem dL_law_139 : decode cL_law 139 = .ok (.invokestatic 156, 3) := by decide +kernel
theorem dL_law_142 : decode cL_law 142 = .ok (.istore 8, 2) := by decide +kernel
theorem dL_law_144 : decode cL_law 144 = .ok (.aload_n 1, 1) := by decide +kernel
theorem dL_law_145 : decode cL_law 145 = .ok (.aload_n 2, 1) := by decide +kernel
theorem dL_law_146 : decode cL_law 146 = .ok (.aload_n 3, 1) := by decide +kernel
theorem dL_law_147 : decode cL_law 147 = .ok (.aload 4, 2) := by decide +kernel
theorem dL_law_149 : decode cL_law 149 = .ok (.iload 7, 2) := by decide +kernel
theorem dL_law_151 : decode cL_law 151 = .ok (.iload 8, 2) := by decide +kernel
theorem dL_law_153 : decode cL_law 153 = .ok (.invokestatic 160, 3) := by decide +kernel
theorem dL_law_156 : decode cL_law 156 = .ok (.istore 5, 2) := by decide +kernel
theorem dL_law_158 : decode cL_law 158 = .ok (.iload 5, 2) := by decide +kernel
theorem dL_law_160 : decode cL_law 160 = .ok (.ifCond .eq 105, 3) := by decide +kernel
theorem dL_law_163 : decode cL_law 163 = .ok (.iload 6, 2) := by decide +kernel
theorem dL_law_165 : decode cL_law 165 = .ok (.bipush 8, 2) := by decide +kernel
theorem dL_law_167 : decode cL_law 167 = .ok (.irem, 1) := by decide +kernel
theorem dL_law_168 : decode cL_law 168 = .ok (.bipush 7, 2) := by decide +kernel
theorem dL_law_170 : decode cL_law 170 = .ok (.if_icmp .ne 95, 3) := by decide +kernel
theorem dL_law_173 : decode cL_law 173 = .ok (.iconst 1, 1) := by decide +kernel
theorem dL_law_174 : decode cL_law 174 = .ok (.iload 8, 2) := by decide +kernel
theorem dL_law_176 : decode cL_law 176 = .ok (.bipush 9, 2) := by decide +kernel
theorem dL_law_178 : decode cL_law 178 = .ok (.ishr, 1) := by decide +kernel
theorem dL_law_179 : decode cL_law 179 = .ok (.bipush 6, 2) := by decide +kernel
theorem dL_law_181 : decode cL_law 181 = .ok (.invokestatic 127, 3) := by decide +kernel
theorem dL_law_184 : decode cL_law 184 = .ok (.iadd, 1) := by decide +kernel
theorem dL_law_185 : decode cL_law 185 = .ok (.istore 9, 2) := by decide +kernel
theorem dL_law_187 : decode cL_law 187 = .ok (.aload_n 1, 1) := by decide +kernel
theorem dL_law_188 : decode cL_law 188 = .ok (.aload_n 3, 1) := by decide +kernel
theorem dL_law_189 : decode cL_law 189 = .ok (.aload 4, 2) := by decide +kernel
theorem dL_law_191 : decode cL_law 191 = .ok (.invokestatic 164, 3) := by decide +kernel
theorem dL_law_194 : decode cL_law 194 = .ok (.ifCond .eq 68, 3) := by decide +kernel
theorem dL_law_197 : decode cL_law 197 = .ok (.aload_n 1, 1) := by decide +kernel
theorem dL_law_198 : decode cL_law 198 = .ok (.aload_n 2, 1) := by decide +kernel
theorem dL_law_199 : decode cL_law 199 = .ok (.aload 4, 2) := by decide +kernel
theorem dL_law_201 : decode cL_law 201 = .ok (.invokestatic 168, 3) := by decide +kernel
theorem dL_law_204 : decode cL_law 204 = .ok (.ifCond .eq 58, 3) := by decide +kernel
theorem dL_law_207 : decode cL_law 207 = .ok (.aload_n 1, 1) := by decide +kernel
theorem dL_law_208 : decode cL_law 208 = .ok (.iload 8, 2) := by decide +kernel
theorem dL_law_210 : decode cL_law 210 = .ok (.sipush 1000, 3) := by decide +kernel
theorem dL_law_213 : decode cL_law 213 = .ok (.invokestatic 127, 3) := by decide +kernel
theorem dL_law_216 : decode cL_law 216 = .ok (.invokestatic 136, 3) := by decide +kernel
theorem dL_law_219 : decode cL_law 219 = .ok (.ifCond .eq 43, 3) := by decide +kernel
theorem dL_law_222 : decode cL_law 222 = .ok (.aload_n 1, 1) := by decide +kernel
theorem dL_law_223 : decode cL_law 223 = .ok (.iload 7, 2) := by decide +kernel
theorem dL_law_225 : decode cL_law 225 = .ok (.iconst 1, 1) := by decide +kernel
theorem dL_law_226 : decode cL_law 226 = .ok (.iconst 2, 1) := by decide +kernel
theorem dL_law_227 : decode cL_law 227 = .ok (.iload 9, 2) := by decide +kernel
theorem dL_law_229 : decode cL_law 229 = .ok (.imul, 1) := by decide +kernel
theorem dL_law_230 : decode cL_law 230 = .ok (.ishl, 1) := by decide +kernel
theorem dL_law_231 : decode cL_law 231 = .ok (.invokestatic 127, 3) := by decide +kernel
theorem dL_law_234 : decode cL_law 234 = .ok (.iload 9, 2) := by decide +kernel
theorem dL_law_236 : decode cL_law 236 = .ok (.invokestatic 145, 3) := by decide +kernel
theorem dL_law_239 : decode cL_law 239 = .ok (.ifCond .eq 23, 3) := by decide +kernel
theorem dL_law_242 : decode cL_law 242 = .ok (.aload_n 1, 1) := by decide +kernel
theorem dL_law_243 : decode cL_law 243 = .ok (.iload 8, 2) := by decide +kernel
theorem dL_law_245 : decode cL_law 245 = .ok (.iconst 3, 1) := by decide +kernel
theorem dL_law_246 : decode cL_law 246 = .ok (.ishr, 1) := by decide +kernel
theorem dL_law_247 : decode cL_law 247 = .ok (.iconst 4, 1) := by decide +kernel
theorem dL_law_248 : decode cL_law 248 = .ok (.invokestatic 127, 3) := by decide +kernel
theorem dL_law_251 : decode cL_law 251 = .ok (.iconst 1, 1) := by decide +kernel
theorem dL_law_252 : decode cL_law 252 = .ok (.invokestatic 145, 3) := by decide +kernel
theorem dL_law_255 : decode cL_law 255 = .ok (.ifCond .eq 7, 3) := by decide +kernel
theorem dL_law_258 : decode cL_law 258 = .ok (.iconst 1, 1) := by decide +kernel
theorem dL_law_259 : decode cL_law 259 = .ok (.goto 4, 3) := by decide +kernel
theorem dL_law_262 : decode cL_law 262 = .ok (.iconst 0, 1) := by decide +kernel
theorem dL_law_263 : decode cL_law 263 = .ok (.istore 5, 2) := by decide +kernel
theorem dL_law_265 : decode cL_law 265 = .ok (.iinc 6 1, 3) := by decide +kernel
theorem dL_law_268 : decode cL_law 268 = .ok (.goto (-159), 3) := by decide +kernel
theorem dL_law_271 : decode cL_law 271 = .ok (.iload 5, 2) := by decide +kernel
theorem dL_law_273 : decode cL_law 273 = .ok (.ireturn, 1) := by decide +kernel
