theorem dL_position_0 : decode cL_position 0 = .ok (.aload_n 0, 1) := by decide +kernel
theorem dL_position_1 : decode cL_position 1 = .ok (.iload_n 1, 1) := by decide +kernel
theorem dL_position_2 : decode cL_position 2 = .ok (.invokestatic 89, 3) := by decide +kernel
theorem dL_position_5 : decode cL_position 5 = .ok (.istore_n 2, 1) := by decide +kernel
theorem dL_position_6 : decode cL_position 6 = .ok (.iload_n 2, 1) := by decide +kernel
theorem dL_position_7 : decode cL_position 7 = .ok (.ifCond .lt 50, 3) := by decide +kernel
theorem dL_position_10 : decode cL_position 10 = .ok (.iload_n 2, 1) := by decide +kernel
theorem dL_position_11 : decode cL_position 11 = .ok (.iconst 4, 1) := by decide +kernel
theorem dL_position_12 : decode cL_position 12 = .ok (.if_icmp .ge 45, 3) := by decide +kernel
theorem dL_position_15 : decode cL_position 15 = .ok (.aload_n 0, 1) := by decide +kernel
theorem dL_position_16 : decode cL_position 16 = .ok (.iload_n 1, 1) := by decide +kernel
theorem dL_position_17 : decode cL_position 17 = .ok (.invokestatic 94, 3) := by decide +kernel
theorem dL_position_20 : decode cL_position 20 = .ok (.bipush (-50), 2) := by decide +kernel
theorem dL_position_22 : decode cL_position 22 = .ok (.if_icmp .lt 35, 3) := by decide +kernel
theorem dL_position_25 : decode cL_position 25 = .ok (.aload_n 0, 1) := by decide +kernel
theorem dL_position_26 : decode cL_position 26 = .ok (.iload_n 1, 1) := by decide +kernel
theorem dL_position_27 : decode cL_position 27 = .ok (.invokestatic 94, 3) := by decide +kernel
theorem dL_position_30 : decode cL_position 30 = .ok (.bipush 50, 2) := by decide +kernel
theorem dL_position_32 : decode cL_position 32 = .ok (.if_icmp .gt 25, 3) := by decide +kernel
theorem dL_position_35 : decode cL_position 35 = .ok (.aload_n 0, 1) := by decide +kernel
theorem dL_position_36 : decode cL_position 36 = .ok (.iload_n 1, 1) := by decide +kernel
theorem dL_position_37 : decode cL_position 37 = .ok (.invokestatic 94, 3) := by decide +kernel
theorem dL_position_40 : decode cL_position 40 = .ok (.iload_n 1, 1) := by decide +kernel
theorem dL_position_41 : decode cL_position 41 = .ok (.bipush 37, 2) := by decide +kernel
theorem dL_position_43 : decode cL_position 43 = .ok (.imul, 1) := by decide +kernel
theorem dL_position_44 : decode cL_position 44 = .ok (.bipush 101, 2) := by decide +kernel
theorem dL_position_46 : decode cL_position 46 = .ok (.irem, 1) := by decide +kernel
theorem dL_position_47 : decode cL_position 47 = .ok (.bipush 50, 2) := by decide +kernel
theorem dL_position_49 : decode cL_position 49 = .ok (.isub, 1) := by decide +kernel
theorem dL_position_50 : decode cL_position 50 = .ok (.if_icmp .ne 7, 3) := by decide +kernel
theorem dL_position_53 : decode cL_position 53 = .ok (.iconst 1, 1) := by decide +kernel
theorem dL_position_54 : decode cL_position 54 = .ok (.goto 4, 3) := by decide +kernel
theorem dL_position_57 : decode cL_position 57 = .ok (.iconst 0, 1) := by decide +kernel
theorem dL_position_58 : decode cL_position 58 = .ok (.istore_n 3, 1) := by decide +kernel
theorem dL_position_59 : decode cL_position 59 = .ok (.iconst 0, 1) := by decide +kernel
theorem dL_position_60 : decode cL_position 60 = .ok (.istore 4, 2) := by decide +kernel
theorem dL_position_62 : decode cL_position 62 = .ok (.iload 4, 2) := by decide +kernel
theorem dL_position_64 : decode cL_position 64 = .ok (.iconst 4, 1) := by decide +kernel
theorem dL_position_65 : decode cL_position 65 = .ok (.if_icmp .ge 92, 3) := by decide +kernel
theorem dL_position_68 : decode cL_position 68 = .ok (.iload_n 3, 1) := by decide +kernel
theorem dL_position_69 : decode cL_position 69 = .ok (.ifCond .eq 88, 3) := by decide +kernel
theorem dL_position_72 : decode cL_position 72 = .ok (.aload_n 0, 1) := by decide +kernel
theorem dL_position_73 : decode cL_position 73 = .ok (.iload_n 1, 1) := by decide +kernel
theorem dL_position_74 : decode cL_position 74 = .ok (.iload 4, 2) := by decide +kernel
theorem dL_position_76 : decode cL_position 76 = .ok (.invokestatic 96, 3) := by decide +kernel
theorem dL_position_79 : decode cL_position 79 = .ok (.istore 5, 2) := by decide +kernel
theorem dL_position_81 : decode cL_position 81 = .ok (.aload_n 0, 1) := by decide +kernel
theorem dL_position_82 : decode cL_position 82 = .ok (.aload_n 0, 1) := by decide +kernel
theorem dL_position_83 : decode cL_position 83 = .ok (.iload_n 1, 1) := by decide +kernel
theorem dL_position_84 : decode cL_position 84 = .ok (.iload_n 2, 1) := by decide +kernel
theorem dL_position_85 : decode cL_position 85 = .ok (.invokestatic 96, 3) := by decide +kernel
theorem dL_position_88 : decode cL_position 88 = .ok (.invokestatic 94, 3) := by decide +kernel
theorem dL_position_91 : decode cL_position 91 = .ok (.istore 6, 2) := by decide +kernel
theorem dL_position_93 : decode cL_position 93 = .ok (.iload 5, 2) := by decide +kernel
theorem dL_position_95 : decode cL_position 95 = .ok (.bipush 7, 2) := by decide +kernel
theorem dL_position_97 : decode cL_position 97 = .ok (.iload_n 1, 1) := by decide +kernel
theorem dL_position_98 : decode cL_position 98 = .ok (.imul, 1) := by decide +kernel
theorem dL_position_99 : decode cL_position 99 = .ok (.bipush 13, 2) := by decide +kernel
theorem dL_position_101 : decode cL_position 101 = .ok (.iload 4, 2) := by decide +kernel
theorem dL_position_103 : decode cL_position 103 = .ok (.imul, 1) := by decide +kernel
theorem dL_position_104 : decode cL_position 104 = .ok (.iadd, 1) := by decide +kernel
theorem dL_position_105 : decode cL_position 105 = .ok (.iconst 5, 1) := by decide +kernel
theorem dL_position_106 : decode cL_position 106 = .ok (.iadd, 1) := by decide +kernel
theorem dL_position_107 : decode cL_position 107 = .ok (.sipush 1000, 3) := by decide +kernel
theorem dL_position_110 : decode cL_position 110 = .ok (.irem, 1) := by decide +kernel
theorem dL_position_111 : decode cL_position 111 = .ok (.if_icmp .ne 38, 3) := by decide +kernel
theorem dL_position_114 : decode cL_position 114 = .ok (.iload 4, 2) := by decide +kernel
theorem dL_position_116 : decode cL_position 116 = .ok (.iload_n 2, 1) := by decide +kernel
theorem dL_position_117 : decode cL_position 117 = .ok (.if_icmp .ge 17, 3) := by decide +kernel
theorem dL_position_120 : decode cL_position 120 = .ok (.aload_n 0, 1) := by decide +kernel
theorem dL_position_121 : decode cL_position 121 = .ok (.iload 5, 2) := by decide +kernel
theorem dL_position_123 : decode cL_position 123 = .ok (.invokestatic 94, 3) := by decide +kernel
theorem dL_position_126 : decode cL_position 126 = .ok (.iload 6, 2) := by decide +kernel
theorem dL_position_128 : decode cL_position 128 = .ok (.if_icmp .ge 21, 3) := by decide +kernel
theorem dL_position_131 : decode cL_position 131 = .ok (.goto 14, 3) := by decide +kernel
theorem dL_position_134 : decode cL_position 134 = .ok (.aload_n 0, 1) := by decide +kernel
theorem dL_position_135 : decode cL_position 135 = .ok (.iload 5, 2) := by decide +kernel
theorem dL_position_137 : decode cL_position 137 = .ok (.invokestatic 94, 3) := by decide +kernel
theorem dL_position_140 : decode cL_position 140 = .ok (.iload 6, 2) := by decide +kernel
theorem dL_position_142 : decode cL_position 142 = .ok (.if_icmp .gt 7, 3) := by decide +kernel
theorem dL_position_145 : decode cL_position 145 = .ok (.iconst 1, 1) := by decide +kernel
theorem dL_position_146 : decode cL_position 146 = .ok (.goto 4, 3) := by decide +kernel
theorem dL_position_149 : decode cL_position 149 = .ok (.iconst 0, 1) := by decide +kernel
theorem dL_position_150 : decode cL_position 150 = .ok (.istore_n 3, 1) := by decide +kernel
theorem dL_position_151 : decode cL_position 151 = .ok (.iinc 4 1, 3) := by decide +kernel
theorem dL_position_154 : decode cL_position 154 = .ok (.goto (-92), 3) := by decide +kernel
theorem dL_position_157 : decode cL_position 157 = .ok (.iload_n 3, 1) := by decide +kernel
theorem dL_position_158 : decode cL_position 158 = .ok (.ifCond .eq 53, 3) := by decide +kernel
theorem dL_position_161 : decode cL_position 161 = .ok (.aload_n 0, 1) := by decide +kernel
theorem dL_position_162 : decode cL_position 162 = .ok (.iload_n 1, 1) := by decide +kernel
theorem dL_position_163 : decode cL_position 163 = .ok (.iconst 4, 1) := by decide +kernel
theorem dL_position_164 : decode cL_position 164 = .ok (.invokestatic 96, 3) := by decide +kernel
theorem dL_position_167 : decode cL_position 167 = .ok (.ldc 18, 2) := by decide +kernel
theorem dL_position_169 : decode cL_position 169 = .ok (.if_icmp .ne 42, 3) := by decide +kernel
theorem dL_position_172 : decode cL_position 172 = .ok (.aload_n 0, 1) := by decide +kernel
theorem dL_position_173 : decode cL_position 173 = .ok (.sipush 1000, 3) := by decide +kernel
theorem dL_position_176 : decode cL_position 176 = .ok (.iconst 0, 1) := by decide +kernel
theorem dL_position_177 : decode cL_position 177 = .ok (.invokestatic 96, 3) := by decide +kernel
theorem dL_position_180 : decode cL_position 180 = .ok (.ldc 18, 2) := by decide +kernel
theorem dL_position_182 : decode cL_position 182 = .ok (.if_icmp .ne 29, 3) := by decide +kernel
theorem dL_position_185 : decode cL_position 185 = .ok (.aload_n 0, 1) := by decide +kernel
theorem dL_position_186 : decode cL_position 186 = .ok (.iconst (-1), 1) := by decide +kernel
theorem dL_position_187 : decode cL_position 187 = .ok (.invokestatic 94, 3) := by decide +kernel
theorem dL_position_190 : decode cL_position 190 = .ok (.ldc 18, 2) := by decide +kernel
theorem dL_position_192 : decode cL_position 192 = .ok (.if_icmp .ne 19, 3) := by decide +kernel
theorem dL_position_195 : decode cL_position 195 = .ok (.aload_n 0, 1) := by decide +kernel
theorem dL_position_196 : decode cL_position 196 = .ok (.sipush 1000, 3) := by decide +kernel
theorem dL_position_199 : decode cL_position 199 = .ok (.invokestatic 89, 3) := by decide +kernel
theorem dL_position_202 : decode cL_position 202 = .ok (.ldc 18, 2) := by decide +kernel
theorem dL_position_204 : decode cL_position 204 = .ok (.if_icmp .ne 7, 3) := by decide +kernel
theorem dL_position_207 : decode cL_position 207 = .ok (.iconst 1, 1) := by decide +kernel
theorem dL_position_208 : decode cL_position 208 = .ok (.goto 4, 3) := by decide +kernel
theorem dL_position_211 : decode cL_position 211 = .ok (.iconst 0, 1) := by decide +kernel
theorem dL_position_212 : decode cL_position 212 = .ok (.ireturn, 1) := by decide +kernel
theorem dL_pairs_0 : decode cL_pairs 0 = .ok (.iconst 0, 1) := by decide +kernel
theorem dL_pairs_1 : decode cL_pairs 1 = .ok (.istore_n 3, 1) := by decide +kernel
theorem dL_pairs_2 : decode cL_pairs 2 = .ok (.iconst 0, 1) := by decide +kernel
theorem dL_pairs_3 : decode cL_pairs 3 = .ok (.istore 4, 2) := by decide +kernel
theorem dL_pairs_5 : decode cL_pairs 5 = .ok (.iconst (-1), 1) := by decide +kernel
theorem dL_pairs_6 : decode cL_pairs 6 = .ok (.istore 5, 2) := by decide +kernel
theorem dL_pairs_8 : decode cL_pairs 8 = .ok (.iconst 0, 1) := by decide +kernel
theorem dL_pairs_9 : decode cL_pairs 9 = .ok (.istore 6, 2) := by decide +kernel
theorem dL_pairs_11 : decode cL_pairs 11 = .ok (.iload 6, 2) := by decide +kernel
theorem dL_pairs_13 : decode cL_pairs 13 = .ok (.aload_n 2, 1) := by decide +kernel
theorem dL_pairs_14 : decode cL_pairs 14 = .ok (.iconst 0, 1) := by decide +kernel
theorem dL_pairs_15 : decode cL_pairs 15 = .ok (.iaload, 1) := by decide +kernel
theorem dL_pairs_16 : decode cL_pairs 16 = .ok (.if_icmp .ge 186, 3) := by decide +kernel
theorem dL_pairs_19 : decode cL_pairs 19 = .ok (.aload_n 0, 1) := by decide +kernel
theorem dL_pairs_20 : decode cL_pairs 20 = .ok (.iload 6, 2) := by decide +kernel
theorem dL_pairs_22 : decode cL_pairs 22 = .ok (.invokestatic 99, 3) := by decide +kernel
theorem dL_pairs_25 : decode cL_pairs 25 = .ok (.istore 7, 2) := by decide +kernel
theorem dL_pairs_27 : decode cL_pairs 27 = .ok (.iload 4, 2) := by decide +kernel
theorem dL_pairs_29 : decode cL_pairs 29 = .ok (.aload_n 0, 1) := by decide +kernel
theorem dL_pairs_30 : decode cL_pairs 30 = .ok (.iload 6, 2) := by decide +kernel
theorem dL_pairs_32 : decode cL_pairs 32 = .ok (.invokestatic 101, 3) := by decide +kernel
theorem dL_pairs_35 : decode cL_pairs 35 = .ok (.iadd, 1) := by decide +kernel
theorem dL_pairs_36 : decode cL_pairs 36 = .ok (.istore 4, 2) := by decide +kernel
theorem dL_pairs_38 : decode cL_pairs 38 = .ok (.iload 5, 2) := by decide +kernel
theorem dL_pairs_40 : decode cL_pairs 40 = .ok (.ifCond .lt 18, 3) := by decide +kernel
theorem dL_pairs_43 : decode cL_pairs 43 = .ok (.aload_n 0, 1) := by decide +kernel
theorem dL_pairs_44 : decode cL_pairs 44 = .ok (.iload 6, 2) := by decide +kernel
theorem dL_pairs_46 : decode cL_pairs 46 = .ok (.invokestatic 101, 3) := by decide +kernel
theorem dL_pairs_49 : decode cL_pairs 49 = .ok (.aload_n 0, 1) := by decide +kernel
theorem dL_pairs_50 : decode cL_pairs 50 = .ok (.iload 5, 2) := by decide +kernel
theorem dL_pairs_52 : decode cL_pairs 52 = .ok (.invokestatic 101, 3) := by decide +kernel
theorem dL_pairs_55 : decode cL_pairs 55 = .ok (.if_icmp .le 8, 3) := by decide +kernel
theorem dL_pairs_58 : decode cL_pairs 58 = .ok (.iload 6, 2) := by decide +kernel
theorem dL_pairs_60 : decode cL_pairs 60 = .ok (.goto 5, 3) := by decide +kernel
theorem dL_pairs_63 : decode cL_pairs 63 = .ok (.iload 5, 2) := by decide +kernel
theorem dL_pairs_65 : decode cL_pairs 65 = .ok (.istore 5, 2) := by decide +kernel
theorem dL_pairs_67 : decode cL_pairs 67 = .ok (.iload 7, 2) := by decide +kernel
theorem dL_pairs_69 : decode cL_pairs 69 = .ok (.iconst (-1), 1) := by decide +kernel
theorem dL_pairs_70 : decode cL_pairs 70 = .ok (.if_icmp .ne 19, 3) := by decide +kernel
theorem dL_pairs_73 : decode cL_pairs 73 = .ok (.iinc 3 1, 3) := by decide +kernel
theorem dL_pairs_76 : decode cL_pairs 76 = .ok (.aload_n 0, 1) := by decide +kernel
theorem dL_pairs_77 : decode cL_pairs 77 = .ok (.iload 6, 2) := by decide +kernel
theorem dL_pairs_79 : decode cL_pairs 79 = .ok (.invokestatic 103, 3) := by decide +kernel
theorem dL_pairs_82 : decode cL_pairs 82 = .ok (.ldc 32, 2) := by decide +kernel
theorem dL_pairs_84 : decode cL_pairs 84 = .ok (.if_icmp .eq 112, 3) := by decide +kernel
theorem dL_pairs_87 : decode cL_pairs 87 = .ok (.iconst 0, 1) := by decide +kernel
theorem dL_pairs_88 : decode cL_pairs 88 = .ok (.ireturn, 1) := by decide +kernel
theorem dL_pairs_89 : decode cL_pairs 89 = .ok (.aload_n 1, 1) := by decide +kernel
theorem dL_pairs_90 : decode cL_pairs 90 = .ok (.iload 6, 2) := by decide +kernel
theorem dL_pairs_92 : decode cL_pairs 92 = .ok (.iaload, 1) := by decide +kernel
theorem dL_pairs_93 : decode cL_pairs 93 = .ok (.aload_n 1, 1) := by decide +kernel
theorem dL_pairs_94 : decode cL_pairs 94 = .ok (.iload 7, 2) := by decide +kernel
theorem dL_pairs_96 : decode cL_pairs 96 = .ok (.iaload, 1) := by decide +kernel
theorem dL_pairs_97 : decode cL_pairs 97 = .ok (.if_icmp .lt 21, 3) := by decide +kernel
theorem dL_pairs_100 : decode cL_pairs 100 = .ok (.aload_n 1, 1) := by decide +kernel
theorem dL_pairs_101 : decode cL_pairs 101 = .ok (.iload 6, 2) := by decide +kernel
theorem dL_pairs_103 : decode cL_pairs 103 = .ok (.iaload, 1) := by decide +kernel
theorem dL_pairs_104 : decode cL_pairs 104 = .ok (.aload_n 1, 1) := by decide +kernel
theorem dL_pairs_105 : decode cL_pairs 105 = .ok (.iload 7, 2) := by decide +kernel
theorem dL_pairs_107 : decode cL_pairs 107 = .ok (.iaload, 1) := by decide +kernel
theorem dL_pairs_108 : decode cL_pairs 108 = .ok (.if_icmp .ne 14, 3) := by decide +kernel
theorem dL_pairs_111 : decode cL_pairs 111 = .ok (.iload 6, 2) := by decide +kernel
theorem dL_pairs_113 : decode cL_pairs 113 = .ok (.iload 7, 2) := by decide +kernel
theorem dL_pairs_115 : decode cL_pairs 115 = .ok (.if_icmp .ge 7, 3) := by decide +kernel
theorem dL_pairs_118 : decode cL_pairs 118 = .ok (.iconst 1, 1) := by decide +kernel
theorem dL_pairs_119 : decode cL_pairs 119 = .ok (.goto 4, 3) := by decide +kernel
theorem dL_pairs_122 : decode cL_pairs 122 = .ok (.iconst 0, 1) := by decide +kernel
theorem dL_pairs_123 : decode cL_pairs 123 = .ok (.istore 8, 2) := by decide +kernel
theorem dL_pairs_125 : decode cL_pairs 125 = .ok (.iload 7, 2) := by decide +kernel
theorem dL_pairs_127 : decode cL_pairs 127 = .ok (.ifCond .lt 67, 3) := by decide +kernel
theorem dL_pairs_130 : decode cL_pairs 130 = .ok (.iload 7, 2) := by decide +kernel
theorem dL_pairs_132 : decode cL_pairs 132 = .ok (.aload_n 2, 1) := by decide +kernel
theorem dL_pairs_133 : decode cL_pairs 133 = .ok (.iconst 0, 1) := by decide +kernel
theorem dL_pairs_134 : decode cL_pairs 134 = .ok (.iaload, 1) := by decide +kernel
theorem dL_pairs_135 : decode cL_pairs 135 = .ok (.if_icmp .ge 59, 3) := by decide +kernel
theorem dL_pairs_138 : decode cL_pairs 138 = .ok (.iload 7, 2) := by decide +kernel
theorem dL_pairs_140 : decode cL_pairs 140 = .ok (.iload 6, 2) := by decide +kernel
theorem dL_pairs_142 : decode cL_pairs 142 = .ok (.if_icmp .eq 52, 3) := by decide +kernel
theorem dL_pairs_145 : decode cL_pairs 145 = .ok (.aload_n 0, 1) := by decide +kernel
theorem dL_pairs_146 : decode cL_pairs 146 = .ok (.iload 7, 2) := by decide +kernel
theorem dL_pairs_148 : decode cL_pairs 148 = .ok (.invokestatic 99, 3) := by decide +kernel
theorem dL_pairs_151 : decode cL_pairs 151 = .ok (.iload 6, 2) := by decide +kernel
theorem dL_pairs_153 : decode cL_pairs 153 = .ok (.if_icmp .ne 41, 3) := by decide +kernel
theorem dL_pairs_156 : decode cL_pairs 156 = .ok (.aload_n 0, 1) := by decide +kernel
theorem dL_pairs_157 : decode cL_pairs 157 = .ok (.iload 6, 2) := by decide +kernel
theorem dL_pairs_159 : decode cL_pairs 159 = .ok (.invokestatic 103, 3) := by decide +kernel
theorem dL_pairs_162 : decode cL_pairs 162 = .ok (.iload 8, 2) := by decide +kernel
theorem dL_pairs_164 : decode cL_pairs 164 = .ok (.ifCond .eq 7, 3) := by decide +kernel
theorem dL_pairs_167 : decode cL_pairs 167 = .ok (.iconst 1, 1) := by decide +kernel
theorem dL_pairs_168 : decode cL_pairs 168 = .ok (.goto 4, 3) := by decide +kernel
theorem dL_pairs_171 : decode cL_pairs 171 = .ok (.iconst 0, 1) := by decide +kernel
theorem dL_pairs_172 : decode cL_pairs 172 = .ok (.if_icmp .ne 22, 3) := by decide +kernel
theorem dL_pairs_175 : decode cL_pairs 175 = .ok (.aload_n 0, 1) := by decide +kernel
theorem dL_pairs_176 : decode cL_pairs 176 = .ok (.iload 7, 2) := by decide +kernel
theorem dL_pairs_178 : decode cL_pairs 178 = .ok (.invokestatic 103, 3) := by decide +kernel
theorem dL_pairs_181 : decode cL_pairs 181 = .ok (.iload 8, 2) := by decide +kernel
theorem dL_pairs_183 : decode cL_pairs 183 = .ok (.ifCond .eq 7, 3) := by decide +kernel
theorem dL_pairs_186 : decode cL_pairs 186 = .ok (.iconst 0, 1) := by decide +kernel
theorem dL_pairs_187 : decode cL_pairs 187 = .ok (.goto 4, 3) := by decide +kernel
theorem dL_pairs_190 : decode cL_pairs 190 = .ok (.iconst 1, 1) := by decide +kernel
theorem dL_pairs_191 : decode cL_pairs 191 = .ok (.if_icmp .eq 5, 3) := by decide +kernel
theorem dL_pairs_194 : decode cL_pairs 194 = .ok (.iconst 0, 1) := by decide +kernel
theorem dL_pairs_195 : decode cL_pairs 195 = .ok (.ireturn, 1) := by decide +kernel
theorem dL_pairs_196 : decode cL_pairs 196 = .ok (.iinc 6 1, 3) := by decide +kernel
theorem dL_pairs_199 : decode cL_pairs 199 = .ok (.goto (-188), 3) := by decide +kernel
theorem dL_pairs_202 : decode cL_pairs 202 = .ok (.iload_n 3, 1) := by decide +kernel
