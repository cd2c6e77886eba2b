theorem dL_shoots_23 : decode cL_shoots 23 = .ok (.istore 5, 2) := by decide +kernel
theorem dL_shoots_25 : decode cL_shoots 25 = .ok (.aload_n 0, 1) := by decide +kernel
theorem dL_shoots_26 : decode cL_shoots 26 = .ok (.iload_n 1, 1) := by decide +kernel
theorem dL_shoots_27 : decode cL_shoots 27 = .ok (.iload 5, 2) := by decide +kernel
theorem dL_shoots_29 : decode cL_shoots 29 = .ok (.iload 4, 2) := by decide +kernel
theorem dL_shoots_31 : decode cL_shoots 31 = .ok (.iconst 0, 1) := by decide +kernel
theorem dL_shoots_32 : decode cL_shoots 32 = .ok (.invokevirtual 68, 3) := by decide +kernel
theorem dL_shoots_35 : decode cL_shoots 35 = .ok (.istore 6, 2) := by decide +kernel
theorem dL_shoots_37 : decode cL_shoots 37 = .ok (.aload_n 0, 1) := by decide +kernel
theorem dL_shoots_38 : decode cL_shoots 38 = .ok (.iload_n 1, 1) := by decide +kernel
theorem dL_shoots_39 : decode cL_shoots 39 = .ok (.iload 5, 2) := by decide +kernel
theorem dL_shoots_41 : decode cL_shoots 41 = .ok (.iload 4, 2) := by decide +kernel
theorem dL_shoots_43 : decode cL_shoots 43 = .ok (.iconst 1, 1) := by decide +kernel
theorem dL_shoots_44 : decode cL_shoots 44 = .ok (.invokevirtual 68, 3) := by decide +kernel
theorem dL_shoots_47 : decode cL_shoots 47 = .ok (.istore 7, 2) := by decide +kernel
theorem dL_shoots_49 : decode cL_shoots 49 = .ok (.aload_n 0, 1) := by decide +kernel
theorem dL_shoots_50 : decode cL_shoots 50 = .ok (.iload_n 1, 1) := by decide +kernel
theorem dL_shoots_51 : decode cL_shoots 51 = .ok (.iconst 3, 1) := by decide +kernel
theorem dL_shoots_52 : decode cL_shoots 52 = .ok (.invokevirtual 18, 3) := by decide +kernel
theorem dL_shoots_55 : decode cL_shoots 55 = .ok (.istore 8, 2) := by decide +kernel
theorem dL_shoots_57 : decode cL_shoots 57 = .ok (.iload_n 2, 1) := by decide +kernel
theorem dL_shoots_58 : decode cL_shoots 58 = .ok (.bipush 6, 2) := by decide +kernel
theorem dL_shoots_60 : decode cL_shoots 60 = .ok (.ishr, 1) := by decide +kernel
theorem dL_shoots_61 : decode cL_shoots 61 = .ok (.iconst 3, 1) := by decide +kernel
theorem dL_shoots_62 : decode cL_shoots 62 = .ok (.invokestatic 65, 3) := by decide +kernel
theorem dL_shoots_65 : decode cL_shoots 65 = .ok (.ifCond .ne 19, 3) := by decide +kernel
theorem dL_shoots_68 : decode cL_shoots 68 = .ok (.iload_n 2, 1) := by decide +kernel
theorem dL_shoots_69 : decode cL_shoots 69 = .ok (.bipush 8, 2) := by decide +kernel
theorem dL_shoots_71 : decode cL_shoots 71 = .ok (.ishr, 1) := by decide +kernel
theorem dL_shoots_72 : decode cL_shoots 72 = .ok (.iconst 5, 1) := by decide +kernel
theorem dL_shoots_73 : decode cL_shoots 73 = .ok (.invokestatic 65, 3) := by decide +kernel
theorem dL_shoots_76 : decode cL_shoots 76 = .ok (.iconst 2, 1) := by decide +kernel
theorem dL_shoots_77 : decode cL_shoots 77 = .ok (.isub, 1) := by decide +kernel
theorem dL_shoots_78 : decode cL_shoots 78 = .ok (.iload 8, 2) := by decide +kernel
theorem dL_shoots_80 : decode cL_shoots 80 = .ok (.imul, 1) := by decide +kernel
theorem dL_shoots_81 : decode cL_shoots 81 = .ok (.goto 4, 3) := by decide +kernel
theorem dL_shoots_84 : decode cL_shoots 84 = .ok (.iconst 0, 1) := by decide +kernel
theorem dL_shoots_85 : decode cL_shoots 85 = .ok (.istore 9, 2) := by decide +kernel
theorem dL_shoots_87 : decode cL_shoots 87 = .ok (.iload 6, 2) := by decide +kernel
theorem dL_shoots_89 : decode cL_shoots 89 = .ok (.iload 9, 2) := by decide +kernel
theorem dL_shoots_91 : decode cL_shoots 91 = .ok (.iadd, 1) := by decide +kernel
theorem dL_shoots_92 : decode cL_shoots 92 = .ok (.aload_n 0, 1) := by decide +kernel
theorem dL_shoots_93 : decode cL_shoots 93 = .ok (.iload_n 1, 1) := by decide +kernel
theorem dL_shoots_94 : decode cL_shoots 94 = .ok (.iconst 4, 1) := by decide +kernel
theorem dL_shoots_95 : decode cL_shoots 95 = .ok (.invokevirtual 18, 3) := by decide +kernel
theorem dL_shoots_98 : decode cL_shoots 98 = .ok (.sipush 1000, 3) := by decide +kernel
theorem dL_shoots_101 : decode cL_shoots 101 = .ok (.iadd, 1) := by decide +kernel
theorem dL_shoots_102 : decode cL_shoots 102 = .ok (.if_icmp .ge 8, 3) := by decide +kernel
theorem dL_shoots_105 : decode cL_shoots 105 = .ok (.iload 6, 2) := by decide +kernel
theorem dL_shoots_107 : decode cL_shoots 107 = .ok (.goto 8, 3) := by decide +kernel
theorem dL_shoots_110 : decode cL_shoots 110 = .ok (.iload 6, 2) := by decide +kernel
theorem dL_shoots_112 : decode cL_shoots 112 = .ok (.iload 9, 2) := by decide +kernel
theorem dL_shoots_114 : decode cL_shoots 114 = .ok (.iadd, 1) := by decide +kernel
theorem dL_shoots_115 : decode cL_shoots 115 = .ok (.istore 10, 2) := by decide +kernel
theorem dL_shoots_117 : decode cL_shoots 117 = .ok (.iload_n 2, 1) := by decide +kernel
theorem dL_shoots_118 : decode cL_shoots 118 = .ok (.iconst 3, 1) := by decide +kernel
theorem dL_shoots_119 : decode cL_shoots 119 = .ok (.ishr, 1) := by decide +kernel
theorem dL_shoots_120 : decode cL_shoots 120 = .ok (.bipush 101, 2) := by decide +kernel
theorem dL_shoots_122 : decode cL_shoots 122 = .ok (.invokestatic 65, 3) := by decide +kernel
theorem dL_shoots_125 : decode cL_shoots 125 = .ok (.istore 11, 2) := by decide +kernel
theorem dL_shoots_127 : decode cL_shoots 127 = .ok (.aload_n 0, 1) := by decide +kernel
theorem dL_shoots_128 : decode cL_shoots 128 = .ok (.iload_n 1, 1) := by decide +kernel
theorem dL_shoots_129 : decode cL_shoots 129 = .ok (.iload 10, 2) := by decide +kernel
theorem dL_shoots_131 : decode cL_shoots 131 = .ok (.iload 7, 2) := by decide +kernel
theorem dL_shoots_133 : decode cL_shoots 133 = .ok (.invokevirtual 72, 3) := by decide +kernel
theorem dL_shoots_136 : decode cL_shoots 136 = .ok (.istore 12, 2) := by decide +kernel
theorem dL_shoots_138 : decode cL_shoots 138 = .ok (.aload_n 0, 1) := by decide +kernel
theorem dL_shoots_139 : decode cL_shoots 139 = .ok (.iload_n 1, 1) := by decide +kernel
theorem dL_shoots_140 : decode cL_shoots 140 = .ok (.iload 10, 2) := by decide +kernel
theorem dL_shoots_142 : decode cL_shoots 142 = .ok (.iload 7, 2) := by decide +kernel
theorem dL_shoots_144 : decode cL_shoots 144 = .ok (.iload 11, 2) := by decide +kernel
theorem dL_shoots_146 : decode cL_shoots 146 = .ok (.invokevirtual 76, 3) := by decide +kernel
theorem dL_shoots_149 : decode cL_shoots 149 = .ok (.istore 13, 2) := by decide +kernel
theorem dL_shoots_151 : decode cL_shoots 151 = .ok (.aload_n 0, 1) := by decide +kernel
theorem dL_shoots_152 : decode cL_shoots 152 = .ok (.bipush 6, 2) := by decide +kernel
theorem dL_shoots_154 : decode cL_shoots 154 = .ok (.invokevirtual 9, 3) := by decide +kernel
theorem dL_shoots_157 : decode cL_shoots 157 = .ok (.iconst 1, 1) := by decide +kernel
theorem dL_shoots_158 : decode cL_shoots 158 = .ok (.if_icmp .ne 7, 3) := by decide +kernel
theorem dL_shoots_161 : decode cL_shoots 161 = .ok (.iconst 1, 1) := by decide +kernel
theorem dL_shoots_162 : decode cL_shoots 162 = .ok (.goto 4, 3) := by decide +kernel
theorem dL_shoots_165 : decode cL_shoots 165 = .ok (.iconst 0, 1) := by decide +kernel
theorem dL_shoots_166 : decode cL_shoots 166 = .ok (.istore 14, 2) := by decide +kernel
theorem dL_shoots_168 : decode cL_shoots 168 = .ok (.iload 6, 2) := by decide +kernel
theorem dL_shoots_170 : decode cL_shoots 170 = .ok (.aload_n 0, 1) := by decide +kernel
theorem dL_shoots_171 : decode cL_shoots 171 = .ok (.iload_n 1, 1) := by decide +kernel
theorem dL_shoots_172 : decode cL_shoots 172 = .ok (.iload 5, 2) := by decide +kernel
theorem dL_shoots_174 : decode cL_shoots 174 = .ok (.iload 4, 2) := by decide +kernel
theorem dL_shoots_176 : decode cL_shoots 176 = .ok (.ineg, 1) := by decide +kernel
theorem dL_shoots_177 : decode cL_shoots 177 = .ok (.iconst 1, 1) := by decide +kernel
theorem dL_shoots_178 : decode cL_shoots 178 = .ok (.invokevirtual 68, 3) := by decide +kernel
theorem dL_shoots_181 : decode cL_shoots 181 = .ok (.if_icmp .ne 85, 3) := by decide +kernel
theorem dL_shoots_184 : decode cL_shoots 184 = .ok (.iload 12, 2) := by decide +kernel
theorem dL_shoots_186 : decode cL_shoots 186 = .ok (.aload_n 0, 1) := by decide +kernel
theorem dL_shoots_187 : decode cL_shoots 187 = .ok (.iload_n 1, 1) := by decide +kernel
theorem dL_shoots_188 : decode cL_shoots 188 = .ok (.iload 7, 2) := by decide +kernel
theorem dL_shoots_190 : decode cL_shoots 190 = .ok (.iload 10, 2) := by decide +kernel
theorem dL_shoots_192 : decode cL_shoots 192 = .ok (.invokevirtual 72, 3) := by decide +kernel
theorem dL_shoots_195 : decode cL_shoots 195 = .ok (.ineg, 1) := by decide +kernel
theorem dL_shoots_196 : decode cL_shoots 196 = .ok (.if_icmp .ne 70, 3) := by decide +kernel
theorem dL_shoots_199 : decode cL_shoots 199 = .ok (.iload 13, 2) := by decide +kernel
theorem dL_shoots_201 : decode cL_shoots 201 = .ok (.aload_n 0, 1) := by decide +kernel
theorem dL_shoots_202 : decode cL_shoots 202 = .ok (.iconst 2, 1) := by decide +kernel
theorem dL_shoots_203 : decode cL_shoots 203 = .ok (.invokevirtual 9, 3) := by decide +kernel
theorem dL_shoots_206 : decode cL_shoots 206 = .ok (.if_icmp .ne 60, 3) := by decide +kernel
theorem dL_shoots_209 : decode cL_shoots 209 = .ok (.aload_n 0, 1) := by decide +kernel
theorem dL_shoots_210 : decode cL_shoots 210 = .ok (.iload_n 1, 1) := by decide +kernel
theorem dL_shoots_211 : decode cL_shoots 211 = .ok (.iconst 0, 1) := by decide +kernel
theorem dL_shoots_212 : decode cL_shoots 212 = .ok (.invokevirtual 22, 3) := by decide +kernel
theorem dL_shoots_215 : decode cL_shoots 215 = .ok (.iload 14, 2) := by decide +kernel
theorem dL_shoots_217 : decode cL_shoots 217 = .ok (.ifCond .eq 8, 3) := by decide +kernel
theorem dL_shoots_220 : decode cL_shoots 220 = .ok (.iload 7, 2) := by decide +kernel
theorem dL_shoots_222 : decode cL_shoots 222 = .ok (.goto 5, 3) := by decide +kernel
theorem dL_shoots_225 : decode cL_shoots 225 = .ok (.iload 10, 2) := by decide +kernel
theorem dL_shoots_227 : decode cL_shoots 227 = .ok (.if_icmp .ne 39, 3) := by decide +kernel
theorem dL_shoots_230 : decode cL_shoots 230 = .ok (.aload_n 0, 1) := by decide +kernel
theorem dL_shoots_231 : decode cL_shoots 231 = .ok (.iload_n 1, 1) := by decide +kernel
theorem dL_shoots_232 : decode cL_shoots 232 = .ok (.iconst 1, 1) := by decide +kernel
theorem dL_shoots_233 : decode cL_shoots 233 = .ok (.invokevirtual 22, 3) := by decide +kernel
theorem dL_shoots_236 : decode cL_shoots 236 = .ok (.iload 14, 2) := by decide +kernel
theorem dL_shoots_238 : decode cL_shoots 238 = .ok (.ifCond .eq 8, 3) := by decide +kernel
theorem dL_shoots_241 : decode cL_shoots 241 = .ok (.iload 10, 2) := by decide +kernel
theorem dL_shoots_243 : decode cL_shoots 243 = .ok (.goto 5, 3) := by decide +kernel
theorem dL_shoots_246 : decode cL_shoots 246 = .ok (.iload 7, 2) := by decide +kernel
theorem dL_shoots_248 : decode cL_shoots 248 = .ok (.if_icmp .ne 18, 3) := by decide +kernel
theorem dL_shoots_251 : decode cL_shoots 251 = .ok (.aload_n 0, 1) := by decide +kernel
theorem dL_shoots_252 : decode cL_shoots 252 = .ok (.iload_n 1, 1) := by decide +kernel
theorem dL_shoots_253 : decode cL_shoots 253 = .ok (.iconst 2, 1) := by decide +kernel
theorem dL_shoots_254 : decode cL_shoots 254 = .ok (.invokevirtual 22, 3) := by decide +kernel
theorem dL_shoots_257 : decode cL_shoots 257 = .ok (.iload 11, 2) := by decide +kernel
theorem dL_shoots_259 : decode cL_shoots 259 = .ok (.if_icmp .ne 7, 3) := by decide +kernel
theorem dL_shoots_262 : decode cL_shoots 262 = .ok (.iconst 1, 1) := by decide +kernel
theorem dL_shoots_263 : decode cL_shoots 263 = .ok (.goto 4, 3) := by decide +kernel
theorem dL_shoots_266 : decode cL_shoots 266 = .ok (.iconst 0, 1) := by decide +kernel
theorem dL_shoots_267 : decode cL_shoots 267 = .ok (.ireturn, 1) := by decide +kernel
theorem dL_acts_0 : decode cL_acts 0 = .ok (.iload_n 1, 1) := by decide +kernel
theorem dL_acts_1 : decode cL_acts 1 = .ok (.bipush 16, 2) := by decide +kernel
theorem dL_acts_3 : decode cL_acts 3 = .ok (.invokestatic 65, 3) := by decide +kernel
theorem dL_acts_6 : decode cL_acts 6 = .ok (.istore_n 3, 1) := by decide +kernel
theorem dL_acts_7 : decode cL_acts 7 = .ok (.aload_n 0, 1) := by decide +kernel
theorem dL_acts_8 : decode cL_acts 8 = .ok (.iconst 0, 1) := by decide +kernel
theorem dL_acts_9 : decode cL_acts 9 = .ok (.invokevirtual 9, 3) := by decide +kernel
theorem dL_acts_12 : decode cL_acts 12 = .ok (.istore 4, 2) := by decide +kernel
theorem dL_acts_14 : decode cL_acts 14 = .ok (.iload_n 2, 1) := by decide +kernel
theorem dL_acts_15 : decode cL_acts 15 = .ok (.iconst 1, 1) := by decide +kernel
theorem dL_acts_16 : decode cL_acts 16 = .ok (.ishr, 1) := by decide +kernel
theorem dL_acts_17 : decode cL_acts 17 = .ok (.iload 4, 2) := by decide +kernel
theorem dL_acts_19 : decode cL_acts 19 = .ok (.invokestatic 65, 3) := by decide +kernel
theorem dL_acts_22 : decode cL_acts 22 = .ok (.istore 5, 2) := by decide +kernel
theorem dL_acts_24 : decode cL_acts 24 = .ok (.iload_n 3, 1) := by decide +kernel
theorem dL_acts_25 : decode cL_acts 25 = .ok (.bipush 6, 2) := by decide +kernel
theorem dL_acts_27 : decode cL_acts 27 = .ok (.if_icmp .ge 95, 3) := by decide +kernel
theorem dL_acts_30 : decode cL_acts 30 = .ok (.iconst 1, 1) := by decide +kernel
theorem dL_acts_31 : decode cL_acts 31 = .ok (.istore 6, 2) := by decide +kernel
theorem dL_acts_33 : decode cL_acts 33 = .ok (.iconst 0, 1) := by decide +kernel
theorem dL_acts_34 : decode cL_acts 34 = .ok (.istore 7, 2) := by decide +kernel
theorem dL_acts_36 : decode cL_acts 36 = .ok (.iload 7, 2) := by decide +kernel
theorem dL_acts_38 : decode cL_acts 38 = .ok (.iload 4, 2) := by decide +kernel
theorem dL_acts_40 : decode cL_acts 40 = .ok (.if_icmp .ge 64, 3) := by decide +kernel
theorem dL_acts_43 : decode cL_acts 43 = .ok (.iload 6, 2) := by decide +kernel
theorem dL_acts_45 : decode cL_acts 45 = .ok (.ifCond .eq 59, 3) := by decide +kernel
theorem dL_acts_48 : decode cL_acts 48 = .ok (.iload_n 1, 1) := by decide +kernel
theorem dL_acts_49 : decode cL_acts 49 = .ok (.iconst 4, 1) := by decide +kernel
theorem dL_acts_50 : decode cL_acts 50 = .ok (.iload 7, 2) := by decide +kernel
theorem dL_acts_52 : decode cL_acts 52 = .ok (.iadd, 1) := by decide +kernel
theorem dL_acts_53 : decode cL_acts 53 = .ok (.ishr, 1) := by decide +kernel
theorem dL_acts_54 : decode cL_acts 54 = .ok (.iconst 5, 1) := by decide +kernel
theorem dL_acts_55 : decode cL_acts 55 = .ok (.invokestatic 65, 3) := by decide +kernel
theorem dL_acts_58 : decode cL_acts 58 = .ok (.ifCond .eq 33, 3) := by decide +kernel
theorem dL_acts_61 : decode cL_acts 61 = .ok (.aload_n 0, 1) := by decide +kernel
theorem dL_acts_62 : decode cL_acts 62 = .ok (.iload 7, 2) := by decide +kernel
theorem dL_acts_64 : decode cL_acts 64 = .ok (.iload_n 1, 1) := by decide +kernel
theorem dL_acts_65 : decode cL_acts 65 = .ok (.iload 7, 2) := by decide +kernel
theorem dL_acts_67 : decode cL_acts 67 = .ok (.ishr, 1) := by decide +kernel
theorem dL_acts_68 : decode cL_acts 68 = .ok (.iload_n 2, 1) := by decide +kernel
theorem dL_acts_69 : decode cL_acts 69 = .ok (.ixor, 1) := by decide +kernel
theorem dL_acts_70 : decode cL_acts 70 = .ok (.iload_n 3, 1) := by decide +kernel
theorem dL_acts_71 : decode cL_acts 71 = .ok (.iconst 4, 1) := by decide +kernel
theorem dL_acts_72 : decode cL_acts 72 = .ok (.if_icmp .ge 7, 3) := by decide +kernel
theorem dL_acts_75 : decode cL_acts 75 = .ok (.iload_n 2, 1) := by decide +kernel
theorem dL_acts_76 : decode cL_acts 76 = .ok (.goto 9, 3) := by decide +kernel
theorem dL_acts_79 : decode cL_acts 79 = .ok (.iload_n 2, 1) := by decide +kernel
theorem dL_acts_80 : decode cL_acts 80 = .ok (.iload 7, 2) := by decide +kernel
theorem dL_acts_82 : decode cL_acts 82 = .ok (.ishr, 1) := by decide +kernel
theorem dL_acts_83 : decode cL_acts 83 = .ok (.iload_n 1, 1) := by decide +kernel
theorem dL_acts_84 : decode cL_acts 84 = .ok (.ixor, 1) := by decide +kernel
theorem dL_acts_85 : decode cL_acts 85 = .ok (.invokestatic 80, 3) := by decide +kernel
theorem dL_acts_88 : decode cL_acts 88 = .ok (.ifCond .eq 7, 3) := by decide +kernel
theorem dL_acts_91 : decode cL_acts 91 = .ok (.iconst 1, 1) := by decide +kernel
theorem dL_acts_92 : decode cL_acts 92 = .ok (.goto 4, 3) := by decide +kernel
theorem dL_acts_95 : decode cL_acts 95 = .ok (.iconst 0, 1) := by decide +kernel
theorem dL_acts_96 : decode cL_acts 96 = .ok (.istore 6, 2) := by decide +kernel
theorem dL_acts_98 : decode cL_acts 98 = .ok (.iinc 7 1, 3) := by decide +kernel
theorem dL_acts_101 : decode cL_acts 101 = .ok (.goto (-65), 3) := by decide +kernel
theorem dL_acts_104 : decode cL_acts 104 = .ok (.iload 6, 2) := by decide +kernel
theorem dL_acts_106 : decode cL_acts 106 = .ok (.ifCond .eq 14, 3) := by decide +kernel
theorem dL_acts_109 : decode cL_acts 109 = .ok (.aload_n 0, 1) := by decide +kernel
theorem dL_acts_110 : decode cL_acts 110 = .ok (.invokestatic 84, 3) := by decide +kernel
theorem dL_acts_113 : decode cL_acts 113 = .ok (.ifCond .eq 7, 3) := by decide +kernel
theorem dL_acts_116 : decode cL_acts 116 = .ok (.iconst 1, 1) := by decide +kernel
theorem dL_acts_117 : decode cL_acts 117 = .ok (.goto 4, 3) := by decide +kernel
theorem dL_acts_120 : decode cL_acts 120 = .ok (.iconst 0, 1) := by decide +kernel
theorem dL_acts_121 : decode cL_acts 121 = .ok (.ireturn, 1) := by decide +kernel
theorem dL_acts_122 : decode cL_acts 122 = .ok (.iload_n 3, 1) := by decide +kernel
theorem dL_acts_123 : decode cL_acts 123 = .ok (.bipush 8, 2) := by decide +kernel
theorem dL_acts_125 : decode cL_acts 125 = .ok (.if_icmp .ge 8, 3) := by decide +kernel
theorem dL_acts_128 : decode cL_acts 128 = .ok (.aload_n 0, 1) := by decide +kernel
theorem dL_acts_129 : decode cL_acts 129 = .ok (.invokestatic 84, 3) := by decide +kernel
theorem dL_acts_132 : decode cL_acts 132 = .ok (.ireturn, 1) := by decide +kernel
theorem dL_acts_133 : decode cL_acts 133 = .ok (.iload_n 3, 1) := by decide +kernel
theorem dL_acts_134 : decode cL_acts 134 = .ok (.bipush 8, 2) := by decide +kernel
theorem dL_acts_136 : decode cL_acts 136 = .ok (.if_icmp .ne 14, 3) := by decide +kernel
theorem dL_acts_139 : decode cL_acts 139 = .ok (.aload_n 0, 1) := by decide +kernel
theorem dL_acts_140 : decode cL_acts 140 = .ok (.iload 5, 2) := by decide +kernel
theorem dL_acts_142 : decode cL_acts 142 = .ok (.iload_n 1, 1) := by decide +kernel
theorem dL_acts_143 : decode cL_acts 143 = .ok (.iconst 4, 1) := by decide +kernel
theorem dL_acts_144 : decode cL_acts 144 = .ok (.ishr, 1) := by decide +kernel
theorem dL_acts_145 : decode cL_acts 145 = .ok (.iload_n 2, 1) := by decide +kernel
theorem dL_acts_146 : decode cL_acts 146 = .ok (.invokestatic 80, 3) := by decide +kernel
theorem dL_acts_149 : decode cL_acts 149 = .ok (.ireturn, 1) := by decide +kernel
theorem dL_acts_150 : decode cL_acts 150 = .ok (.iload_n 3, 1) := by decide +kernel
theorem dL_acts_151 : decode cL_acts 151 = .ok (.bipush 9, 2) := by decide +kernel
theorem dL_acts_153 : decode cL_acts 153 = .ok (.if_icmp .ne 178, 3) := by decide +kernel
theorem dL_acts_156 : decode cL_acts 156 = .ok (.aload_n 0, 1) := by decide +kernel
theorem dL_acts_157 : decode cL_acts 157 = .ok (.invokevirtual 44, 3) := by decide +kernel
theorem dL_acts_160 : decode cL_acts 160 = .ok (.istore 6, 2) := by decide +kernel
theorem dL_acts_162 : decode cL_acts 162 = .ok (.aload_n 0, 1) := by decide +kernel
theorem dL_acts_163 : decode cL_acts 163 = .ok (.iload 5, 2) := by decide +kernel
theorem dL_acts_165 : decode cL_acts 165 = .ok (.iconst 5, 1) := by decide +kernel
theorem dL_acts_166 : decode cL_acts 166 = .ok (.invokevirtual 18, 3) := by decide +kernel
theorem dL_acts_169 : decode cL_acts 169 = .ok (.istore 7, 2) := by decide +kernel
theorem dL_acts_171 : decode cL_acts 171 = .ok (.aload_n 0, 1) := by decide +kernel
theorem dL_acts_172 : decode cL_acts 172 = .ok (.iload 5, 2) := by decide +kernel
theorem dL_acts_174 : decode cL_acts 174 = .ok (.bipush 6, 2) := by decide +kernel
theorem dL_acts_176 : decode cL_acts 176 = .ok (.invokevirtual 18, 3) := by decide +kernel
theorem dL_acts_179 : decode cL_acts 179 = .ok (.istore 8, 2) := by decide +kernel
theorem dL_acts_181 : decode cL_acts 181 = .ok (.aload_n 0, 1) := by decide +kernel
theorem dL_acts_182 : decode cL_acts 182 = .ok (.iload 5, 2) := by decide +kernel
theorem dL_acts_184 : decode cL_acts 184 = .ok (.iconst 0, 1) := by decide +kernel
theorem dL_acts_185 : decode cL_acts 185 = .ok (.invokevirtual 22, 3) := by decide +kernel
theorem dL_acts_188 : decode cL_acts 188 = .ok (.istore 9, 2) := by decide +kernel
theorem dL_acts_190 : decode cL_acts 190 = .ok (.aload_n 0, 1) := by decide +kernel
theorem dL_acts_191 : decode cL_acts 191 = .ok (.bipush 6, 2) := by decide +kernel
theorem dL_acts_193 : decode cL_acts 193 = .ok (.invokevirtual 9, 3) := by decide +kernel
theorem dL_acts_196 : decode cL_acts 196 = .ok (.istore 10, 2) := by decide +kernel
theorem dL_acts_198 : decode cL_acts 198 = .ok (.aload_n 0, 1) := by decide +kernel
theorem dL_acts_199 : decode cL_acts 199 = .ok (.invokevirtual 88, 3) := by decide +kernel
theorem dL_acts_202 : decode cL_acts 202 = .ok (.iconst 1, 1) := by decide +kernel
theorem dL_acts_203 : decode cL_acts 203 = .ok (.iload 10, 2) := by decide +kernel
theorem dL_acts_205 : decode cL_acts 205 = .ok (.isub, 1) := by decide +kernel
theorem dL_acts_206 : decode cL_acts 206 = .ok (.if_icmp .ne 73, 3) := by decide +kernel
theorem dL_acts_209 : decode cL_acts 209 = .ok (.aload_n 0, 1) := by decide +kernel
theorem dL_acts_210 : decode cL_acts 210 = .ok (.iload 5, 2) := by decide +kernel
theorem dL_acts_212 : decode cL_acts 212 = .ok (.iconst 5, 1) := by decide +kernel
theorem dL_acts_213 : decode cL_acts 213 = .ok (.invokevirtual 18, 3) := by decide +kernel
theorem dL_acts_216 : decode cL_acts 216 = .ok (.iload 8, 2) := by decide +kernel
theorem dL_acts_218 : decode cL_acts 218 = .ok (.if_icmp .ne 61, 3) := by decide +kernel
theorem dL_acts_221 : decode cL_acts 221 = .ok (.aload_n 0, 1) := by decide +kernel
theorem dL_acts_222 : decode cL_acts 222 = .ok (.iload 5, 2) := by decide +kernel
theorem dL_acts_224 : decode cL_acts 224 = .ok (.bipush 6, 2) := by decide +kernel
theorem dL_acts_226 : decode cL_acts 226 = .ok (.invokevirtual 18, 3) := by decide +kernel
theorem dL_acts_229 : decode cL_acts 229 = .ok (.iload 7, 2) := by decide +kernel
theorem dL_acts_231 : decode cL_acts 231 = .ok (.if_icmp .ne 48, 3) := by decide +kernel
theorem dL_acts_234 : decode cL_acts 234 = .ok (.iload 9, 2) := by decide +kernel
theorem dL_acts_236 : decode cL_acts 236 = .ok (.ldc 27, 2) := by decide +kernel
theorem dL_acts_238 : decode cL_acts 238 = .ok (.if_icmp .eq 15, 3) := by decide +kernel
theorem dL_acts_241 : decode cL_acts 241 = .ok (.aload_n 0, 1) := by decide +kernel
theorem dL_acts_242 : decode cL_acts 242 = .ok (.iload 5, 2) := by decide +kernel
theorem dL_acts_244 : decode cL_acts 244 = .ok (.iconst 1, 1) := by decide +kernel
theorem dL_acts_245 : decode cL_acts 245 = .ok (.invokevirtual 22, 3) := by decide +kernel
theorem dL_acts_248 : decode cL_acts 248 = .ok (.iload 9, 2) := by decide +kernel
theorem dL_acts_250 : decode cL_acts 250 = .ok (.if_icmp .ne 29, 3) := by decide +kernel
theorem dL_acts_253 : decode cL_acts 253 = .ok (.aload_n 0, 1) := by decide +kernel
theorem dL_acts_254 : decode cL_acts 254 = .ok (.invokevirtual 44, 3) := by decide +kernel
theorem dL_acts_257 : decode cL_acts 257 = .ok (.iload 6, 2) := by decide +kernel
theorem dL_acts_259 : decode cL_acts 259 = .ok (.ldc 27, 2) := by decide +kernel
theorem dL_acts_261 : decode cL_acts 261 = .ok (.if_icmp .ne 8, 3) := by decide +kernel
theorem dL_acts_264 : decode cL_acts 264 = .ok (.ldc 27, 2) := by decide +kernel
theorem dL_acts_266 : decode cL_acts 266 = .ok (.goto 6, 3) := by decide +kernel
theorem dL_acts_269 : decode cL_acts 269 = .ok (.iload 6, 2) := by decide +kernel
theorem dL_acts_271 : decode cL_acts 271 = .ok (.ineg, 1) := by decide +kernel
theorem dL_acts_272 : decode cL_acts 272 = .ok (.if_icmp .ne 7, 3) := by decide +kernel
theorem dL_acts_275 : decode cL_acts 275 = .ok (.iconst 1, 1) := by decide +kernel
theorem dL_acts_276 : decode cL_acts 276 = .ok (.goto 4, 3) := by decide +kernel
theorem dL_acts_279 : decode cL_acts 279 = .ok (.iconst 0, 1) := by decide +kernel
theorem dL_acts_280 : decode cL_acts 280 = .ok (.istore 11, 2) := by decide +kernel
theorem dL_acts_282 : decode cL_acts 282 = .ok (.iload 11, 2) := by decide +kernel
theorem dL_acts_284 : decode cL_acts 284 = .ok (.ifCond .eq 45, 3) := by decide +kernel
theorem dL_acts_287 : decode cL_acts 287 = .ok (.iload_n 2, 1) := by decide +kernel
theorem dL_acts_288 : decode cL_acts 288 = .ok (.iconst 2, 1) := by decide +kernel
theorem dL_acts_289 : decode cL_acts 289 = .ok (.invokestatic 65, 3) := by decide +kernel
theorem dL_acts_292 : decode cL_acts 292 = .ok (.ifCond .eq 33, 3) := by decide +kernel
theorem dL_acts_295 : decode cL_acts 295 = .ok (.aload_n 0, 1) := by decide +kernel
theorem dL_acts_296 : decode cL_acts 296 = .ok (.invokevirtual 88, 3) := by decide +kernel
theorem dL_acts_299 : decode cL_acts 299 = .ok (.iload 10, 2) := by decide +kernel
theorem dL_acts_301 : decode cL_acts 301 = .ok (.if_icmp .ne 28, 3) := by decide +kernel
theorem dL_acts_304 : decode cL_acts 304 = .ok (.aload_n 0, 1) := by decide +kernel
theorem dL_acts_305 : decode cL_acts 305 = .ok (.iload 5, 2) := by decide +kernel
theorem dL_acts_307 : decode cL_acts 307 = .ok (.iconst 5, 1) := by decide +kernel
theorem dL_acts_308 : decode cL_acts 308 = .ok (.invokevirtual 18, 3) := by decide +kernel
theorem dL_acts_311 : decode cL_acts 311 = .ok (.iload 7, 2) := by decide +kernel
theorem dL_acts_313 : decode cL_acts 313 = .ok (.if_icmp .ne 16, 3) := by decide +kernel
theorem dL_acts_316 : decode cL_acts 316 = .ok (.aload_n 0, 1) := by decide +kernel
theorem dL_acts_317 : decode cL_acts 317 = .ok (.invokevirtual 44, 3) := by decide +kernel
theorem dL_acts_320 : decode cL_acts 320 = .ok (.iload 6, 2) := by decide +kernel
theorem dL_acts_322 : decode cL_acts 322 = .ok (.if_icmp .ne 7, 3) := by decide +kernel
theorem dL_acts_325 : decode cL_acts 325 = .ok (.iconst 1, 1) := by decide +kernel
theorem dL_acts_326 : decode cL_acts 326 = .ok (.goto 4, 3) := by decide +kernel
theorem dL_acts_329 : decode cL_acts 329 = .ok (.iconst 0, 1) := by decide +kernel
theorem dL_acts_330 : decode cL_acts 330 = .ok (.ireturn, 1) := by decide +kernel
theorem dL_acts_331 : decode cL_acts 331 = .ok (.iload_n 3, 1) := by decide +kernel
theorem dL_acts_332 : decode cL_acts 332 = .ok (.bipush 10, 2) := by decide +kernel
theorem dL_acts_334 : decode cL_acts 334 = .ok (.if_icmp .ne 133, 3) := by decide +kernel
theorem dL_acts_337 : decode cL_acts 337 = .ok (.iload_n 2, 1) := by decide +kernel
theorem dL_acts_338 : decode cL_acts 338 = .ok (.iconst 5, 1) := by decide +kernel
theorem dL_acts_339 : decode cL_acts 339 = .ok (.invokestatic 65, 3) := by decide +kernel
theorem dL_acts_342 : decode cL_acts 342 = .ok (.istore 6, 2) := by decide +kernel
theorem dL_acts_344 : decode cL_acts 344 = .ok (.iload 6, 2) := by decide +kernel
theorem dL_acts_346 : decode cL_acts 346 = .ok (.ifCond .ne 14, 3) := by decide +kernel
theorem dL_acts_349 : decode cL_acts 349 = .ok (.iload_n 2, 1) := by decide +kernel
theorem dL_acts_350 : decode cL_acts 350 = .ok (.iconst 3, 1) := by decide +kernel
theorem dL_acts_351 : decode cL_acts 351 = .ok (.ishr, 1) := by decide +kernel
theorem dL_acts_352 : decode cL_acts 352 = .ok (.bipush 101, 2) := by decide +kernel
theorem dL_acts_354 : decode cL_acts 354 = .ok (.invokestatic 65, 3) := by decide +kernel
theorem dL_acts_357 : decode cL_acts 357 = .ok (.goto 30, 3) := by decide +kernel
theorem dL_acts_360 : decode cL_acts 360 = .ok (.iload 6, 2) := by decide +kernel
theorem dL_acts_362 : decode cL_acts 362 = .ok (.iconst 1, 1) := by decide +kernel
theorem dL_acts_363 : decode cL_acts 363 = .ok (.if_icmp .ne 14, 3) := by decide +kernel
theorem dL_acts_366 : decode cL_acts 366 = .ok (.iload_n 2, 1) := by decide +kernel
theorem dL_acts_367 : decode cL_acts 367 = .ok (.iconst 3, 1) := by decide +kernel
theorem dL_acts_368 : decode cL_acts 368 = .ok (.ishr, 1) := by decide +kernel
theorem dL_acts_369 : decode cL_acts 369 = .ok (.bipush 6, 2) := by decide +kernel
theorem dL_acts_371 : decode cL_acts 371 = .ok (.invokestatic 65, 3) := by decide +kernel
theorem dL_acts_374 : decode cL_acts 374 = .ok (.goto 13, 3) := by decide +kernel
theorem dL_acts_377 : decode cL_acts 377 = .ok (.iconst 1, 1) := by decide +kernel
theorem dL_acts_378 : decode cL_acts 378 = .ok (.iload_n 2, 1) := by decide +kernel
theorem dL_acts_379 : decode cL_acts 379 = .ok (.iconst 3, 1) := by decide +kernel
theorem dL_acts_380 : decode cL_acts 380 = .ok (.ishr, 1) := by decide +kernel
theorem dL_acts_381 : decode cL_acts 381 = .ok (.bipush 100, 2) := by decide +kernel
theorem dL_acts_383 : decode cL_acts 383 = .ok (.invokestatic 65, 3) := by decide +kernel
theorem dL_acts_386 : decode cL_acts 386 = .ok (.iadd, 1) := by decide +kernel
theorem dL_acts_387 : decode cL_acts 387 = .ok (.istore 7, 2) := by decide +kernel
theorem dL_acts_389 : decode cL_acts 389 = .ok (.aload_n 0, 1) := by decide +kernel
theorem dL_acts_390 : decode cL_acts 390 = .ok (.bipush 10, 2) := by decide +kernel
theorem dL_acts_392 : decode cL_acts 392 = .ok (.iload 6, 2) := by decide +kernel
theorem dL_acts_394 : decode cL_acts 394 = .ok (.iadd, 1) := by decide +kernel
theorem dL_acts_395 : decode cL_acts 395 = .ok (.invokevirtual 9, 3) := by decide +kernel
theorem dL_acts_398 : decode cL_acts 398 = .ok (.istore 8, 2) := by decide +kernel
theorem dL_acts_400 : decode cL_acts 400 = .ok (.aload_n 0, 1) := by decide +kernel
theorem dL_acts_401 : decode cL_acts 401 = .ok (.iload 6, 2) := by decide +kernel
theorem dL_acts_403 : decode cL_acts 403 = .ok (.iload 7, 2) := by decide +kernel
theorem dL_acts_405 : decode cL_acts 405 = .ok (.invokevirtual 91, 3) := by decide +kernel
theorem dL_acts_408 : decode cL_acts 408 = .ok (.iload 8, 2) := by decide +kernel
theorem dL_acts_410 : decode cL_acts 410 = .ok (.if_icmp .ne 55, 3) := by decide +kernel
theorem dL_acts_413 : decode cL_acts 413 = .ok (.aload_n 0, 1) := by decide +kernel
theorem dL_acts_414 : decode cL_acts 414 = .ok (.bipush 10, 2) := by decide +kernel
theorem dL_acts_416 : decode cL_acts 416 = .ok (.iload 6, 2) := by decide +kernel
theorem dL_acts_418 : decode cL_acts 418 = .ok (.iadd, 1) := by decide +kernel
theorem dL_acts_419 : decode cL_acts 419 = .ok (.invokevirtual 9, 3) := by decide +kernel
theorem dL_acts_422 : decode cL_acts 422 = .ok (.iload 7, 2) := by decide +kernel
theorem dL_acts_424 : decode cL_acts 424 = .ok (.if_icmp .ne 41, 3) := by decide +kernel
theorem dL_acts_427 : decode cL_acts 427 = .ok (.aload_n 0, 1) := by decide +kernel
theorem dL_acts_428 : decode cL_acts 428 = .ok (.invokevirtual 94, 3) := by decide +kernel
theorem dL_acts_431 : decode cL_acts 431 = .ok (.ifCond .lt 34, 3) := by decide +kernel
theorem dL_acts_434 : decode cL_acts 434 = .ok (.aload_n 0, 1) := by decide +kernel
theorem dL_acts_435 : decode cL_acts 435 = .ok (.bipush 10, 2) := by decide +kernel
theorem dL_acts_437 : decode cL_acts 437 = .ok (.iload 6, 2) := by decide +kernel
theorem dL_acts_439 : decode cL_acts 439 = .ok (.iadd, 1) := by decide +kernel
theorem dL_acts_440 : decode cL_acts 440 = .ok (.invokevirtual 9, 3) := by decide +kernel
theorem dL_acts_443 : decode cL_acts 443 = .ok (.iload 8, 2) := by decide +kernel
theorem dL_acts_445 : decode cL_acts 445 = .ok (.if_icmp .ne 20, 3) := by decide +kernel
theorem dL_acts_448 : decode cL_acts 448 = .ok (.aload_n 0, 1) := by decide +kernel
theorem dL_acts_449 : decode cL_acts 449 = .ok (.iload 6, 2) := by decide +kernel
theorem dL_acts_451 : decode cL_acts 451 = .ok (.iload 7, 2) := by decide +kernel
theorem dL_acts_453 : decode cL_acts 453 = .ok (.invokevirtual 91, 3) := by decide +kernel
theorem dL_acts_456 : decode cL_acts 456 = .ok (.iload 8, 2) := by decide +kernel
theorem dL_acts_458 : decode cL_acts 458 = .ok (.if_icmp .ne 7, 3) := by decide +kernel
theorem dL_acts_461 : decode cL_acts 461 = .ok (.iconst 1, 1) := by decide +kernel
theorem dL_acts_462 : decode cL_acts 462 = .ok (.goto 4, 3) := by decide +kernel
theorem dL_acts_465 : decode cL_acts 465 = .ok (.iconst 0, 1) := by decide +kernel
theorem dL_acts_466 : decode cL_acts 466 = .ok (.ireturn, 1) := by decide +kernel
theorem dL_acts_467 : decode cL_acts 467 = .ok (.iload_n 3, 1) := by decide +kernel
theorem dL_acts_468 : decode cL_acts 468 = .ok (.bipush 11, 2) := by decide +kernel
theorem dL_acts_470 : decode cL_acts 470 = .ok (.if_icmp .ne 157, 3) := by decide +kernel
theorem dL_acts_473 : decode cL_acts 473 = .ok (.iload_n 2, 1) := by decide +kernel
theorem dL_acts_474 : decode cL_acts 474 = .ok (.bipush 9, 2) := by decide +kernel
theorem dL_acts_476 : decode cL_acts 476 = .ok (.invokestatic 65, 3) := by decide +kernel
theorem dL_acts_479 : decode cL_acts 479 = .ok (.sipush 500, 3) := by decide +kernel
theorem dL_acts_482 : decode cL_acts 482 = .ok (.imul, 1) := by decide +kernel
theorem dL_acts_483 : decode cL_acts 483 = .ok (.istore 6, 2) := by decide +kernel
theorem dL_acts_485 : decode cL_acts 485 = .ok (.sipush 500, 3) := by decide +kernel
theorem dL_acts_488 : decode cL_acts 488 = .ok (.iload_n 2, 1) := by decide +kernel
theorem dL_acts_489 : decode cL_acts 489 = .ok (.iconst 4, 1) := by decide +kernel
theorem dL_acts_490 : decode cL_acts 490 = .ok (.ishr, 1) := by decide +kernel
theorem dL_acts_491 : decode cL_acts 491 = .ok (.sipush 1001, 3) := by decide +kernel
theorem dL_acts_494 : decode cL_acts 494 = .ok (.invokestatic 65, 3) := by decide +kernel
theorem dL_acts_497 : decode cL_acts 497 = .ok (.iadd, 1) := by decide +kernel
theorem dL_acts_498 : decode cL_acts 498 = .ok (.istore 7, 2) := by decide +kernel
theorem dL_acts_500 : decode cL_acts 500 = .ok (.aload_n 0, 1) := by decide +kernel
theorem dL_acts_501 : decode cL_acts 501 = .ok (.iconst 1, 1) := by decide +kernel
theorem dL_acts_502 : decode cL_acts 502 = .ok (.invokevirtual 9, 3) := by decide +kernel
theorem dL_acts_505 : decode cL_acts 505 = .ok (.istore 8, 2) := by decide +kernel
theorem dL_acts_507 : decode cL_acts 507 = .ok (.aload_n 0, 1) := by decide +kernel
theorem dL_acts_508 : decode cL_acts 508 = .ok (.iload 6, 2) := by decide +kernel
theorem dL_acts_510 : decode cL_acts 510 = .ok (.iload 7, 2) := by decide +kernel
theorem dL_acts_512 : decode cL_acts 512 = .ok (.invokevirtual 97, 3) := by decide +kernel
theorem dL_acts_515 : decode cL_acts 515 = .ok (.istore 9, 2) := by decide +kernel
theorem dL_acts_517 : decode cL_acts 517 = .ok (.iload 9, 2) := by decide +kernel
theorem dL_acts_519 : decode cL_acts 519 = .ok (.ldc 100, 2) := by decide +kernel
theorem dL_acts_521 : decode cL_acts 521 = .ok (.if_icmp .ne 28, 3) := by decide +kernel
theorem dL_acts_524 : decode cL_acts 524 = .ok (.iload 8, 2) := by decide +kernel
theorem dL_acts_526 : decode cL_acts 526 = .ok (.bipush 6, 2) := by decide +kernel
theorem dL_acts_528 : decode cL_acts 528 = .ok (.if_icmp .ne 17, 3) := by decide +kernel
theorem dL_acts_531 : decode cL_acts 531 = .ok (.aload_n 0, 1) := by decide +kernel
theorem dL_acts_532 : decode cL_acts 532 = .ok (.iconst 1, 1) := by decide +kernel
theorem dL_acts_533 : decode cL_acts 533 = .ok (.invokevirtual 9, 3) := by decide +kernel
theorem dL_acts_536 : decode cL_acts 536 = .ok (.bipush 6, 2) := by decide +kernel
theorem dL_acts_538 : decode cL_acts 538 = .ok (.if_icmp .ne 7, 3) := by decide +kernel
theorem dL_acts_541 : decode cL_acts 541 = .ok (.iconst 1, 1) := by decide +kernel
theorem dL_acts_542 : decode cL_acts 542 = .ok (.goto 84, 3) := by decide +kernel
theorem dL_acts_545 : decode cL_acts 545 = .ok (.iconst 0, 1) := by decide +kernel
theorem dL_acts_546 : decode cL_acts 546 = .ok (.goto 80, 3) := by decide +kernel
theorem dL_acts_549 : decode cL_acts 549 = .ok (.iload 9, 2) := by decide +kernel
theorem dL_acts_551 : decode cL_acts 551 = .ok (.iload 8, 2) := by decide +kernel
theorem dL_acts_553 : decode cL_acts 553 = .ok (.if_icmp .eq 12, 3) := by decide +kernel
theorem dL_acts_556 : decode cL_acts 556 = .ok (.iload 9, 2) := by decide +kernel
theorem dL_acts_558 : decode cL_acts 558 = .ok (.iload 8, 2) := by decide +kernel
theorem dL_acts_560 : decode cL_acts 560 = .ok (.iconst 1, 1) := by decide +kernel
theorem dL_acts_561 : decode cL_acts 561 = .ok (.iadd, 1) := by decide +kernel
theorem dL_acts_562 : decode cL_acts 562 = .ok (.if_icmp .ne 63, 3) := by decide +kernel
theorem dL_acts_565 : decode cL_acts 565 = .ok (.aload_n 0, 1) := by decide +kernel
theorem dL_acts_566 : decode cL_acts 566 = .ok (.iload 6, 2) := by decide +kernel
theorem dL_acts_568 : decode cL_acts 568 = .ok (.invokevirtual 57, 3) := by decide +kernel
theorem dL_acts_571 : decode cL_acts 571 = .ok (.iload 7, 2) := by decide +kernel
theorem dL_acts_573 : decode cL_acts 573 = .ok (.if_icmp .ne 52, 3) := by decide +kernel
theorem dL_acts_576 : decode cL_acts 576 = .ok (.aload_n 0, 1) := by decide +kernel
theorem dL_acts_577 : decode cL_acts 577 = .ok (.iload 6, 2) := by decide +kernel
theorem dL_acts_579 : decode cL_acts 579 = .ok (.ineg, 1) := by decide +kernel
theorem dL_acts_580 : decode cL_acts 580 = .ok (.invokevirtual 57, 3) := by decide +kernel
theorem dL_acts_583 : decode cL_acts 583 = .ok (.iload 7, 2) := by decide +kernel
theorem dL_acts_585 : decode cL_acts 585 = .ok (.if_icmp .ne 40, 3) := by decide +kernel
theorem dL_acts_588 : decode cL_acts 588 = .ok (.iload_n 2, 1) := by decide +kernel
theorem dL_acts_589 : decode cL_acts 589 = .ok (.bipush 9, 2) := by decide +kernel
theorem dL_acts_591 : decode cL_acts 591 = .ok (.ishr, 1) := by decide +kernel
theorem dL_acts_592 : decode cL_acts 592 = .ok (.iconst 3, 1) := by decide +kernel
theorem dL_acts_593 : decode cL_acts 593 = .ok (.invokestatic 65, 3) := by decide +kernel
theorem dL_acts_596 : decode cL_acts 596 = .ok (.ifCond .gt 25, 3) := by decide +kernel
theorem dL_acts_599 : decode cL_acts 599 = .ok (.aload_n 0, 1) := by decide +kernel
theorem dL_acts_600 : decode cL_acts 600 = .ok (.iload 6, 2) := by decide +kernel
theorem dL_acts_602 : decode cL_acts 602 = .ok (.invokevirtual 101, 3) := by decide +kernel
theorem dL_acts_605 : decode cL_acts 605 = .ok (.iload 7, 2) := by decide +kernel
theorem dL_acts_607 : decode cL_acts 607 = .ok (.if_icmp .ne 18, 3) := by decide +kernel
theorem dL_acts_610 : decode cL_acts 610 = .ok (.aload_n 0, 1) := by decide +kernel
theorem dL_acts_611 : decode cL_acts 611 = .ok (.iload 6, 2) := by decide +kernel
theorem dL_acts_613 : decode cL_acts 613 = .ok (.invokevirtual 101, 3) := by decide +kernel
theorem dL_acts_616 : decode cL_acts 616 = .ok (.ldc 47, 2) := by decide +kernel
theorem dL_acts_618 : decode cL_acts 618 = .ok (.if_icmp .ne 7, 3) := by decide +kernel
theorem dL_acts_621 : decode cL_acts 621 = .ok (.iconst 1, 1) := by decide +kernel
theorem dL_acts_622 : decode cL_acts 622 = .ok (.goto 4, 3) := by decide +kernel
theorem dL_acts_625 : decode cL_acts 625 = .ok (.iconst 0, 1) := by decide +kernel
theorem dL_acts_626 : decode cL_acts 626 = .ok (.ireturn, 1) := by decide +kernel
theorem dL_acts_627 : decode cL_acts 627 = .ok (.iload_n 3, 1) := by decide +kernel
theorem dL_acts_628 : decode cL_acts 628 = .ok (.bipush 12, 2) := by decide +kernel
theorem dL_acts_630 : decode cL_acts 630 = .ok (.if_icmp .ne 80, 3) := by decide +kernel
theorem dL_acts_633 : decode cL_acts 633 = .ok (.iconst 1, 1) := by decide +kernel
theorem dL_acts_634 : decode cL_acts 634 = .ok (.iload_n 2, 1) := by decide +kernel
theorem dL_acts_635 : decode cL_acts 635 = .ok (.iconst 3, 1) := by decide +kernel
theorem dL_acts_636 : decode cL_acts 636 = .ok (.ishr, 1) := by decide +kernel
theorem dL_acts_637 : decode cL_acts 637 = .ok (.sipush 1000, 3) := by decide +kernel
theorem dL_acts_640 : decode cL_acts 640 = .ok (.invokestatic 65, 3) := by decide +kernel
theorem dL_acts_643 : decode cL_acts 643 = .ok (.iadd, 1) := by decide +kernel
theorem dL_acts_644 : decode cL_acts 644 = .ok (.istore 6, 2) := by decide +kernel
theorem dL_acts_646 : decode cL_acts 646 = .ok (.aload_n 0, 1) := by decide +kernel
theorem dL_acts_647 : decode cL_acts 647 = .ok (.iload 5, 2) := by decide +kernel
theorem dL_acts_649 : decode cL_acts 649 = .ok (.iconst 2, 1) := by decide +kernel
theorem dL_acts_650 : decode cL_acts 650 = .ok (.invokevirtual 18, 3) := by decide +kernel
theorem dL_acts_653 : decode cL_acts 653 = .ok (.istore 7, 2) := by decide +kernel
theorem dL_acts_655 : decode cL_acts 655 = .ok (.aload_n 0, 1) := by decide +kernel
theorem dL_acts_656 : decode cL_acts 656 = .ok (.iload 5, 2) := by decide +kernel
theorem dL_acts_658 : decode cL_acts 658 = .ok (.iload 6, 2) := by decide +kernel
theorem dL_acts_660 : decode cL_acts 660 = .ok (.invokevirtual 104, 3) := by decide +kernel
theorem dL_acts_663 : decode cL_acts 663 = .ok (.iload 7, 2) := by decide +kernel
theorem dL_acts_665 : decode cL_acts 665 = .ok (.if_icmp .ne 43, 3) := by decide +kernel
theorem dL_acts_668 : decode cL_acts 668 = .ok (.aload_n 0, 1) := by decide +kernel
theorem dL_acts_669 : decode cL_acts 669 = .ok (.iload 5, 2) := by decide +kernel
theorem dL_acts_671 : decode cL_acts 671 = .ok (.iconst 2, 1) := by decide +kernel
theorem dL_acts_672 : decode cL_acts 672 = .ok (.invokevirtual 18, 3) := by decide +kernel
theorem dL_acts_675 : decode cL_acts 675 = .ok (.iload 6, 2) := by decide +kernel
theorem dL_acts_677 : decode cL_acts 677 = .ok (.if_icmp .ne 31, 3) := by decide +kernel
theorem dL_acts_680 : decode cL_acts 680 = .ok (.aload_n 0, 1) := by decide +kernel
theorem dL_acts_681 : decode cL_acts 681 = .ok (.iload 4, 2) := by decide +kernel
theorem dL_acts_683 : decode cL_acts 683 = .ok (.iconst 1, 1) := by decide +kernel
theorem dL_acts_684 : decode cL_acts 684 = .ok (.invokevirtual 104, 3) := by decide +kernel
theorem dL_acts_687 : decode cL_acts 687 = .ok (.ldc 43, 2) := by decide +kernel
theorem dL_acts_689 : decode cL_acts 689 = .ok (.if_icmp .ne 19, 3) := by decide +kernel
theorem dL_acts_692 : decode cL_acts 692 = .ok (.aload_n 0, 1) := by decide +kernel
theorem dL_acts_693 : decode cL_acts 693 = .ok (.iload 5, 2) := by decide +kernel
theorem dL_acts_695 : decode cL_acts 695 = .ok (.iconst 0, 1) := by decide +kernel
theorem dL_acts_696 : decode cL_acts 696 = .ok (.invokevirtual 104, 3) := by decide +kernel
theorem dL_acts_699 : decode cL_acts 699 = .ok (.ldc 107, 2) := by decide +kernel
theorem dL_acts_701 : decode cL_acts 701 = .ok (.if_icmp .ne 7, 3) := by decide +kernel
