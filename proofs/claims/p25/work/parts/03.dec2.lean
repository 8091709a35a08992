theorem dL_sets_41 : decode cL_sets 41 = .ok (.istore 6, 2) := by decide +kernel
theorem dL_sets_43 : decode cL_sets 43 = .ok (.iload 6, 2) := by decide +kernel
theorem dL_sets_45 : decode cL_sets 45 = .ok (.iload 4, 2) := by decide +kernel
theorem dL_sets_47 : decode cL_sets 47 = .ok (.iload 5, 2) := by decide +kernel
theorem dL_sets_49 : decode cL_sets 49 = .ok (.if_icmp .ne 8, 3) := by decide +kernel
theorem dL_sets_52 : decode cL_sets 52 = .ok (.bipush (-4), 2) := by decide +kernel
theorem dL_sets_54 : decode cL_sets 54 = .ok (.goto 9, 3) := by decide +kernel
theorem dL_sets_57 : decode cL_sets 57 = .ok (.aload_n 0, 1) := by decide +kernel
theorem dL_sets_58 : decode cL_sets 58 = .ok (.bipush 6, 2) := by decide +kernel
theorem dL_sets_60 : decode cL_sets 60 = .ok (.invokevirtual 13, 3) := by decide +kernel
theorem dL_sets_63 : decode cL_sets 63 = .ok (.if_icmp .ne 33, 3) := by decide +kernel
theorem dL_sets_66 : decode cL_sets 66 = .ok (.aload_n 0, 1) := by decide +kernel
theorem dL_sets_67 : decode cL_sets 67 = .ok (.iload_n 2, 1) := by decide +kernel
theorem dL_sets_68 : decode cL_sets 68 = .ok (.iconst 0, 1) := by decide +kernel
theorem dL_sets_69 : decode cL_sets 69 = .ok (.invokevirtual 19, 3) := by decide +kernel
theorem dL_sets_72 : decode cL_sets 72 = .ok (.iload 5, 2) := by decide +kernel
theorem dL_sets_74 : decode cL_sets 74 = .ok (.if_icmp .ne 22, 3) := by decide +kernel
theorem dL_sets_77 : decode cL_sets 77 = .ok (.iload 5, 2) := by decide +kernel
theorem dL_sets_79 : decode cL_sets 79 = .ok (.iconst 1, 1) := by decide +kernel
theorem dL_sets_80 : decode cL_sets 80 = .ok (.if_icmp .eq 12, 3) := by decide +kernel
theorem dL_sets_83 : decode cL_sets 83 = .ok (.aload_n 0, 1) := by decide +kernel
theorem dL_sets_84 : decode cL_sets 84 = .ok (.iload_n 2, 1) := by decide +kernel
theorem dL_sets_85 : decode cL_sets 85 = .ok (.iconst 5, 1) := by decide +kernel
theorem dL_sets_86 : decode cL_sets 86 = .ok (.invokevirtual 19, 3) := by decide +kernel
theorem dL_sets_89 : decode cL_sets 89 = .ok (.ifCond .ne 7, 3) := by decide +kernel
theorem dL_sets_92 : decode cL_sets 92 = .ok (.iconst 1, 1) := by decide +kernel
theorem dL_sets_93 : decode cL_sets 93 = .ok (.goto 4, 3) := by decide +kernel
theorem dL_sets_96 : decode cL_sets 96 = .ok (.iconst 0, 1) := by decide +kernel
theorem dL_sets_97 : decode cL_sets 97 = .ok (.ireturn, 1) := by decide +kernel
theorem dL_sets_98 : decode cL_sets 98 = .ok (.iload_n 1, 1) := by decide +kernel
theorem dL_sets_99 : decode cL_sets 99 = .ok (.iconst 1, 1) := by decide +kernel
theorem dL_sets_100 : decode cL_sets 100 = .ok (.if_icmp .ne 46, 3) := by decide +kernel
theorem dL_sets_103 : decode cL_sets 103 = .ok (.aload_n 0, 1) := by decide +kernel
theorem dL_sets_104 : decode cL_sets 104 = .ok (.iload_n 2, 1) := by decide +kernel
theorem dL_sets_105 : decode cL_sets 105 = .ok (.iconst 2, 1) := by decide +kernel
theorem dL_sets_106 : decode cL_sets 106 = .ok (.invokevirtual 19, 3) := by decide +kernel
theorem dL_sets_109 : decode cL_sets 109 = .ok (.istore 4, 2) := by decide +kernel
theorem dL_sets_111 : decode cL_sets 111 = .ok (.aload_n 0, 1) := by decide +kernel
theorem dL_sets_112 : decode cL_sets 112 = .ok (.iload_n 2, 1) := by decide +kernel
theorem dL_sets_113 : decode cL_sets 113 = .ok (.invokevirtual 93, 3) := by decide +kernel
theorem dL_sets_116 : decode cL_sets 116 = .ok (.iload 4, 2) := by decide +kernel
theorem dL_sets_118 : decode cL_sets 118 = .ok (.ifCond .ne 8, 3) := by decide +kernel
theorem dL_sets_121 : decode cL_sets 121 = .ok (.bipush (-4), 2) := by decide +kernel
theorem dL_sets_123 : decode cL_sets 123 = .ok (.goto 5, 3) := by decide +kernel
theorem dL_sets_126 : decode cL_sets 126 = .ok (.iload 4, 2) := by decide +kernel
theorem dL_sets_128 : decode cL_sets 128 = .ok (.if_icmp .ne 16, 3) := by decide +kernel
theorem dL_sets_131 : decode cL_sets 131 = .ok (.aload_n 0, 1) := by decide +kernel
theorem dL_sets_132 : decode cL_sets 132 = .ok (.iload_n 2, 1) := by decide +kernel
theorem dL_sets_133 : decode cL_sets 133 = .ok (.iconst 2, 1) := by decide +kernel
theorem dL_sets_134 : decode cL_sets 134 = .ok (.invokevirtual 19, 3) := by decide +kernel
theorem dL_sets_137 : decode cL_sets 137 = .ok (.ifCond .ne 7, 3) := by decide +kernel
theorem dL_sets_140 : decode cL_sets 140 = .ok (.iconst 1, 1) := by decide +kernel
theorem dL_sets_141 : decode cL_sets 141 = .ok (.goto 4, 3) := by decide +kernel
theorem dL_sets_144 : decode cL_sets 144 = .ok (.iconst 0, 1) := by decide +kernel
theorem dL_sets_145 : decode cL_sets 145 = .ok (.ireturn, 1) := by decide +kernel
theorem dL_sets_146 : decode cL_sets 146 = .ok (.iload_n 1, 1) := by decide +kernel
theorem dL_sets_147 : decode cL_sets 147 = .ok (.iconst 2, 1) := by decide +kernel
theorem dL_sets_148 : decode cL_sets 148 = .ok (.if_icmp .ne 127, 3) := by decide +kernel
theorem dL_sets_151 : decode cL_sets 151 = .ok (.iload_n 3, 1) := by decide +kernel
theorem dL_sets_152 : decode cL_sets 152 = .ok (.iconst 4, 1) := by decide +kernel
theorem dL_sets_153 : decode cL_sets 153 = .ok (.invokestatic 80, 3) := by decide +kernel
theorem dL_sets_156 : decode cL_sets 156 = .ok (.istore 4, 2) := by decide +kernel
theorem dL_sets_158 : decode cL_sets 158 = .ok (.aload_n 0, 1) := by decide +kernel
theorem dL_sets_159 : decode cL_sets 159 = .ok (.iload 4, 2) := by decide +kernel
theorem dL_sets_161 : decode cL_sets 161 = .ok (.invokevirtual 13, 3) := by decide +kernel
theorem dL_sets_164 : decode cL_sets 164 = .ok (.istore 5, 2) := by decide +kernel
theorem dL_sets_166 : decode cL_sets 166 = .ok (.iconst 1, 1) := by decide +kernel
theorem dL_sets_167 : decode cL_sets 167 = .ok (.iload_n 3, 1) := by decide +kernel
theorem dL_sets_168 : decode cL_sets 168 = .ok (.iconst 2, 1) := by decide +kernel
theorem dL_sets_169 : decode cL_sets 169 = .ok (.ishr, 1) := by decide +kernel
theorem dL_sets_170 : decode cL_sets 170 = .ok (.iload 4, 2) := by decide +kernel
theorem dL_sets_172 : decode cL_sets 172 = .ok (.ifCond .ne 8, 3) := by decide +kernel
theorem dL_sets_175 : decode cL_sets 175 = .ok (.bipush 30, 2) := by decide +kernel
theorem dL_sets_177 : decode cL_sets 177 = .ok (.goto 27, 3) := by decide +kernel
theorem dL_sets_180 : decode cL_sets 180 = .ok (.iload 4, 2) := by decide +kernel
theorem dL_sets_182 : decode cL_sets 182 = .ok (.iconst 1, 1) := by decide +kernel
theorem dL_sets_183 : decode cL_sets 183 = .ok (.if_icmp .ne 8, 3) := by decide +kernel
theorem dL_sets_186 : decode cL_sets 186 = .ok (.bipush 40, 2) := by decide +kernel
theorem dL_sets_188 : decode cL_sets 188 = .ok (.goto 16, 3) := by decide +kernel
theorem dL_sets_191 : decode cL_sets 191 = .ok (.iload 4, 2) := by decide +kernel
theorem dL_sets_193 : decode cL_sets 193 = .ok (.iconst 2, 1) := by decide +kernel
theorem dL_sets_194 : decode cL_sets 194 = .ok (.if_icmp .ne 8, 3) := by decide +kernel
theorem dL_sets_197 : decode cL_sets 197 = .ok (.bipush 6, 2) := by decide +kernel
theorem dL_sets_199 : decode cL_sets 199 = .ok (.goto 5, 3) := by decide +kernel
theorem dL_sets_202 : decode cL_sets 202 = .ok (.bipush 10, 2) := by decide +kernel
theorem dL_sets_204 : decode cL_sets 204 = .ok (.invokestatic 80, 3) := by decide +kernel
theorem dL_sets_207 : decode cL_sets 207 = .ok (.iadd, 1) := by decide +kernel
theorem dL_sets_208 : decode cL_sets 208 = .ok (.istore 6, 2) := by decide +kernel
theorem dL_sets_210 : decode cL_sets 210 = .ok (.aload_n 0, 1) := by decide +kernel
theorem dL_sets_211 : decode cL_sets 211 = .ok (.iload 4, 2) := by decide +kernel
theorem dL_sets_213 : decode cL_sets 213 = .ok (.iload 6, 2) := by decide +kernel
theorem dL_sets_215 : decode cL_sets 215 = .ok (.invokevirtual 96, 3) := by decide +kernel
theorem dL_sets_218 : decode cL_sets 218 = .ok (.iload 5, 2) := by decide +kernel
theorem dL_sets_220 : decode cL_sets 220 = .ok (.iload 6, 2) := by decide +kernel
theorem dL_sets_222 : decode cL_sets 222 = .ok (.if_icmp .ne 8, 3) := by decide +kernel
theorem dL_sets_225 : decode cL_sets 225 = .ok (.bipush (-4), 2) := by decide +kernel
theorem dL_sets_227 : decode cL_sets 227 = .ok (.goto 5, 3) := by decide +kernel
theorem dL_sets_230 : decode cL_sets 230 = .ok (.iload 5, 2) := by decide +kernel
theorem dL_sets_232 : decode cL_sets 232 = .ok (.if_icmp .ne 41, 3) := by decide +kernel
theorem dL_sets_235 : decode cL_sets 235 = .ok (.aload_n 0, 1) := by decide +kernel
theorem dL_sets_236 : decode cL_sets 236 = .ok (.iload 4, 2) := by decide +kernel
theorem dL_sets_238 : decode cL_sets 238 = .ok (.invokevirtual 13, 3) := by decide +kernel
theorem dL_sets_241 : decode cL_sets 241 = .ok (.iload 6, 2) := by decide +kernel
theorem dL_sets_243 : decode cL_sets 243 = .ok (.if_icmp .ne 30, 3) := by decide +kernel
theorem dL_sets_246 : decode cL_sets 246 = .ok (.aload_n 0, 1) := by decide +kernel
theorem dL_sets_247 : decode cL_sets 247 = .ok (.iconst 3, 1) := by decide +kernel
theorem dL_sets_248 : decode cL_sets 248 = .ok (.bipush 11, 2) := by decide +kernel
theorem dL_sets_250 : decode cL_sets 250 = .ok (.invokevirtual 96, 3) := by decide +kernel
theorem dL_sets_253 : decode cL_sets 253 = .ok (.bipush (-2), 2) := by decide +kernel
theorem dL_sets_255 : decode cL_sets 255 = .ok (.if_icmp .ne 18, 3) := by decide +kernel
theorem dL_sets_258 : decode cL_sets 258 = .ok (.aload_n 0, 1) := by decide +kernel
theorem dL_sets_259 : decode cL_sets 259 = .ok (.iconst 4, 1) := by decide +kernel
theorem dL_sets_260 : decode cL_sets 260 = .ok (.iconst 1, 1) := by decide +kernel
theorem dL_sets_261 : decode cL_sets 261 = .ok (.invokevirtual 96, 3) := by decide +kernel
theorem dL_sets_264 : decode cL_sets 264 = .ok (.bipush (-2), 2) := by decide +kernel
theorem dL_sets_266 : decode cL_sets 266 = .ok (.if_icmp .ne 7, 3) := by decide +kernel
theorem dL_sets_269 : decode cL_sets 269 = .ok (.iconst 1, 1) := by decide +kernel
theorem dL_sets_270 : decode cL_sets 270 = .ok (.goto 4, 3) := by decide +kernel
theorem dL_sets_273 : decode cL_sets 273 = .ok (.iconst 0, 1) := by decide +kernel
theorem dL_sets_274 : decode cL_sets 274 = .ok (.ireturn, 1) := by decide +kernel
theorem dL_sets_275 : decode cL_sets 275 = .ok (.iconst 1, 1) := by decide +kernel
theorem dL_sets_276 : decode cL_sets 276 = .ok (.iload_n 3, 1) := by decide +kernel
theorem dL_sets_277 : decode cL_sets 277 = .ok (.bipush 12, 2) := by decide +kernel
theorem dL_sets_279 : decode cL_sets 279 = .ok (.invokestatic 80, 3) := by decide +kernel
theorem dL_sets_282 : decode cL_sets 282 = .ok (.iadd, 1) := by decide +kernel
theorem dL_sets_283 : decode cL_sets 283 = .ok (.istore 4, 2) := by decide +kernel
theorem dL_sets_285 : decode cL_sets 285 = .ok (.aload_n 0, 1) := by decide +kernel
theorem dL_sets_286 : decode cL_sets 286 = .ok (.iload 4, 2) := by decide +kernel
theorem dL_sets_288 : decode cL_sets 288 = .ok (.invokevirtual 39, 3) := by decide +kernel
theorem dL_sets_291 : decode cL_sets 291 = .ok (.istore 5, 2) := by decide +kernel
theorem dL_sets_293 : decode cL_sets 293 = .ok (.aload_n 0, 1) := by decide +kernel
theorem dL_sets_294 : decode cL_sets 294 = .ok (.iload 4, 2) := by decide +kernel
theorem dL_sets_296 : decode cL_sets 296 = .ok (.invokevirtual 99, 3) := by decide +kernel
theorem dL_sets_299 : decode cL_sets 299 = .ok (.iload 5, 2) := by decide +kernel
theorem dL_sets_301 : decode cL_sets 301 = .ok (.if_icmp .ne 18, 3) := by decide +kernel
theorem dL_sets_304 : decode cL_sets 304 = .ok (.aload_n 0, 1) := by decide +kernel
theorem dL_sets_305 : decode cL_sets 305 = .ok (.iload 4, 2) := by decide +kernel
theorem dL_sets_307 : decode cL_sets 307 = .ok (.invokevirtual 39, 3) := by decide +kernel
theorem dL_sets_310 : decode cL_sets 310 = .ok (.bipush (-4), 2) := by decide +kernel
theorem dL_sets_312 : decode cL_sets 312 = .ok (.if_icmp .ne 7, 3) := by decide +kernel
theorem dL_sets_315 : decode cL_sets 315 = .ok (.iconst 1, 1) := by decide +kernel
theorem dL_sets_316 : decode cL_sets 316 = .ok (.goto 4, 3) := by decide +kernel
theorem dL_sets_319 : decode cL_sets 319 = .ok (.iconst 0, 1) := by decide +kernel
theorem dL_sets_320 : decode cL_sets 320 = .ok (.ireturn, 1) := by decide +kernel
theorem dL_law_0 : decode cL_law 0 = .ok (.new 14, 3) := by decide +kernel
theorem dL_law_3 : decode cL_law 3 = .ok (.dup, 1) := by decide +kernel
theorem dL_law_4 : decode cL_law 4 = .ok (.invokespecial 102, 3) := by decide +kernel
theorem dL_law_7 : decode cL_law 7 = .ok (.astore_n 1, 1) := by decide +kernel
theorem dL_law_8 : decode cL_law 8 = .ok (.aload_n 1, 1) := by decide +kernel
theorem dL_law_9 : decode cL_law 9 = .ok (.invokevirtual 103, 3) := by decide +kernel
theorem dL_law_12 : decode cL_law 12 = .ok (.bipush (-4), 2) := by decide +kernel
theorem dL_law_14 : decode cL_law 14 = .ok (.if_icmp .ne 90, 3) := by decide +kernel
theorem dL_law_17 : decode cL_law 17 = .ok (.aload_n 1, 1) := by decide +kernel
theorem dL_law_18 : decode cL_law 18 = .ok (.invokevirtual 77, 3) := by decide +kernel
theorem dL_law_21 : decode cL_law 21 = .ok (.bipush (-4), 2) := by decide +kernel
theorem dL_law_23 : decode cL_law 23 = .ok (.if_icmp .ne 81, 3) := by decide +kernel
theorem dL_law_26 : decode cL_law 26 = .ok (.aload_n 1, 1) := by decide +kernel
theorem dL_law_27 : decode cL_law 27 = .ok (.invokevirtual 106, 3) := by decide +kernel
theorem dL_law_30 : decode cL_law 30 = .ok (.bipush (-100), 2) := by decide +kernel
theorem dL_law_32 : decode cL_law 32 = .ok (.if_icmp .ne 72, 3) := by decide +kernel
theorem dL_law_35 : decode cL_law 35 = .ok (.aload_n 1, 1) := by decide +kernel
theorem dL_law_36 : decode cL_law 36 = .ok (.iconst 0, 1) := by decide +kernel
theorem dL_law_37 : decode cL_law 37 = .ok (.invokevirtual 86, 3) := by decide +kernel
theorem dL_law_40 : decode cL_law 40 = .ok (.bipush (-4), 2) := by decide +kernel
theorem dL_law_42 : decode cL_law 42 = .ok (.if_icmp .ne 62, 3) := by decide +kernel
theorem dL_law_45 : decode cL_law 45 = .ok (.aload_n 1, 1) := by decide +kernel
theorem dL_law_46 : decode cL_law 46 = .ok (.bipush 6, 2) := by decide +kernel
theorem dL_law_48 : decode cL_law 48 = .ok (.invokevirtual 13, 3) := by decide +kernel
theorem dL_law_51 : decode cL_law 51 = .ok (.bipush 8, 2) := by decide +kernel
theorem dL_law_53 : decode cL_law 53 = .ok (.if_icmp .ne 51, 3) := by decide +kernel
theorem dL_law_56 : decode cL_law 56 = .ok (.aload_n 1, 1) := by decide +kernel
theorem dL_law_57 : decode cL_law 57 = .ok (.bipush 8, 2) := by decide +kernel
theorem dL_law_59 : decode cL_law 59 = .ok (.iconst 1, 1) := by decide +kernel
theorem dL_law_60 : decode cL_law 60 = .ok (.iconst 1, 1) := by decide +kernel
theorem dL_law_61 : decode cL_law 61 = .ok (.iconst 0, 1) := by decide +kernel
theorem dL_law_62 : decode cL_law 62 = .ok (.invokevirtual 63, 3) := by decide +kernel
theorem dL_law_65 : decode cL_law 65 = .ok (.iconst (-1), 1) := by decide +kernel
theorem dL_law_66 : decode cL_law 66 = .ok (.if_icmp .ne 38, 3) := by decide +kernel
theorem dL_law_69 : decode cL_law 69 = .ok (.aload_n 1, 1) := by decide +kernel
theorem dL_law_70 : decode cL_law 70 = .ok (.iconst 0, 1) := by decide +kernel
theorem dL_law_71 : decode cL_law 71 = .ok (.iconst 0, 1) := by decide +kernel
theorem dL_law_72 : decode cL_law 72 = .ok (.iconst 1, 1) := by decide +kernel
theorem dL_law_73 : decode cL_law 73 = .ok (.iconst 0, 1) := by decide +kernel
theorem dL_law_74 : decode cL_law 74 = .ok (.invokevirtual 63, 3) := by decide +kernel
theorem dL_law_77 : decode cL_law 77 = .ok (.bipush (-2), 2) := by decide +kernel
theorem dL_law_79 : decode cL_law 79 = .ok (.if_icmp .ne 25, 3) := by decide +kernel
theorem dL_law_82 : decode cL_law 82 = .ok (.aload_n 1, 1) := by decide +kernel
theorem dL_law_83 : decode cL_law 83 = .ok (.bipush 11, 2) := by decide +kernel
theorem dL_law_85 : decode cL_law 85 = .ok (.invokevirtual 70, 3) := by decide +kernel
theorem dL_law_88 : decode cL_law 88 = .ok (.bipush (-2), 2) := by decide +kernel
theorem dL_law_90 : decode cL_law 90 = .ok (.if_icmp .ne 14, 3) := by decide +kernel
theorem dL_law_93 : decode cL_law 93 = .ok (.aload_n 1, 1) := by decide +kernel
theorem dL_law_94 : decode cL_law 94 = .ok (.iconst 0, 1) := by decide +kernel
theorem dL_law_95 : decode cL_law 95 = .ok (.bipush 8, 2) := by decide +kernel
theorem dL_law_97 : decode cL_law 97 = .ok (.invokevirtual 83, 3) := by decide +kernel
theorem dL_law_100 : decode cL_law 100 = .ok (.iconst (-1), 1) := by decide +kernel
theorem dL_law_101 : decode cL_law 101 = .ok (.if_icmp .eq 5, 3) := by decide +kernel
theorem dL_law_104 : decode cL_law 104 = .ok (.iconst 0, 1) := by decide +kernel
theorem dL_law_105 : decode cL_law 105 = .ok (.ireturn, 1) := by decide +kernel
theorem dL_law_106 : decode cL_law 106 = .ok (.iconst 0, 1) := by decide +kernel
theorem dL_law_107 : decode cL_law 107 = .ok (.istore_n 2, 1) := by decide +kernel
theorem dL_law_108 : decode cL_law 108 = .ok (.iload_n 2, 1) := by decide +kernel
theorem dL_law_109 : decode cL_law 109 = .ok (.bipush 28, 2) := by decide +kernel
theorem dL_law_111 : decode cL_law 111 = .ok (.if_icmp .ge 354, 3) := by decide +kernel
theorem dL_law_114 : decode cL_law 114 = .ok (.aload_n 0, 1) := by decide +kernel
theorem dL_law_115 : decode cL_law 115 = .ok (.iconst 2, 1) := by decide +kernel
theorem dL_law_116 : decode cL_law 116 = .ok (.iload_n 2, 1) := by decide +kernel
theorem dL_law_117 : decode cL_law 117 = .ok (.imul, 1) := by decide +kernel
theorem dL_law_118 : decode cL_law 118 = .ok (.invokestatic 109, 3) := by decide +kernel
theorem dL_law_121 : decode cL_law 121 = .ok (.istore_n 3, 1) := by decide +kernel
theorem dL_law_122 : decode cL_law 122 = .ok (.aload_n 0, 1) := by decide +kernel
theorem dL_law_123 : decode cL_law 123 = .ok (.iconst 2, 1) := by decide +kernel
theorem dL_law_124 : decode cL_law 124 = .ok (.iload_n 2, 1) := by decide +kernel
theorem dL_law_125 : decode cL_law 125 = .ok (.imul, 1) := by decide +kernel
theorem dL_law_126 : decode cL_law 126 = .ok (.iconst 1, 1) := by decide +kernel
theorem dL_law_127 : decode cL_law 127 = .ok (.iadd, 1) := by decide +kernel
theorem dL_law_128 : decode cL_law 128 = .ok (.invokestatic 109, 3) := by decide +kernel
theorem dL_law_131 : decode cL_law 131 = .ok (.istore 4, 2) := by decide +kernel
theorem dL_law_133 : decode cL_law 133 = .ok (.iload_n 3, 1) := by decide +kernel
theorem dL_law_134 : decode cL_law 134 = .ok (.bipush 8, 2) := by decide +kernel
theorem dL_law_136 : decode cL_law 136 = .ok (.ishr, 1) := by decide +kernel
theorem dL_law_137 : decode cL_law 137 = .ok (.bipush 16, 2) := by decide +kernel
theorem dL_law_139 : decode cL_law 139 = .ok (.invokestatic 80, 3) := by decide +kernel
theorem dL_law_142 : decode cL_law 142 = .ok (.istore 5, 2) := by decide +kernel
theorem dL_law_144 : decode cL_law 144 = .ok (.iload_n 3, 1) := by decide +kernel
theorem dL_law_145 : decode cL_law 145 = .ok (.iload_n 3, 1) := by decide +kernel
theorem dL_law_146 : decode cL_law 146 = .ok (.sipush 512, 3) := by decide +kernel
theorem dL_law_149 : decode cL_law 149 = .ok (.iand, 1) := by decide +kernel
theorem dL_law_150 : decode cL_law 150 = .ok (.ifCond .ne 7, 3) := by decide +kernel
theorem dL_law_153 : decode cL_law 153 = .ok (.iconst 3, 1) := by decide +kernel
theorem dL_law_154 : decode cL_law 154 = .ok (.goto 5, 3) := by decide +kernel
theorem dL_law_157 : decode cL_law 157 = .ok (.bipush 8, 2) := by decide +kernel
theorem dL_law_159 : decode cL_law 159 = .ok (.invokestatic 80, 3) := by decide +kernel
theorem dL_law_162 : decode cL_law 162 = .ok (.istore 6, 2) := by decide +kernel
theorem dL_law_164 : decode cL_law 164 = .ok (.aload_n 1, 1) := by decide +kernel
theorem dL_law_165 : decode cL_law 165 = .ok (.bipush 13, 2) := by decide +kernel
theorem dL_law_167 : decode cL_law 167 = .ok (.invokevirtual 13, 3) := by decide +kernel
theorem dL_law_170 : decode cL_law 170 = .ok (.istore 7, 2) := by decide +kernel
theorem dL_law_172 : decode cL_law 172 = .ok (.aload_n 1, 1) := by decide +kernel
theorem dL_law_173 : decode cL_law 173 = .ok (.invokestatic 73, 3) := by decide +kernel
theorem dL_law_176 : decode cL_law 176 = .ok (.lstore 8, 2) := by decide +kernel
theorem dL_law_178 : decode cL_law 178 = .ok (.iconst 1, 1) := by decide +kernel
theorem dL_law_179 : decode cL_law 179 = .ok (.istore 10, 2) := by decide +kernel
theorem dL_law_181 : decode cL_law 181 = .ok (.iload 5, 2) := by decide +kernel
theorem dL_law_183 : decode cL_law 183 = .ok (.iconst 4, 1) := by decide +kernel
theorem dL_law_184 : decode cL_law 184 = .ok (.if_icmp .ge 18, 3) := by decide +kernel
theorem dL_law_187 : decode cL_law 187 = .ok (.aload_n 1, 1) := by decide +kernel
theorem dL_law_188 : decode cL_law 188 = .ok (.iload 5, 2) := by decide +kernel
theorem dL_law_190 : decode cL_law 190 = .ok (.iload 6, 2) := by decide +kernel
theorem dL_law_192 : decode cL_law 192 = .ok (.iload 4, 2) := by decide +kernel
theorem dL_law_194 : decode cL_law 194 = .ok (.invokestatic 113, 3) := by decide +kernel
theorem dL_law_197 : decode cL_law 197 = .ok (.istore 10, 2) := by decide +kernel
theorem dL_law_199 : decode cL_law 199 = .ok (.goto 159, 3) := by decide +kernel
theorem dL_law_202 : decode cL_law 202 = .ok (.iload 5, 2) := by decide +kernel
theorem dL_law_204 : decode cL_law 204 = .ok (.iconst 4, 1) := by decide +kernel
theorem dL_law_205 : decode cL_law 205 = .ok (.if_icmp .ne 16, 3) := by decide +kernel
theorem dL_law_208 : decode cL_law 208 = .ok (.aload_n 1, 1) := by decide +kernel
theorem dL_law_209 : decode cL_law 209 = .ok (.iload 6, 2) := by decide +kernel
theorem dL_law_211 : decode cL_law 211 = .ok (.iload 4, 2) := by decide +kernel
theorem dL_law_213 : decode cL_law 213 = .ok (.invokestatic 117, 3) := by decide +kernel
theorem dL_law_216 : decode cL_law 216 = .ok (.istore 10, 2) := by decide +kernel
theorem dL_law_218 : decode cL_law 218 = .ok (.goto 140, 3) := by decide +kernel
theorem dL_law_221 : decode cL_law 221 = .ok (.iload 5, 2) := by decide +kernel
theorem dL_law_223 : decode cL_law 223 = .ok (.bipush 7, 2) := by decide +kernel
theorem dL_law_225 : decode cL_law 225 = .ok (.if_icmp .ge 30, 3) := by decide +kernel
theorem dL_law_228 : decode cL_law 228 = .ok (.aload_n 1, 1) := by decide +kernel
theorem dL_law_229 : decode cL_law 229 = .ok (.iconst 1, 1) := by decide +kernel
theorem dL_law_230 : decode cL_law 230 = .ok (.iload 4, 2) := by decide +kernel
theorem dL_law_232 : decode cL_law 232 = .ok (.iconst 4, 1) := by decide +kernel
theorem dL_law_233 : decode cL_law 233 = .ok (.invokestatic 80, 3) := by decide +kernel
theorem dL_law_236 : decode cL_law 236 = .ok (.iadd, 1) := by decide +kernel
theorem dL_law_237 : decode cL_law 237 = .ok (.iconst 1, 1) := by decide +kernel
theorem dL_law_238 : decode cL_law 238 = .ok (.iload 4, 2) := by decide +kernel
theorem dL_law_240 : decode cL_law 240 = .ok (.iconst 5, 1) := by decide +kernel
theorem dL_law_241 : decode cL_law 241 = .ok (.ishr, 1) := by decide +kernel
theorem dL_law_242 : decode cL_law 242 = .ok (.iconst 4, 1) := by decide +kernel
theorem dL_law_243 : decode cL_law 243 = .ok (.invokestatic 80, 3) := by decide +kernel
theorem dL_law_246 : decode cL_law 246 = .ok (.iadd, 1) := by decide +kernel
theorem dL_law_247 : decode cL_law 247 = .ok (.invokestatic 121, 3) := by decide +kernel
theorem dL_law_250 : decode cL_law 250 = .ok (.istore 10, 2) := by decide +kernel
theorem dL_law_252 : decode cL_law 252 = .ok (.goto 106, 3) := by decide +kernel
theorem dL_law_255 : decode cL_law 255 = .ok (.iload 4, 2) := by decide +kernel
theorem dL_law_257 : decode cL_law 257 = .ok (.bipush 14, 2) := by decide +kernel
theorem dL_law_259 : decode cL_law 259 = .ok (.ishr, 1) := by decide +kernel
theorem dL_law_260 : decode cL_law 260 = .ok (.iconst 5, 1) := by decide +kernel
theorem dL_law_261 : decode cL_law 261 = .ok (.invokestatic 80, 3) := by decide +kernel
theorem dL_law_264 : decode cL_law 264 = .ok (.istore 11, 2) := by decide +kernel
theorem dL_law_266 : decode cL_law 266 = .ok (.iload 11, 2) := by decide +kernel
theorem dL_law_268 : decode cL_law 268 = .ok (.ifCond .lt 90, 3) := by decide +kernel
theorem dL_law_271 : decode cL_law 271 = .ok (.iload 10, 2) := by decide +kernel
theorem dL_law_273 : decode cL_law 273 = .ok (.ifCond .eq 85, 3) := by decide +kernel
theorem dL_law_276 : decode cL_law 276 = .ok (.iload 4, 2) := by decide +kernel
theorem dL_law_278 : decode cL_law 278 = .ok (.iload 11, 2) := by decide +kernel
theorem dL_law_280 : decode cL_law 280 = .ok (.ishr, 1) := by decide +kernel
theorem dL_law_281 : decode cL_law 281 = .ok (.iconst 3, 1) := by decide +kernel
theorem dL_law_282 : decode cL_law 282 = .ok (.iand, 1) := by decide +kernel
theorem dL_law_283 : decode cL_law 283 = .ok (.ifCond .ne 7, 3) := by decide +kernel
theorem dL_law_286 : decode cL_law 286 = .ok (.iconst 0, 1) := by decide +kernel
theorem dL_law_287 : decode cL_law 287 = .ok (.goto 17, 3) := by decide +kernel
theorem dL_law_290 : decode cL_law 290 = .ok (.iconst 1, 1) := by decide +kernel
theorem dL_law_291 : decode cL_law 291 = .ok (.iload 4, 2) := by decide +kernel
theorem dL_law_293 : decode cL_law 293 = .ok (.iconst 3, 1) := by decide +kernel
theorem dL_law_294 : decode cL_law 294 = .ok (.iload 11, 2) := by decide +kernel
theorem dL_law_296 : decode cL_law 296 = .ok (.iadd, 1) := by decide +kernel
theorem dL_law_297 : decode cL_law 297 = .ok (.ishr, 1) := by decide +kernel
theorem dL_law_298 : decode cL_law 298 = .ok (.bipush 9, 2) := by decide +kernel
theorem dL_law_300 : decode cL_law 300 = .ok (.invokestatic 80, 3) := by decide +kernel
theorem dL_law_303 : decode cL_law 303 = .ok (.iadd, 1) := by decide +kernel
theorem dL_law_304 : decode cL_law 304 = .ok (.istore 12, 2) := by decide +kernel
theorem dL_law_306 : decode cL_law 306 = .ok (.aload_n 1, 1) := by decide +kernel
theorem dL_law_307 : decode cL_law 307 = .ok (.iload 6, 2) := by decide +kernel
theorem dL_law_309 : decode cL_law 309 = .ok (.iload 4, 2) := by decide +kernel
theorem dL_law_311 : decode cL_law 311 = .ok (.iload 11, 2) := by decide +kernel
theorem dL_law_313 : decode cL_law 313 = .ok (.ishr, 1) := by decide +kernel
theorem dL_law_314 : decode cL_law 314 = .ok (.iconst 1, 1) := by decide +kernel
theorem dL_law_315 : decode cL_law 315 = .ok (.iand, 1) := by decide +kernel
theorem dL_law_316 : decode cL_law 316 = .ok (.iadd, 1) := by decide +kernel
theorem dL_law_317 : decode cL_law 317 = .ok (.bipush 8, 2) := by decide +kernel
theorem dL_law_319 : decode cL_law 319 = .ok (.irem, 1) := by decide +kernel
theorem dL_law_320 : decode cL_law 320 = .ok (.iconst 1, 1) := by decide +kernel
theorem dL_law_321 : decode cL_law 321 = .ok (.iload 4, 2) := by decide +kernel
theorem dL_law_323 : decode cL_law 323 = .ok (.bipush 7, 2) := by decide +kernel
theorem dL_law_325 : decode cL_law 325 = .ok (.iload 11, 2) := by decide +kernel
theorem dL_law_327 : decode cL_law 327 = .ok (.iadd, 1) := by decide +kernel
theorem dL_law_328 : decode cL_law 328 = .ok (.ishr, 1) := by decide +kernel
theorem dL_law_329 : decode cL_law 329 = .ok (.bipush 9, 2) := by decide +kernel
theorem dL_law_331 : decode cL_law 331 = .ok (.invokestatic 80, 3) := by decide +kernel
theorem dL_law_334 : decode cL_law 334 = .ok (.iadd, 1) := by decide +kernel
theorem dL_law_335 : decode cL_law 335 = .ok (.iload 12, 2) := by decide +kernel
theorem dL_law_337 : decode cL_law 337 = .ok (.iload_n 3, 1) := by decide +kernel
theorem dL_law_338 : decode cL_law 338 = .ok (.iconst 4, 1) := by decide +kernel
theorem dL_law_339 : decode cL_law 339 = .ok (.iload 11, 2) := by decide +kernel
theorem dL_law_341 : decode cL_law 341 = .ok (.iadd, 1) := by decide +kernel
theorem dL_law_342 : decode cL_law 342 = .ok (.ishr, 1) := by decide +kernel
theorem dL_law_343 : decode cL_law 343 = .ok (.iconst 4, 1) := by decide +kernel
theorem dL_law_344 : decode cL_law 344 = .ok (.invokestatic 80, 3) := by decide +kernel
theorem dL_law_347 : decode cL_law 347 = .ok (.invokestatic 124, 3) := by decide +kernel
theorem dL_law_350 : decode cL_law 350 = .ok (.istore 10, 2) := by decide +kernel
theorem dL_law_352 : decode cL_law 352 = .ok (.iinc 11 (-1), 3) := by decide +kernel
theorem dL_law_355 : decode cL_law 355 = .ok (.goto (-89), 3) := by decide +kernel
theorem dL_law_358 : decode cL_law 358 = .ok (.iload 7, 2) := by decide +kernel
theorem dL_law_360 : decode cL_law 360 = .ok (.iconst 4, 1) := by decide +kernel
theorem dL_law_361 : decode cL_law 361 = .ok (.if_icmp .ne 7, 3) := by decide +kernel
theorem dL_law_364 : decode cL_law 364 = .ok (.iconst 3, 1) := by decide +kernel
theorem dL_law_365 : decode cL_law 365 = .ok (.goto 5, 3) := by decide +kernel
theorem dL_law_368 : decode cL_law 368 = .ok (.iload 7, 2) := by decide +kernel
theorem dL_law_370 : decode cL_law 370 = .ok (.istore 11, 2) := by decide +kernel
theorem dL_law_372 : decode cL_law 372 = .ok (.iload 10, 2) := by decide +kernel
theorem dL_law_374 : decode cL_law 374 = .ok (.ifCond .eq 71, 3) := by decide +kernel
theorem dL_law_377 : decode cL_law 377 = .ok (.iload 5, 2) := by decide +kernel
theorem dL_law_379 : decode cL_law 379 = .ok (.iconst 5, 1) := by decide +kernel
theorem dL_law_380 : decode cL_law 380 = .ok (.if_icmp .ge 65, 3) := by decide +kernel
theorem dL_law_383 : decode cL_law 383 = .ok (.iload 4, 2) := by decide +kernel
theorem dL_law_385 : decode cL_law 385 = .ok (.sipush 1536, 3) := by decide +kernel
theorem dL_law_388 : decode cL_law 388 = .ok (.iand, 1) := by decide +kernel
theorem dL_law_389 : decode cL_law 389 = .ok (.ifCond .ne 56, 3) := by decide +kernel
theorem dL_law_392 : decode cL_law 392 = .ok (.aload_n 1, 1) := by decide +kernel
theorem dL_law_393 : decode cL_law 393 = .ok (.bipush 13, 2) := by decide +kernel
theorem dL_law_395 : decode cL_law 395 = .ok (.invokevirtual 13, 3) := by decide +kernel
theorem dL_law_398 : decode cL_law 398 = .ok (.iload 7, 2) := by decide +kernel
theorem dL_law_400 : decode cL_law 400 = .ok (.if_icmp .ne 19, 3) := by decide +kernel
theorem dL_law_403 : decode cL_law 403 = .ok (.iload 7, 2) := by decide +kernel
theorem dL_law_405 : decode cL_law 405 = .ok (.iconst 4, 1) := by decide +kernel
theorem dL_law_406 : decode cL_law 406 = .ok (.if_icmp .ne 39, 3) := by decide +kernel
theorem dL_law_409 : decode cL_law 409 = .ok (.aload_n 1, 1) := by decide +kernel
theorem dL_law_410 : decode cL_law 410 = .ok (.invokestatic 73, 3) := by decide +kernel
theorem dL_law_413 : decode cL_law 413 = .ok (.lload 8, 2) := by decide +kernel
theorem dL_law_415 : decode cL_law 415 = .ok (.lcmp, 1) := by decide +kernel
theorem dL_law_416 : decode cL_law 416 = .ok (.ifCond .eq 29, 3) := by decide +kernel
theorem dL_law_419 : decode cL_law 419 = .ok (.aload_n 1, 1) := by decide +kernel
theorem dL_law_420 : decode cL_law 420 = .ok (.invokevirtual 103, 3) := by decide +kernel
theorem dL_law_423 : decode cL_law 423 = .ok (.iload 11, 2) := by decide +kernel
theorem dL_law_425 : decode cL_law 425 = .ok (.if_icmp .ne 17, 3) := by decide +kernel
theorem dL_law_428 : decode cL_law 428 = .ok (.aload_n 1, 1) := by decide +kernel
theorem dL_law_429 : decode cL_law 429 = .ok (.invokestatic 73, 3) := by decide +kernel
theorem dL_law_432 : decode cL_law 432 = .ok (.lload 8, 2) := by decide +kernel
theorem dL_law_434 : decode cL_law 434 = .ok (.lcmp, 1) := by decide +kernel
theorem dL_law_435 : decode cL_law 435 = .ok (.ifCond .ne 7, 3) := by decide +kernel
theorem dL_law_438 : decode cL_law 438 = .ok (.iconst 1, 1) := by decide +kernel
theorem dL_law_439 : decode cL_law 439 = .ok (.goto 4, 3) := by decide +kernel
theorem dL_law_442 : decode cL_law 442 = .ok (.iconst 0, 1) := by decide +kernel
theorem dL_law_443 : decode cL_law 443 = .ok (.istore 10, 2) := by decide +kernel
theorem dL_law_445 : decode cL_law 445 = .ok (.iload 10, 2) := by decide +kernel
theorem dL_law_447 : decode cL_law 447 = .ok (.ifCond .eq 10, 3) := by decide +kernel
theorem dL_law_450 : decode cL_law 450 = .ok (.aload_n 1, 1) := by decide +kernel
theorem dL_law_451 : decode cL_law 451 = .ok (.invokestatic 128, 3) := by decide +kernel
theorem dL_law_454 : decode cL_law 454 = .ok (.ifCond .ne 5, 3) := by decide +kernel
theorem dL_law_457 : decode cL_law 457 = .ok (.iconst 0, 1) := by decide +kernel
theorem dL_law_458 : decode cL_law 458 = .ok (.ireturn, 1) := by decide +kernel
theorem dL_law_459 : decode cL_law 459 = .ok (.iinc 2 1, 3) := by decide +kernel
theorem dL_law_462 : decode cL_law 462 = .ok (.goto (-354), 3) := by decide +kernel
theorem dL_law_465 : decode cL_law 465 = .ok (.iconst 1, 1) := by decide +kernel
theorem dL_law_466 : decode cL_law 466 = .ok (.ireturn, 1) := by decide +kernel
