theorem dX10_sends_42 : decode cX10_sends 42 = .ok (.iconst 3, 1) := by decide +kernel
theorem dX10_sends_43 : decode cX10_sends 43 = .ok (.invokevirtual 44, 3) := by decide +kernel
theorem dX10_sends_46 : decode cX10_sends 46 = .ok (.iconst 1, 1) := by decide +kernel
theorem dX10_sends_47 : decode cX10_sends 47 = .ok (.isub, 1) := by decide +kernel
theorem dX10_sends_48 : decode cX10_sends 48 = .ok (.iastore, 1) := by decide +kernel
theorem dX10_sends_49 : decode cX10_sends 49 = .ok (.aload_n 0, 1) := by decide +kernel
theorem dX10_sends_50 : decode cX10_sends 50 = .ok (.getfield 22, 3) := by decide +kernel
theorem dX10_sends_53 : decode cX10_sends 53 = .ok (.iconst 4, 1) := by decide +kernel
theorem dX10_sends_54 : decode cX10_sends 54 = .ok (.aload_n 0, 1) := by decide +kernel
theorem dX10_sends_55 : decode cX10_sends 55 = .ok (.getfield 115, 3) := by decide +kernel
theorem dX10_sends_58 : decode cX10_sends 58 = .ok (.imul, 1) := by decide +kernel
theorem dX10_sends_59 : decode cX10_sends 59 = .ok (.iconst 1, 1) := by decide +kernel
theorem dX10_sends_60 : decode cX10_sends 60 = .ok (.iadd, 1) := by decide +kernel
theorem dX10_sends_61 : decode cX10_sends 61 = .ok (.aload_n 0, 1) := by decide +kernel
theorem dX10_sends_62 : decode cX10_sends 62 = .ok (.getfield 7, 3) := by decide +kernel
theorem dX10_sends_65 : decode cX10_sends 65 = .ok (.iload_n 3, 1) := by decide +kernel
theorem dX10_sends_66 : decode cX10_sends 66 = .ok (.iconst 1, 1) := by decide +kernel
theorem dX10_sends_67 : decode cX10_sends 67 = .ok (.iadd, 1) := by decide +kernel
theorem dX10_sends_68 : decode cX10_sends 68 = .ok (.iaload, 1) := by decide +kernel
theorem dX10_sends_69 : decode cX10_sends 69 = .ok (.iastore, 1) := by decide +kernel
theorem dX10_sends_70 : decode cX10_sends 70 = .ok (.aload_n 0, 1) := by decide +kernel
theorem dX10_sends_71 : decode cX10_sends 71 = .ok (.getfield 22, 3) := by decide +kernel
theorem dX10_sends_74 : decode cX10_sends 74 = .ok (.iconst 4, 1) := by decide +kernel
theorem dX10_sends_75 : decode cX10_sends 75 = .ok (.aload_n 0, 1) := by decide +kernel
theorem dX10_sends_76 : decode cX10_sends 76 = .ok (.getfield 115, 3) := by decide +kernel
theorem dX10_sends_79 : decode cX10_sends 79 = .ok (.imul, 1) := by decide +kernel
theorem dX10_sends_80 : decode cX10_sends 80 = .ok (.iconst 2, 1) := by decide +kernel
theorem dX10_sends_81 : decode cX10_sends 81 = .ok (.iadd, 1) := by decide +kernel
theorem dX10_sends_82 : decode cX10_sends 82 = .ok (.aload_n 0, 1) := by decide +kernel
theorem dX10_sends_83 : decode cX10_sends 83 = .ok (.getfield 7, 3) := by decide +kernel
theorem dX10_sends_86 : decode cX10_sends 86 = .ok (.iload_n 3, 1) := by decide +kernel
theorem dX10_sends_87 : decode cX10_sends 87 = .ok (.iconst 2, 1) := by decide +kernel
theorem dX10_sends_88 : decode cX10_sends 88 = .ok (.iadd, 1) := by decide +kernel
theorem dX10_sends_89 : decode cX10_sends 89 = .ok (.iaload, 1) := by decide +kernel
theorem dX10_sends_90 : decode cX10_sends 90 = .ok (.iastore, 1) := by decide +kernel
theorem dX10_sends_91 : decode cX10_sends 91 = .ok (.aload_n 0, 1) := by decide +kernel
theorem dX10_sends_92 : decode cX10_sends 92 = .ok (.getfield 22, 3) := by decide +kernel
theorem dX10_sends_95 : decode cX10_sends 95 = .ok (.iconst 4, 1) := by decide +kernel
theorem dX10_sends_96 : decode cX10_sends 96 = .ok (.aload_n 0, 1) := by decide +kernel
theorem dX10_sends_97 : decode cX10_sends 97 = .ok (.getfield 115, 3) := by decide +kernel
theorem dX10_sends_100 : decode cX10_sends 100 = .ok (.imul, 1) := by decide +kernel
theorem dX10_sends_101 : decode cX10_sends 101 = .ok (.iconst 3, 1) := by decide +kernel
theorem dX10_sends_102 : decode cX10_sends 102 = .ok (.iadd, 1) := by decide +kernel
theorem dX10_sends_103 : decode cX10_sends 103 = .ok (.aload_n 0, 1) := by decide +kernel
theorem dX10_sends_104 : decode cX10_sends 104 = .ok (.getfield 7, 3) := by decide +kernel
theorem dX10_sends_107 : decode cX10_sends 107 = .ok (.iload_n 3, 1) := by decide +kernel
theorem dX10_sends_108 : decode cX10_sends 108 = .ok (.iconst 3, 1) := by decide +kernel
theorem dX10_sends_109 : decode cX10_sends 109 = .ok (.iadd, 1) := by decide +kernel
theorem dX10_sends_110 : decode cX10_sends 110 = .ok (.iaload, 1) := by decide +kernel
theorem dX10_sends_111 : decode cX10_sends 111 = .ok (.iastore, 1) := by decide +kernel
theorem dX10_sends_112 : decode cX10_sends 112 = .ok (.aload_n 0, 1) := by decide +kernel
theorem dX10_sends_113 : decode cX10_sends 113 = .ok (.dup, 1) := by decide +kernel
theorem dX10_sends_114 : decode cX10_sends 114 = .ok (.getfield 115, 3) := by decide +kernel
theorem dX10_sends_117 : decode cX10_sends 117 = .ok (.iconst 1, 1) := by decide +kernel
theorem dX10_sends_118 : decode cX10_sends 118 = .ok (.iadd, 1) := by decide +kernel
theorem dX10_sends_119 : decode cX10_sends 119 = .ok (.putfield 115, 3) := by decide +kernel
theorem dX10_sends_122 : decode cX10_sends 122 = .ok (.goto 10, 3) := by decide +kernel
theorem dX10_sends_125 : decode cX10_sends 125 = .ok (.aload_n 0, 1) := by decide +kernel
theorem dX10_sends_126 : decode cX10_sends 126 = .ok (.iload_n 1, 1) := by decide +kernel
theorem dX10_sends_127 : decode cX10_sends 127 = .ok (.bipush 10, 2) := by decide +kernel
theorem dX10_sends_129 : decode cX10_sends 129 = .ok (.invokevirtual 76, 3) := by decide +kernel
theorem dX10_sends_132 : decode cX10_sends 132 = .ok (.aload_n 0, 1) := by decide +kernel
theorem dX10_sends_133 : decode cX10_sends 133 = .ok (.iload_n 1, 1) := by decide +kernel
theorem dX10_sends_134 : decode cX10_sends 134 = .ok (.iconst 5, 1) := by decide +kernel
theorem dX10_sends_135 : decode cX10_sends 135 = .ok (.aload_n 0, 1) := by decide +kernel
theorem dX10_sends_136 : decode cX10_sends 136 = .ok (.iload_n 1, 1) := by decide +kernel
theorem dX10_sends_137 : decode cX10_sends 137 = .ok (.iconst 5, 1) := by decide +kernel
theorem dX10_sends_138 : decode cX10_sends 138 = .ok (.invokevirtual 44, 3) := by decide +kernel
theorem dX10_sends_141 : decode cX10_sends 141 = .ok (.iconst 1, 1) := by decide +kernel
theorem dX10_sends_142 : decode cX10_sends 142 = .ok (.isub, 1) := by decide +kernel
theorem dX10_sends_143 : decode cX10_sends 143 = .ok (.invokevirtual 32, 3) := by decide +kernel
theorem dX10_sends_146 : decode cX10_sends 146 = .ok (.iload_n 3, 1) := by decide +kernel
theorem dX10_sends_147 : decode cX10_sends 147 = .ok (.istore 4, 2) := by decide +kernel
theorem dX10_sends_149 : decode cX10_sends 149 = .ok (.iload 4, 2) := by decide +kernel
theorem dX10_sends_151 : decode cX10_sends 151 = .ok (.aload_n 0, 1) := by decide +kernel
theorem dX10_sends_152 : decode cX10_sends 152 = .ok (.iload_n 1, 1) := by decide +kernel
theorem dX10_sends_153 : decode cX10_sends 153 = .ok (.aload_n 0, 1) := by decide +kernel
theorem dX10_sends_154 : decode cX10_sends 154 = .ok (.iload_n 1, 1) := by decide +kernel
theorem dX10_sends_155 : decode cX10_sends 155 = .ok (.iconst 5, 1) := by decide +kernel
theorem dX10_sends_156 : decode cX10_sends 156 = .ok (.invokevirtual 44, 3) := by decide +kernel
theorem dX10_sends_159 : decode cX10_sends 159 = .ok (.invokevirtual 80, 3) := by decide +kernel
theorem dX10_sends_162 : decode cX10_sends 162 = .ok (.if_icmp .ge 25, 3) := by decide +kernel
theorem dX10_sends_165 : decode cX10_sends 165 = .ok (.aload_n 0, 1) := by decide +kernel
theorem dX10_sends_166 : decode cX10_sends 166 = .ok (.getfield 7, 3) := by decide +kernel
theorem dX10_sends_169 : decode cX10_sends 169 = .ok (.iload 4, 2) := by decide +kernel
theorem dX10_sends_171 : decode cX10_sends 171 = .ok (.aload_n 0, 1) := by decide +kernel
theorem dX10_sends_172 : decode cX10_sends 172 = .ok (.getfield 7, 3) := by decide +kernel
theorem dX10_sends_175 : decode cX10_sends 175 = .ok (.iload 4, 2) := by decide +kernel
theorem dX10_sends_177 : decode cX10_sends 177 = .ok (.iconst 4, 1) := by decide +kernel
theorem dX10_sends_178 : decode cX10_sends 178 = .ok (.iadd, 1) := by decide +kernel
theorem dX10_sends_179 : decode cX10_sends 179 = .ok (.iaload, 1) := by decide +kernel
theorem dX10_sends_180 : decode cX10_sends 180 = .ok (.iastore, 1) := by decide +kernel
theorem dX10_sends_181 : decode cX10_sends 181 = .ok (.iinc 4 1, 3) := by decide +kernel
theorem dX10_sends_184 : decode cX10_sends 184 = .ok (.goto (-35), 3) := by decide +kernel
theorem dX10_sends_187 : decode cX10_sends 187 = .ok (.return_, 1) := by decide +kernel
theorem dX10_goesOn_0 : decode cX10_goesOn 0 = .ok (.iconst 0, 1) := by decide +kernel
theorem dX10_goesOn_1 : decode cX10_goesOn 1 = .ok (.istore_n 1, 1) := by decide +kernel
theorem dX10_goesOn_2 : decode cX10_goesOn 2 = .ok (.aload_n 0, 1) := by decide +kernel
theorem dX10_goesOn_3 : decode cX10_goesOn 3 = .ok (.iconst 0, 1) := by decide +kernel
theorem dX10_goesOn_4 : decode cX10_goesOn 4 = .ok (.putfield 115, 3) := by decide +kernel
theorem dX10_goesOn_7 : decode cX10_goesOn 7 = .ok (.iconst 0, 1) := by decide +kernel
theorem dX10_goesOn_8 : decode cX10_goesOn 8 = .ok (.istore_n 2, 1) := by decide +kernel
theorem dX10_goesOn_9 : decode cX10_goesOn 9 = .ok (.iload_n 2, 1) := by decide +kernel
theorem dX10_goesOn_10 : decode cX10_goesOn 10 = .ok (.bipush 8, 2) := by decide +kernel
theorem dX10_goesOn_12 : decode cX10_goesOn 12 = .ok (.if_icmp .ge 52, 3) := by decide +kernel
theorem dX10_goesOn_15 : decode cX10_goesOn 15 = .ok (.iconst 0, 1) := by decide +kernel
theorem dX10_goesOn_16 : decode cX10_goesOn 16 = .ok (.istore_n 3, 1) := by decide +kernel
theorem dX10_goesOn_17 : decode cX10_goesOn 17 = .ok (.iload_n 3, 1) := by decide +kernel
theorem dX10_goesOn_18 : decode cX10_goesOn 18 = .ok (.aload_n 0, 1) := by decide +kernel
theorem dX10_goesOn_19 : decode cX10_goesOn 19 = .ok (.getfield 7, 3) := by decide +kernel
theorem dX10_goesOn_22 : decode cX10_goesOn 22 = .ok (.iconst 3, 1) := by decide +kernel
theorem dX10_goesOn_23 : decode cX10_goesOn 23 = .ok (.iaload, 1) := by decide +kernel
theorem dX10_goesOn_24 : decode cX10_goesOn 24 = .ok (.if_icmp .ge 34, 3) := by decide +kernel
theorem dX10_goesOn_27 : decode cX10_goesOn 27 = .ok (.aload_n 0, 1) := by decide +kernel
theorem dX10_goesOn_28 : decode cX10_goesOn 28 = .ok (.iload_n 2, 1) := by decide +kernel
theorem dX10_goesOn_29 : decode cX10_goesOn 29 = .ok (.invokevirtual 48, 3) := by decide +kernel
theorem dX10_goesOn_32 : decode cX10_goesOn 32 = .ok (.ifCond .eq 26, 3) := by decide +kernel
theorem dX10_goesOn_35 : decode cX10_goesOn 35 = .ok (.aload_n 0, 1) := by decide +kernel
theorem dX10_goesOn_36 : decode cX10_goesOn 36 = .ok (.iload_n 2, 1) := by decide +kernel
theorem dX10_goesOn_37 : decode cX10_goesOn 37 = .ok (.iconst 5, 1) := by decide +kernel
theorem dX10_goesOn_38 : decode cX10_goesOn 38 = .ok (.invokevirtual 44, 3) := by decide +kernel
theorem dX10_goesOn_41 : decode cX10_goesOn 41 = .ok (.ifCond .le 17, 3) := by decide +kernel
theorem dX10_goesOn_44 : decode cX10_goesOn 44 = .ok (.aload_n 0, 1) := by decide +kernel
theorem dX10_goesOn_45 : decode cX10_goesOn 45 = .ok (.iload_n 2, 1) := by decide +kernel
theorem dX10_goesOn_46 : decode cX10_goesOn 46 = .ok (.invokevirtual 118, 3) := by decide +kernel
theorem dX10_goesOn_49 : decode cX10_goesOn 49 = .ok (.iinc 1 1, 3) := by decide +kernel
theorem dX10_goesOn_52 : decode cX10_goesOn 52 = .ok (.iinc 3 1, 3) := by decide +kernel
theorem dX10_goesOn_55 : decode cX10_goesOn 55 = .ok (.goto (-38), 3) := by decide +kernel
theorem dX10_goesOn_58 : decode cX10_goesOn 58 = .ok (.iinc 2 1, 3) := by decide +kernel
theorem dX10_goesOn_61 : decode cX10_goesOn 61 = .ok (.goto (-52), 3) := by decide +kernel
theorem dX10_goesOn_64 : decode cX10_goesOn 64 = .ok (.iconst 0, 1) := by decide +kernel
theorem dX10_goesOn_65 : decode cX10_goesOn 65 = .ok (.istore_n 2, 1) := by decide +kernel
theorem dX10_goesOn_66 : decode cX10_goesOn 66 = .ok (.iload_n 2, 1) := by decide +kernel
theorem dX10_goesOn_67 : decode cX10_goesOn 67 = .ok (.aload_n 0, 1) := by decide +kernel
theorem dX10_goesOn_68 : decode cX10_goesOn 68 = .ok (.getfield 115, 3) := by decide +kernel
theorem dX10_goesOn_71 : decode cX10_goesOn 71 = .ok (.if_icmp .ge 52, 3) := by decide +kernel
theorem dX10_goesOn_74 : decode cX10_goesOn 74 = .ok (.aload_n 0, 1) := by decide +kernel
theorem dX10_goesOn_75 : decode cX10_goesOn 75 = .ok (.aload_n 0, 1) := by decide +kernel
theorem dX10_goesOn_76 : decode cX10_goesOn 76 = .ok (.getfield 22, 3) := by decide +kernel
theorem dX10_goesOn_79 : decode cX10_goesOn 79 = .ok (.iconst 4, 1) := by decide +kernel
theorem dX10_goesOn_80 : decode cX10_goesOn 80 = .ok (.iload_n 2, 1) := by decide +kernel
theorem dX10_goesOn_81 : decode cX10_goesOn 81 = .ok (.imul, 1) := by decide +kernel
theorem dX10_goesOn_82 : decode cX10_goesOn 82 = .ok (.iaload, 1) := by decide +kernel
theorem dX10_goesOn_83 : decode cX10_goesOn 83 = .ok (.aload_n 0, 1) := by decide +kernel
theorem dX10_goesOn_84 : decode cX10_goesOn 84 = .ok (.getfield 22, 3) := by decide +kernel
theorem dX10_goesOn_87 : decode cX10_goesOn 87 = .ok (.iconst 4, 1) := by decide +kernel
theorem dX10_goesOn_88 : decode cX10_goesOn 88 = .ok (.iload_n 2, 1) := by decide +kernel
theorem dX10_goesOn_89 : decode cX10_goesOn 89 = .ok (.imul, 1) := by decide +kernel
theorem dX10_goesOn_90 : decode cX10_goesOn 90 = .ok (.iconst 1, 1) := by decide +kernel
theorem dX10_goesOn_91 : decode cX10_goesOn 91 = .ok (.iadd, 1) := by decide +kernel
theorem dX10_goesOn_92 : decode cX10_goesOn 92 = .ok (.iaload, 1) := by decide +kernel
theorem dX10_goesOn_93 : decode cX10_goesOn 93 = .ok (.aload_n 0, 1) := by decide +kernel
theorem dX10_goesOn_94 : decode cX10_goesOn 94 = .ok (.getfield 22, 3) := by decide +kernel
theorem dX10_goesOn_97 : decode cX10_goesOn 97 = .ok (.iconst 4, 1) := by decide +kernel
theorem dX10_goesOn_98 : decode cX10_goesOn 98 = .ok (.iload_n 2, 1) := by decide +kernel
theorem dX10_goesOn_99 : decode cX10_goesOn 99 = .ok (.imul, 1) := by decide +kernel
theorem dX10_goesOn_100 : decode cX10_goesOn 100 = .ok (.iconst 2, 1) := by decide +kernel
theorem dX10_goesOn_101 : decode cX10_goesOn 101 = .ok (.iadd, 1) := by decide +kernel
theorem dX10_goesOn_102 : decode cX10_goesOn 102 = .ok (.iaload, 1) := by decide +kernel
theorem dX10_goesOn_103 : decode cX10_goesOn 103 = .ok (.aload_n 0, 1) := by decide +kernel
theorem dX10_goesOn_104 : decode cX10_goesOn 104 = .ok (.getfield 22, 3) := by decide +kernel
theorem dX10_goesOn_107 : decode cX10_goesOn 107 = .ok (.iconst 4, 1) := by decide +kernel
theorem dX10_goesOn_108 : decode cX10_goesOn 108 = .ok (.iload_n 2, 1) := by decide +kernel
theorem dX10_goesOn_109 : decode cX10_goesOn 109 = .ok (.imul, 1) := by decide +kernel
theorem dX10_goesOn_110 : decode cX10_goesOn 110 = .ok (.iconst 3, 1) := by decide +kernel
theorem dX10_goesOn_111 : decode cX10_goesOn 111 = .ok (.iadd, 1) := by decide +kernel
theorem dX10_goesOn_112 : decode cX10_goesOn 112 = .ok (.iaload, 1) := by decide +kernel
theorem dX10_goesOn_113 : decode cX10_goesOn 113 = .ok (.invokevirtual 109, 3) := by decide +kernel
theorem dX10_goesOn_116 : decode cX10_goesOn 116 = .ok (.istore_n 3, 1) := by decide +kernel
theorem dX10_goesOn_117 : decode cX10_goesOn 117 = .ok (.iinc 2 1, 3) := by decide +kernel
theorem dX10_goesOn_120 : decode cX10_goesOn 120 = .ok (.goto (-54), 3) := by decide +kernel
theorem dX10_goesOn_123 : decode cX10_goesOn 123 = .ok (.aload_n 0, 1) := by decide +kernel
theorem dX10_goesOn_124 : decode cX10_goesOn 124 = .ok (.getfield 7, 3) := by decide +kernel
theorem dX10_goesOn_127 : decode cX10_goesOn 127 = .ok (.iconst 4, 1) := by decide +kernel
theorem dX10_goesOn_128 : decode cX10_goesOn 128 = .ok (.dup2, 1) := by decide +kernel
theorem dX10_goesOn_129 : decode cX10_goesOn 129 = .ok (.iaload, 1) := by decide +kernel
theorem dX10_goesOn_130 : decode cX10_goesOn 130 = .ok (.iconst 1, 1) := by decide +kernel
theorem dX10_goesOn_131 : decode cX10_goesOn 131 = .ok (.iadd, 1) := by decide +kernel
theorem dX10_goesOn_132 : decode cX10_goesOn 132 = .ok (.iastore, 1) := by decide +kernel
theorem dX10_goesOn_133 : decode cX10_goesOn 133 = .ok (.iconst 0, 1) := by decide +kernel
theorem dX10_goesOn_134 : decode cX10_goesOn 134 = .ok (.istore_n 2, 1) := by decide +kernel
theorem dX10_goesOn_135 : decode cX10_goesOn 135 = .ok (.iload_n 2, 1) := by decide +kernel
theorem dX10_goesOn_136 : decode cX10_goesOn 136 = .ok (.bipush 8, 2) := by decide +kernel
theorem dX10_goesOn_138 : decode cX10_goesOn 138 = .ok (.if_icmp .ge 47, 3) := by decide +kernel
theorem dX10_goesOn_141 : decode cX10_goesOn 141 = .ok (.aload_n 0, 1) := by decide +kernel
theorem dX10_goesOn_142 : decode cX10_goesOn 142 = .ok (.iload_n 2, 1) := by decide +kernel
theorem dX10_goesOn_143 : decode cX10_goesOn 143 = .ok (.iconst 1, 1) := by decide +kernel
theorem dX10_goesOn_144 : decode cX10_goesOn 144 = .ok (.aload_n 0, 1) := by decide +kernel
theorem dX10_goesOn_145 : decode cX10_goesOn 145 = .ok (.iload_n 2, 1) := by decide +kernel
theorem dX10_goesOn_146 : decode cX10_goesOn 146 = .ok (.iconst 1, 1) := by decide +kernel
theorem dX10_goesOn_147 : decode cX10_goesOn 147 = .ok (.invokevirtual 44, 3) := by decide +kernel
theorem dX10_goesOn_150 : decode cX10_goesOn 150 = .ok (.aload_n 0, 1) := by decide +kernel
theorem dX10_goesOn_151 : decode cX10_goesOn 151 = .ok (.getfield 7, 3) := by decide +kernel
theorem dX10_goesOn_154 : decode cX10_goesOn 154 = .ok (.iconst 4, 1) := by decide +kernel
theorem dX10_goesOn_155 : decode cX10_goesOn 155 = .ok (.iaload, 1) := by decide +kernel
theorem dX10_goesOn_156 : decode cX10_goesOn 156 = .ok (.if_icmp .gt 7, 3) := by decide +kernel
theorem dX10_goesOn_159 : decode cX10_goesOn 159 = .ok (.iconst 0, 1) := by decide +kernel
theorem dX10_goesOn_160 : decode cX10_goesOn 160 = .ok (.goto 9, 3) := by decide +kernel
theorem dX10_goesOn_163 : decode cX10_goesOn 163 = .ok (.aload_n 0, 1) := by decide +kernel
theorem dX10_goesOn_164 : decode cX10_goesOn 164 = .ok (.iload_n 2, 1) := by decide +kernel
theorem dX10_goesOn_165 : decode cX10_goesOn 165 = .ok (.iconst 1, 1) := by decide +kernel
theorem dX10_goesOn_166 : decode cX10_goesOn 166 = .ok (.invokevirtual 44, 3) := by decide +kernel
theorem dX10_goesOn_169 : decode cX10_goesOn 169 = .ok (.invokevirtual 32, 3) := by decide +kernel
theorem dX10_goesOn_172 : decode cX10_goesOn 172 = .ok (.aload_n 0, 1) := by decide +kernel
theorem dX10_goesOn_173 : decode cX10_goesOn 173 = .ok (.iload_n 2, 1) := by decide +kernel
theorem dX10_goesOn_174 : decode cX10_goesOn 174 = .ok (.iconst 4, 1) := by decide +kernel
theorem dX10_goesOn_175 : decode cX10_goesOn 175 = .ok (.iconst 0, 1) := by decide +kernel
theorem dX10_goesOn_176 : decode cX10_goesOn 176 = .ok (.invokevirtual 32, 3) := by decide +kernel
theorem dX10_goesOn_179 : decode cX10_goesOn 179 = .ok (.iinc 2 1, 3) := by decide +kernel
theorem dX10_goesOn_182 : decode cX10_goesOn 182 = .ok (.goto (-47), 3) := by decide +kernel
theorem dX10_goesOn_185 : decode cX10_goesOn 185 = .ok (.iconst 1, 1) := by decide +kernel
theorem dX10_goesOn_186 : decode cX10_goesOn 186 = .ok (.istore_n 2, 1) := by decide +kernel
theorem dX10_goesOn_187 : decode cX10_goesOn 187 = .ok (.iload_n 2, 1) := by decide +kernel
theorem dX10_goesOn_188 : decode cX10_goesOn 188 = .ok (.bipush 100, 2) := by decide +kernel
theorem dX10_goesOn_190 : decode cX10_goesOn 190 = .ok (.if_icmp .ge 83, 3) := by decide +kernel
theorem dX10_goesOn_193 : decode cX10_goesOn 193 = .ok (.aload_n 0, 1) := by decide +kernel
theorem dX10_goesOn_194 : decode cX10_goesOn 194 = .ok (.getfield 7, 3) := by decide +kernel
theorem dX10_goesOn_197 : decode cX10_goesOn 197 = .ok (.sipush 552, 3) := by decide +kernel
theorem dX10_goesOn_200 : decode cX10_goesOn 200 = .ok (.iload_n 2, 1) := by decide +kernel
theorem dX10_goesOn_201 : decode cX10_goesOn 201 = .ok (.iadd, 1) := by decide +kernel
theorem dX10_goesOn_202 : decode cX10_goesOn 202 = .ok (.iaload, 1) := by decide +kernel
theorem dX10_goesOn_203 : decode cX10_goesOn 203 = .ok (.ifCond .le 40, 3) := by decide +kernel
theorem dX10_goesOn_206 : decode cX10_goesOn 206 = .ok (.aload_n 0, 1) := by decide +kernel
theorem dX10_goesOn_207 : decode cX10_goesOn 207 = .ok (.getfield 7, 3) := by decide +kernel
theorem dX10_goesOn_210 : decode cX10_goesOn 210 = .ok (.iconst 4, 1) := by decide +kernel
theorem dX10_goesOn_211 : decode cX10_goesOn 211 = .ok (.iaload, 1) := by decide +kernel
theorem dX10_goesOn_212 : decode cX10_goesOn 212 = .ok (.aload_n 0, 1) := by decide +kernel
theorem dX10_goesOn_213 : decode cX10_goesOn 213 = .ok (.getfield 7, 3) := by decide +kernel
theorem dX10_goesOn_216 : decode cX10_goesOn 216 = .ok (.sipush 652, 3) := by decide +kernel
theorem dX10_goesOn_219 : decode cX10_goesOn 219 = .ok (.iload_n 2, 1) := by decide +kernel
theorem dX10_goesOn_220 : decode cX10_goesOn 220 = .ok (.iadd, 1) := by decide +kernel
theorem dX10_goesOn_221 : decode cX10_goesOn 221 = .ok (.iaload, 1) := by decide +kernel
theorem dX10_goesOn_222 : decode cX10_goesOn 222 = .ok (.isub, 1) := by decide +kernel
theorem dX10_goesOn_223 : decode cX10_goesOn 223 = .ok (.aload_n 0, 1) := by decide +kernel
theorem dX10_goesOn_224 : decode cX10_goesOn 224 = .ok (.getfield 7, 3) := by decide +kernel
theorem dX10_goesOn_227 : decode cX10_goesOn 227 = .ok (.iconst 0, 1) := by decide +kernel
theorem dX10_goesOn_228 : decode cX10_goesOn 228 = .ok (.iaload, 1) := by decide +kernel
theorem dX10_goesOn_229 : decode cX10_goesOn 229 = .ok (.if_icmp .lt 14, 3) := by decide +kernel
theorem dX10_goesOn_232 : decode cX10_goesOn 232 = .ok (.aload_n 0, 1) := by decide +kernel
theorem dX10_goesOn_233 : decode cX10_goesOn 233 = .ok (.getfield 7, 3) := by decide +kernel
theorem dX10_goesOn_236 : decode cX10_goesOn 236 = .ok (.sipush 552, 3) := by decide +kernel
theorem dX10_goesOn_239 : decode cX10_goesOn 239 = .ok (.iload_n 2, 1) := by decide +kernel
theorem dX10_goesOn_240 : decode cX10_goesOn 240 = .ok (.iadd, 1) := by decide +kernel
theorem dX10_goesOn_241 : decode cX10_goesOn 241 = .ok (.iconst 0, 1) := by decide +kernel
theorem dX10_goesOn_242 : decode cX10_goesOn 242 = .ok (.iastore, 1) := by decide +kernel
theorem dX10_goesOn_243 : decode cX10_goesOn 243 = .ok (.aload_n 0, 1) := by decide +kernel
theorem dX10_goesOn_244 : decode cX10_goesOn 244 = .ok (.getfield 7, 3) := by decide +kernel
theorem dX10_goesOn_247 : decode cX10_goesOn 247 = .ok (.sipush 752, 3) := by decide +kernel
theorem dX10_goesOn_250 : decode cX10_goesOn 250 = .ok (.bipush 10, 2) := by decide +kernel
theorem dX10_goesOn_252 : decode cX10_goesOn 252 = .ok (.iload_n 2, 1) := by decide +kernel
theorem dX10_goesOn_253 : decode cX10_goesOn 253 = .ok (.imul, 1) := by decide +kernel
theorem dX10_goesOn_254 : decode cX10_goesOn 254 = .ok (.iadd, 1) := by decide +kernel
theorem dX10_goesOn_255 : decode cX10_goesOn 255 = .ok (.aload_n 0, 1) := by decide +kernel
theorem dX10_goesOn_256 : decode cX10_goesOn 256 = .ok (.getfield 7, 3) := by decide +kernel
theorem dX10_goesOn_259 : decode cX10_goesOn 259 = .ok (.iconst 4, 1) := by decide +kernel
theorem dX10_goesOn_260 : decode cX10_goesOn 260 = .ok (.iaload, 1) := by decide +kernel
theorem dX10_goesOn_261 : decode cX10_goesOn 261 = .ok (.bipush 10, 2) := by decide +kernel
theorem dX10_goesOn_263 : decode cX10_goesOn 263 = .ok (.irem, 1) := by decide +kernel
theorem dX10_goesOn_264 : decode cX10_goesOn 264 = .ok (.iadd, 1) := by decide +kernel
theorem dX10_goesOn_265 : decode cX10_goesOn 265 = .ok (.iconst 0, 1) := by decide +kernel
theorem dX10_goesOn_266 : decode cX10_goesOn 266 = .ok (.iastore, 1) := by decide +kernel
theorem dX10_goesOn_267 : decode cX10_goesOn 267 = .ok (.iinc 2 1, 3) := by decide +kernel
theorem dX10_goesOn_270 : decode cX10_goesOn 270 = .ok (.goto (-83), 3) := by decide +kernel
theorem dX10_goesOn_273 : decode cX10_goesOn 273 = .ok (.iload_n 1, 1) := by decide +kernel
theorem dX10_goesOn_274 : decode cX10_goesOn 274 = .ok (.ireturn, 1) := by decide +kernel
theorem dX10_pass_0 : decode cX10_pass 0 = .ok (.iload_n 1, 1) := by decide +kernel
theorem dX10_pass_1 : decode cX10_pass 1 = .ok (.iconst 1, 1) := by decide +kernel
theorem dX10_pass_2 : decode cX10_pass 2 = .ok (.bipush 10, 2) := by decide +kernel
theorem dX10_pass_4 : decode cX10_pass 4 = .ok (.invokestatic 36, 3) := by decide +kernel
theorem dX10_pass_7 : decode cX10_pass 7 = .ok (.ifCond .ne 6, 3) := by decide +kernel
theorem dX10_pass_10 : decode cX10_pass 10 = .ok (.bipush (-2), 2) := by decide +kernel
theorem dX10_pass_12 : decode cX10_pass 12 = .ok (.ireturn, 1) := by decide +kernel
theorem dX10_pass_13 : decode cX10_pass 13 = .ok (.aload_n 0, 1) := by decide +kernel
theorem dX10_pass_14 : decode cX10_pass 14 = .ok (.invokevirtual 55, 3) := by decide +kernel
theorem dX10_pass_17 : decode cX10_pass 17 = .ok (.iconst 0, 1) := by decide +kernel
theorem dX10_pass_18 : decode cX10_pass 18 = .ok (.istore_n 2, 1) := by decide +kernel
theorem dX10_pass_19 : decode cX10_pass 19 = .ok (.iconst 0, 1) := by decide +kernel
theorem dX10_pass_20 : decode cX10_pass 20 = .ok (.istore_n 3, 1) := by decide +kernel
theorem dX10_pass_21 : decode cX10_pass 21 = .ok (.iload_n 3, 1) := by decide +kernel
theorem dX10_pass_22 : decode cX10_pass 22 = .ok (.iload_n 1, 1) := by decide +kernel
theorem dX10_pass_23 : decode cX10_pass 23 = .ok (.if_icmp .ge 16, 3) := by decide +kernel
theorem dX10_pass_26 : decode cX10_pass 26 = .ok (.iload_n 2, 1) := by decide +kernel
theorem dX10_pass_27 : decode cX10_pass 27 = .ok (.aload_n 0, 1) := by decide +kernel
theorem dX10_pass_28 : decode cX10_pass 28 = .ok (.invokevirtual 121, 3) := by decide +kernel
theorem dX10_pass_31 : decode cX10_pass 31 = .ok (.iadd, 1) := by decide +kernel
theorem dX10_pass_32 : decode cX10_pass 32 = .ok (.istore_n 2, 1) := by decide +kernel
theorem dX10_pass_33 : decode cX10_pass 33 = .ok (.iinc 3 1, 3) := by decide +kernel
theorem dX10_pass_36 : decode cX10_pass 36 = .ok (.goto (-15), 3) := by decide +kernel
theorem dX10_pass_39 : decode cX10_pass 39 = .ok (.iload_n 2, 1) := by decide +kernel
theorem dX10_pass_40 : decode cX10_pass 40 = .ok (.ireturn, 1) := by decide +kernel
theorem dX10_type_0 : decode cX10_type 0 = .ok (.aload_n 0, 1) := by decide +kernel
theorem dX10_type_1 : decode cX10_type 1 = .ok (.getfield 124, 3) := by decide +kernel
theorem dX10_type_4 : decode cX10_type 4 = .ok (.bipush 70, 2) := by decide +kernel
theorem dX10_type_6 : decode cX10_type 6 = .ok (.if_icmp .ne 6, 3) := by decide +kernel
theorem dX10_type_9 : decode cX10_type 9 = .ok (.bipush (-3), 2) := by decide +kernel
theorem dX10_type_11 : decode cX10_type 11 = .ok (.ireturn, 1) := by decide +kernel
theorem dX10_type_12 : decode cX10_type 12 = .ok (.aload_n 0, 1) := by decide +kernel
theorem dX10_type_13 : decode cX10_type 13 = .ok (.getfield 25, 3) := by decide +kernel
theorem dX10_type_16 : decode cX10_type 16 = .ok (.aload_n 0, 1) := by decide +kernel
theorem dX10_type_17 : decode cX10_type 17 = .ok (.getfield 124, 3) := by decide +kernel
theorem dX10_type_20 : decode cX10_type 20 = .ok (.iload_n 1, 1) := by decide +kernel
theorem dX10_type_21 : decode cX10_type 21 = .ok (.castore, 1) := by decide +kernel
theorem dX10_type_22 : decode cX10_type 22 = .ok (.aload_n 0, 1) := by decide +kernel
theorem dX10_type_23 : decode cX10_type 23 = .ok (.dup, 1) := by decide +kernel
theorem dX10_type_24 : decode cX10_type 24 = .ok (.getfield 124, 3) := by decide +kernel
theorem dX10_type_27 : decode cX10_type 27 = .ok (.iconst 1, 1) := by decide +kernel
theorem dX10_type_28 : decode cX10_type 28 = .ok (.iadd, 1) := by decide +kernel
theorem dX10_type_29 : decode cX10_type 29 = .ok (.putfield 124, 3) := by decide +kernel
theorem dX10_type_32 : decode cX10_type 32 = .ok (.aload_n 0, 1) := by decide +kernel
theorem dX10_type_33 : decode cX10_type 33 = .ok (.getfield 124, 3) := by decide +kernel
theorem dX10_type_36 : decode cX10_type 36 = .ok (.ireturn, 1) := by decide +kernel
theorem dX10_clearText_0 : decode cX10_clearText 0 = .ok (.aload_n 0, 1) := by decide +kernel
theorem dX10_clearText_1 : decode cX10_clearText 1 = .ok (.getfield 124, 3) := by decide +kernel
theorem dX10_clearText_4 : decode cX10_clearText 4 = .ok (.istore_n 1, 1) := by decide +kernel
theorem dX10_clearText_5 : decode cX10_clearText 5 = .ok (.aload_n 0, 1) := by decide +kernel
theorem dX10_clearText_6 : decode cX10_clearText 6 = .ok (.iconst 0, 1) := by decide +kernel
theorem dX10_clearText_7 : decode cX10_clearText 7 = .ok (.putfield 124, 3) := by decide +kernel
theorem dX10_clearText_10 : decode cX10_clearText 10 = .ok (.iload_n 1, 1) := by decide +kernel
theorem dX10_clearText_11 : decode cX10_clearText 11 = .ok (.ireturn, 1) := by decide +kernel
theorem dX10_takes_0 : decode cX10_takes 0 = .ok (.aload_n 0, 1) := by decide +kernel
theorem dX10_takes_1 : decode cX10_takes 1 = .ok (.getfield 127, 3) := by decide +kernel
theorem dX10_takes_4 : decode cX10_takes 4 = .ok (.aload_n 0, 1) := by decide +kernel
theorem dX10_takes_5 : decode cX10_takes 5 = .ok (.getfield 124, 3) := by decide +kernel
theorem dX10_takes_8 : decode cX10_takes 8 = .ok (.if_icmp .ge 16, 3) := by decide +kernel
theorem dX10_takes_11 : decode cX10_takes 11 = .ok (.aload_n 0, 1) := by decide +kernel
theorem dX10_takes_12 : decode cX10_takes 12 = .ok (.getfield 25, 3) := by decide +kernel
theorem dX10_takes_15 : decode cX10_takes 15 = .ok (.aload_n 0, 1) := by decide +kernel
theorem dX10_takes_16 : decode cX10_takes 16 = .ok (.getfield 127, 3) := by decide +kernel
theorem dX10_takes_19 : decode cX10_takes 19 = .ok (.caload, 1) := by decide +kernel
theorem dX10_takes_20 : decode cX10_takes 20 = .ok (.iload_n 1, 1) := by decide +kernel
theorem dX10_takes_21 : decode cX10_takes 21 = .ok (.if_icmp .eq 5, 3) := by decide +kernel
theorem dX10_takes_24 : decode cX10_takes 24 = .ok (.iconst 0, 1) := by decide +kernel
theorem dX10_takes_25 : decode cX10_takes 25 = .ok (.ireturn, 1) := by decide +kernel
theorem dX10_takes_26 : decode cX10_takes 26 = .ok (.aload_n 0, 1) := by decide +kernel
theorem dX10_takes_27 : decode cX10_takes 27 = .ok (.dup, 1) := by decide +kernel
theorem dX10_takes_28 : decode cX10_takes 28 = .ok (.getfield 127, 3) := by decide +kernel
theorem dX10_takes_31 : decode cX10_takes 31 = .ok (.iconst 1, 1) := by decide +kernel
theorem dX10_takes_32 : decode cX10_takes 32 = .ok (.iadd, 1) := by decide +kernel
theorem dX10_takes_33 : decode cX10_takes 33 = .ok (.putfield 127, 3) := by decide +kernel
theorem dX10_takes_36 : decode cX10_takes 36 = .ok (.iconst 1, 1) := by decide +kernel
theorem dX10_takes_37 : decode cX10_takes 37 = .ok (.ireturn, 1) := by decide +kernel
theorem dX10_digit_0 : decode cX10_digit 0 = .ok (.aload_n 0, 1) := by decide +kernel
theorem dX10_digit_1 : decode cX10_digit 1 = .ok (.getfield 127, 3) := by decide +kernel
theorem dX10_digit_4 : decode cX10_digit 4 = .ok (.aload_n 0, 1) := by decide +kernel
theorem dX10_digit_5 : decode cX10_digit 5 = .ok (.getfield 124, 3) := by decide +kernel
theorem dX10_digit_8 : decode cX10_digit 8 = .ok (.if_icmp .ge 26, 3) := by decide +kernel
theorem dX10_digit_11 : decode cX10_digit 11 = .ok (.aload_n 0, 1) := by decide +kernel
theorem dX10_digit_12 : decode cX10_digit 12 = .ok (.getfield 25, 3) := by decide +kernel
theorem dX10_digit_15 : decode cX10_digit 15 = .ok (.aload_n 0, 1) := by decide +kernel
theorem dX10_digit_16 : decode cX10_digit 16 = .ok (.getfield 127, 3) := by decide +kernel
theorem dX10_digit_19 : decode cX10_digit 19 = .ok (.caload, 1) := by decide +kernel
theorem dX10_digit_20 : decode cX10_digit 20 = .ok (.bipush 48, 2) := by decide +kernel
theorem dX10_digit_22 : decode cX10_digit 22 = .ok (.iload_n 1, 1) := by decide +kernel
theorem dX10_digit_23 : decode cX10_digit 23 = .ok (.iadd, 1) := by decide +kernel
theorem dX10_digit_24 : decode cX10_digit 24 = .ok (.bipush 48, 2) := by decide +kernel
theorem dX10_digit_26 : decode cX10_digit 26 = .ok (.iload_n 2, 1) := by decide +kernel
theorem dX10_digit_27 : decode cX10_digit 27 = .ok (.iadd, 1) := by decide +kernel
theorem dX10_digit_28 : decode cX10_digit 28 = .ok (.invokestatic 36, 3) := by decide +kernel
theorem dX10_digit_31 : decode cX10_digit 31 = .ok (.ifCond .ne 6, 3) := by decide +kernel
theorem dX10_digit_34 : decode cX10_digit 34 = .ok (.bipush (-4), 2) := by decide +kernel
theorem dX10_digit_36 : decode cX10_digit 36 = .ok (.ireturn, 1) := by decide +kernel
theorem dX10_digit_37 : decode cX10_digit 37 = .ok (.aload_n 0, 1) := by decide +kernel
theorem dX10_digit_38 : decode cX10_digit 38 = .ok (.dup, 1) := by decide +kernel
theorem dX10_digit_39 : decode cX10_digit 39 = .ok (.getfield 127, 3) := by decide +kernel
theorem dX10_digit_42 : decode cX10_digit 42 = .ok (.iconst 1, 1) := by decide +kernel
theorem dX10_digit_43 : decode cX10_digit 43 = .ok (.iadd, 1) := by decide +kernel
theorem dX10_digit_44 : decode cX10_digit 44 = .ok (.putfield 127, 3) := by decide +kernel
theorem dX10_digit_47 : decode cX10_digit 47 = .ok (.aload_n 0, 1) := by decide +kernel
theorem dX10_digit_48 : decode cX10_digit 48 = .ok (.getfield 25, 3) := by decide +kernel
theorem dX10_digit_51 : decode cX10_digit 51 = .ok (.aload_n 0, 1) := by decide +kernel
theorem dX10_digit_52 : decode cX10_digit 52 = .ok (.getfield 127, 3) := by decide +kernel
theorem dX10_digit_55 : decode cX10_digit 55 = .ok (.iconst 1, 1) := by decide +kernel
theorem dX10_digit_56 : decode cX10_digit 56 = .ok (.isub, 1) := by decide +kernel
theorem dX10_digit_57 : decode cX10_digit 57 = .ok (.caload, 1) := by decide +kernel
theorem dX10_digit_58 : decode cX10_digit 58 = .ok (.bipush 48, 2) := by decide +kernel
theorem dX10_digit_60 : decode cX10_digit 60 = .ok (.isub, 1) := by decide +kernel
theorem dX10_digit_61 : decode cX10_digit 61 = .ok (.ireturn, 1) := by decide +kernel
theorem dX10_address_0 : decode cX10_address 0 = .ok (.aload_n 0, 1) := by decide +kernel
theorem dX10_address_1 : decode cX10_address 1 = .ok (.iconst 1, 1) := by decide +kernel
theorem dX10_address_2 : decode cX10_address 2 = .ok (.bipush 9, 2) := by decide +kernel
theorem dX10_address_4 : decode cX10_address 4 = .ok (.invokevirtual 130, 3) := by decide +kernel
theorem dX10_address_7 : decode cX10_address 7 = .ok (.istore_n 1, 1) := by decide +kernel
theorem dX10_address_8 : decode cX10_address 8 = .ok (.iload_n 1, 1) := by decide +kernel
theorem dX10_address_9 : decode cX10_address 9 = .ok (.bipush (-4), 2) := by decide +kernel
theorem dX10_address_11 : decode cX10_address 11 = .ok (.if_icmp .ne 6, 3) := by decide +kernel
theorem dX10_address_14 : decode cX10_address 14 = .ok (.bipush (-4), 2) := by decide +kernel
theorem dX10_address_16 : decode cX10_address 16 = .ok (.ireturn, 1) := by decide +kernel
theorem dX10_address_17 : decode cX10_address 17 = .ok (.aload_n 0, 1) := by decide +kernel
theorem dX10_address_18 : decode cX10_address 18 = .ok (.iconst 0, 1) := by decide +kernel
theorem dX10_address_19 : decode cX10_address 19 = .ok (.bipush 9, 2) := by decide +kernel
theorem dX10_address_21 : decode cX10_address 21 = .ok (.invokevirtual 130, 3) := by decide +kernel
theorem dX10_address_24 : decode cX10_address 24 = .ok (.istore_n 2, 1) := by decide +kernel
theorem dX10_address_25 : decode cX10_address 25 = .ok (.iload_n 2, 1) := by decide +kernel
theorem dX10_address_26 : decode cX10_address 26 = .ok (.bipush (-4), 2) := by decide +kernel
theorem dX10_address_28 : decode cX10_address 28 = .ok (.if_icmp .ne 7, 3) := by decide +kernel
theorem dX10_address_31 : decode cX10_address 31 = .ok (.iload_n 1, 1) := by decide +kernel
theorem dX10_address_32 : decode cX10_address 32 = .ok (.goto 9, 3) := by decide +kernel
theorem dX10_address_35 : decode cX10_address 35 = .ok (.bipush 10, 2) := by decide +kernel
theorem dX10_address_37 : decode cX10_address 37 = .ok (.iload_n 1, 1) := by decide +kernel
theorem dX10_address_38 : decode cX10_address 38 = .ok (.imul, 1) := by decide +kernel
theorem dX10_address_39 : decode cX10_address 39 = .ok (.iload_n 2, 1) := by decide +kernel
theorem dX10_address_40 : decode cX10_address 40 = .ok (.iadd, 1) := by decide +kernel
theorem dX10_address_41 : decode cX10_address 41 = .ok (.ireturn, 1) := by decide +kernel
theorem dX10_readsFrame_0 : decode cX10_readsFrame 0 = .ok (.iconst 4, 1) := by decide +kernel
theorem dX10_readsFrame_1 : decode cX10_readsFrame 1 = .ok (.aload_n 0, 1) := by decide +kernel
theorem dX10_readsFrame_2 : decode cX10_readsFrame 2 = .ok (.getfield 133, 3) := by decide +kernel
theorem dX10_readsFrame_5 : decode cX10_readsFrame 5 = .ok (.imul, 1) := by decide +kernel
theorem dX10_readsFrame_6 : decode cX10_readsFrame 6 = .ok (.istore_n 1, 1) := by decide +kernel
theorem dX10_readsFrame_7 : decode cX10_readsFrame 7 = .ok (.aload_n 0, 1) := by decide +kernel
theorem dX10_readsFrame_8 : decode cX10_readsFrame 8 = .ok (.getfield 29, 3) := by decide +kernel
theorem dX10_readsFrame_11 : decode cX10_readsFrame 11 = .ok (.iload_n 1, 1) := by decide +kernel
theorem dX10_readsFrame_12 : decode cX10_readsFrame 12 = .ok (.aload_n 0, 1) := by decide +kernel
theorem dX10_readsFrame_13 : decode cX10_readsFrame 13 = .ok (.invokevirtual 136, 3) := by decide +kernel
theorem dX10_readsFrame_16 : decode cX10_readsFrame 16 = .ok (.iastore, 1) := by decide +kernel
theorem dX10_readsFrame_17 : decode cX10_readsFrame 17 = .ok (.aload_n 0, 1) := by decide +kernel
theorem dX10_readsFrame_18 : decode cX10_readsFrame 18 = .ok (.getfield 29, 3) := by decide +kernel
theorem dX10_readsFrame_21 : decode cX10_readsFrame 21 = .ok (.iload_n 1, 1) := by decide +kernel
theorem dX10_readsFrame_22 : decode cX10_readsFrame 22 = .ok (.iaload, 1) := by decide +kernel
theorem dX10_readsFrame_23 : decode cX10_readsFrame 23 = .ok (.bipush (-4), 2) := by decide +kernel
theorem dX10_readsFrame_25 : decode cX10_readsFrame 25 = .ok (.if_icmp .eq 12, 3) := by decide +kernel
theorem dX10_readsFrame_28 : decode cX10_readsFrame 28 = .ok (.aload_n 0, 1) := by decide +kernel
theorem dX10_readsFrame_29 : decode cX10_readsFrame 29 = .ok (.bipush 62, 2) := by decide +kernel
theorem dX10_readsFrame_31 : decode cX10_readsFrame 31 = .ok (.invokevirtual 139, 3) := by decide +kernel
theorem dX10_readsFrame_34 : decode cX10_readsFrame 34 = .ok (.ifCond .ne 5, 3) := by decide +kernel
theorem dX10_readsFrame_37 : decode cX10_readsFrame 37 = .ok (.iconst 0, 1) := by decide +kernel
theorem dX10_readsFrame_38 : decode cX10_readsFrame 38 = .ok (.ireturn, 1) := by decide +kernel
theorem dX10_readsFrame_39 : decode cX10_readsFrame 39 = .ok (.aload_n 0, 1) := by decide +kernel
theorem dX10_readsFrame_40 : decode cX10_readsFrame 40 = .ok (.getfield 29, 3) := by decide +kernel
theorem dX10_readsFrame_43 : decode cX10_readsFrame 43 = .ok (.iload_n 1, 1) := by decide +kernel
theorem dX10_readsFrame_44 : decode cX10_readsFrame 44 = .ok (.iconst 1, 1) := by decide +kernel
theorem dX10_readsFrame_45 : decode cX10_readsFrame 45 = .ok (.iadd, 1) := by decide +kernel
theorem dX10_readsFrame_46 : decode cX10_readsFrame 46 = .ok (.aload_n 0, 1) := by decide +kernel
theorem dX10_readsFrame_47 : decode cX10_readsFrame 47 = .ok (.bipush 42, 2) := by decide +kernel
theorem dX10_readsFrame_49 : decode cX10_readsFrame 49 = .ok (.invokevirtual 139, 3) := by decide +kernel
theorem dX10_readsFrame_52 : decode cX10_readsFrame 52 = .ok (.ifCond .eq 7, 3) := by decide +kernel
theorem dX10_readsFrame_55 : decode cX10_readsFrame 55 = .ok (.iconst 0, 1) := by decide +kernel
theorem dX10_readsFrame_56 : decode cX10_readsFrame 56 = .ok (.goto 7, 3) := by decide +kernel
theorem dX10_readsFrame_59 : decode cX10_readsFrame 59 = .ok (.aload_n 0, 1) := by decide +kernel
theorem dX10_readsFrame_60 : decode cX10_readsFrame 60 = .ok (.invokevirtual 136, 3) := by decide +kernel
theorem dX10_readsFrame_63 : decode cX10_readsFrame 63 = .ok (.iastore, 1) := by decide +kernel
theorem dX10_readsFrame_64 : decode cX10_readsFrame 64 = .ok (.aload_n 0, 1) := by decide +kernel
theorem dX10_readsFrame_65 : decode cX10_readsFrame 65 = .ok (.getfield 29, 3) := by decide +kernel
theorem dX10_readsFrame_68 : decode cX10_readsFrame 68 = .ok (.iload_n 1, 1) := by decide +kernel
theorem dX10_readsFrame_69 : decode cX10_readsFrame 69 = .ok (.iconst 1, 1) := by decide +kernel
theorem dX10_readsFrame_70 : decode cX10_readsFrame 70 = .ok (.iadd, 1) := by decide +kernel
theorem dX10_readsFrame_71 : decode cX10_readsFrame 71 = .ok (.iaload, 1) := by decide +kernel
theorem dX10_readsFrame_72 : decode cX10_readsFrame 72 = .ok (.bipush (-4), 2) := by decide +kernel
theorem dX10_readsFrame_74 : decode cX10_readsFrame 74 = .ok (.if_icmp .ne 5, 3) := by decide +kernel
theorem dX10_readsFrame_77 : decode cX10_readsFrame 77 = .ok (.iconst 0, 1) := by decide +kernel
theorem dX10_readsFrame_78 : decode cX10_readsFrame 78 = .ok (.ireturn, 1) := by decide +kernel
theorem dX10_readsFrame_79 : decode cX10_readsFrame 79 = .ok (.aload_n 0, 1) := by decide +kernel
theorem dX10_readsFrame_80 : decode cX10_readsFrame 80 = .ok (.getfield 29, 3) := by decide +kernel
theorem dX10_readsFrame_83 : decode cX10_readsFrame 83 = .ok (.iload_n 1, 1) := by decide +kernel
theorem dX10_readsFrame_84 : decode cX10_readsFrame 84 = .ok (.iconst 2, 1) := by decide +kernel
theorem dX10_readsFrame_85 : decode cX10_readsFrame 85 = .ok (.iadd, 1) := by decide +kernel
theorem dX10_readsFrame_86 : decode cX10_readsFrame 86 = .ok (.aload_n 0, 1) := by decide +kernel
theorem dX10_readsFrame_87 : decode cX10_readsFrame 87 = .ok (.bipush 33, 2) := by decide +kernel
theorem dX10_readsFrame_89 : decode cX10_readsFrame 89 = .ok (.invokevirtual 139, 3) := by decide +kernel
theorem dX10_readsFrame_92 : decode cX10_readsFrame 92 = .ok (.ifCond .eq 12, 3) := by decide +kernel
theorem dX10_readsFrame_95 : decode cX10_readsFrame 95 = .ok (.aload_n 0, 1) := by decide +kernel
theorem dX10_readsFrame_96 : decode cX10_readsFrame 96 = .ok (.iconst 0, 1) := by decide +kernel
theorem dX10_readsFrame_97 : decode cX10_readsFrame 97 = .ok (.iconst 3, 1) := by decide +kernel
theorem dX10_readsFrame_98 : decode cX10_readsFrame 98 = .ok (.invokevirtual 130, 3) := by decide +kernel
theorem dX10_readsFrame_101 : decode cX10_readsFrame 101 = .ok (.goto 4, 3) := by decide +kernel
theorem dX10_readsFrame_104 : decode cX10_readsFrame 104 = .ok (.iconst 0, 1) := by decide +kernel
theorem dX10_readsFrame_105 : decode cX10_readsFrame 105 = .ok (.iastore, 1) := by decide +kernel
theorem dX10_readsFrame_106 : decode cX10_readsFrame 106 = .ok (.aload_n 0, 1) := by decide +kernel
theorem dX10_readsFrame_107 : decode cX10_readsFrame 107 = .ok (.getfield 29, 3) := by decide +kernel
theorem dX10_readsFrame_110 : decode cX10_readsFrame 110 = .ok (.iload_n 1, 1) := by decide +kernel
theorem dX10_readsFrame_111 : decode cX10_readsFrame 111 = .ok (.iconst 2, 1) := by decide +kernel
theorem dX10_readsFrame_112 : decode cX10_readsFrame 112 = .ok (.iadd, 1) := by decide +kernel
theorem dX10_readsFrame_113 : decode cX10_readsFrame 113 = .ok (.iaload, 1) := by decide +kernel
theorem dX10_readsFrame_114 : decode cX10_readsFrame 114 = .ok (.bipush (-4), 2) := by decide +kernel
theorem dX10_readsFrame_116 : decode cX10_readsFrame 116 = .ok (.if_icmp .eq 12, 3) := by decide +kernel
theorem dX10_readsFrame_119 : decode cX10_readsFrame 119 = .ok (.aload_n 0, 1) := by decide +kernel
theorem dX10_readsFrame_120 : decode cX10_readsFrame 120 = .ok (.bipush 64, 2) := by decide +kernel
theorem dX10_readsFrame_122 : decode cX10_readsFrame 122 = .ok (.invokevirtual 139, 3) := by decide +kernel
theorem dX10_readsFrame_125 : decode cX10_readsFrame 125 = .ok (.ifCond .ne 5, 3) := by decide +kernel
theorem dX10_readsFrame_128 : decode cX10_readsFrame 128 = .ok (.iconst 0, 1) := by decide +kernel
theorem dX10_readsFrame_129 : decode cX10_readsFrame 129 = .ok (.ireturn, 1) := by decide +kernel
theorem dX10_readsFrame_130 : decode cX10_readsFrame 130 = .ok (.aload_n 0, 1) := by decide +kernel
theorem dX10_readsFrame_131 : decode cX10_readsFrame 131 = .ok (.getfield 29, 3) := by decide +kernel
theorem dX10_readsFrame_134 : decode cX10_readsFrame 134 = .ok (.iload_n 1, 1) := by decide +kernel
theorem dX10_readsFrame_135 : decode cX10_readsFrame 135 = .ok (.iconst 3, 1) := by decide +kernel
theorem dX10_readsFrame_136 : decode cX10_readsFrame 136 = .ok (.iadd, 1) := by decide +kernel
theorem dX10_readsFrame_137 : decode cX10_readsFrame 137 = .ok (.aload_n 0, 1) := by decide +kernel
theorem dX10_readsFrame_138 : decode cX10_readsFrame 138 = .ok (.iconst 0, 1) := by decide +kernel
theorem dX10_readsFrame_139 : decode cX10_readsFrame 139 = .ok (.bipush 7, 2) := by decide +kernel
theorem dX10_readsFrame_141 : decode cX10_readsFrame 141 = .ok (.invokevirtual 130, 3) := by decide +kernel
theorem dX10_readsFrame_144 : decode cX10_readsFrame 144 = .ok (.iastore, 1) := by decide +kernel
theorem dX10_readsFrame_145 : decode cX10_readsFrame 145 = .ok (.aload_n 0, 1) := by decide +kernel
theorem dX10_readsFrame_146 : decode cX10_readsFrame 146 = .ok (.getfield 29, 3) := by decide +kernel
theorem dX10_readsFrame_149 : decode cX10_readsFrame 149 = .ok (.iload_n 1, 1) := by decide +kernel
theorem dX10_readsFrame_150 : decode cX10_readsFrame 150 = .ok (.iconst 3, 1) := by decide +kernel
theorem dX10_readsFrame_151 : decode cX10_readsFrame 151 = .ok (.iadd, 1) := by decide +kernel
theorem dX10_readsFrame_152 : decode cX10_readsFrame 152 = .ok (.iaload, 1) := by decide +kernel
theorem dX10_readsFrame_153 : decode cX10_readsFrame 153 = .ok (.bipush (-4), 2) := by decide +kernel
theorem dX10_readsFrame_155 : decode cX10_readsFrame 155 = .ok (.if_icmp .ne 5, 3) := by decide +kernel
theorem dX10_readsFrame_158 : decode cX10_readsFrame 158 = .ok (.iconst 0, 1) := by decide +kernel
theorem dX10_readsFrame_159 : decode cX10_readsFrame 159 = .ok (.ireturn, 1) := by decide +kernel
theorem dX10_readsFrame_160 : decode cX10_readsFrame 160 = .ok (.aload_n 0, 1) := by decide +kernel
theorem dX10_readsFrame_161 : decode cX10_readsFrame 161 = .ok (.dup, 1) := by decide +kernel
theorem dX10_readsFrame_162 : decode cX10_readsFrame 162 = .ok (.getfield 133, 3) := by decide +kernel
theorem dX10_readsFrame_165 : decode cX10_readsFrame 165 = .ok (.iconst 1, 1) := by decide +kernel
theorem dX10_readsFrame_166 : decode cX10_readsFrame 166 = .ok (.iadd, 1) := by decide +kernel
theorem dX10_readsFrame_167 : decode cX10_readsFrame 167 = .ok (.putfield 133, 3) := by decide +kernel
theorem dX10_readsFrame_170 : decode cX10_readsFrame 170 = .ok (.aload_n 0, 1) := by decide +kernel
theorem dX10_readsFrame_171 : decode cX10_readsFrame 171 = .ok (.getfield 127, 3) := by decide +kernel
theorem dX10_readsFrame_174 : decode cX10_readsFrame 174 = .ok (.aload_n 0, 1) := by decide +kernel
theorem dX10_readsFrame_175 : decode cX10_readsFrame 175 = .ok (.getfield 124, 3) := by decide +kernel
theorem dX10_readsFrame_178 : decode cX10_readsFrame 178 = .ok (.if_icmp .eq 17, 3) := by decide +kernel
theorem dX10_readsFrame_181 : decode cX10_readsFrame 181 = .ok (.aload_n 0, 1) := by decide +kernel
theorem dX10_readsFrame_182 : decode cX10_readsFrame 182 = .ok (.getfield 25, 3) := by decide +kernel
theorem dX10_readsFrame_185 : decode cX10_readsFrame 185 = .ok (.aload_n 0, 1) := by decide +kernel
theorem dX10_readsFrame_186 : decode cX10_readsFrame 186 = .ok (.getfield 127, 3) := by decide +kernel
theorem dX10_readsFrame_189 : decode cX10_readsFrame 189 = .ok (.caload, 1) := by decide +kernel
theorem dX10_readsFrame_190 : decode cX10_readsFrame 190 = .ok (.bipush 59, 2) := by decide +kernel
theorem dX10_readsFrame_192 : decode cX10_readsFrame 192 = .ok (.if_icmp .ne 7, 3) := by decide +kernel
theorem dX10_readsFrame_195 : decode cX10_readsFrame 195 = .ok (.iconst 1, 1) := by decide +kernel
theorem dX10_readsFrame_196 : decode cX10_readsFrame 196 = .ok (.goto 4, 3) := by decide +kernel
theorem dX10_readsFrame_199 : decode cX10_readsFrame 199 = .ok (.iconst 0, 1) := by decide +kernel
theorem dX10_readsFrame_200 : decode cX10_readsFrame 200 = .ok (.ireturn, 1) := by decide +kernel
theorem dX10_readFrames_0 : decode cX10_readFrames 0 = .ok (.aload_n 0, 1) := by decide +kernel
theorem dX10_readFrames_1 : decode cX10_readFrames 1 = .ok (.iconst 0, 1) := by decide +kernel
theorem dX10_readFrames_2 : decode cX10_readFrames 2 = .ok (.putfield 127, 3) := by decide +kernel
theorem dX10_readFrames_5 : decode cX10_readFrames 5 = .ok (.aload_n 0, 1) := by decide +kernel
theorem dX10_readFrames_6 : decode cX10_readFrames 6 = .ok (.iconst 0, 1) := by decide +kernel
theorem dX10_readFrames_7 : decode cX10_readFrames 7 = .ok (.putfield 133, 3) := by decide +kernel
theorem dX10_readFrames_10 : decode cX10_readFrames 10 = .ok (.iconst 1, 1) := by decide +kernel
theorem dX10_readFrames_11 : decode cX10_readFrames 11 = .ok (.istore_n 1, 1) := by decide +kernel
theorem dX10_readFrames_12 : decode cX10_readFrames 12 = .ok (.iload_n 1, 1) := by decide +kernel
theorem dX10_readFrames_13 : decode cX10_readFrames 13 = .ok (.ifCond .eq 56, 3) := by decide +kernel
theorem dX10_readFrames_16 : decode cX10_readFrames 16 = .ok (.aload_n 0, 1) := by decide +kernel
theorem dX10_readFrames_17 : decode cX10_readFrames 17 = .ok (.invokevirtual 143, 3) := by decide +kernel
theorem dX10_readFrames_20 : decode cX10_readFrames 20 = .ok (.ifCond .ne 11, 3) := by decide +kernel
theorem dX10_readFrames_23 : decode cX10_readFrames 23 = .ok (.bipush (-100), 2) := by decide +kernel
theorem dX10_readFrames_25 : decode cX10_readFrames 25 = .ok (.aload_n 0, 1) := by decide +kernel
theorem dX10_readFrames_26 : decode cX10_readFrames 26 = .ok (.getfield 127, 3) := by decide +kernel
theorem dX10_readFrames_29 : decode cX10_readFrames 29 = .ok (.isub, 1) := by decide +kernel
theorem dX10_readFrames_30 : decode cX10_readFrames 30 = .ok (.ireturn, 1) := by decide +kernel
theorem dX10_readFrames_31 : decode cX10_readFrames 31 = .ok (.aload_n 0, 1) := by decide +kernel
theorem dX10_readFrames_32 : decode cX10_readFrames 32 = .ok (.getfield 127, 3) := by decide +kernel
theorem dX10_readFrames_35 : decode cX10_readFrames 35 = .ok (.aload_n 0, 1) := by decide +kernel
theorem dX10_readFrames_36 : decode cX10_readFrames 36 = .ok (.getfield 124, 3) := by decide +kernel
theorem dX10_readFrames_39 : decode cX10_readFrames 39 = .ok (.if_icmp .ge 7, 3) := by decide +kernel
theorem dX10_readFrames_42 : decode cX10_readFrames 42 = .ok (.iconst 1, 1) := by decide +kernel
theorem dX10_readFrames_43 : decode cX10_readFrames 43 = .ok (.goto 4, 3) := by decide +kernel
theorem dX10_readFrames_46 : decode cX10_readFrames 46 = .ok (.iconst 0, 1) := by decide +kernel
theorem dX10_readFrames_47 : decode cX10_readFrames 47 = .ok (.istore_n 1, 1) := by decide +kernel
theorem dX10_readFrames_48 : decode cX10_readFrames 48 = .ok (.aload_n 0, 1) := by decide +kernel
theorem dX10_readFrames_49 : decode cX10_readFrames 49 = .ok (.dup, 1) := by decide +kernel
theorem dX10_readFrames_50 : decode cX10_readFrames 50 = .ok (.getfield 127, 3) := by decide +kernel
theorem dX10_readFrames_53 : decode cX10_readFrames 53 = .ok (.iload_n 1, 1) := by decide +kernel
theorem dX10_readFrames_54 : decode cX10_readFrames 54 = .ok (.ifCond .eq 7, 3) := by decide +kernel
theorem dX10_readFrames_57 : decode cX10_readFrames 57 = .ok (.iconst 1, 1) := by decide +kernel
theorem dX10_readFrames_58 : decode cX10_readFrames 58 = .ok (.goto 4, 3) := by decide +kernel
theorem dX10_readFrames_61 : decode cX10_readFrames 61 = .ok (.iconst 0, 1) := by decide +kernel
theorem dX10_readFrames_62 : decode cX10_readFrames 62 = .ok (.iadd, 1) := by decide +kernel
theorem dX10_readFrames_63 : decode cX10_readFrames 63 = .ok (.putfield 127, 3) := by decide +kernel
theorem dX10_readFrames_66 : decode cX10_readFrames 66 = .ok (.goto (-54), 3) := by decide +kernel
theorem dX10_readFrames_69 : decode cX10_readFrames 69 = .ok (.aload_n 0, 1) := by decide +kernel
theorem dX10_readFrames_70 : decode cX10_readFrames 70 = .ok (.invokevirtual 55, 3) := by decide +kernel
theorem dX10_readFrames_73 : decode cX10_readFrames 73 = .ok (.iconst 0, 1) := by decide +kernel
theorem dX10_readFrames_74 : decode cX10_readFrames 74 = .ok (.istore_n 2, 1) := by decide +kernel
theorem dX10_readFrames_75 : decode cX10_readFrames 75 = .ok (.iconst 0, 1) := by decide +kernel
theorem dX10_readFrames_76 : decode cX10_readFrames 76 = .ok (.istore_n 3, 1) := by decide +kernel
theorem dX10_readFrames_77 : decode cX10_readFrames 77 = .ok (.iload_n 3, 1) := by decide +kernel
theorem dX10_readFrames_78 : decode cX10_readFrames 78 = .ok (.aload_n 0, 1) := by decide +kernel
theorem dX10_readFrames_79 : decode cX10_readFrames 79 = .ok (.getfield 133, 3) := by decide +kernel
theorem dX10_readFrames_82 : decode cX10_readFrames 82 = .ok (.if_icmp .ge 66, 3) := by decide +kernel
theorem dX10_readFrames_85 : decode cX10_readFrames 85 = .ok (.aload_n 0, 1) := by decide +kernel
theorem dX10_readFrames_86 : decode cX10_readFrames 86 = .ok (.aload_n 0, 1) := by decide +kernel
theorem dX10_readFrames_87 : decode cX10_readFrames 87 = .ok (.getfield 29, 3) := by decide +kernel
theorem dX10_readFrames_90 : decode cX10_readFrames 90 = .ok (.iconst 4, 1) := by decide +kernel
theorem dX10_readFrames_91 : decode cX10_readFrames 91 = .ok (.iload_n 3, 1) := by decide +kernel
theorem dX10_readFrames_92 : decode cX10_readFrames 92 = .ok (.imul, 1) := by decide +kernel
theorem dX10_readFrames_93 : decode cX10_readFrames 93 = .ok (.iconst 3, 1) := by decide +kernel
theorem dX10_readFrames_94 : decode cX10_readFrames 94 = .ok (.iadd, 1) := by decide +kernel
theorem dX10_readFrames_95 : decode cX10_readFrames 95 = .ok (.iaload, 1) := by decide +kernel
theorem dX10_readFrames_96 : decode cX10_readFrames 96 = .ok (.aload_n 0, 1) := by decide +kernel
theorem dX10_readFrames_97 : decode cX10_readFrames 97 = .ok (.getfield 29, 3) := by decide +kernel
theorem dX10_readFrames_100 : decode cX10_readFrames 100 = .ok (.iconst 4, 1) := by decide +kernel
theorem dX10_readFrames_101 : decode cX10_readFrames 101 = .ok (.iload_n 3, 1) := by decide +kernel
theorem dX10_readFrames_102 : decode cX10_readFrames 102 = .ok (.imul, 1) := by decide +kernel
theorem dX10_readFrames_103 : decode cX10_readFrames 103 = .ok (.iaload, 1) := by decide +kernel
theorem dX10_readFrames_104 : decode cX10_readFrames 104 = .ok (.aload_n 0, 1) := by decide +kernel
theorem dX10_readFrames_105 : decode cX10_readFrames 105 = .ok (.getfield 29, 3) := by decide +kernel
theorem dX10_readFrames_108 : decode cX10_readFrames 108 = .ok (.iconst 4, 1) := by decide +kernel
theorem dX10_readFrames_109 : decode cX10_readFrames 109 = .ok (.iload_n 3, 1) := by decide +kernel
theorem dX10_readFrames_110 : decode cX10_readFrames 110 = .ok (.imul, 1) := by decide +kernel
theorem dX10_readFrames_111 : decode cX10_readFrames 111 = .ok (.iconst 1, 1) := by decide +kernel
theorem dX10_readFrames_112 : decode cX10_readFrames 112 = .ok (.iadd, 1) := by decide +kernel
theorem dX10_readFrames_113 : decode cX10_readFrames 113 = .ok (.iaload, 1) := by decide +kernel
theorem dX10_readFrames_114 : decode cX10_readFrames 114 = .ok (.aload_n 0, 1) := by decide +kernel
theorem dX10_readFrames_115 : decode cX10_readFrames 115 = .ok (.getfield 29, 3) := by decide +kernel
theorem dX10_readFrames_118 : decode cX10_readFrames 118 = .ok (.iconst 4, 1) := by decide +kernel
theorem dX10_readFrames_119 : decode cX10_readFrames 119 = .ok (.iload_n 3, 1) := by decide +kernel
theorem dX10_readFrames_120 : decode cX10_readFrames 120 = .ok (.imul, 1) := by decide +kernel
theorem dX10_readFrames_121 : decode cX10_readFrames 121 = .ok (.iconst 2, 1) := by decide +kernel
theorem dX10_readFrames_122 : decode cX10_readFrames 122 = .ok (.iadd, 1) := by decide +kernel
theorem dX10_readFrames_123 : decode cX10_readFrames 123 = .ok (.iaload, 1) := by decide +kernel
theorem dX10_readFrames_124 : decode cX10_readFrames 124 = .ok (.invokevirtual 109, 3) := by decide +kernel
theorem dX10_readFrames_127 : decode cX10_readFrames 127 = .ok (.istore 4, 2) := by decide +kernel
theorem dX10_readFrames_129 : decode cX10_readFrames 129 = .ok (.iload_n 2, 1) := by decide +kernel
theorem dX10_readFrames_130 : decode cX10_readFrames 130 = .ok (.iload 4, 2) := by decide +kernel
theorem dX10_readFrames_132 : decode cX10_readFrames 132 = .ok (.ifCond .ne 7, 3) := by decide +kernel
theorem dX10_readFrames_135 : decode cX10_readFrames 135 = .ok (.iconst 0, 1) := by decide +kernel
theorem dX10_readFrames_136 : decode cX10_readFrames 136 = .ok (.goto 4, 3) := by decide +kernel
theorem dX10_readFrames_139 : decode cX10_readFrames 139 = .ok (.iconst 1, 1) := by decide +kernel
theorem dX10_readFrames_140 : decode cX10_readFrames 140 = .ok (.iadd, 1) := by decide +kernel
theorem dX10_readFrames_141 : decode cX10_readFrames 141 = .ok (.istore_n 2, 1) := by decide +kernel
theorem dX10_readFrames_142 : decode cX10_readFrames 142 = .ok (.iinc 3 1, 3) := by decide +kernel
theorem dX10_readFrames_145 : decode cX10_readFrames 145 = .ok (.goto (-68), 3) := by decide +kernel
theorem dX10_readFrames_148 : decode cX10_readFrames 148 = .ok (.iload_n 2, 1) := by decide +kernel
theorem dX10_readFrames_149 : decode cX10_readFrames 149 = .ok (.ireturn, 1) := by decide +kernel
theorem dX10_undo_0 : decode cX10_undo 0 = .ok (.aload_n 0, 1) := by decide +kernel
theorem dX10_undo_1 : decode cX10_undo 1 = .ok (.getfield 40, 3) := by decide +kernel
theorem dX10_undo_4 : decode cX10_undo 4 = .ok (.ifCond .ne 6, 3) := by decide +kernel
theorem dX10_undo_7 : decode cX10_undo 7 = .ok (.bipush (-4), 2) := by decide +kernel
theorem dX10_undo_9 : decode cX10_undo 9 = .ok (.ireturn, 1) := by decide +kernel
theorem dX10_undo_10 : decode cX10_undo 10 = .ok (.aload_n 0, 1) := by decide +kernel
theorem dX10_undo_11 : decode cX10_undo 11 = .ok (.dup, 1) := by decide +kernel
theorem dX10_undo_12 : decode cX10_undo 12 = .ok (.getfield 40, 3) := by decide +kernel
theorem dX10_undo_15 : decode cX10_undo 15 = .ok (.iconst 1, 1) := by decide +kernel
theorem dX10_undo_16 : decode cX10_undo 16 = .ok (.isub, 1) := by decide +kernel
theorem dX10_undo_17 : decode cX10_undo 17 = .ok (.putfield 40, 3) := by decide +kernel
theorem dX10_undo_20 : decode cX10_undo 20 = .ok (.iconst 0, 1) := by decide +kernel
theorem dX10_undo_21 : decode cX10_undo 21 = .ok (.istore_n 1, 1) := by decide +kernel
theorem dX10_undo_22 : decode cX10_undo 22 = .ok (.iload_n 1, 1) := by decide +kernel
theorem dX10_undo_23 : decode cX10_undo 23 = .ok (.sipush 1752, 3) := by decide +kernel
theorem dX10_undo_26 : decode cX10_undo 26 = .ok (.if_icmp .ge 30, 3) := by decide +kernel
theorem dX10_undo_29 : decode cX10_undo 29 = .ok (.aload_n 0, 1) := by decide +kernel
theorem dX10_undo_30 : decode cX10_undo 30 = .ok (.getfield 7, 3) := by decide +kernel
theorem dX10_undo_33 : decode cX10_undo 33 = .ok (.iload_n 1, 1) := by decide +kernel
theorem dX10_undo_34 : decode cX10_undo 34 = .ok (.aload_n 0, 1) := by decide +kernel
theorem dX10_undo_35 : decode cX10_undo 35 = .ok (.getfield 13, 3) := by decide +kernel
theorem dX10_undo_38 : decode cX10_undo 38 = .ok (.sipush 1752, 3) := by decide +kernel
theorem dX10_undo_41 : decode cX10_undo 41 = .ok (.aload_n 0, 1) := by decide +kernel
theorem dX10_undo_42 : decode cX10_undo 42 = .ok (.getfield 40, 3) := by decide +kernel
theorem dX10_undo_45 : decode cX10_undo 45 = .ok (.imul, 1) := by decide +kernel
theorem dX10_undo_46 : decode cX10_undo 46 = .ok (.iload_n 1, 1) := by decide +kernel
theorem dX10_undo_47 : decode cX10_undo 47 = .ok (.iadd, 1) := by decide +kernel
theorem dX10_undo_48 : decode cX10_undo 48 = .ok (.iaload, 1) := by decide +kernel
theorem dX10_undo_49 : decode cX10_undo 49 = .ok (.iastore, 1) := by decide +kernel
theorem dX10_undo_50 : decode cX10_undo 50 = .ok (.iinc 1 1, 3) := by decide +kernel
theorem dX10_undo_53 : decode cX10_undo 53 = .ok (.goto (-31), 3) := by decide +kernel
theorem dX10_undo_56 : decode cX10_undo 56 = .ok (.aload_n 0, 1) := by decide +kernel
theorem dX10_undo_57 : decode cX10_undo 57 = .ok (.getfield 40, 3) := by decide +kernel
theorem dX10_undo_60 : decode cX10_undo 60 = .ok (.ireturn, 1) := by decide +kernel
theorem dX10_keep_0 : decode cX10_keep 0 = .ok (.iconst 0, 1) := by decide +kernel
theorem dX10_keep_1 : decode cX10_keep 1 = .ok (.istore_n 1, 1) := by decide +kernel
theorem dX10_keep_2 : decode cX10_keep 2 = .ok (.iload_n 1, 1) := by decide +kernel
theorem dX10_keep_3 : decode cX10_keep 3 = .ok (.sipush 1752, 3) := by decide +kernel
theorem dX10_keep_6 : decode cX10_keep 6 = .ok (.if_icmp .ge 21, 3) := by decide +kernel
theorem dX10_keep_9 : decode cX10_keep 9 = .ok (.aload_n 0, 1) := by decide +kernel
theorem dX10_keep_10 : decode cX10_keep 10 = .ok (.getfield 16, 3) := by decide +kernel
theorem dX10_keep_13 : decode cX10_keep 13 = .ok (.iload_n 1, 1) := by decide +kernel
theorem dX10_keep_14 : decode cX10_keep 14 = .ok (.aload_n 0, 1) := by decide +kernel
theorem dX10_keep_15 : decode cX10_keep 15 = .ok (.getfield 7, 3) := by decide +kernel
theorem dX10_keep_18 : decode cX10_keep 18 = .ok (.iload_n 1, 1) := by decide +kernel
theorem dX10_keep_19 : decode cX10_keep 19 = .ok (.iaload, 1) := by decide +kernel
theorem dX10_keep_20 : decode cX10_keep 20 = .ok (.iastore, 1) := by decide +kernel
theorem dX10_keep_21 : decode cX10_keep 21 = .ok (.iinc 1 1, 3) := by decide +kernel
theorem dX10_keep_24 : decode cX10_keep 24 = .ok (.goto (-22), 3) := by decide +kernel
theorem dX10_keep_27 : decode cX10_keep 27 = .ok (.aload_n 0, 1) := by decide +kernel
theorem dX10_keep_28 : decode cX10_keep 28 = .ok (.iconst 1, 1) := by decide +kernel
theorem dX10_keep_29 : decode cX10_keep 29 = .ok (.putfield 147, 3) := by decide +kernel
theorem dX10_keep_32 : decode cX10_keep 32 = .ok (.aload_n 0, 1) := by decide +kernel
theorem dX10_keep_33 : decode cX10_keep 33 = .ok (.getfield 7, 3) := by decide +kernel
theorem dX10_keep_36 : decode cX10_keep 36 = .ok (.iconst 4, 1) := by decide +kernel
theorem dX10_keep_37 : decode cX10_keep 37 = .ok (.iaload, 1) := by decide +kernel
theorem dX10_keep_38 : decode cX10_keep 38 = .ok (.ireturn, 1) := by decide +kernel
theorem dX10_restore_0 : decode cX10_restore 0 = .ok (.aload_n 0, 1) := by decide +kernel
theorem dX10_restore_1 : decode cX10_restore 1 = .ok (.getfield 147, 3) := by decide +kernel
theorem dX10_restore_4 : decode cX10_restore 4 = .ok (.ifCond .ne 6, 3) := by decide +kernel
theorem dX10_restore_7 : decode cX10_restore 7 = .ok (.bipush (-4), 2) := by decide +kernel
theorem dX10_restore_9 : decode cX10_restore 9 = .ok (.ireturn, 1) := by decide +kernel
theorem dX10_restore_10 : decode cX10_restore 10 = .ok (.aload_n 0, 1) := by decide +kernel
theorem dX10_restore_11 : decode cX10_restore 11 = .ok (.invokevirtual 55, 3) := by decide +kernel
theorem dX10_restore_14 : decode cX10_restore 14 = .ok (.iconst 0, 1) := by decide +kernel
theorem dX10_restore_15 : decode cX10_restore 15 = .ok (.istore_n 1, 1) := by decide +kernel
theorem dX10_restore_16 : decode cX10_restore 16 = .ok (.iload_n 1, 1) := by decide +kernel
theorem dX10_restore_17 : decode cX10_restore 17 = .ok (.sipush 1752, 3) := by decide +kernel
theorem dX10_restore_20 : decode cX10_restore 20 = .ok (.if_icmp .ge 21, 3) := by decide +kernel
theorem dX10_restore_23 : decode cX10_restore 23 = .ok (.aload_n 0, 1) := by decide +kernel
theorem dX10_restore_24 : decode cX10_restore 24 = .ok (.getfield 7, 3) := by decide +kernel
theorem dX10_restore_27 : decode cX10_restore 27 = .ok (.iload_n 1, 1) := by decide +kernel
theorem dX10_restore_28 : decode cX10_restore 28 = .ok (.aload_n 0, 1) := by decide +kernel
theorem dX10_restore_29 : decode cX10_restore 29 = .ok (.getfield 16, 3) := by decide +kernel
theorem dX10_restore_32 : decode cX10_restore 32 = .ok (.iload_n 1, 1) := by decide +kernel
theorem dX10_restore_33 : decode cX10_restore 33 = .ok (.iaload, 1) := by decide +kernel
theorem dX10_restore_34 : decode cX10_restore 34 = .ok (.iastore, 1) := by decide +kernel
theorem dX10_restore_35 : decode cX10_restore 35 = .ok (.iinc 1 1, 3) := by decide +kernel
theorem dX10_restore_38 : decode cX10_restore 38 = .ok (.goto (-22), 3) := by decide +kernel
theorem dX10_restore_41 : decode cX10_restore 41 = .ok (.aload_n 0, 1) := by decide +kernel
theorem dX10_restore_42 : decode cX10_restore 42 = .ok (.getfield 7, 3) := by decide +kernel
theorem dX10_restore_45 : decode cX10_restore 45 = .ok (.iconst 4, 1) := by decide +kernel
theorem dX10_restore_46 : decode cX10_restore 46 = .ok (.iaload, 1) := by decide +kernel
theorem dX10_restore_47 : decode cX10_restore 47 = .ok (.ireturn, 1) := by decide +kernel
theorem dX10_entriesWith_0 : decode cX10_entriesWith 0 = .ok (.iconst 0, 1) := by decide +kernel
theorem dX10_entriesWith_1 : decode cX10_entriesWith 1 = .ok (.istore_n 2, 1) := by decide +kernel
theorem dX10_entriesWith_2 : decode cX10_entriesWith 2 = .ok (.iconst 1, 1) := by decide +kernel
theorem dX10_entriesWith_3 : decode cX10_entriesWith 3 = .ok (.istore_n 3, 1) := by decide +kernel
theorem dX10_entriesWith_4 : decode cX10_entriesWith 4 = .ok (.iload_n 3, 1) := by decide +kernel
theorem dX10_entriesWith_5 : decode cX10_entriesWith 5 = .ok (.bipush 100, 2) := by decide +kernel
theorem dX10_entriesWith_7 : decode cX10_entriesWith 7 = .ok (.if_icmp .ge 33, 3) := by decide +kernel
theorem dX10_entriesWith_10 : decode cX10_entriesWith 10 = .ok (.iload_n 2, 1) := by decide +kernel
theorem dX10_entriesWith_11 : decode cX10_entriesWith 11 = .ok (.aload_n 0, 1) := by decide +kernel
theorem dX10_entriesWith_12 : decode cX10_entriesWith 12 = .ok (.getfield 7, 3) := by decide +kernel
theorem dX10_entriesWith_15 : decode cX10_entriesWith 15 = .ok (.sipush 552, 3) := by decide +kernel
theorem dX10_entriesWith_18 : decode cX10_entriesWith 18 = .ok (.iload_n 3, 1) := by decide +kernel
theorem dX10_entriesWith_19 : decode cX10_entriesWith 19 = .ok (.iadd, 1) := by decide +kernel
theorem dX10_entriesWith_20 : decode cX10_entriesWith 20 = .ok (.iaload, 1) := by decide +kernel
theorem dX10_entriesWith_21 : decode cX10_entriesWith 21 = .ok (.iload_n 1, 1) := by decide +kernel
theorem dX10_entriesWith_22 : decode cX10_entriesWith 22 = .ok (.iconst 1, 1) := by decide +kernel
theorem dX10_entriesWith_23 : decode cX10_entriesWith 23 = .ok (.iadd, 1) := by decide +kernel
theorem dX10_entriesWith_24 : decode cX10_entriesWith 24 = .ok (.if_icmp .ne 7, 3) := by decide +kernel
theorem dX10_entriesWith_27 : decode cX10_entriesWith 27 = .ok (.iconst 1, 1) := by decide +kernel
theorem dX10_entriesWith_28 : decode cX10_entriesWith 28 = .ok (.goto 4, 3) := by decide +kernel
theorem dX10_entriesWith_31 : decode cX10_entriesWith 31 = .ok (.iconst 0, 1) := by decide +kernel
theorem dX10_entriesWith_32 : decode cX10_entriesWith 32 = .ok (.iadd, 1) := by decide +kernel
theorem dX10_entriesWith_33 : decode cX10_entriesWith 33 = .ok (.istore_n 2, 1) := by decide +kernel
theorem dX10_entriesWith_34 : decode cX10_entriesWith 34 = .ok (.iinc 3 1, 3) := by decide +kernel
theorem dX10_entriesWith_37 : decode cX10_entriesWith 37 = .ok (.goto (-33), 3) := by decide +kernel
theorem dX10_entriesWith_40 : decode cX10_entriesWith 40 = .ok (.iload_n 2, 1) := by decide +kernel
theorem dX10_entriesWith_41 : decode cX10_entriesWith 41 = .ok (.ireturn, 1) := by decide +kernel
theorem dX10_port_0 : decode cX10_port 0 = .ok (.iload_n 1, 1) := by decide +kernel
theorem dX10_port_1 : decode cX10_port 1 = .ok (.invokestatic 52, 3) := by decide +kernel
theorem dX10_port_4 : decode cX10_port 4 = .ok (.ifCond .eq 5, 3) := by decide +kernel
theorem dX10_port_7 : decode cX10_port 7 = .ok (.iconst (-1), 1) := by decide +kernel
theorem dX10_port_8 : decode cX10_port 8 = .ok (.ireturn, 1) := by decide +kernel
theorem dX10_port_9 : decode cX10_port 9 = .ok (.iload_n 2, 1) := by decide +kernel
theorem dX10_port_10 : decode cX10_port 10 = .ok (.tableswitch 123 0 7 #[46, 53, 67, 73, 80, 103, 110, 116], 46) := by decide +kernel
theorem dX10_port_56 : decode cX10_port 56 = .ok (.aload_n 0, 1) := by decide +kernel
theorem dX10_port_57 : decode cX10_port 57 = .ok (.iload_n 1, 1) := by decide +kernel
theorem dX10_port_58 : decode cX10_port 58 = .ok (.iconst 0, 1) := by decide +kernel
theorem dX10_port_59 : decode cX10_port 59 = .ok (.invokevirtual 44, 3) := by decide +kernel
theorem dX10_port_62 : decode cX10_port 62 = .ok (.ireturn, 1) := by decide +kernel
theorem dX10_port_63 : decode cX10_port 63 = .ok (.aload_n 0, 1) := by decide +kernel
theorem dX10_port_64 : decode cX10_port 64 = .ok (.iload_n 1, 1) := by decide +kernel
theorem dX10_port_65 : decode cX10_port 65 = .ok (.invokevirtual 48, 3) := by decide +kernel
theorem dX10_port_68 : decode cX10_port 68 = .ok (.ifCond .eq 7, 3) := by decide +kernel
theorem dX10_port_71 : decode cX10_port 71 = .ok (.iconst 1, 1) := by decide +kernel
theorem dX10_port_72 : decode cX10_port 72 = .ok (.goto 4, 3) := by decide +kernel
theorem dX10_port_75 : decode cX10_port 75 = .ok (.iconst 0, 1) := by decide +kernel
theorem dX10_port_76 : decode cX10_port 76 = .ok (.ireturn, 1) := by decide +kernel
theorem dX10_port_77 : decode cX10_port 77 = .ok (.aload_n 0, 1) := by decide +kernel
theorem dX10_port_78 : decode cX10_port 78 = .ok (.iload_n 1, 1) := by decide +kernel
theorem dX10_port_79 : decode cX10_port 79 = .ok (.invokevirtual 65, 3) := by decide +kernel
theorem dX10_port_82 : decode cX10_port 82 = .ok (.ireturn, 1) := by decide +kernel
theorem dX10_port_83 : decode cX10_port 83 = .ok (.aload_n 0, 1) := by decide +kernel
theorem dX10_port_84 : decode cX10_port 84 = .ok (.iload_n 1, 1) := by decide +kernel
theorem dX10_port_85 : decode cX10_port 85 = .ok (.iconst 2, 1) := by decide +kernel
theorem dX10_port_86 : decode cX10_port 86 = .ok (.invokevirtual 44, 3) := by decide +kernel
theorem dX10_port_89 : decode cX10_port 89 = .ok (.ireturn, 1) := by decide +kernel
theorem dX10_port_90 : decode cX10_port 90 = .ok (.aload_n 0, 1) := by decide +kernel
theorem dX10_port_91 : decode cX10_port 91 = .ok (.iload_n 1, 1) := by decide +kernel
theorem dX10_port_92 : decode cX10_port 92 = .ok (.iconst 3, 1) := by decide +kernel
theorem dX10_port_93 : decode cX10_port 93 = .ok (.invokevirtual 44, 3) := by decide +kernel
theorem dX10_port_96 : decode cX10_port 96 = .ok (.ifCond .ne 8, 3) := by decide +kernel
theorem dX10_port_99 : decode cX10_port 99 = .ok (.bipush (-4), 2) := by decide +kernel
theorem dX10_port_101 : decode cX10_port 101 = .ok (.goto 11, 3) := by decide +kernel
theorem dX10_port_104 : decode cX10_port 104 = .ok (.aload_n 0, 1) := by decide +kernel
theorem dX10_port_105 : decode cX10_port 105 = .ok (.iload_n 1, 1) := by decide +kernel
theorem dX10_port_106 : decode cX10_port 106 = .ok (.iconst 3, 1) := by decide +kernel
theorem dX10_port_107 : decode cX10_port 107 = .ok (.invokevirtual 44, 3) := by decide +kernel
theorem dX10_port_110 : decode cX10_port 110 = .ok (.iconst 1, 1) := by decide +kernel
theorem dX10_port_111 : decode cX10_port 111 = .ok (.isub, 1) := by decide +kernel
theorem dX10_port_112 : decode cX10_port 112 = .ok (.ireturn, 1) := by decide +kernel
theorem dX10_port_113 : decode cX10_port 113 = .ok (.aload_n 0, 1) := by decide +kernel
theorem dX10_port_114 : decode cX10_port 114 = .ok (.iload_n 1, 1) := by decide +kernel
theorem dX10_port_115 : decode cX10_port 115 = .ok (.iconst 5, 1) := by decide +kernel
theorem dX10_port_116 : decode cX10_port 116 = .ok (.invokevirtual 44, 3) := by decide +kernel
theorem dX10_port_119 : decode cX10_port 119 = .ok (.ireturn, 1) := by decide +kernel
theorem dX10_port_120 : decode cX10_port 120 = .ok (.aload_n 0, 1) := by decide +kernel
theorem dX10_port_121 : decode cX10_port 121 = .ok (.iload_n 1, 1) := by decide +kernel
theorem dX10_port_122 : decode cX10_port 122 = .ok (.invokevirtual 151, 3) := by decide +kernel
theorem dX10_port_125 : decode cX10_port 125 = .ok (.ireturn, 1) := by decide +kernel
theorem dX10_port_126 : decode cX10_port 126 = .ok (.aload_n 0, 1) := by decide +kernel
theorem dX10_port_127 : decode cX10_port 127 = .ok (.iload_n 1, 1) := by decide +kernel
theorem dX10_port_128 : decode cX10_port 128 = .ok (.iconst 4, 1) := by decide +kernel
theorem dX10_port_129 : decode cX10_port 129 = .ok (.invokevirtual 44, 3) := by decide +kernel
theorem dX10_port_132 : decode cX10_port 132 = .ok (.ireturn, 1) := by decide +kernel
theorem dX10_port_133 : decode cX10_port 133 = .ok (.bipush (-2), 2) := by decide +kernel
theorem dX10_port_135 : decode cX10_port 135 = .ok (.ireturn, 1) := by decide +kernel
theorem dX10_account_0 : decode cX10_account 0 = .ok (.iload_n 1, 1) := by decide +kernel
theorem dX10_account_1 : decode cX10_account 1 = .ok (.invokestatic 52, 3) := by decide +kernel
theorem dX10_account_4 : decode cX10_account 4 = .ok (.ifCond .eq 5, 3) := by decide +kernel
theorem dX10_account_7 : decode cX10_account 7 = .ok (.iconst (-1), 1) := by decide +kernel
theorem dX10_account_8 : decode cX10_account 8 = .ok (.ireturn, 1) := by decide +kernel
theorem dX10_account_9 : decode cX10_account 9 = .ok (.iload_n 2, 1) := by decide +kernel
theorem dX10_account_10 : decode cX10_account 10 = .ok (.iconst 0, 1) := by decide +kernel
theorem dX10_account_11 : decode cX10_account 11 = .ok (.bipush 10, 2) := by decide +kernel
theorem dX10_account_13 : decode cX10_account 13 = .ok (.invokestatic 36, 3) := by decide +kernel
theorem dX10_account_16 : decode cX10_account 16 = .ok (.ifCond .eq 15, 3) := by decide +kernel
theorem dX10_account_19 : decode cX10_account 19 = .ok (.aload_n 0, 1) := by decide +kernel
theorem dX10_account_20 : decode cX10_account 20 = .ok (.iload_n 1, 1) := by decide +kernel
theorem dX10_account_21 : decode cX10_account 21 = .ok (.bipush 6, 2) := by decide +kernel
theorem dX10_account_23 : decode cX10_account 23 = .ok (.iload_n 2, 1) := by decide +kernel
theorem dX10_account_24 : decode cX10_account 24 = .ok (.iadd, 1) := by decide +kernel
theorem dX10_account_25 : decode cX10_account 25 = .ok (.invokevirtual 44, 3) := by decide +kernel
theorem dX10_account_28 : decode cX10_account 28 = .ok (.goto 5, 3) := by decide +kernel
theorem dX10_account_31 : decode cX10_account 31 = .ok (.bipush (-2), 2) := by decide +kernel
theorem dX10_account_33 : decode cX10_account 33 = .ok (.ireturn, 1) := by decide +kernel
theorem dX10_entry_0 : decode cX10_entry 0 = .ok (.iload_n 1, 1) := by decide +kernel
theorem dX10_entry_1 : decode cX10_entry 1 = .ok (.ifCond .lt 12, 3) := by decide +kernel
theorem dX10_entry_4 : decode cX10_entry 4 = .ok (.iload_n 2, 1) := by decide +kernel
theorem dX10_entry_5 : decode cX10_entry 5 = .ok (.iconst 0, 1) := by decide +kernel
theorem dX10_entry_6 : decode cX10_entry 6 = .ok (.iconst 3, 1) := by decide +kernel
theorem dX10_entry_7 : decode cX10_entry 7 = .ok (.invokestatic 36, 3) := by decide +kernel
theorem dX10_entry_10 : decode cX10_entry 10 = .ok (.ifCond .ne 6, 3) := by decide +kernel
theorem dX10_entry_13 : decode cX10_entry 13 = .ok (.bipush (-2), 2) := by decide +kernel
theorem dX10_entry_15 : decode cX10_entry 15 = .ok (.ireturn, 1) := by decide +kernel
theorem dX10_entry_16 : decode cX10_entry 16 = .ok (.iconst 0, 1) := by decide +kernel
theorem dX10_entry_17 : decode cX10_entry 17 = .ok (.istore_n 3, 1) := by decide +kernel
theorem dX10_entry_18 : decode cX10_entry 18 = .ok (.iconst 1, 1) := by decide +kernel
theorem dX10_entry_19 : decode cX10_entry 19 = .ok (.istore 4, 2) := by decide +kernel
theorem dX10_entry_21 : decode cX10_entry 21 = .ok (.iload 4, 2) := by decide +kernel
theorem dX10_entry_23 : decode cX10_entry 23 = .ok (.bipush 100, 2) := by decide +kernel
theorem dX10_entry_25 : decode cX10_entry 25 = .ok (.if_icmp .ge 94, 3) := by decide +kernel
theorem dX10_entry_28 : decode cX10_entry 28 = .ok (.aload_n 0, 1) := by decide +kernel
theorem dX10_entry_29 : decode cX10_entry 29 = .ok (.getfield 7, 3) := by decide +kernel
theorem dX10_entry_32 : decode cX10_entry 32 = .ok (.sipush 552, 3) := by decide +kernel
theorem dX10_entry_35 : decode cX10_entry 35 = .ok (.iload 4, 2) := by decide +kernel
theorem dX10_entry_37 : decode cX10_entry 37 = .ok (.iadd, 1) := by decide +kernel
theorem dX10_entry_38 : decode cX10_entry 38 = .ok (.iaload, 1) := by decide +kernel
theorem dX10_entry_39 : decode cX10_entry 39 = .ok (.ifCond .le 74, 3) := by decide +kernel
theorem dX10_entry_42 : decode cX10_entry 42 = .ok (.iload_n 3, 1) := by decide +kernel
theorem dX10_entry_43 : decode cX10_entry 43 = .ok (.iload_n 1, 1) := by decide +kernel
theorem dX10_entry_44 : decode cX10_entry 44 = .ok (.if_icmp .ne 66, 3) := by decide +kernel
theorem dX10_entry_47 : decode cX10_entry 47 = .ok (.iload_n 2, 1) := by decide +kernel
theorem dX10_entry_48 : decode cX10_entry 48 = .ok (.ifCond .ne 8, 3) := by decide +kernel
theorem dX10_entry_51 : decode cX10_entry 51 = .ok (.iload 4, 2) := by decide +kernel
theorem dX10_entry_53 : decode cX10_entry 53 = .ok (.goto 56, 3) := by decide +kernel
theorem dX10_entry_56 : decode cX10_entry 56 = .ok (.iload_n 2, 1) := by decide +kernel
theorem dX10_entry_57 : decode cX10_entry 57 = .ok (.iconst 1, 1) := by decide +kernel
theorem dX10_entry_58 : decode cX10_entry 58 = .ok (.if_icmp .ne 19, 3) := by decide +kernel
theorem dX10_entry_61 : decode cX10_entry 61 = .ok (.aload_n 0, 1) := by decide +kernel
theorem dX10_entry_62 : decode cX10_entry 62 = .ok (.getfield 7, 3) := by decide +kernel
theorem dX10_entry_65 : decode cX10_entry 65 = .ok (.sipush 552, 3) := by decide +kernel
theorem dX10_entry_68 : decode cX10_entry 68 = .ok (.iload 4, 2) := by decide +kernel
theorem dX10_entry_70 : decode cX10_entry 70 = .ok (.iadd, 1) := by decide +kernel
theorem dX10_entry_71 : decode cX10_entry 71 = .ok (.iaload, 1) := by decide +kernel
theorem dX10_entry_72 : decode cX10_entry 72 = .ok (.iconst 1, 1) := by decide +kernel
theorem dX10_entry_73 : decode cX10_entry 73 = .ok (.isub, 1) := by decide +kernel
theorem dX10_entry_74 : decode cX10_entry 74 = .ok (.goto 35, 3) := by decide +kernel
theorem dX10_entry_77 : decode cX10_entry 77 = .ok (.iload_n 2, 1) := by decide +kernel
theorem dX10_entry_78 : decode cX10_entry 78 = .ok (.iconst 2, 1) := by decide +kernel
theorem dX10_entry_79 : decode cX10_entry 79 = .ok (.if_icmp .ne 24, 3) := by decide +kernel
theorem dX10_entry_82 : decode cX10_entry 82 = .ok (.aload_n 0, 1) := by decide +kernel
theorem dX10_entry_83 : decode cX10_entry 83 = .ok (.getfield 7, 3) := by decide +kernel
theorem dX10_entry_86 : decode cX10_entry 86 = .ok (.iconst 4, 1) := by decide +kernel
theorem dX10_entry_87 : decode cX10_entry 87 = .ok (.iaload, 1) := by decide +kernel
theorem dX10_entry_88 : decode cX10_entry 88 = .ok (.aload_n 0, 1) := by decide +kernel
theorem dX10_entry_89 : decode cX10_entry 89 = .ok (.getfield 7, 3) := by decide +kernel
theorem dX10_entry_92 : decode cX10_entry 92 = .ok (.sipush 652, 3) := by decide +kernel
theorem dX10_entry_95 : decode cX10_entry 95 = .ok (.iload 4, 2) := by decide +kernel
theorem dX10_entry_97 : decode cX10_entry 97 = .ok (.iadd, 1) := by decide +kernel
theorem dX10_entry_98 : decode cX10_entry 98 = .ok (.iaload, 1) := by decide +kernel
theorem dX10_entry_99 : decode cX10_entry 99 = .ok (.isub, 1) := by decide +kernel
theorem dX10_entry_100 : decode cX10_entry 100 = .ok (.goto 9, 3) := by decide +kernel
theorem dX10_entry_103 : decode cX10_entry 103 = .ok (.aload_n 0, 1) := by decide +kernel
theorem dX10_entry_104 : decode cX10_entry 104 = .ok (.iload 4, 2) := by decide +kernel
theorem dX10_entry_106 : decode cX10_entry 106 = .ok (.invokevirtual 90, 3) := by decide +kernel
theorem dX10_entry_109 : decode cX10_entry 109 = .ok (.ireturn, 1) := by decide +kernel
theorem dX10_entry_110 : decode cX10_entry 110 = .ok (.iinc 3 1, 3) := by decide +kernel
theorem dX10_entry_113 : decode cX10_entry 113 = .ok (.iinc 4 1, 3) := by decide +kernel
theorem dX10_entry_116 : decode cX10_entry 116 = .ok (.goto (-95), 3) := by decide +kernel
theorem dX10_entry_119 : decode cX10_entry 119 = .ok (.bipush (-4), 2) := by decide +kernel
theorem dX10_entry_121 : decode cX10_entry 121 = .ok (.ireturn, 1) := by decide +kernel
theorem dX10_where_0 : decode cX10_where 0 = .ok (.iload_n 1, 1) := by decide +kernel
theorem dX10_where_1 : decode cX10_where 1 = .ok (.invokestatic 106, 3) := by decide +kernel
theorem dX10_where_4 : decode cX10_where 4 = .ok (.ifCond .eq 6, 3) := by decide +kernel
theorem dX10_where_7 : decode cX10_where 7 = .ok (.bipush (-2), 2) := by decide +kernel
theorem dX10_where_9 : decode cX10_where 9 = .ok (.ireturn, 1) := by decide +kernel
theorem dX10_where_10 : decode cX10_where 10 = .ok (.aload_n 0, 1) := by decide +kernel
theorem dX10_where_11 : decode cX10_where 11 = .ok (.getfield 7, 3) := by decide +kernel
theorem dX10_where_14 : decode cX10_where 14 = .ok (.sipush 552, 3) := by decide +kernel
theorem dX10_where_17 : decode cX10_where 17 = .ok (.iload_n 1, 1) := by decide +kernel
theorem dX10_where_18 : decode cX10_where 18 = .ok (.iadd, 1) := by decide +kernel
theorem dX10_where_19 : decode cX10_where 19 = .ok (.iaload, 1) := by decide +kernel
theorem dX10_where_20 : decode cX10_where 20 = .ok (.ifCond .le 18, 3) := by decide +kernel
theorem dX10_where_23 : decode cX10_where 23 = .ok (.aload_n 0, 1) := by decide +kernel
theorem dX10_where_24 : decode cX10_where 24 = .ok (.getfield 7, 3) := by decide +kernel
theorem dX10_where_27 : decode cX10_where 27 = .ok (.sipush 552, 3) := by decide +kernel
theorem dX10_where_30 : decode cX10_where 30 = .ok (.iload_n 1, 1) := by decide +kernel
theorem dX10_where_31 : decode cX10_where 31 = .ok (.iadd, 1) := by decide +kernel
theorem dX10_where_32 : decode cX10_where 32 = .ok (.iaload, 1) := by decide +kernel
theorem dX10_where_33 : decode cX10_where 33 = .ok (.iconst 1, 1) := by decide +kernel
theorem dX10_where_34 : decode cX10_where 34 = .ok (.isub, 1) := by decide +kernel
theorem dX10_where_35 : decode cX10_where 35 = .ok (.goto 5, 3) := by decide +kernel
theorem dX10_where_38 : decode cX10_where 38 = .ok (.bipush (-4), 2) := by decide +kernel
theorem dX10_where_40 : decode cX10_where 40 = .ok (.ireturn, 1) := by decide +kernel
theorem dX10_queued_0 : decode cX10_queued 0 = .ok (.iload_n 1, 1) := by decide +kernel
theorem dX10_queued_1 : decode cX10_queued 1 = .ok (.invokestatic 52, 3) := by decide +kernel
theorem dX10_queued_4 : decode cX10_queued 4 = .ok (.ifCond .eq 5, 3) := by decide +kernel
theorem dX10_queued_7 : decode cX10_queued 7 = .ok (.iconst (-1), 1) := by decide +kernel
theorem dX10_queued_8 : decode cX10_queued 8 = .ok (.ireturn, 1) := by decide +kernel
theorem dX10_queued_9 : decode cX10_queued 9 = .ok (.iload_n 2, 1) := by decide +kernel
theorem dX10_queued_10 : decode cX10_queued 10 = .ok (.ifCond .lt 12, 3) := by decide +kernel
theorem dX10_queued_13 : decode cX10_queued 13 = .ok (.iload_n 3, 1) := by decide +kernel
theorem dX10_queued_14 : decode cX10_queued 14 = .ok (.iconst 0, 1) := by decide +kernel
theorem dX10_queued_15 : decode cX10_queued 15 = .ok (.iconst 3, 1) := by decide +kernel
theorem dX10_queued_16 : decode cX10_queued 16 = .ok (.invokestatic 36, 3) := by decide +kernel
theorem dX10_queued_19 : decode cX10_queued 19 = .ok (.ifCond .ne 6, 3) := by decide +kernel
theorem dX10_queued_22 : decode cX10_queued 22 = .ok (.bipush (-2), 2) := by decide +kernel
theorem dX10_queued_24 : decode cX10_queued 24 = .ok (.ireturn, 1) := by decide +kernel
theorem dX10_queued_25 : decode cX10_queued 25 = .ok (.aload_n 0, 1) := by decide +kernel
theorem dX10_queued_26 : decode cX10_queued 26 = .ok (.iload_n 1, 1) := by decide +kernel
theorem dX10_queued_27 : decode cX10_queued 27 = .ok (.iload_n 2, 1) := by decide +kernel
theorem dX10_queued_28 : decode cX10_queued 28 = .ok (.invokevirtual 112, 3) := by decide +kernel
theorem dX10_queued_31 : decode cX10_queued 31 = .ok (.istore 4, 2) := by decide +kernel
theorem dX10_queued_33 : decode cX10_queued 33 = .ok (.iload 4, 2) := by decide +kernel
theorem dX10_queued_35 : decode cX10_queued 35 = .ok (.bipush (-4), 2) := by decide +kernel
theorem dX10_queued_37 : decode cX10_queued 37 = .ok (.if_icmp .ne 8, 3) := by decide +kernel
theorem dX10_queued_40 : decode cX10_queued 40 = .ok (.bipush (-4), 2) := by decide +kernel
theorem dX10_queued_42 : decode cX10_queued 42 = .ok (.goto 28, 3) := by decide +kernel
theorem dX10_queued_45 : decode cX10_queued 45 = .ok (.aload_n 0, 1) := by decide +kernel
theorem dX10_queued_46 : decode cX10_queued 46 = .ok (.getfield 7, 3) := by decide +kernel
theorem dX10_queued_49 : decode cX10_queued 49 = .ok (.aload_n 0, 1) := by decide +kernel
theorem dX10_queued_50 : decode cX10_queued 50 = .ok (.iload_n 1, 1) := by decide +kernel
theorem dX10_queued_51 : decode cX10_queued 51 = .ok (.iload 4, 2) := by decide +kernel
theorem dX10_queued_53 : decode cX10_queued 53 = .ok (.invokevirtual 80, 3) := by decide +kernel
theorem dX10_queued_56 : decode cX10_queued 56 = .ok (.iload_n 3, 1) := by decide +kernel
theorem dX10_queued_57 : decode cX10_queued 57 = .ok (.iconst 3, 1) := by decide +kernel
theorem dX10_queued_58 : decode cX10_queued 58 = .ok (.if_icmp .ne 7, 3) := by decide +kernel
theorem dX10_queued_61 : decode cX10_queued 61 = .ok (.iconst 0, 1) := by decide +kernel
theorem dX10_queued_62 : decode cX10_queued 62 = .ok (.goto 6, 3) := by decide +kernel
theorem dX10_queued_65 : decode cX10_queued 65 = .ok (.iload_n 3, 1) := by decide +kernel
theorem dX10_queued_66 : decode cX10_queued 66 = .ok (.iconst 1, 1) := by decide +kernel
theorem dX10_queued_67 : decode cX10_queued 67 = .ok (.iadd, 1) := by decide +kernel
theorem dX10_queued_68 : decode cX10_queued 68 = .ok (.iadd, 1) := by decide +kernel
theorem dX10_queued_69 : decode cX10_queued 69 = .ok (.iaload, 1) := by decide +kernel
theorem dX10_queued_70 : decode cX10_queued 70 = .ok (.ireturn, 1) := by decide +kernel
theorem dX10_loops_0 : decode cX10_loops 0 = .ok (.iconst 0, 1) := by decide +kernel
theorem dX10_loops_1 : decode cX10_loops 1 = .ok (.istore_n 1, 1) := by decide +kernel
theorem dX10_loops_2 : decode cX10_loops 2 = .ok (.iconst 0, 1) := by decide +kernel
theorem dX10_loops_3 : decode cX10_loops 3 = .ok (.istore_n 2, 1) := by decide +kernel
theorem dX10_loops_4 : decode cX10_loops 4 = .ok (.iload_n 2, 1) := by decide +kernel
theorem dX10_loops_5 : decode cX10_loops 5 = .ok (.bipush 8, 2) := by decide +kernel
theorem dX10_loops_7 : decode cX10_loops 7 = .ok (.if_icmp .ge 51, 3) := by decide +kernel
theorem dX10_loops_10 : decode cX10_loops 10 = .ok (.iload_n 1, 1) := by decide +kernel
theorem dX10_loops_11 : decode cX10_loops 11 = .ok (.aload_n 0, 1) := by decide +kernel
theorem dX10_loops_12 : decode cX10_loops 12 = .ok (.iload_n 2, 1) := by decide +kernel
theorem dX10_loops_13 : decode cX10_loops 13 = .ok (.invokevirtual 48, 3) := by decide +kernel
theorem dX10_loops_16 : decode cX10_loops 16 = .ok (.ifCond .eq 33, 3) := by decide +kernel
theorem dX10_loops_19 : decode cX10_loops 19 = .ok (.aload_n 0, 1) := by decide +kernel
theorem dX10_loops_20 : decode cX10_loops 20 = .ok (.iload_n 2, 1) := by decide +kernel
theorem dX10_loops_21 : decode cX10_loops 21 = .ok (.iconst 3, 1) := by decide +kernel
theorem dX10_loops_22 : decode cX10_loops 22 = .ok (.invokevirtual 44, 3) := by decide +kernel
theorem dX10_loops_25 : decode cX10_loops 25 = .ok (.ifCond .le 24, 3) := by decide +kernel
theorem dX10_loops_28 : decode cX10_loops 28 = .ok (.aload_n 0, 1) := by decide +kernel
theorem dX10_loops_29 : decode cX10_loops 29 = .ok (.aload_n 0, 1) := by decide +kernel
theorem dX10_loops_30 : decode cX10_loops 30 = .ok (.iload_n 2, 1) := by decide +kernel
theorem dX10_loops_31 : decode cX10_loops 31 = .ok (.iconst 3, 1) := by decide +kernel
theorem dX10_loops_32 : decode cX10_loops 32 = .ok (.invokevirtual 44, 3) := by decide +kernel
theorem dX10_loops_35 : decode cX10_loops 35 = .ok (.iconst 1, 1) := by decide +kernel
theorem dX10_loops_36 : decode cX10_loops 36 = .ok (.isub, 1) := by decide +kernel
theorem dX10_loops_37 : decode cX10_loops 37 = .ok (.invokevirtual 48, 3) := by decide +kernel
theorem dX10_loops_40 : decode cX10_loops 40 = .ok (.ifCond .eq 9, 3) := by decide +kernel
theorem dX10_loops_43 : decode cX10_loops 43 = .ok (.iconst 1, 1) := by decide +kernel
theorem dX10_loops_44 : decode cX10_loops 44 = .ok (.iload_n 2, 1) := by decide +kernel
theorem dX10_loops_45 : decode cX10_loops 45 = .ok (.ishl, 1) := by decide +kernel
theorem dX10_loops_46 : decode cX10_loops 46 = .ok (.goto 4, 3) := by decide +kernel
theorem dX10_loops_49 : decode cX10_loops 49 = .ok (.iconst 0, 1) := by decide +kernel
theorem dX10_loops_50 : decode cX10_loops 50 = .ok (.ior, 1) := by decide +kernel
theorem dX10_loops_51 : decode cX10_loops 51 = .ok (.istore_n 1, 1) := by decide +kernel
theorem dX10_loops_52 : decode cX10_loops 52 = .ok (.iinc 2 1, 3) := by decide +kernel
theorem dX10_loops_55 : decode cX10_loops 55 = .ok (.goto (-51), 3) := by decide +kernel
theorem dX10_loops_58 : decode cX10_loops 58 = .ok (.iload_n 1, 1) := by decide +kernel
theorem dX10_loops_59 : decode cX10_loops 59 = .ok (.ireturn, 1) := by decide +kernel
theorem dX10_inAll_0 : decode cX10_inAll 0 = .ok (.iconst 0, 1) := by decide +kernel
theorem dX10_inAll_1 : decode cX10_inAll 1 = .ok (.istore_n 2, 1) := by decide +kernel
theorem dX10_inAll_2 : decode cX10_inAll 2 = .ok (.iconst 0, 1) := by decide +kernel
theorem dX10_inAll_3 : decode cX10_inAll 3 = .ok (.istore_n 3, 1) := by decide +kernel
theorem dX10_inAll_4 : decode cX10_inAll 4 = .ok (.iload_n 3, 1) := by decide +kernel
theorem dX10_inAll_5 : decode cX10_inAll 5 = .ok (.bipush 8, 2) := by decide +kernel
theorem dX10_inAll_7 : decode cX10_inAll 7 = .ok (.if_icmp .ge 18, 3) := by decide +kernel
theorem dX10_inAll_10 : decode cX10_inAll 10 = .ok (.iload_n 2, 1) := by decide +kernel
theorem dX10_inAll_11 : decode cX10_inAll 11 = .ok (.aload_n 0, 1) := by decide +kernel
theorem dX10_inAll_12 : decode cX10_inAll 12 = .ok (.iload_n 3, 1) := by decide +kernel
theorem dX10_inAll_13 : decode cX10_inAll 13 = .ok (.iload_n 1, 1) := by decide +kernel
theorem dX10_inAll_14 : decode cX10_inAll 14 = .ok (.invokevirtual 44, 3) := by decide +kernel
theorem dX10_inAll_17 : decode cX10_inAll 17 = .ok (.iadd, 1) := by decide +kernel
theorem dX10_inAll_18 : decode cX10_inAll 18 = .ok (.istore_n 2, 1) := by decide +kernel
theorem dX10_inAll_19 : decode cX10_inAll 19 = .ok (.iinc 3 1, 3) := by decide +kernel
theorem dX10_inAll_22 : decode cX10_inAll 22 = .ok (.goto (-18), 3) := by decide +kernel
theorem dX10_inAll_25 : decode cX10_inAll 25 = .ok (.iload_n 2, 1) := by decide +kernel
theorem dX10_inAll_26 : decode cX10_inAll 26 = .ok (.ireturn, 1) := by decide +kernel
theorem dX10_held_0 : decode cX10_held 0 = .ok (.iconst 0, 1) := by decide +kernel
theorem dX10_held_1 : decode cX10_held 1 = .ok (.istore_n 1, 1) := by decide +kernel
theorem dX10_held_2 : decode cX10_held 2 = .ok (.iconst 0, 1) := by decide +kernel
theorem dX10_held_3 : decode cX10_held 3 = .ok (.istore_n 2, 1) := by decide +kernel
theorem dX10_held_4 : decode cX10_held 4 = .ok (.iload_n 2, 1) := by decide +kernel
theorem dX10_held_5 : decode cX10_held 5 = .ok (.bipush 8, 2) := by decide +kernel
theorem dX10_held_7 : decode cX10_held 7 = .ok (.if_icmp .ge 26, 3) := by decide +kernel
theorem dX10_held_10 : decode cX10_held 10 = .ok (.iload_n 1, 1) := by decide +kernel
theorem dX10_held_11 : decode cX10_held 11 = .ok (.aload_n 0, 1) := by decide +kernel
theorem dX10_held_12 : decode cX10_held 12 = .ok (.iload_n 2, 1) := by decide +kernel
theorem dX10_held_13 : decode cX10_held 13 = .ok (.iconst 1, 1) := by decide +kernel
theorem dX10_held_14 : decode cX10_held 14 = .ok (.invokevirtual 44, 3) := by decide +kernel
theorem dX10_held_17 : decode cX10_held 17 = .ok (.ifCond .le 7, 3) := by decide +kernel
theorem dX10_held_20 : decode cX10_held 20 = .ok (.iconst 1, 1) := by decide +kernel
theorem dX10_held_21 : decode cX10_held 21 = .ok (.goto 4, 3) := by decide +kernel
theorem dX10_held_24 : decode cX10_held 24 = .ok (.iconst 0, 1) := by decide +kernel
theorem dX10_held_25 : decode cX10_held 25 = .ok (.iadd, 1) := by decide +kernel
theorem dX10_held_26 : decode cX10_held 26 = .ok (.istore_n 1, 1) := by decide +kernel
theorem dX10_held_27 : decode cX10_held 27 = .ok (.iinc 2 1, 3) := by decide +kernel
theorem dX10_held_30 : decode cX10_held 30 = .ok (.goto (-26), 3) := by decide +kernel
theorem dX10_held_33 : decode cX10_held 33 = .ok (.iload_n 1, 1) := by decide +kernel
theorem dX10_held_34 : decode cX10_held 34 = .ok (.ireturn, 1) := by decide +kernel
theorem dX10_count_0 : decode cX10_count 0 = .ok (.iload_n 1, 1) := by decide +kernel
theorem dX10_count_1 : decode cX10_count 1 = .ok (.tableswitch 147 0 14 #[75, 75, 75, 75, 82, 89, 94, 99, 104, 109, 115, 122, 129, 137, 142], 75) := by decide +kernel
theorem dX10_count_76 : decode cX10_count 76 = .ok (.aload_n 0, 1) := by decide +kernel
theorem dX10_count_77 : decode cX10_count 77 = .ok (.getfield 7, 3) := by decide +kernel
theorem dX10_count_80 : decode cX10_count 80 = .ok (.iload_n 1, 1) := by decide +kernel
theorem dX10_count_81 : decode cX10_count 81 = .ok (.iaload, 1) := by decide +kernel
theorem dX10_count_82 : decode cX10_count 82 = .ok (.ireturn, 1) := by decide +kernel
theorem dX10_count_83 : decode cX10_count 83 = .ok (.aload_n 0, 1) := by decide +kernel
theorem dX10_count_84 : decode cX10_count 84 = .ok (.getfield 7, 3) := by decide +kernel
theorem dX10_count_87 : decode cX10_count 87 = .ok (.iconst 4, 1) := by decide +kernel
theorem dX10_count_88 : decode cX10_count 88 = .ok (.iaload, 1) := by decide +kernel
theorem dX10_count_89 : decode cX10_count 89 = .ok (.ireturn, 1) := by decide +kernel
theorem dX10_count_90 : decode cX10_count 90 = .ok (.aload_n 0, 1) := by decide +kernel
theorem dX10_count_91 : decode cX10_count 91 = .ok (.invokevirtual 96, 3) := by decide +kernel
theorem dX10_count_94 : decode cX10_count 94 = .ok (.ireturn, 1) := by decide +kernel
theorem dX10_count_95 : decode cX10_count 95 = .ok (.aload_n 0, 1) := by decide +kernel
theorem dX10_count_96 : decode cX10_count 96 = .ok (.invokevirtual 58, 3) := by decide +kernel
theorem dX10_count_99 : decode cX10_count 99 = .ok (.ireturn, 1) := by decide +kernel
theorem dX10_count_100 : decode cX10_count 100 = .ok (.aload_n 0, 1) := by decide +kernel
theorem dX10_count_101 : decode cX10_count 101 = .ok (.invokevirtual 154, 3) := by decide +kernel
theorem dX10_count_104 : decode cX10_count 104 = .ok (.ireturn, 1) := by decide +kernel
theorem dX10_count_105 : decode cX10_count 105 = .ok (.aload_n 0, 1) := by decide +kernel
theorem dX10_count_106 : decode cX10_count 106 = .ok (.invokevirtual 62, 3) := by decide +kernel
theorem dX10_count_109 : decode cX10_count 109 = .ok (.ireturn, 1) := by decide +kernel
theorem dX10_count_110 : decode cX10_count 110 = .ok (.aload_n 0, 1) := by decide +kernel
theorem dX10_count_111 : decode cX10_count 111 = .ok (.iconst 5, 1) := by decide +kernel
theorem dX10_count_112 : decode cX10_count 112 = .ok (.invokevirtual 157, 3) := by decide +kernel
theorem dX10_count_115 : decode cX10_count 115 = .ok (.ireturn, 1) := by decide +kernel
theorem dX10_count_116 : decode cX10_count 116 = .ok (.aload_n 0, 1) := by decide +kernel
theorem dX10_count_117 : decode cX10_count 117 = .ok (.bipush 6, 2) := by decide +kernel
theorem dX10_count_119 : decode cX10_count 119 = .ok (.invokevirtual 157, 3) := by decide +kernel
theorem dX10_count_122 : decode cX10_count 122 = .ok (.ireturn, 1) := by decide +kernel
theorem dX10_count_123 : decode cX10_count 123 = .ok (.aload_n 0, 1) := by decide +kernel
theorem dX10_count_124 : decode cX10_count 124 = .ok (.getfield 7, 3) := by decide +kernel
theorem dX10_count_127 : decode cX10_count 127 = .ok (.iconst 5, 1) := by decide +kernel
theorem dX10_count_128 : decode cX10_count 128 = .ok (.iaload, 1) := by decide +kernel
theorem dX10_count_129 : decode cX10_count 129 = .ok (.ireturn, 1) := by decide +kernel
theorem dX10_count_130 : decode cX10_count 130 = .ok (.aload_n 0, 1) := by decide +kernel
theorem dX10_count_131 : decode cX10_count 131 = .ok (.getfield 7, 3) := by decide +kernel
theorem dX10_count_134 : decode cX10_count 134 = .ok (.bipush 6, 2) := by decide +kernel
theorem dX10_count_136 : decode cX10_count 136 = .ok (.iaload, 1) := by decide +kernel
theorem dX10_count_137 : decode cX10_count 137 = .ok (.ireturn, 1) := by decide +kernel
theorem dX10_count_138 : decode cX10_count 138 = .ok (.aload_n 0, 1) := by decide +kernel
theorem dX10_count_139 : decode cX10_count 139 = .ok (.getfield 40, 3) := by decide +kernel
theorem dX10_count_142 : decode cX10_count 142 = .ok (.ireturn, 1) := by decide +kernel
theorem dX10_count_143 : decode cX10_count 143 = .ok (.aload_n 0, 1) := by decide +kernel
theorem dX10_count_144 : decode cX10_count 144 = .ok (.getfield 124, 3) := by decide +kernel
theorem dX10_count_147 : decode cX10_count 147 = .ok (.ireturn, 1) := by decide +kernel
theorem dX10_count_148 : decode cX10_count 148 = .ok (.bipush (-2), 2) := by decide +kernel
theorem dX10_count_150 : decode cX10_count 150 = .ok (.ireturn, 1) := by decide +kernel
theorem dJ6_bitCount_0f7a4_0 : decode cJ6_bitCount_0f7a4 0 = .ok (.iload_n 0, 1) := by decide +kernel
theorem dJ6_bitCount_0f7a4_1 : decode cJ6_bitCount_0f7a4 1 = .ok (.iload_n 0, 1) := by decide +kernel
theorem dJ6_bitCount_0f7a4_2 : decode cJ6_bitCount_0f7a4 2 = .ok (.iconst 1, 1) := by decide +kernel
theorem dJ6_bitCount_0f7a4_3 : decode cJ6_bitCount_0f7a4 3 = .ok (.iushr, 1) := by decide +kernel
theorem dJ6_bitCount_0f7a4_4 : decode cJ6_bitCount_0f7a4 4 = .ok (.ldc_w 265, 3) := by decide +kernel
theorem dJ6_bitCount_0f7a4_7 : decode cJ6_bitCount_0f7a4 7 = .ok (.iand, 1) := by decide +kernel
theorem dJ6_bitCount_0f7a4_8 : decode cJ6_bitCount_0f7a4 8 = .ok (.isub, 1) := by decide +kernel
theorem dJ6_bitCount_0f7a4_9 : decode cJ6_bitCount_0f7a4 9 = .ok (.istore_n 0, 1) := by decide +kernel
theorem dJ6_bitCount_0f7a4_10 : decode cJ6_bitCount_0f7a4 10 = .ok (.iload_n 0, 1) := by decide +kernel
theorem dJ6_bitCount_0f7a4_11 : decode cJ6_bitCount_0f7a4 11 = .ok (.ldc_w 266, 3) := by decide +kernel
theorem dJ6_bitCount_0f7a4_14 : decode cJ6_bitCount_0f7a4 14 = .ok (.iand, 1) := by decide +kernel
theorem dJ6_bitCount_0f7a4_15 : decode cJ6_bitCount_0f7a4 15 = .ok (.iload_n 0, 1) := by decide +kernel
theorem dJ6_bitCount_0f7a4_16 : decode cJ6_bitCount_0f7a4 16 = .ok (.iconst 2, 1) := by decide +kernel
theorem dJ6_bitCount_0f7a4_17 : decode cJ6_bitCount_0f7a4 17 = .ok (.iushr, 1) := by decide +kernel
theorem dJ6_bitCount_0f7a4_18 : decode cJ6_bitCount_0f7a4 18 = .ok (.ldc_w 266, 3) := by decide +kernel
theorem dJ6_bitCount_0f7a4_21 : decode cJ6_bitCount_0f7a4 21 = .ok (.iand, 1) := by decide +kernel
theorem dJ6_bitCount_0f7a4_22 : decode cJ6_bitCount_0f7a4 22 = .ok (.iadd, 1) := by decide +kernel
theorem dJ6_bitCount_0f7a4_23 : decode cJ6_bitCount_0f7a4 23 = .ok (.istore_n 0, 1) := by decide +kernel
theorem dJ6_bitCount_0f7a4_24 : decode cJ6_bitCount_0f7a4 24 = .ok (.iload_n 0, 1) := by decide +kernel
theorem dJ6_bitCount_0f7a4_25 : decode cJ6_bitCount_0f7a4 25 = .ok (.iload_n 0, 1) := by decide +kernel
theorem dJ6_bitCount_0f7a4_26 : decode cJ6_bitCount_0f7a4 26 = .ok (.iconst 4, 1) := by decide +kernel
theorem dJ6_bitCount_0f7a4_27 : decode cJ6_bitCount_0f7a4 27 = .ok (.iushr, 1) := by decide +kernel
theorem dJ6_bitCount_0f7a4_28 : decode cJ6_bitCount_0f7a4 28 = .ok (.iadd, 1) := by decide +kernel
theorem dJ6_bitCount_0f7a4_29 : decode cJ6_bitCount_0f7a4 29 = .ok (.ldc_w 267, 3) := by decide +kernel
theorem dJ6_bitCount_0f7a4_32 : decode cJ6_bitCount_0f7a4 32 = .ok (.iand, 1) := by decide +kernel
theorem dJ6_bitCount_0f7a4_33 : decode cJ6_bitCount_0f7a4 33 = .ok (.istore_n 0, 1) := by decide +kernel
theorem dJ6_bitCount_0f7a4_34 : decode cJ6_bitCount_0f7a4 34 = .ok (.iload_n 0, 1) := by decide +kernel
theorem dJ6_bitCount_0f7a4_35 : decode cJ6_bitCount_0f7a4 35 = .ok (.iload_n 0, 1) := by decide +kernel
theorem dJ6_bitCount_0f7a4_36 : decode cJ6_bitCount_0f7a4 36 = .ok (.bipush 8, 2) := by decide +kernel
theorem dJ6_bitCount_0f7a4_38 : decode cJ6_bitCount_0f7a4 38 = .ok (.iushr, 1) := by decide +kernel
theorem dJ6_bitCount_0f7a4_39 : decode cJ6_bitCount_0f7a4 39 = .ok (.iadd, 1) := by decide +kernel
theorem dJ6_bitCount_0f7a4_40 : decode cJ6_bitCount_0f7a4 40 = .ok (.istore_n 0, 1) := by decide +kernel
theorem dJ6_bitCount_0f7a4_41 : decode cJ6_bitCount_0f7a4 41 = .ok (.iload_n 0, 1) := by decide +kernel
theorem dJ6_bitCount_0f7a4_42 : decode cJ6_bitCount_0f7a4 42 = .ok (.iload_n 0, 1) := by decide +kernel
theorem dJ6_bitCount_0f7a4_43 : decode cJ6_bitCount_0f7a4 43 = .ok (.bipush 16, 2) := by decide +kernel
theorem dJ6_bitCount_0f7a4_45 : decode cJ6_bitCount_0f7a4 45 = .ok (.iushr, 1) := by decide +kernel
theorem dJ6_bitCount_0f7a4_46 : decode cJ6_bitCount_0f7a4 46 = .ok (.iadd, 1) := by decide +kernel
theorem dJ6_bitCount_0f7a4_47 : decode cJ6_bitCount_0f7a4 47 = .ok (.istore_n 0, 1) := by decide +kernel
theorem dJ6_bitCount_0f7a4_48 : decode cJ6_bitCount_0f7a4 48 = .ok (.iload_n 0, 1) := by decide +kernel
theorem dJ6_bitCount_0f7a4_49 : decode cJ6_bitCount_0f7a4 49 = .ok (.bipush 63, 2) := by decide +kernel
theorem dJ6_bitCount_0f7a4_51 : decode cJ6_bitCount_0f7a4 51 = .ok (.iand, 1) := by decide +kernel
theorem dJ6_bitCount_0f7a4_52 : decode cJ6_bitCount_0f7a4 52 = .ok (.ireturn, 1) := by decide +kernel
theorem dJ9_max_7cf53_0 : decode cJ9_max_7cf53 0 = .ok (.iload_n 0, 1) := by decide +kernel
theorem dJ9_max_7cf53_1 : decode cJ9_max_7cf53 1 = .ok (.iload_n 1, 1) := by decide +kernel
theorem dJ9_max_7cf53_2 : decode cJ9_max_7cf53 2 = .ok (.if_icmp .lt 7, 3) := by decide +kernel
theorem dJ9_max_7cf53_5 : decode cJ9_max_7cf53 5 = .ok (.iload_n 0, 1) := by decide +kernel
theorem dJ9_max_7cf53_6 : decode cJ9_max_7cf53 6 = .ok (.goto 4, 3) := by decide +kernel
theorem dJ9_max_7cf53_9 : decode cJ9_max_7cf53 9 = .ok (.iload_n 1, 1) := by decide +kernel
theorem dJ9_max_7cf53_10 : decode cJ9_max_7cf53 10 = .ok (.ireturn, 1) := by decide +kernel
theorem dJ9_min_7cf53_0 : decode cJ9_min_7cf53 0 = .ok (.iload_n 0, 1) := by decide +kernel
theorem dJ9_min_7cf53_1 : decode cJ9_min_7cf53 1 = .ok (.iload_n 1, 1) := by decide +kernel
theorem dJ9_min_7cf53_2 : decode cJ9_min_7cf53 2 = .ok (.if_icmp .gt 7, 3) := by decide +kernel
theorem dJ9_min_7cf53_5 : decode cJ9_min_7cf53 5 = .ok (.iload_n 0, 1) := by decide +kernel
theorem dJ9_min_7cf53_6 : decode cJ9_min_7cf53 6 = .ok (.goto 4, 3) := by decide +kernel
theorem dJ9_min_7cf53_9 : decode cJ9_min_7cf53 9 = .ok (.iload_n 1, 1) := by decide +kernel
theorem dJ9_min_7cf53_10 : decode cJ9_min_7cf53 10 = .ok (.ireturn, 1) := by decide +kernel
theorem dJ7_rangeCheck_23922_0 : decode cJ7_rangeCheck_23922 0 = .ok (.iload_n 1, 1) := by decide +kernel
theorem dJ7_rangeCheck_23922_1 : decode cJ7_rangeCheck_23922 1 = .ok (.iload_n 2, 1) := by decide +kernel
theorem dJ7_rangeCheck_23922_2 : decode cJ7_rangeCheck_23922 2 = .ok (.if_icmp .le 44, 3) := by decide +kernel
theorem dJ7_rangeCheck_23922_5 : decode cJ7_rangeCheck_23922 5 = .ok (.new 43, 3) := by decide +kernel
theorem dJ7_rangeCheck_23922_8 : decode cJ7_rangeCheck_23922 8 = .ok (.dup, 1) := by decide +kernel
theorem dJ7_rangeCheck_23922_9 : decode cJ7_rangeCheck_23922 9 = .ok (.new 45, 3) := by decide +kernel
theorem dJ7_rangeCheck_23922_12 : decode cJ7_rangeCheck_23922 12 = .ok (.dup, 1) := by decide +kernel
theorem dJ7_rangeCheck_23922_13 : decode cJ7_rangeCheck_23922 13 = .ok (.invokespecial 47, 3) := by decide +kernel
theorem dJ7_rangeCheck_23922_16 : decode cJ7_rangeCheck_23922 16 = .ok (.ldc 48, 2) := by decide +kernel
theorem dJ7_rangeCheck_23922_18 : decode cJ7_rangeCheck_23922 18 = .ok (.invokevirtual 50, 3) := by decide +kernel
theorem dJ7_rangeCheck_23922_21 : decode cJ7_rangeCheck_23922 21 = .ok (.iload_n 1, 1) := by decide +kernel
theorem dJ7_rangeCheck_23922_22 : decode cJ7_rangeCheck_23922 22 = .ok (.invokevirtual 54, 3) := by decide +kernel
theorem dJ7_rangeCheck_23922_25 : decode cJ7_rangeCheck_23922 25 = .ok (.ldc 57, 2) := by decide +kernel
theorem dJ7_rangeCheck_23922_27 : decode cJ7_rangeCheck_23922 27 = .ok (.invokevirtual 50, 3) := by decide +kernel
theorem dJ7_rangeCheck_23922_30 : decode cJ7_rangeCheck_23922 30 = .ok (.iload_n 2, 1) := by decide +kernel
theorem dJ7_rangeCheck_23922_31 : decode cJ7_rangeCheck_23922 31 = .ok (.invokevirtual 54, 3) := by decide +kernel
theorem dJ7_rangeCheck_23922_34 : decode cJ7_rangeCheck_23922 34 = .ok (.ldc 59, 2) := by decide +kernel
theorem dJ7_rangeCheck_23922_36 : decode cJ7_rangeCheck_23922 36 = .ok (.invokevirtual 50, 3) := by decide +kernel
theorem dJ7_rangeCheck_23922_39 : decode cJ7_rangeCheck_23922 39 = .ok (.invokevirtual 61, 3) := by decide +kernel
theorem dJ7_rangeCheck_23922_42 : decode cJ7_rangeCheck_23922 42 = .ok (.invokespecial 65, 3) := by decide +kernel
theorem dJ7_rangeCheck_23922_45 : decode cJ7_rangeCheck_23922 45 = .ok (.athrow, 1) := by decide +kernel
theorem dJ7_rangeCheck_23922_46 : decode cJ7_rangeCheck_23922 46 = .ok (.iload_n 1, 1) := by decide +kernel
theorem dJ7_rangeCheck_23922_47 : decode cJ7_rangeCheck_23922 47 = .ok (.ifCond .ge 12, 3) := by decide +kernel
theorem dJ7_rangeCheck_23922_50 : decode cJ7_rangeCheck_23922 50 = .ok (.new 68, 3) := by decide +kernel
theorem dJ7_rangeCheck_23922_53 : decode cJ7_rangeCheck_23922 53 = .ok (.dup, 1) := by decide +kernel
theorem dJ7_rangeCheck_23922_54 : decode cJ7_rangeCheck_23922 54 = .ok (.iload_n 1, 1) := by decide +kernel
theorem dJ7_rangeCheck_23922_55 : decode cJ7_rangeCheck_23922 55 = .ok (.invokespecial 70, 3) := by decide +kernel
theorem dJ7_rangeCheck_23922_58 : decode cJ7_rangeCheck_23922 58 = .ok (.athrow, 1) := by decide +kernel
theorem dJ7_rangeCheck_23922_59 : decode cJ7_rangeCheck_23922 59 = .ok (.iload_n 2, 1) := by decide +kernel
theorem dJ7_rangeCheck_23922_60 : decode cJ7_rangeCheck_23922 60 = .ok (.iload_n 0, 1) := by decide +kernel
theorem dJ7_rangeCheck_23922_61 : decode cJ7_rangeCheck_23922 61 = .ok (.if_icmp .le 12, 3) := by decide +kernel
theorem dJ7_rangeCheck_23922_64 : decode cJ7_rangeCheck_23922 64 = .ok (.new 68, 3) := by decide +kernel
theorem dJ7_rangeCheck_23922_67 : decode cJ7_rangeCheck_23922 67 = .ok (.dup, 1) := by decide +kernel
theorem dJ7_rangeCheck_23922_68 : decode cJ7_rangeCheck_23922 68 = .ok (.iload_n 2, 1) := by decide +kernel
theorem dJ7_rangeCheck_23922_69 : decode cJ7_rangeCheck_23922 69 = .ok (.invokespecial 70, 3) := by decide +kernel
theorem dJ7_rangeCheck_23922_72 : decode cJ7_rangeCheck_23922 72 = .ok (.athrow, 1) := by decide +kernel
theorem dJ7_rangeCheck_23922_73 : decode cJ7_rangeCheck_23922 73 = .ok (.return_, 1) := by decide +kernel
theorem dJ7_fill_fda19_0 : decode cJ7_fill_fda19 0 = .ok (.aload_n 0, 1) := by decide +kernel
theorem dJ7_fill_fda19_1 : decode cJ7_fill_fda19 1 = .ok (.arraylength, 1) := by decide +kernel
theorem dJ7_fill_fda19_2 : decode cJ7_fill_fda19 2 = .ok (.iload_n 1, 1) := by decide +kernel
theorem dJ7_fill_fda19_3 : decode cJ7_fill_fda19 3 = .ok (.iload_n 2, 1) := by decide +kernel
theorem dJ7_fill_fda19_4 : decode cJ7_fill_fda19 4 = .ok (.invokestatic 13, 3) := by decide +kernel
theorem dJ7_fill_fda19_7 : decode cJ7_fill_fda19 7 = .ok (.iload_n 1, 1) := by decide +kernel
theorem dJ7_fill_fda19_8 : decode cJ7_fill_fda19 8 = .ok (.istore 4, 2) := by decide +kernel
theorem dJ7_fill_fda19_10 : decode cJ7_fill_fda19 10 = .ok (.iload 4, 2) := by decide +kernel
theorem dJ7_fill_fda19_12 : decode cJ7_fill_fda19 12 = .ok (.iload_n 2, 1) := by decide +kernel
theorem dJ7_fill_fda19_13 : decode cJ7_fill_fda19 13 = .ok (.if_icmp .ge 14, 3) := by decide +kernel
theorem dJ7_fill_fda19_16 : decode cJ7_fill_fda19 16 = .ok (.aload_n 0, 1) := by decide +kernel
theorem dJ7_fill_fda19_17 : decode cJ7_fill_fda19 17 = .ok (.iload 4, 2) := by decide +kernel
theorem dJ7_fill_fda19_19 : decode cJ7_fill_fda19 19 = .ok (.iload_n 3, 1) := by decide +kernel
theorem dJ7_fill_fda19_20 : decode cJ7_fill_fda19 20 = .ok (.iastore, 1) := by decide +kernel
theorem dJ7_fill_fda19_21 : decode cJ7_fill_fda19 21 = .ok (.iinc 4 1, 3) := by decide +kernel
theorem dJ7_fill_fda19_24 : decode cJ7_fill_fda19 24 = .ok (.goto (-14), 3) := by decide +kernel
theorem dJ7_fill_fda19_27 : decode cJ7_fill_fda19 27 = .ok (.return_, 1) := by decide +kernel
theorem dL_law_0 : decode cL_law 0 = .ok (.new 7, 3) := by decide +kernel
theorem dL_law_3 : decode cL_law 3 = .ok (.dup, 1) := by decide +kernel
theorem dL_law_4 : decode cL_law 4 = .ok (.invokespecial 9, 3) := by decide +kernel
theorem dL_law_7 : decode cL_law 7 = .ok (.astore_n 1, 1) := by decide +kernel
theorem dL_law_8 : decode cL_law 8 = .ok (.new 10, 3) := by decide +kernel
theorem dL_law_11 : decode cL_law 11 = .ok (.dup, 1) := by decide +kernel
theorem dL_law_12 : decode cL_law 12 = .ok (.invokespecial 12, 3) := by decide +kernel
theorem dL_law_15 : decode cL_law 15 = .ok (.astore_n 2, 1) := by decide +kernel
theorem dL_law_16 : decode cL_law 16 = .ok (.iconst 0, 1) := by decide +kernel
theorem dL_law_17 : decode cL_law 17 = .ok (.istore_n 3, 1) := by decide +kernel
theorem dL_law_18 : decode cL_law 18 = .ok (.iload_n 3, 1) := by decide +kernel
theorem dL_law_19 : decode cL_law 19 = .ok (.aload_n 0, 1) := by decide +kernel
theorem dL_law_20 : decode cL_law 20 = .ok (.arraylength, 1) := by decide +kernel
theorem dL_law_21 : decode cL_law 21 = .ok (.iconst 5, 1) := by decide +kernel
theorem dL_law_22 : decode cL_law 22 = .ok (.isub, 1) := by decide +kernel
theorem dL_law_23 : decode cL_law 23 = .ok (.if_icmp .gt 713, 3) := by decide +kernel
theorem dL_law_26 : decode cL_law 26 = .ok (.aload_n 0, 1) := by decide +kernel
theorem dL_law_27 : decode cL_law 27 = .ok (.iload_n 3, 1) := by decide +kernel
theorem dL_law_28 : decode cL_law 28 = .ok (.iaload, 1) := by decide +kernel
theorem dL_law_29 : decode cL_law 29 = .ok (.bipush 31, 2) := by decide +kernel
theorem dL_law_31 : decode cL_law 31 = .ok (.iand, 1) := by decide +kernel
theorem dL_law_32 : decode cL_law 32 = .ok (.tableswitch 698 0 21 #[104, 153, 186, 209, 232, 265, 318, 341, 364, 389, 402, 415, 428, 441, 454, 487, 520, 553, 576, 619, 662, 675], 104) := by decide +kernel
theorem dL_law_136 : decode cL_law 136 = .ok (.aload_n 1, 1) := by decide +kernel
theorem dL_law_137 : decode cL_law 137 = .ok (.aload_n 0, 1) := by decide +kernel
theorem dL_law_138 : decode cL_law 138 = .ok (.iload_n 3, 1) := by decide +kernel
theorem dL_law_139 : decode cL_law 139 = .ok (.iconst 1, 1) := by decide +kernel
theorem dL_law_140 : decode cL_law 140 = .ok (.iadd, 1) := by decide +kernel
theorem dL_law_141 : decode cL_law 141 = .ok (.iaload, 1) := by decide +kernel
theorem dL_law_142 : decode cL_law 142 = .ok (.aload_n 0, 1) := by decide +kernel
theorem dL_law_143 : decode cL_law 143 = .ok (.iload_n 3, 1) := by decide +kernel
theorem dL_law_144 : decode cL_law 144 = .ok (.iconst 2, 1) := by decide +kernel
theorem dL_law_145 : decode cL_law 145 = .ok (.iadd, 1) := by decide +kernel
theorem dL_law_146 : decode cL_law 146 = .ok (.iaload, 1) := by decide +kernel
theorem dL_law_147 : decode cL_law 147 = .ok (.ifCond .eq 7, 3) := by decide +kernel
theorem dL_law_150 : decode cL_law 150 = .ok (.iconst 1, 1) := by decide +kernel
theorem dL_law_151 : decode cL_law 151 = .ok (.goto 4, 3) := by decide +kernel
theorem dL_law_154 : decode cL_law 154 = .ok (.iconst 0, 1) := by decide +kernel
theorem dL_law_155 : decode cL_law 155 = .ok (.invokevirtual 13, 3) := by decide +kernel
theorem dL_law_158 : decode cL_law 158 = .ok (.aload_n 2, 1) := by decide +kernel
theorem dL_law_159 : decode cL_law 159 = .ok (.aload_n 0, 1) := by decide +kernel
theorem dL_law_160 : decode cL_law 160 = .ok (.iload_n 3, 1) := by decide +kernel
theorem dL_law_161 : decode cL_law 161 = .ok (.iconst 1, 1) := by decide +kernel
theorem dL_law_162 : decode cL_law 162 = .ok (.iadd, 1) := by decide +kernel
theorem dL_law_163 : decode cL_law 163 = .ok (.iaload, 1) := by decide +kernel
theorem dL_law_164 : decode cL_law 164 = .ok (.aload_n 0, 1) := by decide +kernel
theorem dL_law_165 : decode cL_law 165 = .ok (.iload_n 3, 1) := by decide +kernel
theorem dL_law_166 : decode cL_law 166 = .ok (.iconst 2, 1) := by decide +kernel
theorem dL_law_167 : decode cL_law 167 = .ok (.iadd, 1) := by decide +kernel
theorem dL_law_168 : decode cL_law 168 = .ok (.iaload, 1) := by decide +kernel
theorem dL_law_169 : decode cL_law 169 = .ok (.ifCond .eq 7, 3) := by decide +kernel
theorem dL_law_172 : decode cL_law 172 = .ok (.iconst 1, 1) := by decide +kernel
theorem dL_law_173 : decode cL_law 173 = .ok (.goto 4, 3) := by decide +kernel
theorem dL_law_176 : decode cL_law 176 = .ok (.iconst 0, 1) := by decide +kernel
theorem dL_law_177 : decode cL_law 177 = .ok (.invokevirtual 17, 3) := by decide +kernel
theorem dL_law_180 : decode cL_law 180 = .ok (.if_icmp .eq 550, 3) := by decide +kernel
theorem dL_law_183 : decode cL_law 183 = .ok (.iconst 0, 1) := by decide +kernel
theorem dL_law_184 : decode cL_law 184 = .ok (.ireturn, 1) := by decide +kernel
theorem dL_law_185 : decode cL_law 185 = .ok (.aload_n 1, 1) := by decide +kernel
theorem dL_law_186 : decode cL_law 186 = .ok (.aload_n 0, 1) := by decide +kernel
theorem dL_law_187 : decode cL_law 187 = .ok (.iload_n 3, 1) := by decide +kernel
theorem dL_law_188 : decode cL_law 188 = .ok (.iconst 1, 1) := by decide +kernel
theorem dL_law_189 : decode cL_law 189 = .ok (.iadd, 1) := by decide +kernel
theorem dL_law_190 : decode cL_law 190 = .ok (.iaload, 1) := by decide +kernel
theorem dL_law_191 : decode cL_law 191 = .ok (.aload_n 0, 1) := by decide +kernel
theorem dL_law_192 : decode cL_law 192 = .ok (.iload_n 3, 1) := by decide +kernel
theorem dL_law_193 : decode cL_law 193 = .ok (.iconst 2, 1) := by decide +kernel
theorem dL_law_194 : decode cL_law 194 = .ok (.iadd, 1) := by decide +kernel
theorem dL_law_195 : decode cL_law 195 = .ok (.iaload, 1) := by decide +kernel
theorem dL_law_196 : decode cL_law 196 = .ok (.invokevirtual 18, 3) := by decide +kernel
theorem dL_law_199 : decode cL_law 199 = .ok (.aload_n 2, 1) := by decide +kernel
theorem dL_law_200 : decode cL_law 200 = .ok (.aload_n 0, 1) := by decide +kernel
theorem dL_law_201 : decode cL_law 201 = .ok (.iload_n 3, 1) := by decide +kernel
theorem dL_law_202 : decode cL_law 202 = .ok (.iconst 1, 1) := by decide +kernel
theorem dL_law_203 : decode cL_law 203 = .ok (.iadd, 1) := by decide +kernel
theorem dL_law_204 : decode cL_law 204 = .ok (.iaload, 1) := by decide +kernel
theorem dL_law_205 : decode cL_law 205 = .ok (.aload_n 0, 1) := by decide +kernel
theorem dL_law_206 : decode cL_law 206 = .ok (.iload_n 3, 1) := by decide +kernel
theorem dL_law_207 : decode cL_law 207 = .ok (.iconst 2, 1) := by decide +kernel
theorem dL_law_208 : decode cL_law 208 = .ok (.iadd, 1) := by decide +kernel
theorem dL_law_209 : decode cL_law 209 = .ok (.iaload, 1) := by decide +kernel
theorem dL_law_210 : decode cL_law 210 = .ok (.invokevirtual 22, 3) := by decide +kernel
theorem dL_law_213 : decode cL_law 213 = .ok (.if_icmp .eq 517, 3) := by decide +kernel
theorem dL_law_216 : decode cL_law 216 = .ok (.iconst 0, 1) := by decide +kernel
theorem dL_law_217 : decode cL_law 217 = .ok (.ireturn, 1) := by decide +kernel
theorem dL_law_218 : decode cL_law 218 = .ok (.aload_n 1, 1) := by decide +kernel
theorem dL_law_219 : decode cL_law 219 = .ok (.aload_n 0, 1) := by decide +kernel
theorem dL_law_220 : decode cL_law 220 = .ok (.iload_n 3, 1) := by decide +kernel
theorem dL_law_221 : decode cL_law 221 = .ok (.iconst 1, 1) := by decide +kernel
theorem dL_law_222 : decode cL_law 222 = .ok (.iadd, 1) := by decide +kernel
theorem dL_law_223 : decode cL_law 223 = .ok (.iaload, 1) := by decide +kernel
theorem dL_law_224 : decode cL_law 224 = .ok (.invokevirtual 23, 3) := by decide +kernel
theorem dL_law_227 : decode cL_law 227 = .ok (.aload_n 2, 1) := by decide +kernel
theorem dL_law_228 : decode cL_law 228 = .ok (.aload_n 0, 1) := by decide +kernel
theorem dL_law_229 : decode cL_law 229 = .ok (.iload_n 3, 1) := by decide +kernel
theorem dL_law_230 : decode cL_law 230 = .ok (.iconst 1, 1) := by decide +kernel
theorem dL_law_231 : decode cL_law 231 = .ok (.iadd, 1) := by decide +kernel
theorem dL_law_232 : decode cL_law 232 = .ok (.iaload, 1) := by decide +kernel
theorem dL_law_233 : decode cL_law 233 = .ok (.invokevirtual 27, 3) := by decide +kernel
theorem dL_law_236 : decode cL_law 236 = .ok (.if_icmp .eq 494, 3) := by decide +kernel
theorem dL_law_239 : decode cL_law 239 = .ok (.iconst 0, 1) := by decide +kernel
theorem dL_law_240 : decode cL_law 240 = .ok (.ireturn, 1) := by decide +kernel
theorem dL_law_241 : decode cL_law 241 = .ok (.aload_n 1, 1) := by decide +kernel
theorem dL_law_242 : decode cL_law 242 = .ok (.aload_n 0, 1) := by decide +kernel
theorem dL_law_243 : decode cL_law 243 = .ok (.iload_n 3, 1) := by decide +kernel
theorem dL_law_244 : decode cL_law 244 = .ok (.iconst 1, 1) := by decide +kernel
theorem dL_law_245 : decode cL_law 245 = .ok (.iadd, 1) := by decide +kernel
theorem dL_law_246 : decode cL_law 246 = .ok (.iaload, 1) := by decide +kernel
theorem dL_law_247 : decode cL_law 247 = .ok (.invokevirtual 28, 3) := by decide +kernel
theorem dL_law_250 : decode cL_law 250 = .ok (.aload_n 2, 1) := by decide +kernel
theorem dL_law_251 : decode cL_law 251 = .ok (.aload_n 0, 1) := by decide +kernel
theorem dL_law_252 : decode cL_law 252 = .ok (.iload_n 3, 1) := by decide +kernel
theorem dL_law_253 : decode cL_law 253 = .ok (.iconst 1, 1) := by decide +kernel
theorem dL_law_254 : decode cL_law 254 = .ok (.iadd, 1) := by decide +kernel
theorem dL_law_255 : decode cL_law 255 = .ok (.iaload, 1) := by decide +kernel
theorem dL_law_256 : decode cL_law 256 = .ok (.invokevirtual 31, 3) := by decide +kernel
theorem dL_law_259 : decode cL_law 259 = .ok (.if_icmp .eq 471, 3) := by decide +kernel
theorem dL_law_262 : decode cL_law 262 = .ok (.iconst 0, 1) := by decide +kernel
theorem dL_law_263 : decode cL_law 263 = .ok (.ireturn, 1) := by decide +kernel
theorem dL_law_264 : decode cL_law 264 = .ok (.aload_n 1, 1) := by decide +kernel
theorem dL_law_265 : decode cL_law 265 = .ok (.aload_n 0, 1) := by decide +kernel
theorem dL_law_266 : decode cL_law 266 = .ok (.iload_n 3, 1) := by decide +kernel
theorem dL_law_267 : decode cL_law 267 = .ok (.iconst 1, 1) := by decide +kernel
theorem dL_law_268 : decode cL_law 268 = .ok (.iadd, 1) := by decide +kernel
theorem dL_law_269 : decode cL_law 269 = .ok (.iaload, 1) := by decide +kernel
theorem dL_law_270 : decode cL_law 270 = .ok (.aload_n 0, 1) := by decide +kernel
theorem dL_law_271 : decode cL_law 271 = .ok (.iload_n 3, 1) := by decide +kernel
theorem dL_law_272 : decode cL_law 272 = .ok (.iconst 2, 1) := by decide +kernel
theorem dL_law_273 : decode cL_law 273 = .ok (.iadd, 1) := by decide +kernel
theorem dL_law_274 : decode cL_law 274 = .ok (.iaload, 1) := by decide +kernel
theorem dL_law_275 : decode cL_law 275 = .ok (.invokevirtual 32, 3) := by decide +kernel
theorem dL_law_278 : decode cL_law 278 = .ok (.aload_n 2, 1) := by decide +kernel
theorem dL_law_279 : decode cL_law 279 = .ok (.aload_n 0, 1) := by decide +kernel
theorem dL_law_280 : decode cL_law 280 = .ok (.iload_n 3, 1) := by decide +kernel
theorem dL_law_281 : decode cL_law 281 = .ok (.iconst 1, 1) := by decide +kernel
theorem dL_law_282 : decode cL_law 282 = .ok (.iadd, 1) := by decide +kernel
theorem dL_law_283 : decode cL_law 283 = .ok (.iaload, 1) := by decide +kernel
theorem dL_law_284 : decode cL_law 284 = .ok (.aload_n 0, 1) := by decide +kernel
theorem dL_law_285 : decode cL_law 285 = .ok (.iload_n 3, 1) := by decide +kernel
theorem dL_law_286 : decode cL_law 286 = .ok (.iconst 2, 1) := by decide +kernel
theorem dL_law_287 : decode cL_law 287 = .ok (.iadd, 1) := by decide +kernel
theorem dL_law_288 : decode cL_law 288 = .ok (.iaload, 1) := by decide +kernel
theorem dL_law_289 : decode cL_law 289 = .ok (.invokevirtual 35, 3) := by decide +kernel
theorem dL_law_292 : decode cL_law 292 = .ok (.if_icmp .eq 438, 3) := by decide +kernel
theorem dL_law_295 : decode cL_law 295 = .ok (.iconst 0, 1) := by decide +kernel
theorem dL_law_296 : decode cL_law 296 = .ok (.ireturn, 1) := by decide +kernel
theorem dL_law_297 : decode cL_law 297 = .ok (.aload_n 1, 1) := by decide +kernel
theorem dL_law_298 : decode cL_law 298 = .ok (.aload_n 0, 1) := by decide +kernel
theorem dL_law_299 : decode cL_law 299 = .ok (.iload_n 3, 1) := by decide +kernel
theorem dL_law_300 : decode cL_law 300 = .ok (.iconst 1, 1) := by decide +kernel
theorem dL_law_301 : decode cL_law 301 = .ok (.iadd, 1) := by decide +kernel
theorem dL_law_302 : decode cL_law 302 = .ok (.iaload, 1) := by decide +kernel
theorem dL_law_303 : decode cL_law 303 = .ok (.aload_n 0, 1) := by decide +kernel
theorem dL_law_304 : decode cL_law 304 = .ok (.iload_n 3, 1) := by decide +kernel
theorem dL_law_305 : decode cL_law 305 = .ok (.iconst 2, 1) := by decide +kernel
theorem dL_law_306 : decode cL_law 306 = .ok (.iadd, 1) := by decide +kernel
theorem dL_law_307 : decode cL_law 307 = .ok (.iaload, 1) := by decide +kernel
theorem dL_law_308 : decode cL_law 308 = .ok (.aload_n 0, 1) := by decide +kernel
theorem dL_law_309 : decode cL_law 309 = .ok (.iload_n 3, 1) := by decide +kernel
theorem dL_law_310 : decode cL_law 310 = .ok (.iconst 3, 1) := by decide +kernel
theorem dL_law_311 : decode cL_law 311 = .ok (.iadd, 1) := by decide +kernel
theorem dL_law_312 : decode cL_law 312 = .ok (.iaload, 1) := by decide +kernel
theorem dL_law_313 : decode cL_law 313 = .ok (.aload_n 0, 1) := by decide +kernel
theorem dL_law_314 : decode cL_law 314 = .ok (.iload_n 3, 1) := by decide +kernel
theorem dL_law_315 : decode cL_law 315 = .ok (.iconst 4, 1) := by decide +kernel
theorem dL_law_316 : decode cL_law 316 = .ok (.iadd, 1) := by decide +kernel
theorem dL_law_317 : decode cL_law 317 = .ok (.iaload, 1) := by decide +kernel
theorem dL_law_318 : decode cL_law 318 = .ok (.invokevirtual 36, 3) := by decide +kernel
theorem dL_law_321 : decode cL_law 321 = .ok (.aload_n 2, 1) := by decide +kernel
theorem dL_law_322 : decode cL_law 322 = .ok (.aload_n 0, 1) := by decide +kernel
theorem dL_law_323 : decode cL_law 323 = .ok (.iload_n 3, 1) := by decide +kernel
theorem dL_law_324 : decode cL_law 324 = .ok (.iconst 1, 1) := by decide +kernel
theorem dL_law_325 : decode cL_law 325 = .ok (.iadd, 1) := by decide +kernel
theorem dL_law_326 : decode cL_law 326 = .ok (.iaload, 1) := by decide +kernel
theorem dL_law_327 : decode cL_law 327 = .ok (.aload_n 0, 1) := by decide +kernel
theorem dL_law_328 : decode cL_law 328 = .ok (.iload_n 3, 1) := by decide +kernel
theorem dL_law_329 : decode cL_law 329 = .ok (.iconst 2, 1) := by decide +kernel
theorem dL_law_330 : decode cL_law 330 = .ok (.iadd, 1) := by decide +kernel
theorem dL_law_331 : decode cL_law 331 = .ok (.iaload, 1) := by decide +kernel
theorem dL_law_332 : decode cL_law 332 = .ok (.aload_n 0, 1) := by decide +kernel
theorem dL_law_333 : decode cL_law 333 = .ok (.iload_n 3, 1) := by decide +kernel
theorem dL_law_334 : decode cL_law 334 = .ok (.iconst 3, 1) := by decide +kernel
theorem dL_law_335 : decode cL_law 335 = .ok (.iadd, 1) := by decide +kernel
theorem dL_law_336 : decode cL_law 336 = .ok (.iaload, 1) := by decide +kernel
theorem dL_law_337 : decode cL_law 337 = .ok (.aload_n 0, 1) := by decide +kernel
theorem dL_law_338 : decode cL_law 338 = .ok (.iload_n 3, 1) := by decide +kernel
theorem dL_law_339 : decode cL_law 339 = .ok (.iconst 4, 1) := by decide +kernel
theorem dL_law_340 : decode cL_law 340 = .ok (.iadd, 1) := by decide +kernel
theorem dL_law_341 : decode cL_law 341 = .ok (.iaload, 1) := by decide +kernel
theorem dL_law_342 : decode cL_law 342 = .ok (.invokevirtual 40, 3) := by decide +kernel
theorem dL_law_345 : decode cL_law 345 = .ok (.if_icmp .eq 385, 3) := by decide +kernel
theorem dL_law_348 : decode cL_law 348 = .ok (.iconst 0, 1) := by decide +kernel
theorem dL_law_349 : decode cL_law 349 = .ok (.ireturn, 1) := by decide +kernel
theorem dL_law_350 : decode cL_law 350 = .ok (.aload_n 1, 1) := by decide +kernel
theorem dL_law_351 : decode cL_law 351 = .ok (.aload_n 0, 1) := by decide +kernel
theorem dL_law_352 : decode cL_law 352 = .ok (.iload_n 3, 1) := by decide +kernel
theorem dL_law_353 : decode cL_law 353 = .ok (.iconst 1, 1) := by decide +kernel
theorem dL_law_354 : decode cL_law 354 = .ok (.iadd, 1) := by decide +kernel
theorem dL_law_355 : decode cL_law 355 = .ok (.iaload, 1) := by decide +kernel
theorem dL_law_356 : decode cL_law 356 = .ok (.invokevirtual 41, 3) := by decide +kernel
theorem dL_law_359 : decode cL_law 359 = .ok (.aload_n 2, 1) := by decide +kernel
theorem dL_law_360 : decode cL_law 360 = .ok (.aload_n 0, 1) := by decide +kernel
theorem dL_law_361 : decode cL_law 361 = .ok (.iload_n 3, 1) := by decide +kernel
theorem dL_law_362 : decode cL_law 362 = .ok (.iconst 1, 1) := by decide +kernel
theorem dL_law_363 : decode cL_law 363 = .ok (.iadd, 1) := by decide +kernel
theorem dL_law_364 : decode cL_law 364 = .ok (.iaload, 1) := by decide +kernel
theorem dL_law_365 : decode cL_law 365 = .ok (.invokevirtual 44, 3) := by decide +kernel
theorem dL_law_368 : decode cL_law 368 = .ok (.if_icmp .eq 362, 3) := by decide +kernel
theorem dL_law_371 : decode cL_law 371 = .ok (.iconst 0, 1) := by decide +kernel
theorem dL_law_372 : decode cL_law 372 = .ok (.ireturn, 1) := by decide +kernel
theorem dL_law_373 : decode cL_law 373 = .ok (.aload_n 1, 1) := by decide +kernel
theorem dL_law_374 : decode cL_law 374 = .ok (.aload_n 0, 1) := by decide +kernel
theorem dL_law_375 : decode cL_law 375 = .ok (.iload_n 3, 1) := by decide +kernel
theorem dL_law_376 : decode cL_law 376 = .ok (.iconst 1, 1) := by decide +kernel
theorem dL_law_377 : decode cL_law 377 = .ok (.iadd, 1) := by decide +kernel
theorem dL_law_378 : decode cL_law 378 = .ok (.iaload, 1) := by decide +kernel
theorem dL_law_379 : decode cL_law 379 = .ok (.invokevirtual 45, 3) := by decide +kernel
theorem dL_law_382 : decode cL_law 382 = .ok (.aload_n 2, 1) := by decide +kernel
theorem dL_law_383 : decode cL_law 383 = .ok (.aload_n 0, 1) := by decide +kernel
theorem dL_law_384 : decode cL_law 384 = .ok (.iload_n 3, 1) := by decide +kernel
theorem dL_law_385 : decode cL_law 385 = .ok (.iconst 1, 1) := by decide +kernel
theorem dL_law_386 : decode cL_law 386 = .ok (.iadd, 1) := by decide +kernel
theorem dL_law_387 : decode cL_law 387 = .ok (.iaload, 1) := by decide +kernel
theorem dL_law_388 : decode cL_law 388 = .ok (.invokevirtual 48, 3) := by decide +kernel
theorem dL_law_391 : decode cL_law 391 = .ok (.if_icmp .eq 339, 3) := by decide +kernel
theorem dL_law_394 : decode cL_law 394 = .ok (.iconst 0, 1) := by decide +kernel
theorem dL_law_395 : decode cL_law 395 = .ok (.ireturn, 1) := by decide +kernel
theorem dL_law_396 : decode cL_law 396 = .ok (.aload_n 1, 1) := by decide +kernel
theorem dL_law_397 : decode cL_law 397 = .ok (.aload_n 0, 1) := by decide +kernel
theorem dL_law_398 : decode cL_law 398 = .ok (.iload_n 3, 1) := by decide +kernel
theorem dL_law_399 : decode cL_law 399 = .ok (.iconst 1, 1) := by decide +kernel
theorem dL_law_400 : decode cL_law 400 = .ok (.iadd, 1) := by decide +kernel
theorem dL_law_401 : decode cL_law 401 = .ok (.iaload, 1) := by decide +kernel
theorem dL_law_402 : decode cL_law 402 = .ok (.i2c, 1) := by decide +kernel
theorem dL_law_403 : decode cL_law 403 = .ok (.invokevirtual 49, 3) := by decide +kernel
theorem dL_law_406 : decode cL_law 406 = .ok (.aload_n 2, 1) := by decide +kernel
theorem dL_law_407 : decode cL_law 407 = .ok (.aload_n 0, 1) := by decide +kernel
theorem dL_law_408 : decode cL_law 408 = .ok (.iload_n 3, 1) := by decide +kernel
theorem dL_law_409 : decode cL_law 409 = .ok (.iconst 1, 1) := by decide +kernel
theorem dL_law_410 : decode cL_law 410 = .ok (.iadd, 1) := by decide +kernel
theorem dL_law_411 : decode cL_law 411 = .ok (.iaload, 1) := by decide +kernel
theorem dL_law_412 : decode cL_law 412 = .ok (.i2c, 1) := by decide +kernel
theorem dL_law_413 : decode cL_law 413 = .ok (.invokevirtual 53, 3) := by decide +kernel
theorem dL_law_416 : decode cL_law 416 = .ok (.if_icmp .eq 314, 3) := by decide +kernel
theorem dL_law_419 : decode cL_law 419 = .ok (.iconst 0, 1) := by decide +kernel
theorem dL_law_420 : decode cL_law 420 = .ok (.ireturn, 1) := by decide +kernel
theorem dL_law_421 : decode cL_law 421 = .ok (.aload_n 1, 1) := by decide +kernel
theorem dL_law_422 : decode cL_law 422 = .ok (.invokevirtual 54, 3) := by decide +kernel
theorem dL_law_425 : decode cL_law 425 = .ok (.aload_n 2, 1) := by decide +kernel
theorem dL_law_426 : decode cL_law 426 = .ok (.invokevirtual 58, 3) := by decide +kernel
theorem dL_law_429 : decode cL_law 429 = .ok (.if_icmp .eq 301, 3) := by decide +kernel
theorem dL_law_432 : decode cL_law 432 = .ok (.iconst 0, 1) := by decide +kernel
theorem dL_law_433 : decode cL_law 433 = .ok (.ireturn, 1) := by decide +kernel
theorem dL_law_434 : decode cL_law 434 = .ok (.aload_n 1, 1) := by decide +kernel
theorem dL_law_435 : decode cL_law 435 = .ok (.invokevirtual 59, 3) := by decide +kernel
theorem dL_law_438 : decode cL_law 438 = .ok (.aload_n 2, 1) := by decide +kernel
theorem dL_law_439 : decode cL_law 439 = .ok (.invokevirtual 62, 3) := by decide +kernel
theorem dL_law_442 : decode cL_law 442 = .ok (.if_icmp .eq 288, 3) := by decide +kernel
theorem dL_law_445 : decode cL_law 445 = .ok (.iconst 0, 1) := by decide +kernel
theorem dL_law_446 : decode cL_law 446 = .ok (.ireturn, 1) := by decide +kernel
theorem dL_law_447 : decode cL_law 447 = .ok (.aload_n 1, 1) := by decide +kernel
theorem dL_law_448 : decode cL_law 448 = .ok (.invokevirtual 63, 3) := by decide +kernel
theorem dL_law_451 : decode cL_law 451 = .ok (.aload_n 2, 1) := by decide +kernel
theorem dL_law_452 : decode cL_law 452 = .ok (.invokevirtual 66, 3) := by decide +kernel
theorem dL_law_455 : decode cL_law 455 = .ok (.if_icmp .eq 275, 3) := by decide +kernel
theorem dL_law_458 : decode cL_law 458 = .ok (.iconst 0, 1) := by decide +kernel
theorem dL_law_459 : decode cL_law 459 = .ok (.ireturn, 1) := by decide +kernel
theorem dL_law_460 : decode cL_law 460 = .ok (.aload_n 1, 1) := by decide +kernel
theorem dL_law_461 : decode cL_law 461 = .ok (.invokevirtual 67, 3) := by decide +kernel
theorem dL_law_464 : decode cL_law 464 = .ok (.aload_n 2, 1) := by decide +kernel
theorem dL_law_465 : decode cL_law 465 = .ok (.invokevirtual 70, 3) := by decide +kernel
theorem dL_law_468 : decode cL_law 468 = .ok (.if_icmp .eq 262, 3) := by decide +kernel
theorem dL_law_471 : decode cL_law 471 = .ok (.iconst 0, 1) := by decide +kernel
theorem dL_law_472 : decode cL_law 472 = .ok (.ireturn, 1) := by decide +kernel
theorem dL_law_473 : decode cL_law 473 = .ok (.aload_n 1, 1) := by decide +kernel
theorem dL_law_474 : decode cL_law 474 = .ok (.invokevirtual 71, 3) := by decide +kernel
theorem dL_law_477 : decode cL_law 477 = .ok (.aload_n 2, 1) := by decide +kernel
theorem dL_law_478 : decode cL_law 478 = .ok (.invokevirtual 74, 3) := by decide +kernel
theorem dL_law_481 : decode cL_law 481 = .ok (.if_icmp .eq 249, 3) := by decide +kernel
theorem dL_law_484 : decode cL_law 484 = .ok (.iconst 0, 1) := by decide +kernel
theorem dL_law_485 : decode cL_law 485 = .ok (.ireturn, 1) := by decide +kernel
theorem dL_law_486 : decode cL_law 486 = .ok (.aload_n 1, 1) := by decide +kernel
theorem dL_law_487 : decode cL_law 487 = .ok (.aload_n 0, 1) := by decide +kernel
theorem dL_law_488 : decode cL_law 488 = .ok (.iload_n 3, 1) := by decide +kernel
theorem dL_law_489 : decode cL_law 489 = .ok (.iconst 1, 1) := by decide +kernel
theorem dL_law_490 : decode cL_law 490 = .ok (.iadd, 1) := by decide +kernel
theorem dL_law_491 : decode cL_law 491 = .ok (.iaload, 1) := by decide +kernel
theorem dL_law_492 : decode cL_law 492 = .ok (.aload_n 0, 1) := by decide +kernel
theorem dL_law_493 : decode cL_law 493 = .ok (.iload_n 3, 1) := by decide +kernel
theorem dL_law_494 : decode cL_law 494 = .ok (.iconst 2, 1) := by decide +kernel
theorem dL_law_495 : decode cL_law 495 = .ok (.iadd, 1) := by decide +kernel
theorem dL_law_496 : decode cL_law 496 = .ok (.iaload, 1) := by decide +kernel
theorem dL_law_497 : decode cL_law 497 = .ok (.invokevirtual 75, 3) := by decide +kernel
theorem dL_law_500 : decode cL_law 500 = .ok (.aload_n 2, 1) := by decide +kernel
theorem dL_law_501 : decode cL_law 501 = .ok (.aload_n 0, 1) := by decide +kernel
theorem dL_law_502 : decode cL_law 502 = .ok (.iload_n 3, 1) := by decide +kernel
theorem dL_law_503 : decode cL_law 503 = .ok (.iconst 1, 1) := by decide +kernel
theorem dL_law_504 : decode cL_law 504 = .ok (.iadd, 1) := by decide +kernel
theorem dL_law_505 : decode cL_law 505 = .ok (.iaload, 1) := by decide +kernel
theorem dL_law_506 : decode cL_law 506 = .ok (.aload_n 0, 1) := by decide +kernel
theorem dL_law_507 : decode cL_law 507 = .ok (.iload_n 3, 1) := by decide +kernel
theorem dL_law_508 : decode cL_law 508 = .ok (.iconst 2, 1) := by decide +kernel
theorem dL_law_509 : decode cL_law 509 = .ok (.iadd, 1) := by decide +kernel
theorem dL_law_510 : decode cL_law 510 = .ok (.iaload, 1) := by decide +kernel
theorem dL_law_511 : decode cL_law 511 = .ok (.invokevirtual 78, 3) := by decide +kernel
theorem dL_law_514 : decode cL_law 514 = .ok (.if_icmp .eq 216, 3) := by decide +kernel
theorem dL_law_517 : decode cL_law 517 = .ok (.iconst 0, 1) := by decide +kernel
theorem dL_law_518 : decode cL_law 518 = .ok (.ireturn, 1) := by decide +kernel
theorem dL_law_519 : decode cL_law 519 = .ok (.aload_n 1, 1) := by decide +kernel
theorem dL_law_520 : decode cL_law 520 = .ok (.aload_n 0, 1) := by decide +kernel
theorem dL_law_521 : decode cL_law 521 = .ok (.iload_n 3, 1) := by decide +kernel
theorem dL_law_522 : decode cL_law 522 = .ok (.iconst 1, 1) := by decide +kernel
theorem dL_law_523 : decode cL_law 523 = .ok (.iadd, 1) := by decide +kernel
theorem dL_law_524 : decode cL_law 524 = .ok (.iaload, 1) := by decide +kernel
theorem dL_law_525 : decode cL_law 525 = .ok (.aload_n 0, 1) := by decide +kernel
theorem dL_law_526 : decode cL_law 526 = .ok (.iload_n 3, 1) := by decide +kernel
theorem dL_law_527 : decode cL_law 527 = .ok (.iconst 2, 1) := by decide +kernel
theorem dL_law_528 : decode cL_law 528 = .ok (.iadd, 1) := by decide +kernel
theorem dL_law_529 : decode cL_law 529 = .ok (.iaload, 1) := by decide +kernel
theorem dL_law_530 : decode cL_law 530 = .ok (.invokevirtual 79, 3) := by decide +kernel
theorem dL_law_533 : decode cL_law 533 = .ok (.aload_n 2, 1) := by decide +kernel
theorem dL_law_534 : decode cL_law 534 = .ok (.aload_n 0, 1) := by decide +kernel
theorem dL_law_535 : decode cL_law 535 = .ok (.iload_n 3, 1) := by decide +kernel
theorem dL_law_536 : decode cL_law 536 = .ok (.iconst 1, 1) := by decide +kernel
theorem dL_law_537 : decode cL_law 537 = .ok (.iadd, 1) := by decide +kernel
theorem dL_law_538 : decode cL_law 538 = .ok (.iaload, 1) := by decide +kernel
theorem dL_law_539 : decode cL_law 539 = .ok (.aload_n 0, 1) := by decide +kernel
theorem dL_law_540 : decode cL_law 540 = .ok (.iload_n 3, 1) := by decide +kernel
theorem dL_law_541 : decode cL_law 541 = .ok (.iconst 2, 1) := by decide +kernel
theorem dL_law_542 : decode cL_law 542 = .ok (.iadd, 1) := by decide +kernel
theorem dL_law_543 : decode cL_law 543 = .ok (.iaload, 1) := by decide +kernel
theorem dL_law_544 : decode cL_law 544 = .ok (.invokevirtual 82, 3) := by decide +kernel
theorem dL_law_547 : decode cL_law 547 = .ok (.if_icmp .eq 183, 3) := by decide +kernel
theorem dL_law_550 : decode cL_law 550 = .ok (.iconst 0, 1) := by decide +kernel
theorem dL_law_551 : decode cL_law 551 = .ok (.ireturn, 1) := by decide +kernel
theorem dL_law_552 : decode cL_law 552 = .ok (.aload_n 1, 1) := by decide +kernel
theorem dL_law_553 : decode cL_law 553 = .ok (.aload_n 0, 1) := by decide +kernel
theorem dL_law_554 : decode cL_law 554 = .ok (.iload_n 3, 1) := by decide +kernel
theorem dL_law_555 : decode cL_law 555 = .ok (.iconst 1, 1) := by decide +kernel
theorem dL_law_556 : decode cL_law 556 = .ok (.iadd, 1) := by decide +kernel
theorem dL_law_557 : decode cL_law 557 = .ok (.iaload, 1) := by decide +kernel
theorem dL_law_558 : decode cL_law 558 = .ok (.aload_n 0, 1) := by decide +kernel
theorem dL_law_559 : decode cL_law 559 = .ok (.iload_n 3, 1) := by decide +kernel
theorem dL_law_560 : decode cL_law 560 = .ok (.iconst 2, 1) := by decide +kernel
theorem dL_law_561 : decode cL_law 561 = .ok (.iadd, 1) := by decide +kernel
theorem dL_law_562 : decode cL_law 562 = .ok (.iaload, 1) := by decide +kernel
theorem dL_law_563 : decode cL_law 563 = .ok (.invokevirtual 83, 3) := by decide +kernel
theorem dL_law_566 : decode cL_law 566 = .ok (.aload_n 2, 1) := by decide +kernel
theorem dL_law_567 : decode cL_law 567 = .ok (.aload_n 0, 1) := by decide +kernel
theorem dL_law_568 : decode cL_law 568 = .ok (.iload_n 3, 1) := by decide +kernel
theorem dL_law_569 : decode cL_law 569 = .ok (.iconst 1, 1) := by decide +kernel
theorem dL_law_570 : decode cL_law 570 = .ok (.iadd, 1) := by decide +kernel
theorem dL_law_571 : decode cL_law 571 = .ok (.iaload, 1) := by decide +kernel
theorem dL_law_572 : decode cL_law 572 = .ok (.aload_n 0, 1) := by decide +kernel
theorem dL_law_573 : decode cL_law 573 = .ok (.iload_n 3, 1) := by decide +kernel
theorem dL_law_574 : decode cL_law 574 = .ok (.iconst 2, 1) := by decide +kernel
theorem dL_law_575 : decode cL_law 575 = .ok (.iadd, 1) := by decide +kernel
theorem dL_law_576 : decode cL_law 576 = .ok (.iaload, 1) := by decide +kernel
theorem dL_law_577 : decode cL_law 577 = .ok (.invokevirtual 86, 3) := by decide +kernel
theorem dL_law_580 : decode cL_law 580 = .ok (.if_icmp .eq 150, 3) := by decide +kernel
theorem dL_law_583 : decode cL_law 583 = .ok (.iconst 0, 1) := by decide +kernel
theorem dL_law_584 : decode cL_law 584 = .ok (.ireturn, 1) := by decide +kernel
theorem dL_law_585 : decode cL_law 585 = .ok (.aload_n 1, 1) := by decide +kernel
theorem dL_law_586 : decode cL_law 586 = .ok (.aload_n 0, 1) := by decide +kernel
theorem dL_law_587 : decode cL_law 587 = .ok (.iload_n 3, 1) := by decide +kernel
theorem dL_law_588 : decode cL_law 588 = .ok (.iconst 1, 1) := by decide +kernel
theorem dL_law_589 : decode cL_law 589 = .ok (.iadd, 1) := by decide +kernel
theorem dL_law_590 : decode cL_law 590 = .ok (.iaload, 1) := by decide +kernel
theorem dL_law_591 : decode cL_law 591 = .ok (.invokevirtual 87, 3) := by decide +kernel
theorem dL_law_594 : decode cL_law 594 = .ok (.aload_n 2, 1) := by decide +kernel
theorem dL_law_595 : decode cL_law 595 = .ok (.aload_n 0, 1) := by decide +kernel
theorem dL_law_596 : decode cL_law 596 = .ok (.iload_n 3, 1) := by decide +kernel
theorem dL_law_597 : decode cL_law 597 = .ok (.iconst 1, 1) := by decide +kernel
theorem dL_law_598 : decode cL_law 598 = .ok (.iadd, 1) := by decide +kernel
theorem dL_law_599 : decode cL_law 599 = .ok (.iaload, 1) := by decide +kernel
theorem dL_law_600 : decode cL_law 600 = .ok (.invokevirtual 90, 3) := by decide +kernel
theorem dL_law_603 : decode cL_law 603 = .ok (.if_icmp .eq 127, 3) := by decide +kernel
theorem dL_law_606 : decode cL_law 606 = .ok (.iconst 0, 1) := by decide +kernel
theorem dL_law_607 : decode cL_law 607 = .ok (.ireturn, 1) := by decide +kernel
theorem dL_law_608 : decode cL_law 608 = .ok (.aload_n 1, 1) := by decide +kernel
theorem dL_law_609 : decode cL_law 609 = .ok (.aload_n 0, 1) := by decide +kernel
theorem dL_law_610 : decode cL_law 610 = .ok (.iload_n 3, 1) := by decide +kernel
theorem dL_law_611 : decode cL_law 611 = .ok (.iconst 1, 1) := by decide +kernel
theorem dL_law_612 : decode cL_law 612 = .ok (.iadd, 1) := by decide +kernel
theorem dL_law_613 : decode cL_law 613 = .ok (.iaload, 1) := by decide +kernel
theorem dL_law_614 : decode cL_law 614 = .ok (.aload_n 0, 1) := by decide +kernel
theorem dL_law_615 : decode cL_law 615 = .ok (.iload_n 3, 1) := by decide +kernel
theorem dL_law_616 : decode cL_law 616 = .ok (.iconst 2, 1) := by decide +kernel
theorem dL_law_617 : decode cL_law 617 = .ok (.iadd, 1) := by decide +kernel
theorem dL_law_618 : decode cL_law 618 = .ok (.iaload, 1) := by decide +kernel
theorem dL_law_619 : decode cL_law 619 = .ok (.aload_n 0, 1) := by decide +kernel
theorem dL_law_620 : decode cL_law 620 = .ok (.iload_n 3, 1) := by decide +kernel
theorem dL_law_621 : decode cL_law 621 = .ok (.iconst 3, 1) := by decide +kernel
theorem dL_law_622 : decode cL_law 622 = .ok (.iadd, 1) := by decide +kernel
theorem dL_law_623 : decode cL_law 623 = .ok (.iaload, 1) := by decide +kernel
theorem dL_law_624 : decode cL_law 624 = .ok (.invokevirtual 91, 3) := by decide +kernel
theorem dL_law_627 : decode cL_law 627 = .ok (.aload_n 2, 1) := by decide +kernel
theorem dL_law_628 : decode cL_law 628 = .ok (.aload_n 0, 1) := by decide +kernel
theorem dL_law_629 : decode cL_law 629 = .ok (.iload_n 3, 1) := by decide +kernel
theorem dL_law_630 : decode cL_law 630 = .ok (.iconst 1, 1) := by decide +kernel
theorem dL_law_631 : decode cL_law 631 = .ok (.iadd, 1) := by decide +kernel
theorem dL_law_632 : decode cL_law 632 = .ok (.iaload, 1) := by decide +kernel
theorem dL_law_633 : decode cL_law 633 = .ok (.aload_n 0, 1) := by decide +kernel
theorem dL_law_634 : decode cL_law 634 = .ok (.iload_n 3, 1) := by decide +kernel
theorem dL_law_635 : decode cL_law 635 = .ok (.iconst 2, 1) := by decide +kernel
theorem dL_law_636 : decode cL_law 636 = .ok (.iadd, 1) := by decide +kernel
theorem dL_law_637 : decode cL_law 637 = .ok (.iaload, 1) := by decide +kernel
theorem dL_law_638 : decode cL_law 638 = .ok (.aload_n 0, 1) := by decide +kernel
theorem dL_law_639 : decode cL_law 639 = .ok (.iload_n 3, 1) := by decide +kernel
theorem dL_law_640 : decode cL_law 640 = .ok (.iconst 3, 1) := by decide +kernel
theorem dL_law_641 : decode cL_law 641 = .ok (.iadd, 1) := by decide +kernel
theorem dL_law_642 : decode cL_law 642 = .ok (.iaload, 1) := by decide +kernel
theorem dL_law_643 : decode cL_law 643 = .ok (.invokevirtual 95, 3) := by decide +kernel
theorem dL_law_646 : decode cL_law 646 = .ok (.if_icmp .eq 84, 3) := by decide +kernel
theorem dL_law_649 : decode cL_law 649 = .ok (.iconst 0, 1) := by decide +kernel
theorem dL_law_650 : decode cL_law 650 = .ok (.ireturn, 1) := by decide +kernel
theorem dL_law_651 : decode cL_law 651 = .ok (.aload_n 1, 1) := by decide +kernel
theorem dL_law_652 : decode cL_law 652 = .ok (.aload_n 0, 1) := by decide +kernel
theorem dL_law_653 : decode cL_law 653 = .ok (.iload_n 3, 1) := by decide +kernel
theorem dL_law_654 : decode cL_law 654 = .ok (.iconst 1, 1) := by decide +kernel
theorem dL_law_655 : decode cL_law 655 = .ok (.iadd, 1) := by decide +kernel
theorem dL_law_656 : decode cL_law 656 = .ok (.iaload, 1) := by decide +kernel
theorem dL_law_657 : decode cL_law 657 = .ok (.aload_n 0, 1) := by decide +kernel
theorem dL_law_658 : decode cL_law 658 = .ok (.iload_n 3, 1) := by decide +kernel
theorem dL_law_659 : decode cL_law 659 = .ok (.iconst 2, 1) := by decide +kernel
theorem dL_law_660 : decode cL_law 660 = .ok (.iadd, 1) := by decide +kernel
theorem dL_law_661 : decode cL_law 661 = .ok (.iaload, 1) := by decide +kernel
theorem dL_law_662 : decode cL_law 662 = .ok (.aload_n 0, 1) := by decide +kernel
theorem dL_law_663 : decode cL_law 663 = .ok (.iload_n 3, 1) := by decide +kernel
theorem dL_law_664 : decode cL_law 664 = .ok (.iconst 3, 1) := by decide +kernel
theorem dL_law_665 : decode cL_law 665 = .ok (.iadd, 1) := by decide +kernel
theorem dL_law_666 : decode cL_law 666 = .ok (.iaload, 1) := by decide +kernel
theorem dL_law_667 : decode cL_law 667 = .ok (.invokevirtual 96, 3) := by decide +kernel
theorem dL_law_670 : decode cL_law 670 = .ok (.aload_n 2, 1) := by decide +kernel
theorem dL_law_671 : decode cL_law 671 = .ok (.aload_n 0, 1) := by decide +kernel
theorem dL_law_672 : decode cL_law 672 = .ok (.iload_n 3, 1) := by decide +kernel
theorem dL_law_673 : decode cL_law 673 = .ok (.iconst 1, 1) := by decide +kernel
theorem dL_law_674 : decode cL_law 674 = .ok (.iadd, 1) := by decide +kernel
theorem dL_law_675 : decode cL_law 675 = .ok (.iaload, 1) := by decide +kernel
theorem dL_law_676 : decode cL_law 676 = .ok (.aload_n 0, 1) := by decide +kernel
theorem dL_law_677 : decode cL_law 677 = .ok (.iload_n 3, 1) := by decide +kernel
theorem dL_law_678 : decode cL_law 678 = .ok (.iconst 2, 1) := by decide +kernel
theorem dL_law_679 : decode cL_law 679 = .ok (.iadd, 1) := by decide +kernel
theorem dL_law_680 : decode cL_law 680 = .ok (.iaload, 1) := by decide +kernel
theorem dL_law_681 : decode cL_law 681 = .ok (.aload_n 0, 1) := by decide +kernel
theorem dL_law_682 : decode cL_law 682 = .ok (.iload_n 3, 1) := by decide +kernel
theorem dL_law_683 : decode cL_law 683 = .ok (.iconst 3, 1) := by decide +kernel
theorem dL_law_684 : decode cL_law 684 = .ok (.iadd, 1) := by decide +kernel
theorem dL_law_685 : decode cL_law 685 = .ok (.iaload, 1) := by decide +kernel
theorem dL_law_686 : decode cL_law 686 = .ok (.invokevirtual 99, 3) := by decide +kernel
theorem dL_law_689 : decode cL_law 689 = .ok (.if_icmp .eq 41, 3) := by decide +kernel
theorem dL_law_692 : decode cL_law 692 = .ok (.iconst 0, 1) := by decide +kernel
theorem dL_law_693 : decode cL_law 693 = .ok (.ireturn, 1) := by decide +kernel
theorem dL_law_694 : decode cL_law 694 = .ok (.aload_n 1, 1) := by decide +kernel
theorem dL_law_695 : decode cL_law 695 = .ok (.invokevirtual 100, 3) := by decide +kernel
theorem dL_law_698 : decode cL_law 698 = .ok (.aload_n 2, 1) := by decide +kernel
theorem dL_law_699 : decode cL_law 699 = .ok (.invokevirtual 103, 3) := by decide +kernel
theorem dL_law_702 : decode cL_law 702 = .ok (.if_icmp .eq 28, 3) := by decide +kernel
theorem dL_law_705 : decode cL_law 705 = .ok (.iconst 0, 1) := by decide +kernel
theorem dL_law_706 : decode cL_law 706 = .ok (.ireturn, 1) := by decide +kernel
theorem dL_law_707 : decode cL_law 707 = .ok (.aload_n 1, 1) := by decide +kernel
theorem dL_law_708 : decode cL_law 708 = .ok (.aload_n 0, 1) := by decide +kernel
theorem dL_law_709 : decode cL_law 709 = .ok (.iload_n 3, 1) := by decide +kernel
theorem dL_law_710 : decode cL_law 710 = .ok (.iconst 1, 1) := by decide +kernel
theorem dL_law_711 : decode cL_law 711 = .ok (.iadd, 1) := by decide +kernel
theorem dL_law_712 : decode cL_law 712 = .ok (.iaload, 1) := by decide +kernel
theorem dL_law_713 : decode cL_law 713 = .ok (.invokevirtual 104, 3) := by decide +kernel
theorem dL_law_716 : decode cL_law 716 = .ok (.aload_n 2, 1) := by decide +kernel
theorem dL_law_717 : decode cL_law 717 = .ok (.aload_n 0, 1) := by decide +kernel
theorem dL_law_718 : decode cL_law 718 = .ok (.iload_n 3, 1) := by decide +kernel
theorem dL_law_719 : decode cL_law 719 = .ok (.iconst 1, 1) := by decide +kernel
theorem dL_law_720 : decode cL_law 720 = .ok (.iadd, 1) := by decide +kernel
theorem dL_law_721 : decode cL_law 721 = .ok (.iaload, 1) := by decide +kernel
theorem dL_law_722 : decode cL_law 722 = .ok (.invokevirtual 107, 3) := by decide +kernel
theorem dL_law_725 : decode cL_law 725 = .ok (.if_icmp .eq 5, 3) := by decide +kernel
theorem dL_law_728 : decode cL_law 728 = .ok (.iconst 0, 1) := by decide +kernel
theorem dL_law_729 : decode cL_law 729 = .ok (.ireturn, 1) := by decide +kernel
theorem dL_law_730 : decode cL_law 730 = .ok (.iinc 3 5, 3) := by decide +kernel
theorem dL_law_733 : decode cL_law 733 = .ok (.goto (-715), 3) := by decide +kernel
theorem dL_law_736 : decode cL_law 736 = .ok (.iconst 1, 1) := by decide +kernel
theorem dL_law_737 : decode cL_law 737 = .ok (.ireturn, 1) := by decide +kernel
