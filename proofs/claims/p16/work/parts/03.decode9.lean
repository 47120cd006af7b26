theorem d_Mod_walkOne_108 : decode b_Mod_walkOne 108 = .ok (.iaload, 1) := by decide +kernel
theorem d_Mod_walkOne_109 : decode b_Mod_walkOne 109 = .ok (.istore 5, 2) := by decide +kernel
theorem d_Mod_walkOne_111 : decode b_Mod_walkOne 111 = .ok (.aload_n 0, 1) := by decide +kernel
theorem d_Mod_walkOne_112 : decode b_Mod_walkOne 112 = .ok (.iload 5, 2) := by decide +kernel
theorem d_Mod_walkOne_114 : decode b_Mod_walkOne 114 = .ok (.invokevirtual 197, 3) := by decide +kernel
theorem d_Mod_walkOne_117 : decode b_Mod_walkOne 117 = .ok (.istore 6, 2) := by decide +kernel
theorem d_Mod_walkOne_119 : decode b_Mod_walkOne 119 = .ok (.aload_n 0, 1) := by decide +kernel
theorem d_Mod_walkOne_120 : decode b_Mod_walkOne 120 = .ok (.iconst 2, 1) := by decide +kernel
theorem d_Mod_walkOne_121 : decode b_Mod_walkOne 121 = .ok (.iload 5, 2) := by decide +kernel
theorem d_Mod_walkOne_123 : decode b_Mod_walkOne 123 = .ok (.aload_n 0, 1) := by decide +kernel
theorem d_Mod_walkOne_124 : decode b_Mod_walkOne 124 = .ok (.getfield 20, 3) := by decide +kernel
theorem d_Mod_walkOne_127 : decode b_Mod_walkOne 127 = .ok (.iload 6, 2) := by decide +kernel
theorem d_Mod_walkOne_129 : decode b_Mod_walkOne 129 = .ok (.iaload, 1) := by decide +kernel
theorem d_Mod_walkOne_130 : decode b_Mod_walkOne 130 = .ok (.aload_n 0, 1) := by decide +kernel
theorem d_Mod_walkOne_131 : decode b_Mod_walkOne 131 = .ok (.getfield 13, 3) := by decide +kernel
theorem d_Mod_walkOne_134 : decode b_Mod_walkOne 134 = .ok (.iload 6, 2) := by decide +kernel
theorem d_Mod_walkOne_136 : decode b_Mod_walkOne 136 = .ok (.iaload, 1) := by decide +kernel
theorem d_Mod_walkOne_137 : decode b_Mod_walkOne 137 = .ok (.aload_n 0, 1) := by decide +kernel
theorem d_Mod_walkOne_138 : decode b_Mod_walkOne 138 = .ok (.getfield 17, 3) := by decide +kernel
theorem d_Mod_walkOne_141 : decode b_Mod_walkOne 141 = .ok (.iload 6, 2) := by decide +kernel
theorem d_Mod_walkOne_143 : decode b_Mod_walkOne 143 = .ok (.iaload, 1) := by decide +kernel
theorem d_Mod_walkOne_144 : decode b_Mod_walkOne 144 = .ok (.i2l, 1) := by decide +kernel
theorem d_Mod_walkOne_145 : decode b_Mod_walkOne 145 = .ok (.iconst (-1), 1) := by decide +kernel
theorem d_Mod_walkOne_146 : decode b_Mod_walkOne 146 = .ok (.invokevirtual 269, 3) := by decide +kernel
theorem d_Mod_walkOne_149 : decode b_Mod_walkOne 149 = .ok (.l2i, 1) := by decide +kernel
theorem d_Mod_walkOne_150 : decode b_Mod_walkOne 150 = .ok (.istore 4, 2) := by decide +kernel
theorem d_Mod_walkOne_152 : decode b_Mod_walkOne 152 = .ok (.aload_n 0, 1) := by decide +kernel
theorem d_Mod_walkOne_153 : decode b_Mod_walkOne 153 = .ok (.getfield 46, 3) := by decide +kernel
theorem d_Mod_walkOne_156 : decode b_Mod_walkOne 156 = .ok (.iload_n 2, 1) := by decide +kernel
theorem d_Mod_walkOne_157 : decode b_Mod_walkOne 157 = .ok (.dup2, 1) := by decide +kernel
theorem d_Mod_walkOne_158 : decode b_Mod_walkOne 158 = .ok (.iaload, 1) := by decide +kernel
theorem d_Mod_walkOne_159 : decode b_Mod_walkOne 159 = .ok (.iconst 1, 1) := by decide +kernel
theorem d_Mod_walkOne_160 : decode b_Mod_walkOne 160 = .ok (.iadd, 1) := by decide +kernel
theorem d_Mod_walkOne_161 : decode b_Mod_walkOne 161 = .ok (.iastore, 1) := by decide +kernel
theorem d_Mod_walkOne_162 : decode b_Mod_walkOne 162 = .ok (.aload_n 0, 1) := by decide +kernel
theorem d_Mod_walkOne_163 : decode b_Mod_walkOne 163 = .ok (.getfield 46, 3) := by decide +kernel
theorem d_Mod_walkOne_166 : decode b_Mod_walkOne 166 = .ok (.iload_n 2, 1) := by decide +kernel
theorem d_Mod_walkOne_167 : decode b_Mod_walkOne 167 = .ok (.iaload, 1) := by decide +kernel
theorem d_Mod_walkOne_168 : decode b_Mod_walkOne 168 = .ok (.istore 5, 2) := by decide +kernel
theorem d_Mod_walkOne_170 : decode b_Mod_walkOne 170 = .ok (.aload_n 0, 1) := by decide +kernel
theorem d_Mod_walkOne_171 : decode b_Mod_walkOne 171 = .ok (.getfield 46, 3) := by decide +kernel
theorem d_Mod_walkOne_174 : decode b_Mod_walkOne 174 = .ok (.iload_n 2, 1) := by decide +kernel
theorem d_Mod_walkOne_175 : decode b_Mod_walkOne 175 = .ok (.iload 5, 2) := by decide +kernel
theorem d_Mod_walkOne_177 : decode b_Mod_walkOne 177 = .ok (.iload_n 3, 1) := by decide +kernel
theorem d_Mod_walkOne_178 : decode b_Mod_walkOne 178 = .ok (.iadd, 1) := by decide +kernel
theorem d_Mod_walkOne_179 : decode b_Mod_walkOne 179 = .ok (.iastore, 1) := by decide +kernel
theorem d_Mod_walkOne_180 : decode b_Mod_walkOne 180 = .ok (.aload_n 0, 1) := by decide +kernel
theorem d_Mod_walkOne_181 : decode b_Mod_walkOne 181 = .ok (.getfield 173, 3) := by decide +kernel
theorem d_Mod_walkOne_184 : decode b_Mod_walkOne 184 = .ok (.ifCond .ne 22, 3) := by decide +kernel
theorem d_Mod_walkOne_187 : decode b_Mod_walkOne 187 = .ok (.aload_n 0, 1) := by decide +kernel
theorem d_Mod_walkOne_188 : decode b_Mod_walkOne 188 = .ok (.aload_n 0, 1) := by decide +kernel
theorem d_Mod_walkOne_189 : decode b_Mod_walkOne 189 = .ok (.getfield 43, 3) := by decide +kernel
theorem d_Mod_walkOne_192 : decode b_Mod_walkOne 192 = .ok (.iload_n 2, 1) := by decide +kernel
theorem d_Mod_walkOne_193 : decode b_Mod_walkOne 193 = .ok (.iaload, 1) := by decide +kernel
theorem d_Mod_walkOne_194 : decode b_Mod_walkOne 194 = .ok (.iload 5, 2) := by decide +kernel
theorem d_Mod_walkOne_196 : decode b_Mod_walkOne 196 = .ok (.iload 5, 2) := by decide +kernel
theorem d_Mod_walkOne_198 : decode b_Mod_walkOne 198 = .ok (.iload_n 3, 1) := by decide +kernel
theorem d_Mod_walkOne_199 : decode b_Mod_walkOne 199 = .ok (.iadd, 1) := by decide +kernel
theorem d_Mod_walkOne_200 : decode b_Mod_walkOne 200 = .ok (.iload 4, 2) := by decide +kernel
theorem d_Mod_walkOne_202 : decode b_Mod_walkOne 202 = .ok (.iconst 0, 1) := by decide +kernel
theorem d_Mod_walkOne_203 : decode b_Mod_walkOne 203 = .ok (.invokevirtual 169, 3) := by decide +kernel
theorem d_Mod_walkOne_206 : decode b_Mod_walkOne 206 = .ok (.goto 49, 3) := by decide +kernel
theorem d_Mod_walkOne_209 : decode b_Mod_walkOne 209 = .ok (.iload_n 1, 1) := by decide +kernel
theorem d_Mod_walkOne_210 : decode b_Mod_walkOne 210 = .ok (.invokestatic 156, 3) := by decide +kernel
theorem d_Mod_walkOne_213 : decode b_Mod_walkOne 213 = .ok (.ifCond .lt 19, 3) := by decide +kernel
theorem d_Mod_walkOne_216 : decode b_Mod_walkOne 216 = .ok (.aload_n 0, 1) := by decide +kernel
theorem d_Mod_walkOne_217 : decode b_Mod_walkOne 217 = .ok (.getfield 64, 3) := by decide +kernel
theorem d_Mod_walkOne_220 : decode b_Mod_walkOne 220 = .ok (.iload_n 1, 1) := by decide +kernel
theorem d_Mod_walkOne_221 : decode b_Mod_walkOne 221 = .ok (.invokestatic 156, 3) := by decide +kernel
theorem d_Mod_walkOne_224 : decode b_Mod_walkOne 224 = .ok (.iload_n 1, 1) := by decide +kernel
theorem d_Mod_walkOne_225 : decode b_Mod_walkOne 225 = .ok (.invokestatic 194, 3) := by decide +kernel
theorem d_Mod_walkOne_228 : decode b_Mod_walkOne 228 = .ok (.iastore, 1) := by decide +kernel
theorem d_Mod_walkOne_229 : decode b_Mod_walkOne 229 = .ok (.goto 26, 3) := by decide +kernel
theorem d_Mod_walkOne_232 : decode b_Mod_walkOne 232 = .ok (.iload_n 1, 1) := by decide +kernel
theorem d_Mod_walkOne_233 : decode b_Mod_walkOne 233 = .ok (.sipush 516, 3) := by decide +kernel
theorem d_Mod_walkOne_236 : decode b_Mod_walkOne 236 = .ok (.if_icmp .gt 15, 3) := by decide +kernel
theorem d_Mod_walkOne_239 : decode b_Mod_walkOne 239 = .ok (.aload_n 0, 1) := by decide +kernel
theorem d_Mod_walkOne_240 : decode b_Mod_walkOne 240 = .ok (.iload_n 1, 1) := by decide +kernel
theorem d_Mod_walkOne_241 : decode b_Mod_walkOne 241 = .ok (.sipush 500, 3) := by decide +kernel
theorem d_Mod_walkOne_244 : decode b_Mod_walkOne 244 = .ok (.isub, 1) := by decide +kernel
theorem d_Mod_walkOne_245 : decode b_Mod_walkOne 245 = .ok (.invokevirtual 289, 3) := by decide +kernel
theorem d_Mod_walkOne_248 : decode b_Mod_walkOne 248 = .ok (.goto 7, 3) := by decide +kernel
theorem d_Mod_walkOne_251 : decode b_Mod_walkOne 251 = .ok (.aload_n 0, 1) := by decide +kernel
theorem d_Mod_walkOne_252 : decode b_Mod_walkOne 252 = .ok (.invokevirtual 292, 3) := by decide +kernel
theorem d_Mod_walkOne_255 : decode b_Mod_walkOne 255 = .ok (.return_, 1) := by decide +kernel
theorem d_Mod_walk_0 : decode b_Mod_walk 0 = .ok (.aload_n 0, 1) := by decide +kernel
theorem d_Mod_walk_1 : decode b_Mod_walk 1 = .ok (.iload_n 1, 1) := by decide +kernel
theorem d_Mod_walk_2 : decode b_Mod_walk 2 = .ok (.putfield 226, 3) := by decide +kernel
theorem d_Mod_walk_5 : decode b_Mod_walk 5 = .ok (.aload_n 0, 1) := by decide +kernel
theorem d_Mod_walk_6 : decode b_Mod_walk 6 = .ok (.iload_n 2, 1) := by decide +kernel
theorem d_Mod_walk_7 : decode b_Mod_walk 7 = .ok (.putfield 223, 3) := by decide +kernel
theorem d_Mod_walk_10 : decode b_Mod_walk 10 = .ok (.aload_n 0, 1) := by decide +kernel
theorem d_Mod_walk_11 : decode b_Mod_walk 11 = .ok (.iconst 0, 1) := by decide +kernel
theorem d_Mod_walk_12 : decode b_Mod_walk 12 = .ok (.putfield 258, 3) := by decide +kernel
theorem d_Mod_walk_15 : decode b_Mod_walk 15 = .ok (.aload_n 0, 1) := by decide +kernel
theorem d_Mod_walk_16 : decode b_Mod_walk 16 = .ok (.iconst 0, 1) := by decide +kernel
theorem d_Mod_walk_17 : decode b_Mod_walk 17 = .ok (.putfield 273, 3) := by decide +kernel
theorem d_Mod_walk_20 : decode b_Mod_walk 20 = .ok (.aload_n 0, 1) := by decide +kernel
theorem d_Mod_walk_21 : decode b_Mod_walk 21 = .ok (.iconst 0, 1) := by decide +kernel
theorem d_Mod_walk_22 : decode b_Mod_walk 22 = .ok (.putfield 276, 3) := by decide +kernel
theorem d_Mod_walk_25 : decode b_Mod_walk 25 = .ok (.aload_n 0, 1) := by decide +kernel
theorem d_Mod_walk_26 : decode b_Mod_walk 26 = .ok (.iconst 0, 1) := by decide +kernel
theorem d_Mod_walk_27 : decode b_Mod_walk 27 = .ok (.putfield 279, 3) := by decide +kernel
theorem d_Mod_walk_30 : decode b_Mod_walk 30 = .ok (.aload_n 0, 1) := by decide +kernel
theorem d_Mod_walk_31 : decode b_Mod_walk 31 = .ok (.invokevirtual 210, 3) := by decide +kernel
theorem d_Mod_walk_34 : decode b_Mod_walk 34 = .ok (.aload_n 0, 1) := by decide +kernel
theorem d_Mod_walk_35 : decode b_Mod_walk 35 = .ok (.getfield 163, 3) := by decide +kernel
theorem d_Mod_walk_38 : decode b_Mod_walk 38 = .ok (.ifCond .le 137, 3) := by decide +kernel
theorem d_Mod_walk_41 : decode b_Mod_walk 41 = .ok (.aload_n 0, 1) := by decide +kernel
theorem d_Mod_walk_42 : decode b_Mod_walk 42 = .ok (.getfield 173, 3) := by decide +kernel
theorem d_Mod_walk_45 : decode b_Mod_walk 45 = .ok (.ifCond .ne 130, 3) := by decide +kernel
theorem d_Mod_walk_48 : decode b_Mod_walk 48 = .ok (.aload_n 0, 1) := by decide +kernel
theorem d_Mod_walk_49 : decode b_Mod_walk 49 = .ok (.getfield 163, 3) := by decide +kernel
theorem d_Mod_walk_52 : decode b_Mod_walk 52 = .ok (.iconst 1, 1) := by decide +kernel
theorem d_Mod_walk_53 : decode b_Mod_walk 53 = .ok (.isub, 1) := by decide +kernel
theorem d_Mod_walk_54 : decode b_Mod_walk 54 = .ok (.istore_n 3, 1) := by decide +kernel
theorem d_Mod_walk_55 : decode b_Mod_walk 55 = .ok (.aload_n 0, 1) := by decide +kernel
theorem d_Mod_walk_56 : decode b_Mod_walk 56 = .ok (.getfield 46, 3) := by decide +kernel
theorem d_Mod_walk_59 : decode b_Mod_walk 59 = .ok (.iload_n 3, 1) := by decide +kernel
theorem d_Mod_walk_60 : decode b_Mod_walk 60 = .ok (.iaload, 1) := by decide +kernel
theorem d_Mod_walk_61 : decode b_Mod_walk 61 = .ok (.aload_n 0, 1) := by decide +kernel
theorem d_Mod_walk_62 : decode b_Mod_walk 62 = .ok (.getfield 49, 3) := by decide +kernel
theorem d_Mod_walk_65 : decode b_Mod_walk 65 = .ok (.iload_n 3, 1) := by decide +kernel
theorem d_Mod_walk_66 : decode b_Mod_walk 66 = .ok (.iaload, 1) := by decide +kernel
theorem d_Mod_walk_67 : decode b_Mod_walk 67 = .ok (.if_icmp .ge 50, 3) := by decide +kernel
theorem d_Mod_walk_70 : decode b_Mod_walk 70 = .ok (.aload_n 0, 1) := by decide +kernel
theorem d_Mod_walk_71 : decode b_Mod_walk 71 = .ok (.getfield 46, 3) := by decide +kernel
theorem d_Mod_walk_74 : decode b_Mod_walk 74 = .ok (.iload_n 3, 1) := by decide +kernel
theorem d_Mod_walk_75 : decode b_Mod_walk 75 = .ok (.dup2, 1) := by decide +kernel
theorem d_Mod_walk_76 : decode b_Mod_walk 76 = .ok (.iaload, 1) := by decide +kernel
theorem d_Mod_walk_77 : decode b_Mod_walk 77 = .ok (.iconst 1, 1) := by decide +kernel
theorem d_Mod_walk_78 : decode b_Mod_walk 78 = .ok (.iadd, 1) := by decide +kernel
theorem d_Mod_walk_79 : decode b_Mod_walk 79 = .ok (.iastore, 1) := by decide +kernel
theorem d_Mod_walk_80 : decode b_Mod_walk 80 = .ok (.aload_n 0, 1) := by decide +kernel
theorem d_Mod_walk_81 : decode b_Mod_walk 81 = .ok (.invokevirtual 285, 3) := by decide +kernel
theorem d_Mod_walk_84 : decode b_Mod_walk 84 = .ok (.ifCond .eq 88, 3) := by decide +kernel
theorem d_Mod_walk_87 : decode b_Mod_walk 87 = .ok (.aload_n 0, 1) := by decide +kernel
theorem d_Mod_walk_88 : decode b_Mod_walk 88 = .ok (.aload_n 0, 1) := by decide +kernel
theorem d_Mod_walk_89 : decode b_Mod_walk 89 = .ok (.getfield 27, 3) := by decide +kernel
theorem d_Mod_walk_92 : decode b_Mod_walk 92 = .ok (.bipush 24, 2) := by decide +kernel
theorem d_Mod_walk_94 : decode b_Mod_walk 94 = .ok (.aload_n 0, 1) := by decide +kernel
theorem d_Mod_walk_95 : decode b_Mod_walk 95 = .ok (.getfield 43, 3) := by decide +kernel
theorem d_Mod_walk_98 : decode b_Mod_walk 98 = .ok (.iload_n 3, 1) := by decide +kernel
theorem d_Mod_walk_99 : decode b_Mod_walk 99 = .ok (.iaload, 1) := by decide +kernel
theorem d_Mod_walk_100 : decode b_Mod_walk 100 = .ok (.imul, 1) := by decide +kernel
theorem d_Mod_walk_101 : decode b_Mod_walk 101 = .ok (.aload_n 0, 1) := by decide +kernel
theorem d_Mod_walk_102 : decode b_Mod_walk 102 = .ok (.getfield 46, 3) := by decide +kernel
theorem d_Mod_walk_105 : decode b_Mod_walk 105 = .ok (.iload_n 3, 1) := by decide +kernel
theorem d_Mod_walk_106 : decode b_Mod_walk 106 = .ok (.iaload, 1) := by decide +kernel
theorem d_Mod_walk_107 : decode b_Mod_walk 107 = .ok (.iadd, 1) := by decide +kernel
theorem d_Mod_walk_108 : decode b_Mod_walk 108 = .ok (.iconst 1, 1) := by decide +kernel
theorem d_Mod_walk_109 : decode b_Mod_walk 109 = .ok (.isub, 1) := by decide +kernel
theorem d_Mod_walk_110 : decode b_Mod_walk 110 = .ok (.iaload, 1) := by decide +kernel
theorem d_Mod_walk_111 : decode b_Mod_walk 111 = .ok (.invokevirtual 295, 3) := by decide +kernel
theorem d_Mod_walk_114 : decode b_Mod_walk 114 = .ok (.goto 58, 3) := by decide +kernel
theorem d_Mod_walk_117 : decode b_Mod_walk 117 = .ok (.aload_n 0, 1) := by decide +kernel
theorem d_Mod_walk_118 : decode b_Mod_walk 118 = .ok (.getfield 55, 3) := by decide +kernel
theorem d_Mod_walk_121 : decode b_Mod_walk 121 = .ok (.iload_n 3, 1) := by decide +kernel
theorem d_Mod_walk_122 : decode b_Mod_walk 122 = .ok (.iaload, 1) := by decide +kernel
theorem d_Mod_walk_123 : decode b_Mod_walk 123 = .ok (.iconst 1, 1) := by decide +kernel
theorem d_Mod_walk_124 : decode b_Mod_walk 124 = .ok (.if_icmp .le 38, 3) := by decide +kernel
theorem d_Mod_walk_127 : decode b_Mod_walk 127 = .ok (.aload_n 0, 1) := by decide +kernel
theorem d_Mod_walk_128 : decode b_Mod_walk 128 = .ok (.getfield 55, 3) := by decide +kernel
theorem d_Mod_walk_131 : decode b_Mod_walk 131 = .ok (.iload_n 3, 1) := by decide +kernel
theorem d_Mod_walk_132 : decode b_Mod_walk 132 = .ok (.dup2, 1) := by decide +kernel
theorem d_Mod_walk_133 : decode b_Mod_walk 133 = .ok (.iaload, 1) := by decide +kernel
theorem d_Mod_walk_134 : decode b_Mod_walk 134 = .ok (.iconst 1, 1) := by decide +kernel
theorem d_Mod_walk_135 : decode b_Mod_walk 135 = .ok (.isub, 1) := by decide +kernel
theorem d_Mod_walk_136 : decode b_Mod_walk 136 = .ok (.iastore, 1) := by decide +kernel
theorem d_Mod_walk_137 : decode b_Mod_walk 137 = .ok (.aload_n 0, 1) := by decide +kernel
theorem d_Mod_walk_138 : decode b_Mod_walk 138 = .ok (.getfield 58, 3) := by decide +kernel
theorem d_Mod_walk_141 : decode b_Mod_walk 141 = .ok (.iload_n 3, 1) := by decide +kernel
theorem d_Mod_walk_142 : decode b_Mod_walk 142 = .ok (.dup2, 1) := by decide +kernel
theorem d_Mod_walk_143 : decode b_Mod_walk 143 = .ok (.iaload, 1) := by decide +kernel
theorem d_Mod_walk_144 : decode b_Mod_walk 144 = .ok (.iconst 1, 1) := by decide +kernel
theorem d_Mod_walk_145 : decode b_Mod_walk 145 = .ok (.iadd, 1) := by decide +kernel
theorem d_Mod_walk_146 : decode b_Mod_walk 146 = .ok (.iastore, 1) := by decide +kernel
theorem d_Mod_walk_147 : decode b_Mod_walk 147 = .ok (.aload_n 0, 1) := by decide +kernel
theorem d_Mod_walk_148 : decode b_Mod_walk 148 = .ok (.getfield 46, 3) := by decide +kernel
theorem d_Mod_walk_151 : decode b_Mod_walk 151 = .ok (.iload_n 3, 1) := by decide +kernel
theorem d_Mod_walk_152 : decode b_Mod_walk 152 = .ok (.aload_n 0, 1) := by decide +kernel
theorem d_Mod_walk_153 : decode b_Mod_walk 153 = .ok (.getfield 52, 3) := by decide +kernel
theorem d_Mod_walk_156 : decode b_Mod_walk 156 = .ok (.iload_n 3, 1) := by decide +kernel
theorem d_Mod_walk_157 : decode b_Mod_walk 157 = .ok (.iaload, 1) := by decide +kernel
theorem d_Mod_walk_158 : decode b_Mod_walk 158 = .ok (.iastore, 1) := by decide +kernel
theorem d_Mod_walk_159 : decode b_Mod_walk 159 = .ok (.goto 13, 3) := by decide +kernel
theorem d_Mod_walk_162 : decode b_Mod_walk 162 = .ok (.aload_n 0, 1) := by decide +kernel
theorem d_Mod_walk_163 : decode b_Mod_walk 163 = .ok (.dup, 1) := by decide +kernel
theorem d_Mod_walk_164 : decode b_Mod_walk 164 = .ok (.getfield 163, 3) := by decide +kernel
theorem d_Mod_walk_167 : decode b_Mod_walk 167 = .ok (.iconst 1, 1) := by decide +kernel
theorem d_Mod_walk_168 : decode b_Mod_walk 168 = .ok (.isub, 1) := by decide +kernel
theorem d_Mod_walk_169 : decode b_Mod_walk 169 = .ok (.putfield 163, 3) := by decide +kernel
theorem d_Mod_walk_172 : decode b_Mod_walk 172 = .ok (.goto (-138), 3) := by decide +kernel
theorem d_Mod_walk_175 : decode b_Mod_walk 175 = .ok (.return_, 1) := by decide +kernel
theorem d_Mod_isSubset_0 : decode b_Mod_isSubset 0 = .ok (.iload_n 0, 1) := by decide +kernel
theorem d_Mod_isSubset_1 : decode b_Mod_isSubset 1 = .ok (.ifCond .lt 13, 3) := by decide +kernel
theorem d_Mod_isSubset_4 : decode b_Mod_isSubset 4 = .ok (.iload_n 0, 1) := by decide +kernel
theorem d_Mod_isSubset_5 : decode b_Mod_isSubset 5 = .ok (.bipush 8, 2) := by decide +kernel
theorem d_Mod_isSubset_7 : decode b_Mod_isSubset 7 = .ok (.if_icmp .ge 7, 3) := by decide +kernel
theorem d_Mod_isSubset_10 : decode b_Mod_isSubset 10 = .ok (.iconst 1, 1) := by decide +kernel
theorem d_Mod_isSubset_11 : decode b_Mod_isSubset 11 = .ok (.goto 4, 3) := by decide +kernel
theorem d_Mod_isSubset_14 : decode b_Mod_isSubset 14 = .ok (.iconst 0, 1) := by decide +kernel
theorem d_Mod_isSubset_15 : decode b_Mod_isSubset 15 = .ok (.ireturn, 1) := by decide +kernel
theorem d_Mod_put_0 : decode b_Mod_put 0 = .ok (.aload_n 0, 1) := by decide +kernel
theorem d_Mod_put_1 : decode b_Mod_put 1 = .ok (.iload_n 1, 1) := by decide +kernel
theorem d_Mod_put_2 : decode b_Mod_put 2 = .ok (.invokestatic 298, 3) := by decide +kernel
theorem d_Mod_put_5 : decode b_Mod_put 5 = .ok (.ifCond .eq 17, 3) := by decide +kernel
theorem d_Mod_put_8 : decode b_Mod_put 8 = .ok (.iload_n 2, 1) := by decide +kernel
theorem d_Mod_put_9 : decode b_Mod_put 9 = .ok (.ifCond .lt 13, 3) := by decide +kernel
theorem d_Mod_put_12 : decode b_Mod_put 12 = .ok (.iload_n 2, 1) := by decide +kernel
theorem d_Mod_put_13 : decode b_Mod_put 13 = .ok (.bipush 100, 2) := by decide +kernel
theorem d_Mod_put_15 : decode b_Mod_put 15 = .ok (.if_icmp .ge 7, 3) := by decide +kernel
theorem d_Mod_put_18 : decode b_Mod_put 18 = .ok (.iconst 0, 1) := by decide +kernel
theorem d_Mod_put_19 : decode b_Mod_put 19 = .ok (.goto 4, 3) := by decide +kernel
theorem d_Mod_put_22 : decode b_Mod_put 22 = .ok (.iconst 1, 1) := by decide +kernel
theorem d_Mod_put_23 : decode b_Mod_put 23 = .ok (.putfield 139, 3) := by decide +kernel
theorem d_Mod_put_26 : decode b_Mod_put 26 = .ok (.aload_n 0, 1) := by decide +kernel
theorem d_Mod_put_27 : decode b_Mod_put 27 = .ok (.getfield 139, 3) := by decide +kernel
theorem d_Mod_put_30 : decode b_Mod_put 30 = .ok (.ifCond .ne 15, 3) := by decide +kernel
theorem d_Mod_put_33 : decode b_Mod_put 33 = .ok (.aload_n 0, 1) := by decide +kernel
theorem d_Mod_put_34 : decode b_Mod_put 34 = .ok (.getfield 36, 3) := by decide +kernel
theorem d_Mod_put_37 : decode b_Mod_put 37 = .ok (.bipush 100, 2) := by decide +kernel
theorem d_Mod_put_39 : decode b_Mod_put 39 = .ok (.iload_n 1, 1) := by decide +kernel
theorem d_Mod_put_40 : decode b_Mod_put 40 = .ok (.imul, 1) := by decide +kernel
theorem d_Mod_put_41 : decode b_Mod_put 41 = .ok (.iload_n 2, 1) := by decide +kernel
theorem d_Mod_put_42 : decode b_Mod_put 42 = .ok (.iadd, 1) := by decide +kernel
theorem d_Mod_put_43 : decode b_Mod_put 43 = .ok (.lload_n 3, 1) := by decide +kernel
theorem d_Mod_put_44 : decode b_Mod_put 44 = .ok (.lastore, 1) := by decide +kernel
theorem d_Mod_put_45 : decode b_Mod_put 45 = .ok (.return_, 1) := by decide +kernel
theorem d_Mod_get_0 : decode b_Mod_get 0 = .ok (.aload_n 0, 1) := by decide +kernel
theorem d_Mod_get_1 : decode b_Mod_get 1 = .ok (.iload_n 1, 1) := by decide +kernel
theorem d_Mod_get_2 : decode b_Mod_get 2 = .ok (.invokestatic 298, 3) := by decide +kernel
theorem d_Mod_get_5 : decode b_Mod_get 5 = .ok (.ifCond .eq 17, 3) := by decide +kernel
theorem d_Mod_get_8 : decode b_Mod_get 8 = .ok (.iload_n 2, 1) := by decide +kernel
theorem d_Mod_get_9 : decode b_Mod_get 9 = .ok (.ifCond .lt 13, 3) := by decide +kernel
theorem d_Mod_get_12 : decode b_Mod_get 12 = .ok (.iload_n 2, 1) := by decide +kernel
theorem d_Mod_get_13 : decode b_Mod_get 13 = .ok (.bipush 100, 2) := by decide +kernel
theorem d_Mod_get_15 : decode b_Mod_get 15 = .ok (.if_icmp .ge 7, 3) := by decide +kernel
theorem d_Mod_get_18 : decode b_Mod_get 18 = .ok (.iconst 0, 1) := by decide +kernel
theorem d_Mod_get_19 : decode b_Mod_get 19 = .ok (.goto 4, 3) := by decide +kernel
theorem d_Mod_get_22 : decode b_Mod_get 22 = .ok (.iconst 1, 1) := by decide +kernel
theorem d_Mod_get_23 : decode b_Mod_get 23 = .ok (.putfield 139, 3) := by decide +kernel
theorem d_Mod_get_26 : decode b_Mod_get 26 = .ok (.aload_n 0, 1) := by decide +kernel
theorem d_Mod_get_27 : decode b_Mod_get 27 = .ok (.getfield 139, 3) := by decide +kernel
theorem d_Mod_get_30 : decode b_Mod_get 30 = .ok (.ifCond .ne 17, 3) := by decide +kernel
theorem d_Mod_get_33 : decode b_Mod_get 33 = .ok (.aload_n 0, 1) := by decide +kernel
theorem d_Mod_get_34 : decode b_Mod_get 34 = .ok (.getfield 36, 3) := by decide +kernel
theorem d_Mod_get_37 : decode b_Mod_get 37 = .ok (.bipush 100, 2) := by decide +kernel
theorem d_Mod_get_39 : decode b_Mod_get 39 = .ok (.iload_n 1, 1) := by decide +kernel
theorem d_Mod_get_40 : decode b_Mod_get 40 = .ok (.imul, 1) := by decide +kernel
theorem d_Mod_get_41 : decode b_Mod_get 41 = .ok (.iload_n 2, 1) := by decide +kernel
theorem d_Mod_get_42 : decode b_Mod_get 42 = .ok (.iadd, 1) := by decide +kernel
theorem d_Mod_get_43 : decode b_Mod_get 43 = .ok (.laload, 1) := by decide +kernel
theorem d_Mod_get_44 : decode b_Mod_get 44 = .ok (.goto 4, 3) := by decide +kernel
theorem d_Mod_get_47 : decode b_Mod_get 47 = .ok (.lconst 0, 1) := by decide +kernel
theorem d_Mod_get_48 : decode b_Mod_get 48 = .ok (.lreturn, 1) := by decide +kernel
theorem d_Mod_lay_0 : decode b_Mod_lay 0 = .ok (.iload_n 3, 1) := by decide +kernel
theorem d_Mod_lay_1 : decode b_Mod_lay 1 = .ok (.iconst 1, 1) := by decide +kernel
theorem d_Mod_lay_2 : decode b_Mod_lay 2 = .ok (.isub, 1) := by decide +kernel
theorem d_Mod_lay_3 : decode b_Mod_lay 3 = .ok (.istore 4, 2) := by decide +kernel
theorem d_Mod_lay_5 : decode b_Mod_lay 5 = .ok (.iload 4, 2) := by decide +kernel
theorem d_Mod_lay_7 : decode b_Mod_lay 7 = .ok (.ifCond .lt 44, 3) := by decide +kernel
theorem d_Mod_lay_10 : decode b_Mod_lay 10 = .ok (.aload_n 0, 1) := by decide +kernel
theorem d_Mod_lay_11 : decode b_Mod_lay 11 = .ok (.getfield 95, 3) := by decide +kernel
theorem d_Mod_lay_14 : decode b_Mod_lay 14 = .ok (.aload_n 0, 1) := by decide +kernel
theorem d_Mod_lay_15 : decode b_Mod_lay 15 = .ok (.getfield 232, 3) := by decide +kernel
theorem d_Mod_lay_18 : decode b_Mod_lay 18 = .ok (.lload_n 1, 1) := by decide +kernel
theorem d_Mod_lay_19 : decode b_Mod_lay 19 = .ok (.iload 4, 2) := by decide +kernel
theorem d_Mod_lay_21 : decode b_Mod_lay 21 = .ok (.lshr, 1) := by decide +kernel
theorem d_Mod_lay_22 : decode b_Mod_lay 22 = .ok (.lconst 1, 1) := by decide +kernel
theorem d_Mod_lay_23 : decode b_Mod_lay 23 = .ok (.land, 1) := by decide +kernel
theorem d_Mod_lay_24 : decode b_Mod_lay 24 = .ok (.lconst 1, 1) := by decide +kernel
theorem d_Mod_lay_25 : decode b_Mod_lay 25 = .ok (.lcmp, 1) := by decide +kernel
theorem d_Mod_lay_26 : decode b_Mod_lay 26 = .ok (.ifCond .ne 7, 3) := by decide +kernel
theorem d_Mod_lay_29 : decode b_Mod_lay 29 = .ok (.iconst 1, 1) := by decide +kernel
theorem d_Mod_lay_30 : decode b_Mod_lay 30 = .ok (.goto 4, 3) := by decide +kernel
theorem d_Mod_lay_33 : decode b_Mod_lay 33 = .ok (.iconst 0, 1) := by decide +kernel
theorem d_Mod_lay_34 : decode b_Mod_lay 34 = .ok (.bastore, 1) := by decide +kernel
theorem d_Mod_lay_35 : decode b_Mod_lay 35 = .ok (.aload_n 0, 1) := by decide +kernel
theorem d_Mod_lay_36 : decode b_Mod_lay 36 = .ok (.dup, 1) := by decide +kernel
theorem d_Mod_lay_37 : decode b_Mod_lay 37 = .ok (.getfield 232, 3) := by decide +kernel
theorem d_Mod_lay_40 : decode b_Mod_lay 40 = .ok (.iconst 1, 1) := by decide +kernel
theorem d_Mod_lay_41 : decode b_Mod_lay 41 = .ok (.iadd, 1) := by decide +kernel
theorem d_Mod_lay_42 : decode b_Mod_lay 42 = .ok (.putfield 232, 3) := by decide +kernel
theorem d_Mod_lay_45 : decode b_Mod_lay 45 = .ok (.iinc 4 (-1), 3) := by decide +kernel
theorem d_Mod_lay_48 : decode b_Mod_lay 48 = .ok (.goto (-43), 3) := by decide +kernel
theorem d_Mod_lay_51 : decode b_Mod_lay 51 = .ok (.return_, 1) := by decide +kernel
theorem d_Mod_keepFirst_0 : decode b_Mod_keepFirst 0 = .ok (.aload_n 0, 1) := by decide +kernel
theorem d_Mod_keepFirst_1 : decode b_Mod_keepFirst 1 = .ok (.aload_n 0, 1) := by decide +kernel
theorem d_Mod_keepFirst_2 : decode b_Mod_keepFirst 2 = .ok (.getfield 258, 3) := by decide +kernel
theorem d_Mod_keepFirst_5 : decode b_Mod_keepFirst 5 = .ok (.putfield 307, 3) := by decide +kernel
theorem d_Mod_keepFirst_8 : decode b_Mod_keepFirst 8 = .ok (.iconst 0, 1) := by decide +kernel
theorem d_Mod_keepFirst_9 : decode b_Mod_keepFirst 9 = .ok (.istore_n 1, 1) := by decide +kernel
theorem d_Mod_keepFirst_10 : decode b_Mod_keepFirst 10 = .ok (.iload_n 1, 1) := by decide +kernel
theorem d_Mod_keepFirst_11 : decode b_Mod_keepFirst 11 = .ok (.aload_n 0, 1) := by decide +kernel
theorem d_Mod_keepFirst_12 : decode b_Mod_keepFirst 12 = .ok (.getfield 258, 3) := by decide +kernel
theorem d_Mod_keepFirst_15 : decode b_Mod_keepFirst 15 = .ok (.if_icmp .ge 57, 3) := by decide +kernel
theorem d_Mod_keepFirst_18 : decode b_Mod_keepFirst 18 = .ok (.aload_n 0, 1) := by decide +kernel
theorem d_Mod_keepFirst_19 : decode b_Mod_keepFirst 19 = .ok (.getfield 104, 3) := by decide +kernel
theorem d_Mod_keepFirst_22 : decode b_Mod_keepFirst 22 = .ok (.iload_n 1, 1) := by decide +kernel
theorem d_Mod_keepFirst_23 : decode b_Mod_keepFirst 23 = .ok (.aload_n 0, 1) := by decide +kernel
theorem d_Mod_keepFirst_24 : decode b_Mod_keepFirst 24 = .ok (.getfield 67, 3) := by decide +kernel
theorem d_Mod_keepFirst_27 : decode b_Mod_keepFirst 27 = .ok (.iload_n 1, 1) := by decide +kernel
theorem d_Mod_keepFirst_28 : decode b_Mod_keepFirst 28 = .ok (.iaload, 1) := by decide +kernel
theorem d_Mod_keepFirst_29 : decode b_Mod_keepFirst 29 = .ok (.iastore, 1) := by decide +kernel
theorem d_Mod_keepFirst_30 : decode b_Mod_keepFirst 30 = .ok (.aload_n 0, 1) := by decide +kernel
theorem d_Mod_keepFirst_31 : decode b_Mod_keepFirst 31 = .ok (.getfield 107, 3) := by decide +kernel
theorem d_Mod_keepFirst_34 : decode b_Mod_keepFirst 34 = .ok (.iload_n 1, 1) := by decide +kernel
theorem d_Mod_keepFirst_35 : decode b_Mod_keepFirst 35 = .ok (.aload_n 0, 1) := by decide +kernel
theorem d_Mod_keepFirst_36 : decode b_Mod_keepFirst 36 = .ok (.getfield 73, 3) := by decide +kernel
theorem d_Mod_keepFirst_39 : decode b_Mod_keepFirst 39 = .ok (.iload_n 1, 1) := by decide +kernel
theorem d_Mod_keepFirst_40 : decode b_Mod_keepFirst 40 = .ok (.iaload, 1) := by decide +kernel
theorem d_Mod_keepFirst_41 : decode b_Mod_keepFirst 41 = .ok (.iastore, 1) := by decide +kernel
theorem d_Mod_keepFirst_42 : decode b_Mod_keepFirst 42 = .ok (.aload_n 0, 1) := by decide +kernel
theorem d_Mod_keepFirst_43 : decode b_Mod_keepFirst 43 = .ok (.getfield 110, 3) := by decide +kernel
theorem d_Mod_keepFirst_46 : decode b_Mod_keepFirst 46 = .ok (.iload_n 1, 1) := by decide +kernel
theorem d_Mod_keepFirst_47 : decode b_Mod_keepFirst 47 = .ok (.aload_n 0, 1) := by decide +kernel
theorem d_Mod_keepFirst_48 : decode b_Mod_keepFirst 48 = .ok (.getfield 76, 3) := by decide +kernel
theorem d_Mod_keepFirst_51 : decode b_Mod_keepFirst 51 = .ok (.iload_n 1, 1) := by decide +kernel
theorem d_Mod_keepFirst_52 : decode b_Mod_keepFirst 52 = .ok (.iaload, 1) := by decide +kernel
theorem d_Mod_keepFirst_53 : decode b_Mod_keepFirst 53 = .ok (.iastore, 1) := by decide +kernel
theorem d_Mod_keepFirst_54 : decode b_Mod_keepFirst 54 = .ok (.aload_n 0, 1) := by decide +kernel
theorem d_Mod_keepFirst_55 : decode b_Mod_keepFirst 55 = .ok (.getfield 113, 3) := by decide +kernel
theorem d_Mod_keepFirst_58 : decode b_Mod_keepFirst 58 = .ok (.iload_n 1, 1) := by decide +kernel
theorem d_Mod_keepFirst_59 : decode b_Mod_keepFirst 59 = .ok (.aload_n 0, 1) := by decide +kernel
theorem d_Mod_keepFirst_60 : decode b_Mod_keepFirst 60 = .ok (.getfield 85, 3) := by decide +kernel
theorem d_Mod_keepFirst_63 : decode b_Mod_keepFirst 63 = .ok (.iload_n 1, 1) := by decide +kernel
theorem d_Mod_keepFirst_64 : decode b_Mod_keepFirst 64 = .ok (.laload, 1) := by decide +kernel
theorem d_Mod_keepFirst_65 : decode b_Mod_keepFirst 65 = .ok (.lastore, 1) := by decide +kernel
theorem d_Mod_keepFirst_66 : decode b_Mod_keepFirst 66 = .ok (.iinc 1 1, 3) := by decide +kernel
theorem d_Mod_keepFirst_69 : decode b_Mod_keepFirst 69 = .ok (.goto (-59), 3) := by decide +kernel
theorem d_Mod_keepFirst_72 : decode b_Mod_keepFirst 72 = .ok (.return_, 1) := by decide +kernel
theorem d_Mod_isLike_0 : decode b_Mod_isLike 0 = .ok (.aload_n 0, 1) := by decide +kernel
theorem d_Mod_isLike_1 : decode b_Mod_isLike 1 = .ok (.getfield 67, 3) := by decide +kernel
theorem d_Mod_isLike_4 : decode b_Mod_isLike 4 = .ok (.iload_n 1, 1) := by decide +kernel
theorem d_Mod_isLike_5 : decode b_Mod_isLike 5 = .ok (.iaload, 1) := by decide +kernel
theorem d_Mod_isLike_6 : decode b_Mod_isLike 6 = .ok (.iconst 2, 1) := by decide +kernel
theorem d_Mod_isLike_7 : decode b_Mod_isLike 7 = .ok (.if_icmp .eq 13, 3) := by decide +kernel
theorem d_Mod_isLike_10 : decode b_Mod_isLike 10 = .ok (.aload_n 0, 1) := by decide +kernel
theorem d_Mod_isLike_11 : decode b_Mod_isLike 11 = .ok (.getfield 67, 3) := by decide +kernel
theorem d_Mod_isLike_14 : decode b_Mod_isLike 14 = .ok (.iload_n 1, 1) := by decide +kernel
theorem d_Mod_isLike_15 : decode b_Mod_isLike 15 = .ok (.iaload, 1) := by decide +kernel
theorem d_Mod_isLike_16 : decode b_Mod_isLike 16 = .ok (.iconst 3, 1) := by decide +kernel
theorem d_Mod_isLike_17 : decode b_Mod_isLike 17 = .ok (.if_icmp .ne 7, 3) := by decide +kernel
theorem d_Mod_isLike_20 : decode b_Mod_isLike 20 = .ok (.iconst 1, 1) := by decide +kernel
theorem d_Mod_isLike_21 : decode b_Mod_isLike 21 = .ok (.goto 4, 3) := by decide +kernel
theorem d_Mod_isLike_24 : decode b_Mod_isLike 24 = .ok (.iconst 0, 1) := by decide +kernel
theorem d_Mod_isLike_25 : decode b_Mod_isLike 25 = .ok (.istore_n 2, 1) := by decide +kernel
theorem d_Mod_isLike_26 : decode b_Mod_isLike 26 = .ok (.aload_n 0, 1) := by decide +kernel
theorem d_Mod_isLike_27 : decode b_Mod_isLike 27 = .ok (.getfield 67, 3) := by decide +kernel
theorem d_Mod_isLike_30 : decode b_Mod_isLike 30 = .ok (.iload_n 1, 1) := by decide +kernel
theorem d_Mod_isLike_31 : decode b_Mod_isLike 31 = .ok (.iaload, 1) := by decide +kernel
theorem d_Mod_isLike_32 : decode b_Mod_isLike 32 = .ok (.aload_n 0, 1) := by decide +kernel
theorem d_Mod_isLike_33 : decode b_Mod_isLike 33 = .ok (.getfield 104, 3) := by decide +kernel
theorem d_Mod_isLike_36 : decode b_Mod_isLike 36 = .ok (.iload_n 1, 1) := by decide +kernel
theorem d_Mod_isLike_37 : decode b_Mod_isLike 37 = .ok (.iaload, 1) := by decide +kernel
theorem d_Mod_isLike_38 : decode b_Mod_isLike 38 = .ok (.if_icmp .ne 81, 3) := by decide +kernel
theorem d_Mod_isLike_41 : decode b_Mod_isLike 41 = .ok (.aload_n 0, 1) := by decide +kernel
theorem d_Mod_isLike_42 : decode b_Mod_isLike 42 = .ok (.getfield 73, 3) := by decide +kernel
theorem d_Mod_isLike_45 : decode b_Mod_isLike 45 = .ok (.iload_n 1, 1) := by decide +kernel
theorem d_Mod_isLike_46 : decode b_Mod_isLike 46 = .ok (.iaload, 1) := by decide +kernel
theorem d_Mod_isLike_47 : decode b_Mod_isLike 47 = .ok (.aload_n 0, 1) := by decide +kernel
theorem d_Mod_isLike_48 : decode b_Mod_isLike 48 = .ok (.getfield 107, 3) := by decide +kernel
theorem d_Mod_isLike_51 : decode b_Mod_isLike 51 = .ok (.iload_n 1, 1) := by decide +kernel
theorem d_Mod_isLike_52 : decode b_Mod_isLike 52 = .ok (.iaload, 1) := by decide +kernel
theorem d_Mod_isLike_53 : decode b_Mod_isLike 53 = .ok (.if_icmp .ne 66, 3) := by decide +kernel
theorem d_Mod_isLike_56 : decode b_Mod_isLike 56 = .ok (.aload_n 0, 1) := by decide +kernel
theorem d_Mod_isLike_57 : decode b_Mod_isLike 57 = .ok (.getfield 76, 3) := by decide +kernel
theorem d_Mod_isLike_60 : decode b_Mod_isLike 60 = .ok (.iload_n 1, 1) := by decide +kernel
theorem d_Mod_isLike_61 : decode b_Mod_isLike 61 = .ok (.iaload, 1) := by decide +kernel
theorem d_Mod_isLike_62 : decode b_Mod_isLike 62 = .ok (.aload_n 0, 1) := by decide +kernel
theorem d_Mod_isLike_63 : decode b_Mod_isLike 63 = .ok (.getfield 110, 3) := by decide +kernel
theorem d_Mod_isLike_66 : decode b_Mod_isLike 66 = .ok (.iload_n 1, 1) := by decide +kernel
theorem d_Mod_isLike_67 : decode b_Mod_isLike 67 = .ok (.iaload, 1) := by decide +kernel
theorem d_Mod_isLike_68 : decode b_Mod_isLike 68 = .ok (.if_icmp .ne 51, 3) := by decide +kernel
theorem d_Mod_isLike_71 : decode b_Mod_isLike 71 = .ok (.aload_n 0, 1) := by decide +kernel
theorem d_Mod_isLike_72 : decode b_Mod_isLike 72 = .ok (.getfield 85, 3) := by decide +kernel
theorem d_Mod_isLike_75 : decode b_Mod_isLike 75 = .ok (.iload_n 1, 1) := by decide +kernel
theorem d_Mod_isLike_76 : decode b_Mod_isLike 76 = .ok (.laload, 1) := by decide +kernel
theorem d_Mod_isLike_77 : decode b_Mod_isLike 77 = .ok (.aload_n 0, 1) := by decide +kernel
theorem d_Mod_isLike_78 : decode b_Mod_isLike 78 = .ok (.getfield 113, 3) := by decide +kernel
theorem d_Mod_isLike_81 : decode b_Mod_isLike 81 = .ok (.iload_n 1, 1) := by decide +kernel
theorem d_Mod_isLike_82 : decode b_Mod_isLike 82 = .ok (.laload, 1) := by decide +kernel
theorem d_Mod_isLike_83 : decode b_Mod_isLike 83 = .ok (.lcmp, 1) := by decide +kernel
theorem d_Mod_isLike_84 : decode b_Mod_isLike 84 = .ok (.ifCond .ne 35, 3) := by decide +kernel
theorem d_Mod_isLike_87 : decode b_Mod_isLike 87 = .ok (.iload_n 2, 1) := by decide +kernel
theorem d_Mod_isLike_88 : decode b_Mod_isLike 88 = .ok (.ifCond .eq 27, 3) := by decide +kernel
theorem d_Mod_isLike_91 : decode b_Mod_isLike 91 = .ok (.aload_n 0, 1) := by decide +kernel
theorem d_Mod_isLike_92 : decode b_Mod_isLike 92 = .ok (.getfield 36, 3) := by decide +kernel
theorem d_Mod_isLike_95 : decode b_Mod_isLike 95 = .ok (.bipush 100, 2) := by decide +kernel
theorem d_Mod_isLike_97 : decode b_Mod_isLike 97 = .ok (.aload_n 0, 1) := by decide +kernel
theorem d_Mod_isLike_98 : decode b_Mod_isLike 98 = .ok (.getfield 226, 3) := by decide +kernel
theorem d_Mod_isLike_101 : decode b_Mod_isLike 101 = .ok (.imul, 1) := by decide +kernel
theorem d_Mod_isLike_102 : decode b_Mod_isLike 102 = .ok (.iload_n 1, 1) := by decide +kernel
theorem d_Mod_isLike_103 : decode b_Mod_isLike 103 = .ok (.iadd, 1) := by decide +kernel
theorem d_Mod_isLike_104 : decode b_Mod_isLike 104 = .ok (.laload, 1) := by decide +kernel
theorem d_Mod_isLike_105 : decode b_Mod_isLike 105 = .ok (.aload_n 0, 1) := by decide +kernel
theorem d_Mod_isLike_106 : decode b_Mod_isLike 106 = .ok (.getfield 36, 3) := by decide +kernel
theorem d_Mod_isLike_109 : decode b_Mod_isLike 109 = .ok (.iload_n 1, 1) := by decide +kernel
theorem d_Mod_isLike_110 : decode b_Mod_isLike 110 = .ok (.laload, 1) := by decide +kernel
theorem d_Mod_isLike_111 : decode b_Mod_isLike 111 = .ok (.lcmp, 1) := by decide +kernel
theorem d_Mod_isLike_112 : decode b_Mod_isLike 112 = .ok (.ifCond .ne 7, 3) := by decide +kernel
theorem d_Mod_isLike_115 : decode b_Mod_isLike 115 = .ok (.iconst 1, 1) := by decide +kernel
theorem d_Mod_isLike_116 : decode b_Mod_isLike 116 = .ok (.goto 4, 3) := by decide +kernel
theorem d_Mod_isLike_119 : decode b_Mod_isLike 119 = .ok (.iconst 0, 1) := by decide +kernel
theorem d_Mod_isLike_120 : decode b_Mod_isLike 120 = .ok (.ireturn, 1) := by decide +kernel
theorem d_Mod_compare_0 : decode b_Mod_compare 0 = .ok (.iconst 1, 1) := by decide +kernel
theorem d_Mod_compare_1 : decode b_Mod_compare 1 = .ok (.istore_n 2, 1) := by decide +kernel
theorem d_Mod_compare_2 : decode b_Mod_compare 2 = .ok (.iload_n 2, 1) := by decide +kernel
theorem d_Mod_compare_3 : decode b_Mod_compare 3 = .ok (.iload_n 1, 1) := by decide +kernel
theorem d_Mod_compare_4 : decode b_Mod_compare 4 = .ok (.if_icmp .ge 77, 3) := by decide +kernel
theorem d_Mod_compare_7 : decode b_Mod_compare 7 = .ok (.aload_n 0, 1) := by decide +kernel
theorem d_Mod_compare_8 : decode b_Mod_compare 8 = .ok (.getfield 173, 3) := by decide +kernel
theorem d_Mod_compare_11 : decode b_Mod_compare 11 = .ok (.ifCond .ne 70, 3) := by decide +kernel
theorem d_Mod_compare_14 : decode b_Mod_compare 14 = .ok (.aload_n 0, 1) := by decide +kernel
theorem d_Mod_compare_15 : decode b_Mod_compare 15 = .ok (.iload_n 2, 1) := by decide +kernel
theorem d_Mod_compare_16 : decode b_Mod_compare 16 = .ok (.iconst 1, 1) := by decide +kernel
theorem d_Mod_compare_17 : decode b_Mod_compare 17 = .ok (.invokevirtual 301, 3) := by decide +kernel
theorem d_Mod_compare_20 : decode b_Mod_compare 20 = .ok (.iconst 0, 1) := by decide +kernel
theorem d_Mod_compare_21 : decode b_Mod_compare 21 = .ok (.istore_n 3, 1) := by decide +kernel
theorem d_Mod_compare_22 : decode b_Mod_compare 22 = .ok (.iload_n 3, 1) := by decide +kernel
theorem d_Mod_compare_23 : decode b_Mod_compare 23 = .ok (.aload_n 0, 1) := by decide +kernel
theorem d_Mod_compare_24 : decode b_Mod_compare 24 = .ok (.getfield 258, 3) := by decide +kernel
theorem d_Mod_compare_27 : decode b_Mod_compare 27 = .ok (.if_icmp .ge 25, 3) := by decide +kernel
theorem d_Mod_compare_30 : decode b_Mod_compare 30 = .ok (.iload_n 3, 1) := by decide +kernel
theorem d_Mod_compare_31 : decode b_Mod_compare 31 = .ok (.aload_n 0, 1) := by decide +kernel
theorem d_Mod_compare_32 : decode b_Mod_compare 32 = .ok (.getfield 307, 3) := by decide +kernel
theorem d_Mod_compare_35 : decode b_Mod_compare 35 = .ok (.if_icmp .ge 17, 3) := by decide +kernel
theorem d_Mod_compare_38 : decode b_Mod_compare 38 = .ok (.aload_n 0, 1) := by decide +kernel
theorem d_Mod_compare_39 : decode b_Mod_compare 39 = .ok (.iload_n 3, 1) := by decide +kernel
theorem d_Mod_compare_40 : decode b_Mod_compare 40 = .ok (.invokevirtual 310, 3) := by decide +kernel
theorem d_Mod_compare_43 : decode b_Mod_compare 43 = .ok (.ifCond .eq 9, 3) := by decide +kernel
theorem d_Mod_compare_46 : decode b_Mod_compare 46 = .ok (.iinc 3 1, 3) := by decide +kernel
theorem d_Mod_compare_49 : decode b_Mod_compare 49 = .ok (.goto (-27), 3) := by decide +kernel
theorem d_Mod_compare_52 : decode b_Mod_compare 52 = .ok (.iload_n 3, 1) := by decide +kernel
theorem d_Mod_compare_53 : decode b_Mod_compare 53 = .ok (.aload_n 0, 1) := by decide +kernel
theorem d_Mod_compare_54 : decode b_Mod_compare 54 = .ok (.getfield 258, 3) := by decide +kernel
theorem d_Mod_compare_57 : decode b_Mod_compare 57 = .ok (.if_icmp .lt 11, 3) := by decide +kernel
theorem d_Mod_compare_60 : decode b_Mod_compare 60 = .ok (.iload_n 3, 1) := by decide +kernel
theorem d_Mod_compare_61 : decode b_Mod_compare 61 = .ok (.aload_n 0, 1) := by decide +kernel
theorem d_Mod_compare_62 : decode b_Mod_compare 62 = .ok (.getfield 307, 3) := by decide +kernel
theorem d_Mod_compare_65 : decode b_Mod_compare 65 = .ok (.if_icmp .ge 10, 3) := by decide +kernel
theorem d_Mod_compare_68 : decode b_Mod_compare 68 = .ok (.aload_n 0, 1) := by decide +kernel
theorem d_Mod_compare_69 : decode b_Mod_compare 69 = .ok (.bipush 10, 2) := by decide +kernel
theorem d_Mod_compare_71 : decode b_Mod_compare 71 = .ok (.iload_n 3, 1) := by decide +kernel
theorem d_Mod_compare_72 : decode b_Mod_compare 72 = .ok (.invokevirtual 235, 3) := by decide +kernel
theorem d_Mod_compare_75 : decode b_Mod_compare 75 = .ok (.iinc 2 1, 3) := by decide +kernel
theorem d_Mod_compare_78 : decode b_Mod_compare 78 = .ok (.goto (-76), 3) := by decide +kernel
theorem d_Mod_compare_81 : decode b_Mod_compare 81 = .ok (.return_, 1) := by decide +kernel
theorem d_Mod_layPacked_0 : decode b_Mod_layPacked 0 = .ok (.aload_n 0, 1) := by decide +kernel
theorem d_Mod_layPacked_1 : decode b_Mod_layPacked 1 = .ok (.getfield 73, 3) := by decide +kernel
theorem d_Mod_layPacked_4 : decode b_Mod_layPacked 4 = .ok (.iload_n 1, 1) := by decide +kernel
theorem d_Mod_layPacked_5 : decode b_Mod_layPacked 5 = .ok (.iaload, 1) := by decide +kernel
theorem d_Mod_layPacked_6 : decode b_Mod_layPacked 6 = .ok (.invokestatic 240, 3) := by decide +kernel
theorem d_Mod_layPacked_9 : decode b_Mod_layPacked 9 = .ok (.lstore_n 3, 1) := by decide +kernel
theorem d_Mod_layPacked_10 : decode b_Mod_layPacked 10 = .ok (.lconst 0, 1) := by decide +kernel
theorem d_Mod_layPacked_11 : decode b_Mod_layPacked 11 = .ok (.lstore 5, 2) := by decide +kernel
theorem d_Mod_layPacked_13 : decode b_Mod_layPacked 13 = .ok (.iconst 0, 1) := by decide +kernel
theorem d_Mod_layPacked_14 : decode b_Mod_layPacked 14 = .ok (.istore 7, 2) := by decide +kernel
theorem d_Mod_layPacked_16 : decode b_Mod_layPacked 16 = .ok (.iconst 0, 1) := by decide +kernel
theorem d_Mod_layPacked_17 : decode b_Mod_layPacked 17 = .ok (.istore 8, 2) := by decide +kernel
theorem d_Mod_layPacked_19 : decode b_Mod_layPacked 19 = .ok (.iload 8, 2) := by decide +kernel
theorem d_Mod_layPacked_21 : decode b_Mod_layPacked 21 = .ok (.iload_n 2, 1) := by decide +kernel
theorem d_Mod_layPacked_22 : decode b_Mod_layPacked 22 = .ok (.if_icmp .ge 114, 3) := by decide +kernel
theorem d_Mod_layPacked_25 : decode b_Mod_layPacked 25 = .ok (.aload_n 0, 1) := by decide +kernel
theorem d_Mod_layPacked_26 : decode b_Mod_layPacked 26 = .ok (.getfield 36, 3) := by decide +kernel
theorem d_Mod_layPacked_29 : decode b_Mod_layPacked 29 = .ok (.bipush 100, 2) := by decide +kernel
theorem d_Mod_layPacked_31 : decode b_Mod_layPacked 31 = .ok (.iload 8, 2) := by decide +kernel
theorem d_Mod_layPacked_33 : decode b_Mod_layPacked 33 = .ok (.imul, 1) := by decide +kernel
theorem d_Mod_layPacked_34 : decode b_Mod_layPacked 34 = .ok (.iload_n 1, 1) := by decide +kernel
theorem d_Mod_layPacked_35 : decode b_Mod_layPacked 35 = .ok (.iadd, 1) := by decide +kernel
theorem d_Mod_layPacked_36 : decode b_Mod_layPacked 36 = .ok (.laload, 1) := by decide +kernel
theorem d_Mod_layPacked_37 : decode b_Mod_layPacked 37 = .ok (.lstore 9, 2) := by decide +kernel
theorem d_Mod_layPacked_39 : decode b_Mod_layPacked 39 = .ok (.aload_n 0, 1) := by decide +kernel
theorem d_Mod_layPacked_40 : decode b_Mod_layPacked 40 = .ok (.iload_n 1, 1) := by decide +kernel
theorem d_Mod_layPacked_41 : decode b_Mod_layPacked 41 = .ok (.lload 9, 2) := by decide +kernel
theorem d_Mod_layPacked_43 : decode b_Mod_layPacked 43 = .ok (.invokevirtual 313, 3) := by decide +kernel
theorem d_Mod_layPacked_46 : decode b_Mod_layPacked 46 = .ok (.lstore 11, 2) := by decide +kernel
theorem d_Mod_layPacked_48 : decode b_Mod_layPacked 48 = .ok (.lload 9, 2) := by decide +kernel
theorem d_Mod_layPacked_50 : decode b_Mod_layPacked 50 = .ok (.ldc2_w 137, 3) := by decide +kernel
theorem d_Mod_layPacked_53 : decode b_Mod_layPacked 53 = .ok (.lcmp, 1) := by decide +kernel
theorem d_Mod_layPacked_54 : decode b_Mod_layPacked 54 = .ok (.ifCond .ne 17, 3) := by decide +kernel
theorem d_Mod_layPacked_57 : decode b_Mod_layPacked 57 = .ok (.aload_n 0, 1) := by decide +kernel
theorem d_Mod_layPacked_58 : decode b_Mod_layPacked 58 = .ok (.getfield 67, 3) := by decide +kernel
theorem d_Mod_layPacked_61 : decode b_Mod_layPacked 61 = .ok (.iload_n 1, 1) := by decide +kernel
theorem d_Mod_layPacked_62 : decode b_Mod_layPacked 62 = .ok (.iaload, 1) := by decide +kernel
theorem d_Mod_layPacked_63 : decode b_Mod_layPacked 63 = .ok (.iconst 3, 1) := by decide +kernel
theorem d_Mod_layPacked_64 : decode b_Mod_layPacked 64 = .ok (.if_icmp .eq 7, 3) := by decide +kernel
theorem d_Mod_layPacked_67 : decode b_Mod_layPacked 67 = .ok (.iconst 1, 1) := by decide +kernel
theorem d_Mod_layPacked_68 : decode b_Mod_layPacked 68 = .ok (.goto 4, 3) := by decide +kernel
theorem d_Mod_layPacked_71 : decode b_Mod_layPacked 71 = .ok (.iconst 0, 1) := by decide +kernel
theorem d_Mod_layPacked_72 : decode b_Mod_layPacked 72 = .ok (.istore 13, 2) := by decide +kernel
theorem d_Mod_layPacked_74 : decode b_Mod_layPacked 74 = .ok (.iload 7, 2) := by decide +kernel
theorem d_Mod_layPacked_76 : decode b_Mod_layPacked 76 = .ok (.iload 13, 2) := by decide +kernel
theorem d_Mod_layPacked_78 : decode b_Mod_layPacked 78 = .ok (.ifCond .eq 7, 3) := by decide +kernel
theorem d_Mod_layPacked_81 : decode b_Mod_layPacked 81 = .ok (.iconst 1, 1) := by decide +kernel
theorem d_Mod_layPacked_82 : decode b_Mod_layPacked 82 = .ok (.goto 4, 3) := by decide +kernel
theorem d_Mod_layPacked_85 : decode b_Mod_layPacked 85 = .ok (.iconst 0, 1) := by decide +kernel
theorem d_Mod_layPacked_86 : decode b_Mod_layPacked 86 = .ok (.iadd, 1) := by decide +kernel
theorem d_Mod_layPacked_87 : decode b_Mod_layPacked 87 = .ok (.istore 7, 2) := by decide +kernel
