theorem d_Mod_layPacked_89 : decode b_Mod_layPacked 89 = .ok (.iload 13, 2) := by decide +kernel
theorem d_Mod_layPacked_91 : decode b_Mod_layPacked 91 = .ok (.ifCond .ne 15, 3) := by decide +kernel
theorem d_Mod_layPacked_94 : decode b_Mod_layPacked 94 = .ok (.lload 11, 2) := by decide +kernel
theorem d_Mod_layPacked_96 : decode b_Mod_layPacked 96 = .ok (.lload_n 3, 1) := by decide +kernel
theorem d_Mod_layPacked_97 : decode b_Mod_layPacked 97 = .ok (.lcmp, 1) := by decide +kernel
theorem d_Mod_layPacked_98 : decode b_Mod_layPacked 98 = .ok (.ifCond .ge 8, 3) := by decide +kernel
theorem d_Mod_layPacked_101 : decode b_Mod_layPacked 101 = .ok (.lload 11, 2) := by decide +kernel
theorem d_Mod_layPacked_103 : decode b_Mod_layPacked 103 = .ok (.goto 4, 3) := by decide +kernel
theorem d_Mod_layPacked_106 : decode b_Mod_layPacked 106 = .ok (.lload_n 3, 1) := by decide +kernel
theorem d_Mod_layPacked_107 : decode b_Mod_layPacked 107 = .ok (.lstore_n 3, 1) := by decide +kernel
theorem d_Mod_layPacked_108 : decode b_Mod_layPacked 108 = .ok (.iload 13, 2) := by decide +kernel
theorem d_Mod_layPacked_110 : decode b_Mod_layPacked 110 = .ok (.ifCond .ne 16, 3) := by decide +kernel
theorem d_Mod_layPacked_113 : decode b_Mod_layPacked 113 = .ok (.lload 11, 2) := by decide +kernel
theorem d_Mod_layPacked_115 : decode b_Mod_layPacked 115 = .ok (.lload 5, 2) := by decide +kernel
theorem d_Mod_layPacked_117 : decode b_Mod_layPacked 117 = .ok (.lcmp, 1) := by decide +kernel
theorem d_Mod_layPacked_118 : decode b_Mod_layPacked 118 = .ok (.ifCond .le 8, 3) := by decide +kernel
theorem d_Mod_layPacked_121 : decode b_Mod_layPacked 121 = .ok (.lload 11, 2) := by decide +kernel
theorem d_Mod_layPacked_123 : decode b_Mod_layPacked 123 = .ok (.goto 5, 3) := by decide +kernel
theorem d_Mod_layPacked_126 : decode b_Mod_layPacked 126 = .ok (.lload 5, 2) := by decide +kernel
theorem d_Mod_layPacked_128 : decode b_Mod_layPacked 128 = .ok (.lstore 5, 2) := by decide +kernel
theorem d_Mod_layPacked_130 : decode b_Mod_layPacked 130 = .ok (.iinc 8 1, 3) := by decide +kernel
theorem d_Mod_layPacked_133 : decode b_Mod_layPacked 133 = .ok (.goto (-114), 3) := by decide +kernel
theorem d_Mod_layPacked_136 : decode b_Mod_layPacked 136 = .ok (.aload_n 0, 1) := by decide +kernel
theorem d_Mod_layPacked_137 : decode b_Mod_layPacked 137 = .ok (.lload_n 3, 1) := by decide +kernel
theorem d_Mod_layPacked_138 : decode b_Mod_layPacked 138 = .ok (.aload_n 0, 1) := by decide +kernel
theorem d_Mod_layPacked_139 : decode b_Mod_layPacked 139 = .ok (.getfield 73, 3) := by decide +kernel
theorem d_Mod_layPacked_142 : decode b_Mod_layPacked 142 = .ok (.iload_n 1, 1) := by decide +kernel
theorem d_Mod_layPacked_143 : decode b_Mod_layPacked 143 = .ok (.iaload, 1) := by decide +kernel
theorem d_Mod_layPacked_144 : decode b_Mod_layPacked 144 = .ok (.invokevirtual 316, 3) := by decide +kernel
theorem d_Mod_layPacked_147 : decode b_Mod_layPacked 147 = .ok (.iconst 0, 1) := by decide +kernel
theorem d_Mod_layPacked_148 : decode b_Mod_layPacked 148 = .ok (.istore 8, 2) := by decide +kernel
theorem d_Mod_layPacked_150 : decode b_Mod_layPacked 150 = .ok (.iload 7, 2) := by decide +kernel
theorem d_Mod_layPacked_152 : decode b_Mod_layPacked 152 = .ok (.iload_n 2, 1) := by decide +kernel
theorem d_Mod_layPacked_153 : decode b_Mod_layPacked 153 = .ok (.if_icmp .eq 15, 3) := by decide +kernel
theorem d_Mod_layPacked_156 : decode b_Mod_layPacked 156 = .ok (.iload 7, 2) := by decide +kernel
theorem d_Mod_layPacked_158 : decode b_Mod_layPacked 158 = .ok (.ifCond .ne 14, 3) := by decide +kernel
theorem d_Mod_layPacked_161 : decode b_Mod_layPacked 161 = .ok (.lload_n 3, 1) := by decide +kernel
theorem d_Mod_layPacked_162 : decode b_Mod_layPacked 162 = .ok (.lload 5, 2) := by decide +kernel
theorem d_Mod_layPacked_164 : decode b_Mod_layPacked 164 = .ok (.lcmp, 1) := by decide +kernel
theorem d_Mod_layPacked_165 : decode b_Mod_layPacked 165 = .ok (.ifCond .ne 7, 3) := by decide +kernel
theorem d_Mod_layPacked_168 : decode b_Mod_layPacked 168 = .ok (.iconst 1, 1) := by decide +kernel
theorem d_Mod_layPacked_169 : decode b_Mod_layPacked 169 = .ok (.goto 4, 3) := by decide +kernel
theorem d_Mod_layPacked_172 : decode b_Mod_layPacked 172 = .ok (.iconst 0, 1) := by decide +kernel
theorem d_Mod_layPacked_173 : decode b_Mod_layPacked 173 = .ok (.istore 9, 2) := by decide +kernel
theorem d_Mod_layPacked_175 : decode b_Mod_layPacked 175 = .ok (.iload 9, 2) := by decide +kernel
theorem d_Mod_layPacked_177 : decode b_Mod_layPacked 177 = .ok (.ifCond .ne 25, 3) := by decide +kernel
theorem d_Mod_layPacked_180 : decode b_Mod_layPacked 180 = .ok (.iconst 1, 1) := by decide +kernel
theorem d_Mod_layPacked_181 : decode b_Mod_layPacked 181 = .ok (.istore 8, 2) := by decide +kernel
theorem d_Mod_layPacked_183 : decode b_Mod_layPacked 183 = .ok (.iload 8, 2) := by decide +kernel
theorem d_Mod_layPacked_185 : decode b_Mod_layPacked 185 = .ok (.invokestatic 240, 3) := by decide +kernel
theorem d_Mod_layPacked_188 : decode b_Mod_layPacked 188 = .ok (.lload 5, 2) := by decide +kernel
theorem d_Mod_layPacked_190 : decode b_Mod_layPacked 190 = .ok (.lload_n 3, 1) := by decide +kernel
theorem d_Mod_layPacked_191 : decode b_Mod_layPacked 191 = .ok (.lsub, 1) := by decide +kernel
theorem d_Mod_layPacked_192 : decode b_Mod_layPacked 192 = .ok (.lcmp, 1) := by decide +kernel
theorem d_Mod_layPacked_193 : decode b_Mod_layPacked 193 = .ok (.ifCond .gt 9, 3) := by decide +kernel
theorem d_Mod_layPacked_196 : decode b_Mod_layPacked 196 = .ok (.iinc 8 1, 3) := by decide +kernel
theorem d_Mod_layPacked_199 : decode b_Mod_layPacked 199 = .ok (.goto (-16), 3) := by decide +kernel
theorem d_Mod_layPacked_202 : decode b_Mod_layPacked 202 = .ok (.aload_n 0, 1) := by decide +kernel
theorem d_Mod_layPacked_203 : decode b_Mod_layPacked 203 = .ok (.iload 8, 2) := by decide +kernel
theorem d_Mod_layPacked_205 : decode b_Mod_layPacked 205 = .ok (.i2l, 1) := by decide +kernel
theorem d_Mod_layPacked_206 : decode b_Mod_layPacked 206 = .ok (.bipush 6, 2) := by decide +kernel
theorem d_Mod_layPacked_208 : decode b_Mod_layPacked 208 = .ok (.invokevirtual 316, 3) := by decide +kernel
theorem d_Mod_layPacked_211 : decode b_Mod_layPacked 211 = .ok (.iconst 0, 1) := by decide +kernel
theorem d_Mod_layPacked_212 : decode b_Mod_layPacked 212 = .ok (.istore 10, 2) := by decide +kernel
theorem d_Mod_layPacked_214 : decode b_Mod_layPacked 214 = .ok (.iload 10, 2) := by decide +kernel
theorem d_Mod_layPacked_216 : decode b_Mod_layPacked 216 = .ok (.iload_n 2, 1) := by decide +kernel
theorem d_Mod_layPacked_217 : decode b_Mod_layPacked 217 = .ok (.if_icmp .ge 66, 3) := by decide +kernel
theorem d_Mod_layPacked_220 : decode b_Mod_layPacked 220 = .ok (.iload 8, 2) := by decide +kernel
theorem d_Mod_layPacked_222 : decode b_Mod_layPacked 222 = .ok (.ifCond .le 61, 3) := by decide +kernel
theorem d_Mod_layPacked_225 : decode b_Mod_layPacked 225 = .ok (.aload_n 0, 1) := by decide +kernel
theorem d_Mod_layPacked_226 : decode b_Mod_layPacked 226 = .ok (.aload_n 0, 1) := by decide +kernel
theorem d_Mod_layPacked_227 : decode b_Mod_layPacked 227 = .ok (.getfield 36, 3) := by decide +kernel
theorem d_Mod_layPacked_230 : decode b_Mod_layPacked 230 = .ok (.bipush 100, 2) := by decide +kernel
theorem d_Mod_layPacked_232 : decode b_Mod_layPacked 232 = .ok (.iload 10, 2) := by decide +kernel
theorem d_Mod_layPacked_234 : decode b_Mod_layPacked 234 = .ok (.imul, 1) := by decide +kernel
theorem d_Mod_layPacked_235 : decode b_Mod_layPacked 235 = .ok (.iload_n 1, 1) := by decide +kernel
theorem d_Mod_layPacked_236 : decode b_Mod_layPacked 236 = .ok (.iadd, 1) := by decide +kernel
theorem d_Mod_layPacked_237 : decode b_Mod_layPacked 237 = .ok (.laload, 1) := by decide +kernel
theorem d_Mod_layPacked_238 : decode b_Mod_layPacked 238 = .ok (.ldc2_w 137, 3) := by decide +kernel
theorem d_Mod_layPacked_241 : decode b_Mod_layPacked 241 = .ok (.lcmp, 1) := by decide +kernel
theorem d_Mod_layPacked_242 : decode b_Mod_layPacked 242 = .ok (.ifCond .ne 11, 3) := by decide +kernel
theorem d_Mod_layPacked_245 : decode b_Mod_layPacked 245 = .ok (.iload 8, 2) := by decide +kernel
theorem d_Mod_layPacked_247 : decode b_Mod_layPacked 247 = .ok (.invokestatic 240, 3) := by decide +kernel
theorem d_Mod_layPacked_250 : decode b_Mod_layPacked 250 = .ok (.goto 22, 3) := by decide +kernel
theorem d_Mod_layPacked_253 : decode b_Mod_layPacked 253 = .ok (.aload_n 0, 1) := by decide +kernel
theorem d_Mod_layPacked_254 : decode b_Mod_layPacked 254 = .ok (.iload_n 1, 1) := by decide +kernel
theorem d_Mod_layPacked_255 : decode b_Mod_layPacked 255 = .ok (.aload_n 0, 1) := by decide +kernel
theorem d_Mod_layPacked_256 : decode b_Mod_layPacked 256 = .ok (.getfield 36, 3) := by decide +kernel
theorem d_Mod_layPacked_259 : decode b_Mod_layPacked 259 = .ok (.bipush 100, 2) := by decide +kernel
theorem d_Mod_layPacked_261 : decode b_Mod_layPacked 261 = .ok (.iload 10, 2) := by decide +kernel
theorem d_Mod_layPacked_263 : decode b_Mod_layPacked 263 = .ok (.imul, 1) := by decide +kernel
theorem d_Mod_layPacked_264 : decode b_Mod_layPacked 264 = .ok (.iload_n 1, 1) := by decide +kernel
theorem d_Mod_layPacked_265 : decode b_Mod_layPacked 265 = .ok (.iadd, 1) := by decide +kernel
theorem d_Mod_layPacked_266 : decode b_Mod_layPacked 266 = .ok (.laload, 1) := by decide +kernel
theorem d_Mod_layPacked_267 : decode b_Mod_layPacked 267 = .ok (.invokevirtual 313, 3) := by decide +kernel
theorem d_Mod_layPacked_270 : decode b_Mod_layPacked 270 = .ok (.lload_n 3, 1) := by decide +kernel
theorem d_Mod_layPacked_271 : decode b_Mod_layPacked 271 = .ok (.lsub, 1) := by decide +kernel
theorem d_Mod_layPacked_272 : decode b_Mod_layPacked 272 = .ok (.iload 8, 2) := by decide +kernel
theorem d_Mod_layPacked_274 : decode b_Mod_layPacked 274 = .ok (.invokevirtual 316, 3) := by decide +kernel
theorem d_Mod_layPacked_277 : decode b_Mod_layPacked 277 = .ok (.iinc 10 1, 3) := by decide +kernel
theorem d_Mod_layPacked_280 : decode b_Mod_layPacked 280 = .ok (.goto (-66), 3) := by decide +kernel
theorem d_Mod_layPacked_283 : decode b_Mod_layPacked 283 = .ok (.return_, 1) := by decide +kernel
theorem d_Mod_byteAt_0 : decode b_Mod_byteAt 0 = .ok (.aload_n 0, 1) := by decide +kernel
theorem d_Mod_byteAt_1 : decode b_Mod_byteAt 1 = .ok (.iconst 0, 1) := by decide +kernel
theorem d_Mod_byteAt_2 : decode b_Mod_byteAt 2 = .ok (.putfield 139, 3) := by decide +kernel
theorem d_Mod_byteAt_5 : decode b_Mod_byteAt 5 = .ok (.aload_n 0, 1) := by decide +kernel
theorem d_Mod_byteAt_6 : decode b_Mod_byteAt 6 = .ok (.getfield 338, 3) := by decide +kernel
theorem d_Mod_byteAt_9 : decode b_Mod_byteAt 9 = .ok (.ifCond .eq 23, 3) := by decide +kernel
theorem d_Mod_byteAt_12 : decode b_Mod_byteAt 12 = .ok (.iload_n 1, 1) := by decide +kernel
theorem d_Mod_byteAt_13 : decode b_Mod_byteAt 13 = .ok (.ifCond .lt 19, 3) := by decide +kernel
theorem d_Mod_byteAt_16 : decode b_Mod_byteAt 16 = .ok (.iload_n 1, 1) := by decide +kernel
theorem d_Mod_byteAt_17 : decode b_Mod_byteAt 17 = .ok (.iconst 4, 1) := by decide +kernel
theorem d_Mod_byteAt_18 : decode b_Mod_byteAt 18 = .ok (.aload_n 0, 1) := by decide +kernel
theorem d_Mod_byteAt_19 : decode b_Mod_byteAt 19 = .ok (.getfield 329, 3) := by decide +kernel
theorem d_Mod_byteAt_22 : decode b_Mod_byteAt 22 = .ok (.bipush 7, 2) := by decide +kernel
theorem d_Mod_byteAt_24 : decode b_Mod_byteAt 24 = .ok (.iadd, 1) := by decide +kernel
theorem d_Mod_byteAt_25 : decode b_Mod_byteAt 25 = .ok (.bipush 8, 2) := by decide +kernel
theorem d_Mod_byteAt_27 : decode b_Mod_byteAt 27 = .ok (.idiv, 1) := by decide +kernel
theorem d_Mod_byteAt_28 : decode b_Mod_byteAt 28 = .ok (.iadd, 1) := by decide +kernel
theorem d_Mod_byteAt_29 : decode b_Mod_byteAt 29 = .ok (.if_icmp .lt 5, 3) := by decide +kernel
theorem d_Mod_byteAt_32 : decode b_Mod_byteAt 32 = .ok (.iconst (-1), 1) := by decide +kernel
theorem d_Mod_byteAt_33 : decode b_Mod_byteAt 33 = .ok (.ireturn, 1) := by decide +kernel
theorem d_Mod_byteAt_34 : decode b_Mod_byteAt 34 = .ok (.iload_n 1, 1) := by decide +kernel
theorem d_Mod_byteAt_35 : decode b_Mod_byteAt 35 = .ok (.iconst 4, 1) := by decide +kernel
theorem d_Mod_byteAt_36 : decode b_Mod_byteAt 36 = .ok (.if_icmp .ge 50, 3) := by decide +kernel
theorem d_Mod_byteAt_39 : decode b_Mod_byteAt 39 = .ok (.iload_n 1, 1) := by decide +kernel
theorem d_Mod_byteAt_40 : decode b_Mod_byteAt 40 = .ok (.ifCond .ne 10, 3) := by decide +kernel
theorem d_Mod_byteAt_43 : decode b_Mod_byteAt 43 = .ok (.aload_n 0, 1) := by decide +kernel
theorem d_Mod_byteAt_44 : decode b_Mod_byteAt 44 = .ok (.getfield 332, 3) := by decide +kernel
theorem d_Mod_byteAt_47 : decode b_Mod_byteAt 47 = .ok (.goto 38, 3) := by decide +kernel
theorem d_Mod_byteAt_50 : decode b_Mod_byteAt 50 = .ok (.iload_n 1, 1) := by decide +kernel
theorem d_Mod_byteAt_51 : decode b_Mod_byteAt 51 = .ok (.iconst 1, 1) := by decide +kernel
theorem d_Mod_byteAt_52 : decode b_Mod_byteAt 52 = .ok (.if_icmp .ne 10, 3) := by decide +kernel
theorem d_Mod_byteAt_55 : decode b_Mod_byteAt 55 = .ok (.aload_n 0, 1) := by decide +kernel
theorem d_Mod_byteAt_56 : decode b_Mod_byteAt 56 = .ok (.getfield 335, 3) := by decide +kernel
theorem d_Mod_byteAt_59 : decode b_Mod_byteAt 59 = .ok (.goto 26, 3) := by decide +kernel
theorem d_Mod_byteAt_62 : decode b_Mod_byteAt 62 = .ok (.iload_n 1, 1) := by decide +kernel
theorem d_Mod_byteAt_63 : decode b_Mod_byteAt 63 = .ok (.iconst 2, 1) := by decide +kernel
theorem d_Mod_byteAt_64 : decode b_Mod_byteAt 64 = .ok (.if_icmp .ne 13, 3) := by decide +kernel
theorem d_Mod_byteAt_67 : decode b_Mod_byteAt 67 = .ok (.aload_n 0, 1) := by decide +kernel
theorem d_Mod_byteAt_68 : decode b_Mod_byteAt 68 = .ok (.getfield 329, 3) := by decide +kernel
theorem d_Mod_byteAt_71 : decode b_Mod_byteAt 71 = .ok (.bipush 8, 2) := by decide +kernel
theorem d_Mod_byteAt_73 : decode b_Mod_byteAt 73 = .ok (.ishr, 1) := by decide +kernel
theorem d_Mod_byteAt_74 : decode b_Mod_byteAt 74 = .ok (.goto 11, 3) := by decide +kernel
theorem d_Mod_byteAt_77 : decode b_Mod_byteAt 77 = .ok (.aload_n 0, 1) := by decide +kernel
theorem d_Mod_byteAt_78 : decode b_Mod_byteAt 78 = .ok (.getfield 329, 3) := by decide +kernel
theorem d_Mod_byteAt_81 : decode b_Mod_byteAt 81 = .ok (.sipush 255, 3) := by decide +kernel
theorem d_Mod_byteAt_84 : decode b_Mod_byteAt 84 = .ok (.iand, 1) := by decide +kernel
theorem d_Mod_byteAt_85 : decode b_Mod_byteAt 85 = .ok (.ireturn, 1) := by decide +kernel
theorem d_Mod_byteAt_86 : decode b_Mod_byteAt 86 = .ok (.iconst 0, 1) := by decide +kernel
theorem d_Mod_byteAt_87 : decode b_Mod_byteAt 87 = .ok (.istore_n 2, 1) := by decide +kernel
theorem d_Mod_byteAt_88 : decode b_Mod_byteAt 88 = .ok (.bipush 8, 2) := by decide +kernel
theorem d_Mod_byteAt_90 : decode b_Mod_byteAt 90 = .ok (.iload_n 1, 1) := by decide +kernel
theorem d_Mod_byteAt_91 : decode b_Mod_byteAt 91 = .ok (.iconst 4, 1) := by decide +kernel
theorem d_Mod_byteAt_92 : decode b_Mod_byteAt 92 = .ok (.isub, 1) := by decide +kernel
theorem d_Mod_byteAt_93 : decode b_Mod_byteAt 93 = .ok (.imul, 1) := by decide +kernel
theorem d_Mod_byteAt_94 : decode b_Mod_byteAt 94 = .ok (.istore_n 3, 1) := by decide +kernel
theorem d_Mod_byteAt_95 : decode b_Mod_byteAt 95 = .ok (.iload_n 3, 1) := by decide +kernel
theorem d_Mod_byteAt_96 : decode b_Mod_byteAt 96 = .ok (.bipush 8, 2) := by decide +kernel
theorem d_Mod_byteAt_98 : decode b_Mod_byteAt 98 = .ok (.iload_n 1, 1) := by decide +kernel
theorem d_Mod_byteAt_99 : decode b_Mod_byteAt 99 = .ok (.iconst 3, 1) := by decide +kernel
theorem d_Mod_byteAt_100 : decode b_Mod_byteAt 100 = .ok (.isub, 1) := by decide +kernel
theorem d_Mod_byteAt_101 : decode b_Mod_byteAt 101 = .ok (.imul, 1) := by decide +kernel
theorem d_Mod_byteAt_102 : decode b_Mod_byteAt 102 = .ok (.if_icmp .ge 36, 3) := by decide +kernel
theorem d_Mod_byteAt_105 : decode b_Mod_byteAt 105 = .ok (.iconst 2, 1) := by decide +kernel
theorem d_Mod_byteAt_106 : decode b_Mod_byteAt 106 = .ok (.iload_n 2, 1) := by decide +kernel
theorem d_Mod_byteAt_107 : decode b_Mod_byteAt 107 = .ok (.imul, 1) := by decide +kernel
theorem d_Mod_byteAt_108 : decode b_Mod_byteAt 108 = .ok (.iload_n 3, 1) := by decide +kernel
theorem d_Mod_byteAt_109 : decode b_Mod_byteAt 109 = .ok (.aload_n 0, 1) := by decide +kernel
theorem d_Mod_byteAt_110 : decode b_Mod_byteAt 110 = .ok (.getfield 329, 3) := by decide +kernel
theorem d_Mod_byteAt_113 : decode b_Mod_byteAt 113 = .ok (.if_icmp .ge 16, 3) := by decide +kernel
theorem d_Mod_byteAt_116 : decode b_Mod_byteAt 116 = .ok (.aload_n 0, 1) := by decide +kernel
theorem d_Mod_byteAt_117 : decode b_Mod_byteAt 117 = .ok (.getfield 98, 3) := by decide +kernel
theorem d_Mod_byteAt_120 : decode b_Mod_byteAt 120 = .ok (.iload_n 3, 1) := by decide +kernel
theorem d_Mod_byteAt_121 : decode b_Mod_byteAt 121 = .ok (.baload, 1) := by decide +kernel
theorem d_Mod_byteAt_122 : decode b_Mod_byteAt 122 = .ok (.ifCond .eq 7, 3) := by decide +kernel
theorem d_Mod_byteAt_125 : decode b_Mod_byteAt 125 = .ok (.iconst 1, 1) := by decide +kernel
theorem d_Mod_byteAt_126 : decode b_Mod_byteAt 126 = .ok (.goto 4, 3) := by decide +kernel
theorem d_Mod_byteAt_129 : decode b_Mod_byteAt 129 = .ok (.iconst 0, 1) := by decide +kernel
theorem d_Mod_byteAt_130 : decode b_Mod_byteAt 130 = .ok (.iadd, 1) := by decide +kernel
theorem d_Mod_byteAt_131 : decode b_Mod_byteAt 131 = .ok (.istore_n 2, 1) := by decide +kernel
theorem d_Mod_byteAt_132 : decode b_Mod_byteAt 132 = .ok (.iinc 3 1, 3) := by decide +kernel
theorem d_Mod_byteAt_135 : decode b_Mod_byteAt 135 = .ok (.goto (-40), 3) := by decide +kernel
theorem d_Mod_byteAt_138 : decode b_Mod_byteAt 138 = .ok (.iload_n 2, 1) := by decide +kernel
theorem d_Mod_byteAt_139 : decode b_Mod_byteAt 139 = .ok (.ireturn, 1) := by decide +kernel
theorem d_Mod_feed_0 : decode b_Mod_feed 0 = .ok (.aload_n 0, 1) := by decide +kernel
theorem d_Mod_feed_1 : decode b_Mod_feed 1 = .ok (.iconst 0, 1) := by decide +kernel
theorem d_Mod_feed_2 : decode b_Mod_feed 2 = .ok (.putfield 139, 3) := by decide +kernel
theorem d_Mod_feed_5 : decode b_Mod_feed 5 = .ok (.iload_n 2, 1) := by decide +kernel
theorem d_Mod_feed_6 : decode b_Mod_feed 6 = .ok (.iconst 1, 1) := by decide +kernel
theorem d_Mod_feed_7 : decode b_Mod_feed 7 = .ok (.if_icmp .lt 20, 3) := by decide +kernel
theorem d_Mod_feed_10 : decode b_Mod_feed 10 = .ok (.iload_n 2, 1) := by decide +kernel
theorem d_Mod_feed_11 : decode b_Mod_feed 11 = .ok (.iconst 4, 1) := by decide +kernel
theorem d_Mod_feed_12 : decode b_Mod_feed 12 = .ok (.if_icmp .gt 15, 3) := by decide +kernel
theorem d_Mod_feed_15 : decode b_Mod_feed 15 = .ok (.aload_n 0, 1) := by decide +kernel
theorem d_Mod_feed_16 : decode b_Mod_feed 16 = .ok (.getfield 342, 3) := by decide +kernel
theorem d_Mod_feed_19 : decode b_Mod_feed 19 = .ok (.iload_n 2, 1) := by decide +kernel
theorem d_Mod_feed_20 : decode b_Mod_feed 20 = .ok (.iadd, 1) := by decide +kernel
theorem d_Mod_feed_21 : decode b_Mod_feed 21 = .ok (.sipush 1000, 3) := by decide +kernel
theorem d_Mod_feed_24 : decode b_Mod_feed 24 = .ok (.if_icmp .le 5, 3) := by decide +kernel
theorem d_Mod_feed_27 : decode b_Mod_feed 27 = .ok (.iconst (-1), 1) := by decide +kernel
theorem d_Mod_feed_28 : decode b_Mod_feed 28 = .ok (.ireturn, 1) := by decide +kernel
theorem d_Mod_feed_29 : decode b_Mod_feed 29 = .ok (.iload_n 2, 1) := by decide +kernel
theorem d_Mod_feed_30 : decode b_Mod_feed 30 = .ok (.iconst 1, 1) := by decide +kernel
theorem d_Mod_feed_31 : decode b_Mod_feed 31 = .ok (.isub, 1) := by decide +kernel
theorem d_Mod_feed_32 : decode b_Mod_feed 32 = .ok (.istore_n 3, 1) := by decide +kernel
theorem d_Mod_feed_33 : decode b_Mod_feed 33 = .ok (.iload_n 3, 1) := by decide +kernel
theorem d_Mod_feed_34 : decode b_Mod_feed 34 = .ok (.ifCond .lt 38, 3) := by decide +kernel
theorem d_Mod_feed_37 : decode b_Mod_feed 37 = .ok (.aload_n 0, 1) := by decide +kernel
theorem d_Mod_feed_38 : decode b_Mod_feed 38 = .ok (.getfield 101, 3) := by decide +kernel
theorem d_Mod_feed_41 : decode b_Mod_feed 41 = .ok (.aload_n 0, 1) := by decide +kernel
theorem d_Mod_feed_42 : decode b_Mod_feed 42 = .ok (.getfield 342, 3) := by decide +kernel
theorem d_Mod_feed_45 : decode b_Mod_feed 45 = .ok (.iload_n 1, 1) := by decide +kernel
theorem d_Mod_feed_46 : decode b_Mod_feed 46 = .ok (.bipush 8, 2) := by decide +kernel
theorem d_Mod_feed_48 : decode b_Mod_feed 48 = .ok (.iload_n 3, 1) := by decide +kernel
theorem d_Mod_feed_49 : decode b_Mod_feed 49 = .ok (.imul, 1) := by decide +kernel
theorem d_Mod_feed_50 : decode b_Mod_feed 50 = .ok (.ishr, 1) := by decide +kernel
theorem d_Mod_feed_51 : decode b_Mod_feed 51 = .ok (.sipush 255, 3) := by decide +kernel
theorem d_Mod_feed_54 : decode b_Mod_feed 54 = .ok (.iand, 1) := by decide +kernel
theorem d_Mod_feed_55 : decode b_Mod_feed 55 = .ok (.iastore, 1) := by decide +kernel
theorem d_Mod_feed_56 : decode b_Mod_feed 56 = .ok (.aload_n 0, 1) := by decide +kernel
theorem d_Mod_feed_57 : decode b_Mod_feed 57 = .ok (.dup, 1) := by decide +kernel
theorem d_Mod_feed_58 : decode b_Mod_feed 58 = .ok (.getfield 342, 3) := by decide +kernel
theorem d_Mod_feed_61 : decode b_Mod_feed 61 = .ok (.iconst 1, 1) := by decide +kernel
theorem d_Mod_feed_62 : decode b_Mod_feed 62 = .ok (.iadd, 1) := by decide +kernel
theorem d_Mod_feed_63 : decode b_Mod_feed 63 = .ok (.putfield 342, 3) := by decide +kernel
theorem d_Mod_feed_66 : decode b_Mod_feed 66 = .ok (.iinc 3 (-1), 3) := by decide +kernel
theorem d_Mod_feed_69 : decode b_Mod_feed 69 = .ok (.goto (-36), 3) := by decide +kernel
theorem d_Mod_feed_72 : decode b_Mod_feed 72 = .ok (.aload_n 0, 1) := by decide +kernel
theorem d_Mod_feed_73 : decode b_Mod_feed 73 = .ok (.getfield 342, 3) := by decide +kernel
theorem d_Mod_feed_76 : decode b_Mod_feed 76 = .ok (.ireturn, 1) := by decide +kernel
theorem d_Mod_unpack_0 : decode b_Mod_unpack 0 = .ok (.iload_n 1, 1) := by decide +kernel
theorem d_Mod_unpack_1 : decode b_Mod_unpack 1 = .ok (.iconst 4, 1) := by decide +kernel
theorem d_Mod_unpack_2 : decode b_Mod_unpack 2 = .ok (.if_icmp .lt 46, 3) := by decide +kernel
theorem d_Mod_unpack_5 : decode b_Mod_unpack 5 = .ok (.aload_n 0, 1) := by decide +kernel
theorem d_Mod_unpack_6 : decode b_Mod_unpack 6 = .ok (.getfield 101, 3) := by decide +kernel
theorem d_Mod_unpack_9 : decode b_Mod_unpack 9 = .ok (.iconst 0, 1) := by decide +kernel
theorem d_Mod_unpack_10 : decode b_Mod_unpack 10 = .ok (.iaload, 1) := by decide +kernel
theorem d_Mod_unpack_11 : decode b_Mod_unpack 11 = .ok (.bipush 66, 2) := by decide +kernel
theorem d_Mod_unpack_13 : decode b_Mod_unpack 13 = .ok (.if_icmp .eq 14, 3) := by decide +kernel
theorem d_Mod_unpack_16 : decode b_Mod_unpack 16 = .ok (.aload_n 0, 1) := by decide +kernel
theorem d_Mod_unpack_17 : decode b_Mod_unpack 17 = .ok (.getfield 101, 3) := by decide +kernel
theorem d_Mod_unpack_20 : decode b_Mod_unpack 20 = .ok (.iconst 0, 1) := by decide +kernel
theorem d_Mod_unpack_21 : decode b_Mod_unpack 21 = .ok (.iaload, 1) := by decide +kernel
theorem d_Mod_unpack_22 : decode b_Mod_unpack 22 = .ok (.bipush 67, 2) := by decide +kernel
theorem d_Mod_unpack_24 : decode b_Mod_unpack 24 = .ok (.if_icmp .ne 24, 3) := by decide +kernel
theorem d_Mod_unpack_27 : decode b_Mod_unpack 27 = .ok (.aload_n 0, 1) := by decide +kernel
theorem d_Mod_unpack_28 : decode b_Mod_unpack 28 = .ok (.getfield 101, 3) := by decide +kernel
theorem d_Mod_unpack_31 : decode b_Mod_unpack 31 = .ok (.iconst 1, 1) := by decide +kernel
theorem d_Mod_unpack_32 : decode b_Mod_unpack 32 = .ok (.iaload, 1) := by decide +kernel
theorem d_Mod_unpack_33 : decode b_Mod_unpack 33 = .ok (.iconst 1, 1) := by decide +kernel
theorem d_Mod_unpack_34 : decode b_Mod_unpack 34 = .ok (.if_icmp .lt 14, 3) := by decide +kernel
theorem d_Mod_unpack_37 : decode b_Mod_unpack 37 = .ok (.aload_n 0, 1) := by decide +kernel
theorem d_Mod_unpack_38 : decode b_Mod_unpack 38 = .ok (.getfield 101, 3) := by decide +kernel
theorem d_Mod_unpack_41 : decode b_Mod_unpack 41 = .ok (.iconst 1, 1) := by decide +kernel
theorem d_Mod_unpack_42 : decode b_Mod_unpack 42 = .ok (.iaload, 1) := by decide +kernel
theorem d_Mod_unpack_43 : decode b_Mod_unpack 43 = .ok (.bipush 8, 2) := by decide +kernel
theorem d_Mod_unpack_45 : decode b_Mod_unpack 45 = .ok (.if_icmp .le 5, 3) := by decide +kernel
theorem d_Mod_unpack_48 : decode b_Mod_unpack 48 = .ok (.iconst 0, 1) := by decide +kernel
theorem d_Mod_unpack_49 : decode b_Mod_unpack 49 = .ok (.ireturn, 1) := by decide +kernel
theorem d_Mod_unpack_50 : decode b_Mod_unpack 50 = .ok (.aload_n 0, 1) := by decide +kernel
theorem d_Mod_unpack_51 : decode b_Mod_unpack 51 = .ok (.sipush 256, 3) := by decide +kernel
theorem d_Mod_unpack_54 : decode b_Mod_unpack 54 = .ok (.aload_n 0, 1) := by decide +kernel
theorem d_Mod_unpack_55 : decode b_Mod_unpack 55 = .ok (.getfield 101, 3) := by decide +kernel
theorem d_Mod_unpack_58 : decode b_Mod_unpack 58 = .ok (.iconst 2, 1) := by decide +kernel
theorem d_Mod_unpack_59 : decode b_Mod_unpack 59 = .ok (.iaload, 1) := by decide +kernel
theorem d_Mod_unpack_60 : decode b_Mod_unpack 60 = .ok (.imul, 1) := by decide +kernel
theorem d_Mod_unpack_61 : decode b_Mod_unpack 61 = .ok (.aload_n 0, 1) := by decide +kernel
theorem d_Mod_unpack_62 : decode b_Mod_unpack 62 = .ok (.getfield 101, 3) := by decide +kernel
theorem d_Mod_unpack_65 : decode b_Mod_unpack 65 = .ok (.iconst 3, 1) := by decide +kernel
theorem d_Mod_unpack_66 : decode b_Mod_unpack 66 = .ok (.iaload, 1) := by decide +kernel
theorem d_Mod_unpack_67 : decode b_Mod_unpack 67 = .ok (.iadd, 1) := by decide +kernel
theorem d_Mod_unpack_68 : decode b_Mod_unpack 68 = .ok (.putfield 232, 3) := by decide +kernel
theorem d_Mod_unpack_71 : decode b_Mod_unpack 71 = .ok (.iload_n 1, 1) := by decide +kernel
theorem d_Mod_unpack_72 : decode b_Mod_unpack 72 = .ok (.iconst 4, 1) := by decide +kernel
theorem d_Mod_unpack_73 : decode b_Mod_unpack 73 = .ok (.aload_n 0, 1) := by decide +kernel
theorem d_Mod_unpack_74 : decode b_Mod_unpack 74 = .ok (.getfield 232, 3) := by decide +kernel
theorem d_Mod_unpack_77 : decode b_Mod_unpack 77 = .ok (.bipush 7, 2) := by decide +kernel
theorem d_Mod_unpack_79 : decode b_Mod_unpack 79 = .ok (.iadd, 1) := by decide +kernel
theorem d_Mod_unpack_80 : decode b_Mod_unpack 80 = .ok (.bipush 8, 2) := by decide +kernel
theorem d_Mod_unpack_82 : decode b_Mod_unpack 82 = .ok (.idiv, 1) := by decide +kernel
theorem d_Mod_unpack_83 : decode b_Mod_unpack 83 = .ok (.iadd, 1) := by decide +kernel
theorem d_Mod_unpack_84 : decode b_Mod_unpack 84 = .ok (.if_icmp .eq 5, 3) := by decide +kernel
theorem d_Mod_unpack_87 : decode b_Mod_unpack 87 = .ok (.iconst 0, 1) := by decide +kernel
theorem d_Mod_unpack_88 : decode b_Mod_unpack 88 = .ok (.ireturn, 1) := by decide +kernel
theorem d_Mod_unpack_89 : decode b_Mod_unpack 89 = .ok (.iconst 1, 1) := by decide +kernel
theorem d_Mod_unpack_90 : decode b_Mod_unpack 90 = .ok (.istore_n 2, 1) := by decide +kernel
theorem d_Mod_unpack_91 : decode b_Mod_unpack 91 = .ok (.iconst 0, 1) := by decide +kernel
theorem d_Mod_unpack_92 : decode b_Mod_unpack 92 = .ok (.istore_n 3, 1) := by decide +kernel
theorem d_Mod_unpack_93 : decode b_Mod_unpack 93 = .ok (.iload_n 3, 1) := by decide +kernel
theorem d_Mod_unpack_94 : decode b_Mod_unpack 94 = .ok (.bipush 8, 2) := by decide +kernel
theorem d_Mod_unpack_96 : decode b_Mod_unpack 96 = .ok (.iload_n 1, 1) := by decide +kernel
theorem d_Mod_unpack_97 : decode b_Mod_unpack 97 = .ok (.iconst 4, 1) := by decide +kernel
theorem d_Mod_unpack_98 : decode b_Mod_unpack 98 = .ok (.isub, 1) := by decide +kernel
theorem d_Mod_unpack_99 : decode b_Mod_unpack 99 = .ok (.imul, 1) := by decide +kernel
theorem d_Mod_unpack_100 : decode b_Mod_unpack 100 = .ok (.if_icmp .ge 75, 3) := by decide +kernel
theorem d_Mod_unpack_103 : decode b_Mod_unpack 103 = .ok (.aload_n 0, 1) := by decide +kernel
theorem d_Mod_unpack_104 : decode b_Mod_unpack 104 = .ok (.getfield 101, 3) := by decide +kernel
theorem d_Mod_unpack_107 : decode b_Mod_unpack 107 = .ok (.iconst 4, 1) := by decide +kernel
theorem d_Mod_unpack_108 : decode b_Mod_unpack 108 = .ok (.iload_n 3, 1) := by decide +kernel
theorem d_Mod_unpack_109 : decode b_Mod_unpack 109 = .ok (.bipush 8, 2) := by decide +kernel
theorem d_Mod_unpack_111 : decode b_Mod_unpack 111 = .ok (.idiv, 1) := by decide +kernel
theorem d_Mod_unpack_112 : decode b_Mod_unpack 112 = .ok (.iadd, 1) := by decide +kernel
theorem d_Mod_unpack_113 : decode b_Mod_unpack 113 = .ok (.iaload, 1) := by decide +kernel
theorem d_Mod_unpack_114 : decode b_Mod_unpack 114 = .ok (.bipush 7, 2) := by decide +kernel
theorem d_Mod_unpack_116 : decode b_Mod_unpack 116 = .ok (.iload_n 3, 1) := by decide +kernel
theorem d_Mod_unpack_117 : decode b_Mod_unpack 117 = .ok (.bipush 8, 2) := by decide +kernel
theorem d_Mod_unpack_119 : decode b_Mod_unpack 119 = .ok (.irem, 1) := by decide +kernel
theorem d_Mod_unpack_120 : decode b_Mod_unpack 120 = .ok (.isub, 1) := by decide +kernel
theorem d_Mod_unpack_121 : decode b_Mod_unpack 121 = .ok (.ishr, 1) := by decide +kernel
theorem d_Mod_unpack_122 : decode b_Mod_unpack 122 = .ok (.iconst 1, 1) := by decide +kernel
theorem d_Mod_unpack_123 : decode b_Mod_unpack 123 = .ok (.iand, 1) := by decide +kernel
theorem d_Mod_unpack_124 : decode b_Mod_unpack 124 = .ok (.iconst 1, 1) := by decide +kernel
theorem d_Mod_unpack_125 : decode b_Mod_unpack 125 = .ok (.if_icmp .ne 7, 3) := by decide +kernel
theorem d_Mod_unpack_128 : decode b_Mod_unpack 128 = .ok (.iconst 1, 1) := by decide +kernel
theorem d_Mod_unpack_129 : decode b_Mod_unpack 129 = .ok (.goto 4, 3) := by decide +kernel
theorem d_Mod_unpack_132 : decode b_Mod_unpack 132 = .ok (.iconst 0, 1) := by decide +kernel
theorem d_Mod_unpack_133 : decode b_Mod_unpack 133 = .ok (.istore 4, 2) := by decide +kernel
theorem d_Mod_unpack_135 : decode b_Mod_unpack 135 = .ok (.iload_n 3, 1) := by decide +kernel
theorem d_Mod_unpack_136 : decode b_Mod_unpack 136 = .ok (.aload_n 0, 1) := by decide +kernel
theorem d_Mod_unpack_137 : decode b_Mod_unpack 137 = .ok (.getfield 232, 3) := by decide +kernel
theorem d_Mod_unpack_140 : decode b_Mod_unpack 140 = .ok (.if_icmp .ge 14, 3) := by decide +kernel
theorem d_Mod_unpack_143 : decode b_Mod_unpack 143 = .ok (.aload_n 0, 1) := by decide +kernel
theorem d_Mod_unpack_144 : decode b_Mod_unpack 144 = .ok (.getfield 95, 3) := by decide +kernel
theorem d_Mod_unpack_147 : decode b_Mod_unpack 147 = .ok (.iload_n 3, 1) := by decide +kernel
theorem d_Mod_unpack_148 : decode b_Mod_unpack 148 = .ok (.iload 4, 2) := by decide +kernel
theorem d_Mod_unpack_150 : decode b_Mod_unpack 150 = .ok (.bastore, 1) := by decide +kernel
theorem d_Mod_unpack_151 : decode b_Mod_unpack 151 = .ok (.goto 18, 3) := by decide +kernel
theorem d_Mod_unpack_154 : decode b_Mod_unpack 154 = .ok (.iload_n 2, 1) := by decide +kernel
theorem d_Mod_unpack_155 : decode b_Mod_unpack 155 = .ok (.ifCond .eq 12, 3) := by decide +kernel
theorem d_Mod_unpack_158 : decode b_Mod_unpack 158 = .ok (.iload 4, 2) := by decide +kernel
theorem d_Mod_unpack_160 : decode b_Mod_unpack 160 = .ok (.ifCond .ne 7, 3) := by decide +kernel
theorem d_Mod_unpack_163 : decode b_Mod_unpack 163 = .ok (.iconst 1, 1) := by decide +kernel
theorem d_Mod_unpack_164 : decode b_Mod_unpack 164 = .ok (.goto 4, 3) := by decide +kernel
theorem d_Mod_unpack_167 : decode b_Mod_unpack 167 = .ok (.iconst 0, 1) := by decide +kernel
theorem d_Mod_unpack_168 : decode b_Mod_unpack 168 = .ok (.istore_n 2, 1) := by decide +kernel
theorem d_Mod_unpack_169 : decode b_Mod_unpack 169 = .ok (.iinc 3 1, 3) := by decide +kernel
theorem d_Mod_unpack_172 : decode b_Mod_unpack 172 = .ok (.goto (-79), 3) := by decide +kernel
theorem d_Mod_unpack_175 : decode b_Mod_unpack 175 = .ok (.iload_n 2, 1) := by decide +kernel
theorem d_Mod_unpack_176 : decode b_Mod_unpack 176 = .ok (.ireturn, 1) := by decide +kernel
theorem d_Mod_point_0 : decode b_Mod_point 0 = .ok (.aload_n 0, 1) := by decide +kernel
theorem d_Mod_point_1 : decode b_Mod_point 1 = .ok (.iload_n 1, 1) := by decide +kernel
theorem d_Mod_point_2 : decode b_Mod_point 2 = .ok (.ifCond .lt 9, 3) := by decide +kernel
theorem d_Mod_point_5 : decode b_Mod_point 5 = .ok (.iload_n 1, 1) := by decide +kernel
theorem d_Mod_point_6 : decode b_Mod_point 6 = .ok (.bipush 63, 2) := by decide +kernel
theorem d_Mod_point_8 : decode b_Mod_point 8 = .ok (.if_icmp .le 7, 3) := by decide +kernel
theorem d_Mod_point_11 : decode b_Mod_point 11 = .ok (.iconst 1, 1) := by decide +kernel
theorem d_Mod_point_12 : decode b_Mod_point 12 = .ok (.goto 32, 3) := by decide +kernel
theorem d_Mod_point_15 : decode b_Mod_point 15 = .ok (.lload_n 2, 1) := by decide +kernel
theorem d_Mod_point_16 : decode b_Mod_point 16 = .ok (.ldc2_w 137, 3) := by decide +kernel
theorem d_Mod_point_19 : decode b_Mod_point 19 = .ok (.lcmp, 1) := by decide +kernel
theorem d_Mod_point_20 : decode b_Mod_point 20 = .ok (.ifCond .eq 23, 3) := by decide +kernel
theorem d_Mod_point_23 : decode b_Mod_point 23 = .ok (.lload_n 2, 1) := by decide +kernel
theorem d_Mod_point_24 : decode b_Mod_point 24 = .ok (.ldc2_w 348, 3) := by decide +kernel
theorem d_Mod_point_27 : decode b_Mod_point 27 = .ok (.lcmp, 1) := by decide +kernel
theorem d_Mod_point_28 : decode b_Mod_point 28 = .ok (.ifCond .lt 11, 3) := by decide +kernel
theorem d_Mod_point_31 : decode b_Mod_point 31 = .ok (.lload_n 2, 1) := by decide +kernel
theorem d_Mod_point_32 : decode b_Mod_point 32 = .ok (.ldc2_w 350, 3) := by decide +kernel
theorem d_Mod_point_35 : decode b_Mod_point 35 = .ok (.lcmp, 1) := by decide +kernel
theorem d_Mod_point_36 : decode b_Mod_point 36 = .ok (.ifCond .le 7, 3) := by decide +kernel
theorem d_Mod_point_39 : decode b_Mod_point 39 = .ok (.iconst 2, 1) := by decide +kernel
theorem d_Mod_point_40 : decode b_Mod_point 40 = .ok (.goto 4, 3) := by decide +kernel
theorem d_Mod_point_43 : decode b_Mod_point 43 = .ok (.iconst 0, 1) := by decide +kernel
theorem d_Mod_point_44 : decode b_Mod_point 44 = .ok (.putfield 139, 3) := by decide +kernel
theorem d_Mod_point_47 : decode b_Mod_point 47 = .ok (.aload_n 0, 1) := by decide +kernel
theorem d_Mod_point_48 : decode b_Mod_point 48 = .ok (.getfield 139, 3) := by decide +kernel
theorem d_Mod_point_51 : decode b_Mod_point 51 = .ok (.ifCond .ne 10, 3) := by decide +kernel
theorem d_Mod_point_54 : decode b_Mod_point 54 = .ok (.aload_n 0, 1) := by decide +kernel
theorem d_Mod_point_55 : decode b_Mod_point 55 = .ok (.getfield 116, 3) := by decide +kernel
theorem d_Mod_point_58 : decode b_Mod_point 58 = .ok (.iload_n 1, 1) := by decide +kernel
theorem d_Mod_point_59 : decode b_Mod_point 59 = .ok (.lload_n 2, 1) := by decide +kernel
theorem d_Mod_point_60 : decode b_Mod_point 60 = .ok (.lastore, 1) := by decide +kernel
theorem d_Mod_point_61 : decode b_Mod_point 61 = .ok (.return_, 1) := by decide +kernel
theorem d_Mod_inOrder_0 : decode b_Mod_inOrder 0 = .ok (.iload_n 0, 1) := by decide +kernel
theorem d_Mod_inOrder_1 : decode b_Mod_inOrder 1 = .ok (.bipush 8, 2) := by decide +kernel
theorem d_Mod_inOrder_3 : decode b_Mod_inOrder 3 = .ok (.idiv, 1) := by decide +kernel
theorem d_Mod_inOrder_4 : decode b_Mod_inOrder 4 = .ok (.iconst 2, 1) := by decide +kernel
theorem d_Mod_inOrder_5 : decode b_Mod_inOrder 5 = .ok (.irem, 1) := by decide +kernel
theorem d_Mod_inOrder_6 : decode b_Mod_inOrder 6 = .ok (.ifCond .ne 7, 3) := by decide +kernel
theorem d_Mod_inOrder_9 : decode b_Mod_inOrder 9 = .ok (.iload_n 0, 1) := by decide +kernel
theorem d_Mod_inOrder_10 : decode b_Mod_inOrder 10 = .ok (.goto 18, 3) := by decide +kernel
theorem d_Mod_inOrder_13 : decode b_Mod_inOrder 13 = .ok (.bipush 8, 2) := by decide +kernel
theorem d_Mod_inOrder_15 : decode b_Mod_inOrder 15 = .ok (.iload_n 0, 1) := by decide +kernel
theorem d_Mod_inOrder_16 : decode b_Mod_inOrder 16 = .ok (.bipush 8, 2) := by decide +kernel
theorem d_Mod_inOrder_18 : decode b_Mod_inOrder 18 = .ok (.idiv, 1) := by decide +kernel
theorem d_Mod_inOrder_19 : decode b_Mod_inOrder 19 = .ok (.imul, 1) := by decide +kernel
theorem d_Mod_inOrder_20 : decode b_Mod_inOrder 20 = .ok (.bipush 7, 2) := by decide +kernel
theorem d_Mod_inOrder_22 : decode b_Mod_inOrder 22 = .ok (.iadd, 1) := by decide +kernel
theorem d_Mod_inOrder_23 : decode b_Mod_inOrder 23 = .ok (.iload_n 0, 1) := by decide +kernel
theorem d_Mod_inOrder_24 : decode b_Mod_inOrder 24 = .ok (.bipush 8, 2) := by decide +kernel
theorem d_Mod_inOrder_26 : decode b_Mod_inOrder 26 = .ok (.irem, 1) := by decide +kernel
theorem d_Mod_inOrder_27 : decode b_Mod_inOrder 27 = .ok (.isub, 1) := by decide +kernel
theorem d_Mod_inOrder_28 : decode b_Mod_inOrder 28 = .ok (.ireturn, 1) := by decide +kernel
theorem d_Mod_length_0 : decode b_Mod_length 0 = .ok (.iconst 0, 1) := by decide +kernel
theorem d_Mod_length_1 : decode b_Mod_length 1 = .ok (.istore_n 2, 1) := by decide +kernel
theorem d_Mod_length_2 : decode b_Mod_length 2 = .ok (.lload_n 0, 1) := by decide +kernel
theorem d_Mod_length_3 : decode b_Mod_length 3 = .ok (.lstore_n 3, 1) := by decide +kernel
theorem d_Mod_length_4 : decode b_Mod_length 4 = .ok (.lload_n 3, 1) := by decide +kernel
theorem d_Mod_length_5 : decode b_Mod_length 5 = .ok (.lconst 0, 1) := by decide +kernel
theorem d_Mod_length_6 : decode b_Mod_length 6 = .ok (.lcmp, 1) := by decide +kernel
theorem d_Mod_length_7 : decode b_Mod_length 7 = .ok (.ifCond .le 13, 3) := by decide +kernel
theorem d_Mod_length_10 : decode b_Mod_length 10 = .ok (.iinc 2 1, 3) := by decide +kernel
theorem d_Mod_length_13 : decode b_Mod_length 13 = .ok (.lload_n 3, 1) := by decide +kernel
theorem d_Mod_length_14 : decode b_Mod_length 14 = .ok (.iconst 1, 1) := by decide +kernel
theorem d_Mod_length_15 : decode b_Mod_length 15 = .ok (.lshr, 1) := by decide +kernel
theorem d_Mod_length_16 : decode b_Mod_length 16 = .ok (.lstore_n 3, 1) := by decide +kernel
theorem d_Mod_length_17 : decode b_Mod_length 17 = .ok (.goto (-13), 3) := by decide +kernel
theorem d_Mod_length_20 : decode b_Mod_length 20 = .ok (.iload_n 2, 1) := by decide +kernel
theorem d_Mod_length_21 : decode b_Mod_length 21 = .ok (.ireturn, 1) := by decide +kernel
theorem d_Mod_pack_0 : decode b_Mod_pack 0 = .ok (.ldc2_w 137, 3) := by decide +kernel
theorem d_Mod_pack_3 : decode b_Mod_pack 3 = .ok (.lstore_n 2, 1) := by decide +kernel
theorem d_Mod_pack_4 : decode b_Mod_pack 4 = .ok (.ldc2_w 137, 3) := by decide +kernel
theorem d_Mod_pack_7 : decode b_Mod_pack 7 = .ok (.lstore 4, 2) := by decide +kernel
theorem d_Mod_pack_9 : decode b_Mod_pack 9 = .ok (.iconst 0, 1) := by decide +kernel
theorem d_Mod_pack_10 : decode b_Mod_pack 10 = .ok (.istore 6, 2) := by decide +kernel
theorem d_Mod_pack_12 : decode b_Mod_pack 12 = .ok (.iload 6, 2) := by decide +kernel
theorem d_Mod_pack_14 : decode b_Mod_pack 14 = .ok (.bipush 64, 2) := by decide +kernel
theorem d_Mod_pack_16 : decode b_Mod_pack 16 = .ok (.if_icmp .ge 94, 3) := by decide +kernel
theorem d_Mod_pack_19 : decode b_Mod_pack 19 = .ok (.aload_n 0, 1) := by decide +kernel
theorem d_Mod_pack_20 : decode b_Mod_pack 20 = .ok (.getfield 116, 3) := by decide +kernel
theorem d_Mod_pack_23 : decode b_Mod_pack 23 = .ok (.iload 6, 2) := by decide +kernel
theorem d_Mod_pack_25 : decode b_Mod_pack 25 = .ok (.laload, 1) := by decide +kernel
theorem d_Mod_pack_26 : decode b_Mod_pack 26 = .ok (.ldc2_w 137, 3) := by decide +kernel
theorem d_Mod_pack_29 : decode b_Mod_pack 29 = .ok (.lcmp, 1) := by decide +kernel
theorem d_Mod_pack_30 : decode b_Mod_pack 30 = .ok (.ifCond .ne 6, 3) := by decide +kernel
theorem d_Mod_pack_33 : decode b_Mod_pack 33 = .ok (.goto 71, 3) := by decide +kernel
theorem d_Mod_pack_36 : decode b_Mod_pack 36 = .ok (.lload_n 2, 1) := by decide +kernel
theorem d_Mod_pack_37 : decode b_Mod_pack 37 = .ok (.ldc2_w 137, 3) := by decide +kernel
theorem d_Mod_pack_40 : decode b_Mod_pack 40 = .ok (.lcmp, 1) := by decide +kernel
theorem d_Mod_pack_41 : decode b_Mod_pack 41 = .ok (.ifCond .eq 15, 3) := by decide +kernel
theorem d_Mod_pack_44 : decode b_Mod_pack 44 = .ok (.aload_n 0, 1) := by decide +kernel
theorem d_Mod_pack_45 : decode b_Mod_pack 45 = .ok (.getfield 116, 3) := by decide +kernel
theorem d_Mod_pack_48 : decode b_Mod_pack 48 = .ok (.iload 6, 2) := by decide +kernel
theorem d_Mod_pack_50 : decode b_Mod_pack 50 = .ok (.laload, 1) := by decide +kernel
theorem d_Mod_pack_51 : decode b_Mod_pack 51 = .ok (.lload_n 2, 1) := by decide +kernel
theorem d_Mod_pack_52 : decode b_Mod_pack 52 = .ok (.lcmp, 1) := by decide +kernel
theorem d_Mod_pack_53 : decode b_Mod_pack 53 = .ok (.ifCond .ge 13, 3) := by decide +kernel
theorem d_Mod_pack_56 : decode b_Mod_pack 56 = .ok (.aload_n 0, 1) := by decide +kernel
theorem d_Mod_pack_57 : decode b_Mod_pack 57 = .ok (.getfield 116, 3) := by decide +kernel
theorem d_Mod_pack_60 : decode b_Mod_pack 60 = .ok (.iload 6, 2) := by decide +kernel
theorem d_Mod_pack_62 : decode b_Mod_pack 62 = .ok (.laload, 1) := by decide +kernel
theorem d_Mod_pack_63 : decode b_Mod_pack 63 = .ok (.goto 4, 3) := by decide +kernel
theorem d_Mod_pack_66 : decode b_Mod_pack 66 = .ok (.lload_n 2, 1) := by decide +kernel
theorem d_Mod_pack_67 : decode b_Mod_pack 67 = .ok (.lstore_n 2, 1) := by decide +kernel
theorem d_Mod_pack_68 : decode b_Mod_pack 68 = .ok (.lload 4, 2) := by decide +kernel
theorem d_Mod_pack_70 : decode b_Mod_pack 70 = .ok (.ldc2_w 137, 3) := by decide +kernel
theorem d_Mod_pack_73 : decode b_Mod_pack 73 = .ok (.lcmp, 1) := by decide +kernel
theorem d_Mod_pack_74 : decode b_Mod_pack 74 = .ok (.ifCond .eq 16, 3) := by decide +kernel
theorem d_Mod_pack_77 : decode b_Mod_pack 77 = .ok (.aload_n 0, 1) := by decide +kernel
theorem d_Mod_pack_78 : decode b_Mod_pack 78 = .ok (.getfield 116, 3) := by decide +kernel
theorem d_Mod_pack_81 : decode b_Mod_pack 81 = .ok (.iload 6, 2) := by decide +kernel
theorem d_Mod_pack_83 : decode b_Mod_pack 83 = .ok (.laload, 1) := by decide +kernel
theorem d_Mod_pack_84 : decode b_Mod_pack 84 = .ok (.lload 4, 2) := by decide +kernel
theorem d_Mod_pack_86 : decode b_Mod_pack 86 = .ok (.lcmp, 1) := by decide +kernel
theorem d_Mod_pack_87 : decode b_Mod_pack 87 = .ok (.ifCond .le 13, 3) := by decide +kernel
theorem d_Mod_pack_90 : decode b_Mod_pack 90 = .ok (.aload_n 0, 1) := by decide +kernel
theorem d_Mod_pack_91 : decode b_Mod_pack 91 = .ok (.getfield 116, 3) := by decide +kernel
theorem d_Mod_pack_94 : decode b_Mod_pack 94 = .ok (.iload 6, 2) := by decide +kernel
theorem d_Mod_pack_96 : decode b_Mod_pack 96 = .ok (.laload, 1) := by decide +kernel
theorem d_Mod_pack_97 : decode b_Mod_pack 97 = .ok (.goto 5, 3) := by decide +kernel
theorem d_Mod_pack_100 : decode b_Mod_pack 100 = .ok (.lload 4, 2) := by decide +kernel
theorem d_Mod_pack_102 : decode b_Mod_pack 102 = .ok (.lstore 4, 2) := by decide +kernel
theorem d_Mod_pack_104 : decode b_Mod_pack 104 = .ok (.iinc 6 1, 3) := by decide +kernel
theorem d_Mod_pack_107 : decode b_Mod_pack 107 = .ok (.goto (-95), 3) := by decide +kernel
theorem d_Mod_pack_110 : decode b_Mod_pack 110 = .ok (.aload_n 0, 1) := by decide +kernel
theorem d_Mod_pack_111 : decode b_Mod_pack 111 = .ok (.iload_n 1, 1) := by decide +kernel
theorem d_Mod_pack_112 : decode b_Mod_pack 112 = .ok (.iconst 1, 1) := by decide +kernel
theorem d_Mod_pack_113 : decode b_Mod_pack 113 = .ok (.if_icmp .lt 9, 3) := by decide +kernel
theorem d_Mod_pack_116 : decode b_Mod_pack 116 = .ok (.iload_n 1, 1) := by decide +kernel
theorem d_Mod_pack_117 : decode b_Mod_pack 117 = .ok (.bipush 31, 2) := by decide +kernel
theorem d_Mod_pack_119 : decode b_Mod_pack 119 = .ok (.if_icmp .le 7, 3) := by decide +kernel
theorem d_Mod_pack_122 : decode b_Mod_pack 122 = .ok (.iconst 1, 1) := by decide +kernel
theorem d_Mod_pack_123 : decode b_Mod_pack 123 = .ok (.goto 16, 3) := by decide +kernel
theorem d_Mod_pack_126 : decode b_Mod_pack 126 = .ok (.lload_n 2, 1) := by decide +kernel
theorem d_Mod_pack_127 : decode b_Mod_pack 127 = .ok (.ldc2_w 137, 3) := by decide +kernel
theorem d_Mod_pack_130 : decode b_Mod_pack 130 = .ok (.lcmp, 1) := by decide +kernel
theorem d_Mod_pack_131 : decode b_Mod_pack 131 = .ok (.ifCond .ne 7, 3) := by decide +kernel
theorem d_Mod_pack_134 : decode b_Mod_pack 134 = .ok (.iconst 2, 1) := by decide +kernel
theorem d_Mod_pack_135 : decode b_Mod_pack 135 = .ok (.goto 4, 3) := by decide +kernel
theorem d_Mod_pack_138 : decode b_Mod_pack 138 = .ok (.iconst 0, 1) := by decide +kernel
theorem d_Mod_pack_139 : decode b_Mod_pack 139 = .ok (.putfield 139, 3) := by decide +kernel
theorem d_Mod_pack_142 : decode b_Mod_pack 142 = .ok (.aload_n 0, 1) := by decide +kernel
theorem d_Mod_pack_143 : decode b_Mod_pack 143 = .ok (.getfield 139, 3) := by decide +kernel
theorem d_Mod_pack_146 : decode b_Mod_pack 146 = .ok (.ifCond .le 5, 3) := by decide +kernel
theorem d_Mod_pack_149 : decode b_Mod_pack 149 = .ok (.iconst 0, 1) := by decide +kernel
theorem d_Mod_pack_150 : decode b_Mod_pack 150 = .ok (.ireturn, 1) := by decide +kernel
theorem d_Mod_pack_151 : decode b_Mod_pack 151 = .ok (.iconst 0, 1) := by decide +kernel
theorem d_Mod_pack_152 : decode b_Mod_pack 152 = .ok (.istore 6, 2) := by decide +kernel
theorem d_Mod_pack_154 : decode b_Mod_pack 154 = .ok (.lload 4, 2) := by decide +kernel
theorem d_Mod_pack_156 : decode b_Mod_pack 156 = .ok (.lload_n 2, 1) := by decide +kernel
theorem d_Mod_pack_157 : decode b_Mod_pack 157 = .ok (.lsub, 1) := by decide +kernel
theorem d_Mod_pack_158 : decode b_Mod_pack 158 = .ok (.iload 6, 2) := by decide +kernel
theorem d_Mod_pack_160 : decode b_Mod_pack 160 = .ok (.lshr, 1) := by decide +kernel
theorem d_Mod_pack_161 : decode b_Mod_pack 161 = .ok (.iload_n 1, 1) := by decide +kernel
theorem d_Mod_pack_162 : decode b_Mod_pack 162 = .ok (.invokestatic 240, 3) := by decide +kernel
theorem d_Mod_pack_165 : decode b_Mod_pack 165 = .ok (.lcmp, 1) := by decide +kernel
theorem d_Mod_pack_166 : decode b_Mod_pack 166 = .ok (.ifCond .le 9, 3) := by decide +kernel
theorem d_Mod_pack_169 : decode b_Mod_pack 169 = .ok (.iinc 6 1, 3) := by decide +kernel
theorem d_Mod_pack_172 : decode b_Mod_pack 172 = .ok (.goto (-18), 3) := by decide +kernel
theorem d_Mod_pack_175 : decode b_Mod_pack 175 = .ok (.aload_n 0, 1) := by decide +kernel
