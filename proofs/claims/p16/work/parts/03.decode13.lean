theorem d_Mod_read_108 : decode b_Mod_read 108 = .ok (.iload_n 2, 1) := by decide +kernel
theorem d_Mod_read_109 : decode b_Mod_read 109 = .ok (.ifCond .eq 9, 3) := by decide +kernel
theorem d_Mod_read_112 : decode b_Mod_read 112 = .ok (.aload_n 0, 1) := by decide +kernel
theorem d_Mod_read_113 : decode b_Mod_read 113 = .ok (.iconst 0, 1) := by decide +kernel
theorem d_Mod_read_114 : decode b_Mod_read 114 = .ok (.iconst 3, 1) := by decide +kernel
theorem d_Mod_read_115 : decode b_Mod_read 115 = .ok (.invokevirtual 301, 3) := by decide +kernel
theorem d_Mod_read_118 : decode b_Mod_read 118 = .ok (.iconst 0, 1) := by decide +kernel
theorem d_Mod_read_119 : decode b_Mod_read 119 = .ok (.istore_n 3, 1) := by decide +kernel
theorem d_Mod_read_120 : decode b_Mod_read 120 = .ok (.iload_n 3, 1) := by decide +kernel
theorem d_Mod_read_121 : decode b_Mod_read 121 = .ok (.aload_n 0, 1) := by decide +kernel
theorem d_Mod_read_122 : decode b_Mod_read 122 = .ok (.getfield 248, 3) := by decide +kernel
theorem d_Mod_read_125 : decode b_Mod_read 125 = .ok (.if_icmp .ge 26, 3) := by decide +kernel
theorem d_Mod_read_128 : decode b_Mod_read 128 = .ok (.aload_n 0, 1) := by decide +kernel
theorem d_Mod_read_129 : decode b_Mod_read 129 = .ok (.getfield 173, 3) := by decide +kernel
theorem d_Mod_read_132 : decode b_Mod_read 132 = .ok (.ifCond .ne 19, 3) := by decide +kernel
theorem d_Mod_read_135 : decode b_Mod_read 135 = .ok (.iload_n 2, 1) := by decide +kernel
theorem d_Mod_read_136 : decode b_Mod_read 136 = .ok (.ifCond .ne 15, 3) := by decide +kernel
theorem d_Mod_read_139 : decode b_Mod_read 139 = .ok (.aload_n 0, 1) := by decide +kernel
theorem d_Mod_read_140 : decode b_Mod_read 140 = .ok (.iload_n 3, 1) := by decide +kernel
theorem d_Mod_read_141 : decode b_Mod_read 141 = .ok (.iconst 2, 1) := by decide +kernel
theorem d_Mod_read_142 : decode b_Mod_read 142 = .ok (.invokevirtual 301, 3) := by decide +kernel
theorem d_Mod_read_145 : decode b_Mod_read 145 = .ok (.iinc 3 1, 3) := by decide +kernel
theorem d_Mod_read_148 : decode b_Mod_read 148 = .ok (.goto (-28), 3) := by decide +kernel
theorem d_Mod_read_151 : decode b_Mod_read 151 = .ok (.aload_n 0, 1) := by decide +kernel
theorem d_Mod_read_152 : decode b_Mod_read 152 = .ok (.getfield 173, 3) := by decide +kernel
theorem d_Mod_read_155 : decode b_Mod_read 155 = .ok (.ifCond .ne 24, 3) := by decide +kernel
theorem d_Mod_read_158 : decode b_Mod_read 158 = .ok (.aload_n 0, 1) := by decide +kernel
theorem d_Mod_read_159 : decode b_Mod_read 159 = .ok (.getfield 229, 3) := by decide +kernel
theorem d_Mod_read_162 : decode b_Mod_read 162 = .ok (.aload_n 0, 1) := by decide +kernel
theorem d_Mod_read_163 : decode b_Mod_read 163 = .ok (.getfield 232, 3) := by decide +kernel
theorem d_Mod_read_166 : decode b_Mod_read 166 = .ok (.if_icmp .ge 13, 3) := by decide +kernel
theorem d_Mod_read_169 : decode b_Mod_read 169 = .ok (.aload_n 0, 1) := by decide +kernel
theorem d_Mod_read_170 : decode b_Mod_read 170 = .ok (.bipush 12, 2) := by decide +kernel
theorem d_Mod_read_172 : decode b_Mod_read 172 = .ok (.aload_n 0, 1) := by decide +kernel
theorem d_Mod_read_173 : decode b_Mod_read 173 = .ok (.getfield 258, 3) := by decide +kernel
theorem d_Mod_read_176 : decode b_Mod_read 176 = .ok (.invokevirtual 235, 3) := by decide +kernel
theorem d_Mod_read_179 : decode b_Mod_read 179 = .ok (.aload_n 0, 1) := by decide +kernel
theorem d_Mod_read_180 : decode b_Mod_read 180 = .ok (.aload_n 0, 1) := by decide +kernel
theorem d_Mod_read_181 : decode b_Mod_read 181 = .ok (.getfield 173, 3) := by decide +kernel
theorem d_Mod_read_184 : decode b_Mod_read 184 = .ok (.ifCond .le 7, 3) := by decide +kernel
theorem d_Mod_read_187 : decode b_Mod_read 187 = .ok (.iconst 1, 1) := by decide +kernel
theorem d_Mod_read_188 : decode b_Mod_read 188 = .ok (.goto 4, 3) := by decide +kernel
theorem d_Mod_read_191 : decode b_Mod_read 191 = .ok (.iconst 0, 1) := by decide +kernel
theorem d_Mod_read_192 : decode b_Mod_read 192 = .ok (.putfield 139, 3) := by decide +kernel
theorem d_Mod_read_195 : decode b_Mod_read 195 = .ok (.aload_n 0, 1) := by decide +kernel
theorem d_Mod_read_196 : decode b_Mod_read 196 = .ok (.getfield 139, 3) := by decide +kernel
theorem d_Mod_read_199 : decode b_Mod_read 199 = .ok (.ifCond .le 5, 3) := by decide +kernel
theorem d_Mod_read_202 : decode b_Mod_read 202 = .ok (.iconst 0, 1) := by decide +kernel
theorem d_Mod_read_203 : decode b_Mod_read 203 = .ok (.ireturn, 1) := by decide +kernel
theorem d_Mod_read_204 : decode b_Mod_read 204 = .ok (.iconst 0, 1) := by decide +kernel
theorem d_Mod_read_205 : decode b_Mod_read 205 = .ok (.istore_n 3, 1) := by decide +kernel
theorem d_Mod_read_206 : decode b_Mod_read 206 = .ok (.iload_n 3, 1) := by decide +kernel
theorem d_Mod_read_207 : decode b_Mod_read 207 = .ok (.sipush 800, 3) := by decide +kernel
theorem d_Mod_read_210 : decode b_Mod_read 210 = .ok (.if_icmp .ge 21, 3) := by decide +kernel
theorem d_Mod_read_213 : decode b_Mod_read 213 = .ok (.aload_n 0, 1) := by decide +kernel
theorem d_Mod_read_214 : decode b_Mod_read 214 = .ok (.getfield 36, 3) := by decide +kernel
theorem d_Mod_read_217 : decode b_Mod_read 217 = .ok (.iload_n 3, 1) := by decide +kernel
theorem d_Mod_read_218 : decode b_Mod_read 218 = .ok (.aload_n 0, 1) := by decide +kernel
theorem d_Mod_read_219 : decode b_Mod_read 219 = .ok (.getfield 40, 3) := by decide +kernel
theorem d_Mod_read_222 : decode b_Mod_read 222 = .ok (.iload_n 3, 1) := by decide +kernel
theorem d_Mod_read_223 : decode b_Mod_read 223 = .ok (.laload, 1) := by decide +kernel
theorem d_Mod_read_224 : decode b_Mod_read 224 = .ok (.lastore, 1) := by decide +kernel
theorem d_Mod_read_225 : decode b_Mod_read 225 = .ok (.iinc 3 1, 3) := by decide +kernel
theorem d_Mod_read_228 : decode b_Mod_read 228 = .ok (.goto (-22), 3) := by decide +kernel
theorem d_Mod_read_231 : decode b_Mod_read 231 = .ok (.aload_n 0, 1) := by decide +kernel
theorem d_Mod_read_232 : decode b_Mod_read 232 = .ok (.getfield 248, 3) := by decide +kernel
theorem d_Mod_read_235 : decode b_Mod_read 235 = .ok (.ireturn, 1) := by decide +kernel
