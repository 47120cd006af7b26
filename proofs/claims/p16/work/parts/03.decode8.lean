theorem d_Mod_takeAll_200 : decode b_Mod_takeAll 200 = .ok (.aload_n 0, 1) := by decide +kernel
theorem d_Mod_takeAll_201 : decode b_Mod_takeAll 201 = .ok (.bipush 12, 2) := by decide +kernel
theorem d_Mod_takeAll_203 : decode b_Mod_takeAll 203 = .ok (.iload_n 1, 1) := by decide +kernel
theorem d_Mod_takeAll_204 : decode b_Mod_takeAll 204 = .ok (.invokevirtual 235, 3) := by decide +kernel
theorem d_Mod_takeAll_207 : decode b_Mod_takeAll 207 = .ok (.aload_n 0, 1) := by decide +kernel
theorem d_Mod_takeAll_208 : decode b_Mod_takeAll 208 = .ok (.getfield 40, 3) := by decide +kernel
theorem d_Mod_takeAll_211 : decode b_Mod_takeAll 211 = .ok (.bipush 100, 2) := by decide +kernel
theorem d_Mod_takeAll_213 : decode b_Mod_takeAll 213 = .ok (.iload 6, 2) := by decide +kernel
theorem d_Mod_takeAll_215 : decode b_Mod_takeAll 215 = .ok (.imul, 1) := by decide +kernel
theorem d_Mod_takeAll_216 : decode b_Mod_takeAll 216 = .ok (.iload_n 1, 1) := by decide +kernel
theorem d_Mod_takeAll_217 : decode b_Mod_takeAll 217 = .ok (.iadd, 1) := by decide +kernel
theorem d_Mod_takeAll_218 : decode b_Mod_takeAll 218 = .ok (.iload 9, 2) := by decide +kernel
theorem d_Mod_takeAll_220 : decode b_Mod_takeAll 220 = .ok (.ifCond .eq 9, 3) := by decide +kernel
theorem d_Mod_takeAll_223 : decode b_Mod_takeAll 223 = .ok (.ldc2_w 137, 3) := by decide +kernel
theorem d_Mod_takeAll_226 : decode b_Mod_takeAll 226 = .ok (.goto 12, 3) := by decide +kernel
theorem d_Mod_takeAll_229 : decode b_Mod_takeAll 229 = .ok (.aload_n 0, 1) := by decide +kernel
theorem d_Mod_takeAll_230 : decode b_Mod_takeAll 230 = .ok (.iload_n 1, 1) := by decide +kernel
theorem d_Mod_takeAll_231 : decode b_Mod_takeAll 231 = .ok (.lload_n 2, 1) := by decide +kernel
theorem d_Mod_takeAll_232 : decode b_Mod_takeAll 232 = .ok (.lload 7, 2) := by decide +kernel
theorem d_Mod_takeAll_234 : decode b_Mod_takeAll 234 = .ok (.ladd, 1) := by decide +kernel
theorem d_Mod_takeAll_235 : decode b_Mod_takeAll 235 = .ok (.invokevirtual 251, 3) := by decide +kernel
theorem d_Mod_takeAll_238 : decode b_Mod_takeAll 238 = .ok (.lastore, 1) := by decide +kernel
theorem d_Mod_takeAll_239 : decode b_Mod_takeAll 239 = .ok (.iinc 6 1, 3) := by decide +kernel
theorem d_Mod_takeAll_242 : decode b_Mod_takeAll 242 = .ok (.goto (-135), 3) := by decide +kernel
theorem d_Mod_takeAll_245 : decode b_Mod_takeAll 245 = .ok (.return_, 1) := by decide +kernel
theorem d_Mod_valueOf_0 : decode b_Mod_valueOf 0 = .ok (.aload_n 0, 1) := by decide +kernel
theorem d_Mod_valueOf_1 : decode b_Mod_valueOf 1 = .ok (.getfield 223, 3) := by decide +kernel
theorem d_Mod_valueOf_4 : decode b_Mod_valueOf 4 = .ok (.iconst 2, 1) := by decide +kernel
theorem d_Mod_valueOf_5 : decode b_Mod_valueOf 5 = .ok (.if_icmp .ge 18, 3) := by decide +kernel
theorem d_Mod_valueOf_8 : decode b_Mod_valueOf 8 = .ok (.aload_n 0, 1) := by decide +kernel
theorem d_Mod_valueOf_9 : decode b_Mod_valueOf 9 = .ok (.getfield 36, 3) := by decide +kernel
theorem d_Mod_valueOf_12 : decode b_Mod_valueOf 12 = .ok (.bipush 100, 2) := by decide +kernel
theorem d_Mod_valueOf_14 : decode b_Mod_valueOf 14 = .ok (.aload_n 0, 1) := by decide +kernel
theorem d_Mod_valueOf_15 : decode b_Mod_valueOf 15 = .ok (.getfield 226, 3) := by decide +kernel
theorem d_Mod_valueOf_18 : decode b_Mod_valueOf 18 = .ok (.imul, 1) := by decide +kernel
theorem d_Mod_valueOf_19 : decode b_Mod_valueOf 19 = .ok (.iload_n 1, 1) := by decide +kernel
theorem d_Mod_valueOf_20 : decode b_Mod_valueOf 20 = .ok (.iadd, 1) := by decide +kernel
theorem d_Mod_valueOf_21 : decode b_Mod_valueOf 21 = .ok (.laload, 1) := by decide +kernel
theorem d_Mod_valueOf_22 : decode b_Mod_valueOf 22 = .ok (.lreturn, 1) := by decide +kernel
theorem d_Mod_valueOf_23 : decode b_Mod_valueOf 23 = .ok (.aload_n 0, 1) := by decide +kernel
theorem d_Mod_valueOf_24 : decode b_Mod_valueOf 24 = .ok (.getfield 223, 3) := by decide +kernel
theorem d_Mod_valueOf_27 : decode b_Mod_valueOf 27 = .ok (.iconst 3, 1) := by decide +kernel
theorem d_Mod_valueOf_28 : decode b_Mod_valueOf 28 = .ok (.if_icmp .ne 15, 3) := by decide +kernel
theorem d_Mod_valueOf_31 : decode b_Mod_valueOf 31 = .ok (.aload_n 0, 1) := by decide +kernel
theorem d_Mod_valueOf_32 : decode b_Mod_valueOf 32 = .ok (.iload_n 1, 1) := by decide +kernel
theorem d_Mod_valueOf_33 : decode b_Mod_valueOf 33 = .ok (.invokevirtual 255, 3) := by decide +kernel
theorem d_Mod_valueOf_36 : decode b_Mod_valueOf 36 = .ok (.aload_n 0, 1) := by decide +kernel
theorem d_Mod_valueOf_37 : decode b_Mod_valueOf 37 = .ok (.getfield 40, 3) := by decide +kernel
theorem d_Mod_valueOf_40 : decode b_Mod_valueOf 40 = .ok (.iload_n 1, 1) := by decide +kernel
theorem d_Mod_valueOf_41 : decode b_Mod_valueOf 41 = .ok (.laload, 1) := by decide +kernel
theorem d_Mod_valueOf_42 : decode b_Mod_valueOf 42 = .ok (.lreturn, 1) := by decide +kernel
theorem d_Mod_valueOf_43 : decode b_Mod_valueOf 43 = .ok (.aload_n 0, 1) := by decide +kernel
theorem d_Mod_valueOf_44 : decode b_Mod_valueOf 44 = .ok (.getfield 40, 3) := by decide +kernel
theorem d_Mod_valueOf_47 : decode b_Mod_valueOf 47 = .ok (.bipush 100, 2) := by decide +kernel
theorem d_Mod_valueOf_49 : decode b_Mod_valueOf 49 = .ok (.aload_n 0, 1) := by decide +kernel
theorem d_Mod_valueOf_50 : decode b_Mod_valueOf 50 = .ok (.getfield 226, 3) := by decide +kernel
theorem d_Mod_valueOf_53 : decode b_Mod_valueOf 53 = .ok (.imul, 1) := by decide +kernel
theorem d_Mod_valueOf_54 : decode b_Mod_valueOf 54 = .ok (.iload_n 1, 1) := by decide +kernel
theorem d_Mod_valueOf_55 : decode b_Mod_valueOf 55 = .ok (.iadd, 1) := by decide +kernel
theorem d_Mod_valueOf_56 : decode b_Mod_valueOf 56 = .ok (.aload_n 0, 1) := by decide +kernel
theorem d_Mod_valueOf_57 : decode b_Mod_valueOf 57 = .ok (.iload_n 1, 1) := by decide +kernel
theorem d_Mod_valueOf_58 : decode b_Mod_valueOf 58 = .ok (.aload_n 0, 1) := by decide +kernel
theorem d_Mod_valueOf_59 : decode b_Mod_valueOf 59 = .ok (.aload_n 0, 1) := by decide +kernel
theorem d_Mod_valueOf_60 : decode b_Mod_valueOf 60 = .ok (.getfield 73, 3) := by decide +kernel
theorem d_Mod_valueOf_63 : decode b_Mod_valueOf 63 = .ok (.iload_n 1, 1) := by decide +kernel
theorem d_Mod_valueOf_64 : decode b_Mod_valueOf 64 = .ok (.iaload, 1) := by decide +kernel
theorem d_Mod_valueOf_65 : decode b_Mod_valueOf 65 = .ok (.iload_n 1, 1) := by decide +kernel
theorem d_Mod_valueOf_66 : decode b_Mod_valueOf 66 = .ok (.invokevirtual 244, 3) := by decide +kernel
theorem d_Mod_valueOf_69 : decode b_Mod_valueOf 69 = .ok (.invokevirtual 251, 3) := by decide +kernel
theorem d_Mod_valueOf_72 : decode b_Mod_valueOf 72 = .ok (.lastore, 1) := by decide +kernel
theorem d_Mod_valueOf_73 : decode b_Mod_valueOf 73 = .ok (.aload_n 0, 1) := by decide +kernel
theorem d_Mod_valueOf_74 : decode b_Mod_valueOf 74 = .ok (.getfield 40, 3) := by decide +kernel
theorem d_Mod_valueOf_77 : decode b_Mod_valueOf 77 = .ok (.bipush 100, 2) := by decide +kernel
theorem d_Mod_valueOf_79 : decode b_Mod_valueOf 79 = .ok (.aload_n 0, 1) := by decide +kernel
theorem d_Mod_valueOf_80 : decode b_Mod_valueOf 80 = .ok (.getfield 226, 3) := by decide +kernel
theorem d_Mod_valueOf_83 : decode b_Mod_valueOf 83 = .ok (.imul, 1) := by decide +kernel
theorem d_Mod_valueOf_84 : decode b_Mod_valueOf 84 = .ok (.iload_n 1, 1) := by decide +kernel
theorem d_Mod_valueOf_85 : decode b_Mod_valueOf 85 = .ok (.iadd, 1) := by decide +kernel
theorem d_Mod_valueOf_86 : decode b_Mod_valueOf 86 = .ok (.laload, 1) := by decide +kernel
theorem d_Mod_valueOf_87 : decode b_Mod_valueOf 87 = .ok (.lreturn, 1) := by decide +kernel
theorem d_Mod_repetition_0 : decode b_Mod_repetition 0 = .ok (.aload_n 0, 1) := by decide +kernel
theorem d_Mod_repetition_1 : decode b_Mod_repetition 1 = .ok (.getfield 163, 3) := by decide +kernel
theorem d_Mod_repetition_4 : decode b_Mod_repetition 4 = .ok (.iconst 1, 1) := by decide +kernel
theorem d_Mod_repetition_5 : decode b_Mod_repetition 5 = .ok (.isub, 1) := by decide +kernel
theorem d_Mod_repetition_6 : decode b_Mod_repetition 6 = .ok (.istore_n 1, 1) := by decide +kernel
theorem d_Mod_repetition_7 : decode b_Mod_repetition 7 = .ok (.iload_n 1, 1) := by decide +kernel
theorem d_Mod_repetition_8 : decode b_Mod_repetition 8 = .ok (.ifCond .lt 18, 3) := by decide +kernel
theorem d_Mod_repetition_11 : decode b_Mod_repetition 11 = .ok (.aload_n 0, 1) := by decide +kernel
theorem d_Mod_repetition_12 : decode b_Mod_repetition 12 = .ok (.getfield 58, 3) := by decide +kernel
theorem d_Mod_repetition_15 : decode b_Mod_repetition 15 = .ok (.iload_n 1, 1) := by decide +kernel
theorem d_Mod_repetition_16 : decode b_Mod_repetition 16 = .ok (.iaload, 1) := by decide +kernel
theorem d_Mod_repetition_17 : decode b_Mod_repetition 17 = .ok (.ifCond .ge 9, 3) := by decide +kernel
theorem d_Mod_repetition_20 : decode b_Mod_repetition 20 = .ok (.iinc 1 (-1), 3) := by decide +kernel
theorem d_Mod_repetition_23 : decode b_Mod_repetition 23 = .ok (.goto (-16), 3) := by decide +kernel
theorem d_Mod_repetition_26 : decode b_Mod_repetition 26 = .ok (.iload_n 1, 1) := by decide +kernel
theorem d_Mod_repetition_27 : decode b_Mod_repetition 27 = .ok (.ifCond .ge 7, 3) := by decide +kernel
theorem d_Mod_repetition_30 : decode b_Mod_repetition 30 = .ok (.iconst (-1), 1) := by decide +kernel
theorem d_Mod_repetition_31 : decode b_Mod_repetition 31 = .ok (.goto 9, 3) := by decide +kernel
theorem d_Mod_repetition_34 : decode b_Mod_repetition 34 = .ok (.aload_n 0, 1) := by decide +kernel
theorem d_Mod_repetition_35 : decode b_Mod_repetition 35 = .ok (.getfield 58, 3) := by decide +kernel
theorem d_Mod_repetition_38 : decode b_Mod_repetition 38 = .ok (.iload_n 1, 1) := by decide +kernel
theorem d_Mod_repetition_39 : decode b_Mod_repetition 39 = .ok (.iaload, 1) := by decide +kernel
theorem d_Mod_repetition_40 : decode b_Mod_repetition 40 = .ok (.ireturn, 1) := by decide +kernel
theorem d_Mod_come_0 : decode b_Mod_come 0 = .ok (.aload_n 0, 1) := by decide +kernel
theorem d_Mod_come_1 : decode b_Mod_come 1 = .ok (.getfield 258, 3) := by decide +kernel
theorem d_Mod_come_4 : decode b_Mod_come 4 = .ok (.istore 8, 2) := by decide +kernel
theorem d_Mod_come_6 : decode b_Mod_come 6 = .ok (.iload 8, 2) := by decide +kernel
theorem d_Mod_come_8 : decode b_Mod_come 8 = .ok (.bipush 100, 2) := by decide +kernel
theorem d_Mod_come_10 : decode b_Mod_come 10 = .ok (.if_icmp .ne 11, 3) := by decide +kernel
theorem d_Mod_come_13 : decode b_Mod_come 13 = .ok (.aload_n 0, 1) := by decide +kernel
theorem d_Mod_come_14 : decode b_Mod_come 14 = .ok (.bipush 8, 2) := by decide +kernel
theorem d_Mod_come_16 : decode b_Mod_come 16 = .ok (.iload 8, 2) := by decide +kernel
theorem d_Mod_come_18 : decode b_Mod_come 18 = .ok (.invokevirtual 235, 3) := by decide +kernel
theorem d_Mod_come_21 : decode b_Mod_come 21 = .ok (.aload_n 0, 1) := by decide +kernel
theorem d_Mod_come_22 : decode b_Mod_come 22 = .ok (.getfield 173, 3) := by decide +kernel
theorem d_Mod_come_25 : decode b_Mod_come 25 = .ok (.ifCond .le 5, 3) := by decide +kernel
theorem d_Mod_come_28 : decode b_Mod_come 28 = .ok (.lconst 0, 1) := by decide +kernel
theorem d_Mod_come_29 : decode b_Mod_come 29 = .ok (.lreturn, 1) := by decide +kernel
theorem d_Mod_come_30 : decode b_Mod_come 30 = .ok (.aload_n 0, 1) := by decide +kernel
theorem d_Mod_come_31 : decode b_Mod_come 31 = .ok (.getfield 67, 3) := by decide +kernel
theorem d_Mod_come_34 : decode b_Mod_come 34 = .ok (.iload 8, 2) := by decide +kernel
theorem d_Mod_come_36 : decode b_Mod_come 36 = .ok (.iload_n 1, 1) := by decide +kernel
theorem d_Mod_come_37 : decode b_Mod_come 37 = .ok (.iastore, 1) := by decide +kernel
theorem d_Mod_come_38 : decode b_Mod_come 38 = .ok (.aload_n 0, 1) := by decide +kernel
theorem d_Mod_come_39 : decode b_Mod_come 39 = .ok (.getfield 70, 3) := by decide +kernel
theorem d_Mod_come_42 : decode b_Mod_come 42 = .ok (.iload 8, 2) := by decide +kernel
theorem d_Mod_come_44 : decode b_Mod_come 44 = .ok (.iload_n 2, 1) := by decide +kernel
theorem d_Mod_come_45 : decode b_Mod_come 45 = .ok (.iastore, 1) := by decide +kernel
theorem d_Mod_come_46 : decode b_Mod_come 46 = .ok (.aload_n 0, 1) := by decide +kernel
theorem d_Mod_come_47 : decode b_Mod_come 47 = .ok (.getfield 73, 3) := by decide +kernel
theorem d_Mod_come_50 : decode b_Mod_come 50 = .ok (.iload 8, 2) := by decide +kernel
theorem d_Mod_come_52 : decode b_Mod_come 52 = .ok (.iload_n 3, 1) := by decide +kernel
theorem d_Mod_come_53 : decode b_Mod_come 53 = .ok (.iastore, 1) := by decide +kernel
theorem d_Mod_come_54 : decode b_Mod_come 54 = .ok (.aload_n 0, 1) := by decide +kernel
theorem d_Mod_come_55 : decode b_Mod_come 55 = .ok (.getfield 76, 3) := by decide +kernel
theorem d_Mod_come_58 : decode b_Mod_come 58 = .ok (.iload 8, 2) := by decide +kernel
theorem d_Mod_come_60 : decode b_Mod_come 60 = .ok (.iload 4, 2) := by decide +kernel
theorem d_Mod_come_62 : decode b_Mod_come 62 = .ok (.iastore, 1) := by decide +kernel
theorem d_Mod_come_63 : decode b_Mod_come 63 = .ok (.aload_n 0, 1) := by decide +kernel
theorem d_Mod_come_64 : decode b_Mod_come 64 = .ok (.getfield 85, 3) := by decide +kernel
theorem d_Mod_come_67 : decode b_Mod_come 67 = .ok (.iload 8, 2) := by decide +kernel
theorem d_Mod_come_69 : decode b_Mod_come 69 = .ok (.lload 5, 2) := by decide +kernel
theorem d_Mod_come_71 : decode b_Mod_come 71 = .ok (.lastore, 1) := by decide +kernel
theorem d_Mod_come_72 : decode b_Mod_come 72 = .ok (.aload_n 0, 1) := by decide +kernel
theorem d_Mod_come_73 : decode b_Mod_come 73 = .ok (.getfield 79, 3) := by decide +kernel
theorem d_Mod_come_76 : decode b_Mod_come 76 = .ok (.iload 8, 2) := by decide +kernel
theorem d_Mod_come_78 : decode b_Mod_come 78 = .ok (.iload 7, 2) := by decide +kernel
theorem d_Mod_come_80 : decode b_Mod_come 80 = .ok (.iastore, 1) := by decide +kernel
theorem d_Mod_come_81 : decode b_Mod_come 81 = .ok (.aload_n 0, 1) := by decide +kernel
theorem d_Mod_come_82 : decode b_Mod_come 82 = .ok (.getfield 82, 3) := by decide +kernel
theorem d_Mod_come_85 : decode b_Mod_come 85 = .ok (.iload 8, 2) := by decide +kernel
theorem d_Mod_come_87 : decode b_Mod_come 87 = .ok (.aload_n 0, 1) := by decide +kernel
theorem d_Mod_come_88 : decode b_Mod_come 88 = .ok (.invokevirtual 261, 3) := by decide +kernel
theorem d_Mod_come_91 : decode b_Mod_come 91 = .ok (.iastore, 1) := by decide +kernel
theorem d_Mod_come_92 : decode b_Mod_come 92 = .ok (.aload_n 0, 1) := by decide +kernel
theorem d_Mod_come_93 : decode b_Mod_come 93 = .ok (.dup, 1) := by decide +kernel
theorem d_Mod_come_94 : decode b_Mod_come 94 = .ok (.getfield 258, 3) := by decide +kernel
theorem d_Mod_come_97 : decode b_Mod_come 97 = .ok (.iconst 1, 1) := by decide +kernel
theorem d_Mod_come_98 : decode b_Mod_come 98 = .ok (.iadd, 1) := by decide +kernel
theorem d_Mod_come_99 : decode b_Mod_come 99 = .ok (.putfield 258, 3) := by decide +kernel
theorem d_Mod_come_102 : decode b_Mod_come 102 = .ok (.aload_n 0, 1) := by decide +kernel
theorem d_Mod_come_103 : decode b_Mod_come 103 = .ok (.iload 8, 2) := by decide +kernel
theorem d_Mod_come_105 : decode b_Mod_come 105 = .ok (.invokevirtual 264, 3) := by decide +kernel
theorem d_Mod_come_108 : decode b_Mod_come 108 = .ok (.lstore 9, 2) := by decide +kernel
theorem d_Mod_come_110 : decode b_Mod_come 110 = .ok (.aload_n 0, 1) := by decide +kernel
theorem d_Mod_come_111 : decode b_Mod_come 111 = .ok (.getfield 173, 3) := by decide +kernel
theorem d_Mod_come_114 : decode b_Mod_come 114 = .ok (.ifCond .ne 51, 3) := by decide +kernel
theorem d_Mod_come_117 : decode b_Mod_come 117 = .ok (.iload_n 1, 1) := by decide +kernel
theorem d_Mod_come_118 : decode b_Mod_come 118 = .ok (.iconst 2, 1) := by decide +kernel
theorem d_Mod_come_119 : decode b_Mod_come 119 = .ok (.if_icmp .ne 19, 3) := by decide +kernel
theorem d_Mod_come_122 : decode b_Mod_come 122 = .ok (.lload 9, 2) := by decide +kernel
theorem d_Mod_come_124 : decode b_Mod_come 124 = .ok (.lconst 1, 1) := by decide +kernel
theorem d_Mod_come_125 : decode b_Mod_come 125 = .ok (.lcmp, 1) := by decide +kernel
theorem d_Mod_come_126 : decode b_Mod_come 126 = .ok (.ifCond .lt 31, 3) := by decide +kernel
theorem d_Mod_come_129 : decode b_Mod_come 129 = .ok (.lload 9, 2) := by decide +kernel
theorem d_Mod_come_131 : decode b_Mod_come 131 = .ok (.ldc2_w 267, 3) := by decide +kernel
theorem d_Mod_come_134 : decode b_Mod_come 134 = .ok (.lcmp, 1) := by decide +kernel
theorem d_Mod_come_135 : decode b_Mod_come 135 = .ok (.ifCond .gt 22, 3) := by decide +kernel
theorem d_Mod_come_138 : decode b_Mod_come 138 = .ok (.iload_n 1, 1) := by decide +kernel
theorem d_Mod_come_139 : decode b_Mod_come 139 = .ok (.iconst 3, 1) := by decide +kernel
theorem d_Mod_come_140 : decode b_Mod_come 140 = .ok (.if_icmp .ne 25, 3) := by decide +kernel
theorem d_Mod_come_143 : decode b_Mod_come 143 = .ok (.lload 9, 2) := by decide +kernel
theorem d_Mod_come_145 : decode b_Mod_come 145 = .ok (.lconst 0, 1) := by decide +kernel
theorem d_Mod_come_146 : decode b_Mod_come 146 = .ok (.lcmp, 1) := by decide +kernel
theorem d_Mod_come_147 : decode b_Mod_come 147 = .ok (.ifCond .eq 18, 3) := by decide +kernel
theorem d_Mod_come_150 : decode b_Mod_come 150 = .ok (.lload 9, 2) := by decide +kernel
theorem d_Mod_come_152 : decode b_Mod_come 152 = .ok (.lconst 1, 1) := by decide +kernel
theorem d_Mod_come_153 : decode b_Mod_come 153 = .ok (.lcmp, 1) := by decide +kernel
theorem d_Mod_come_154 : decode b_Mod_come 154 = .ok (.ifCond .eq 11, 3) := by decide +kernel
theorem d_Mod_come_157 : decode b_Mod_come 157 = .ok (.aload_n 0, 1) := by decide +kernel
theorem d_Mod_come_158 : decode b_Mod_come 158 = .ok (.bipush 6, 2) := by decide +kernel
theorem d_Mod_come_160 : decode b_Mod_come 160 = .ok (.iload 8, 2) := by decide +kernel
theorem d_Mod_come_162 : decode b_Mod_come 162 = .ok (.invokevirtual 235, 3) := by decide +kernel
theorem d_Mod_come_165 : decode b_Mod_come 165 = .ok (.aload_n 0, 1) := by decide +kernel
theorem d_Mod_come_166 : decode b_Mod_come 166 = .ok (.getfield 173, 3) := by decide +kernel
theorem d_Mod_come_169 : decode b_Mod_come 169 = .ok (.ifCond .ne 58, 3) := by decide +kernel
theorem d_Mod_come_172 : decode b_Mod_come 172 = .ok (.aload_n 0, 1) := by decide +kernel
theorem d_Mod_come_173 : decode b_Mod_come 173 = .ok (.getfield 223, 3) := by decide +kernel
theorem d_Mod_come_176 : decode b_Mod_come 176 = .ok (.iconst 1, 1) := by decide +kernel
theorem d_Mod_come_177 : decode b_Mod_come 177 = .ok (.if_icmp .ne 50, 3) := by decide +kernel
theorem d_Mod_come_180 : decode b_Mod_come 180 = .ok (.iload_n 1, 1) := by decide +kernel
theorem d_Mod_come_181 : decode b_Mod_come 181 = .ok (.iconst 3, 1) := by decide +kernel
theorem d_Mod_come_182 : decode b_Mod_come 182 = .ok (.if_icmp .eq 45, 3) := by decide +kernel
theorem d_Mod_come_185 : decode b_Mod_come 185 = .ok (.lload 9, 2) := by decide +kernel
theorem d_Mod_come_187 : decode b_Mod_come 187 = .ok (.ldc2_w 137, 3) := by decide +kernel
theorem d_Mod_come_190 : decode b_Mod_come 190 = .ok (.lcmp, 1) := by decide +kernel
theorem d_Mod_come_191 : decode b_Mod_come 191 = .ok (.ifCond .eq 36, 3) := by decide +kernel
theorem d_Mod_come_194 : decode b_Mod_come 194 = .ok (.lload 9, 2) := by decide +kernel
theorem d_Mod_come_196 : decode b_Mod_come 196 = .ok (.lload 5, 2) := by decide +kernel
theorem d_Mod_come_198 : decode b_Mod_come 198 = .ok (.lsub, 1) := by decide +kernel
theorem d_Mod_come_199 : decode b_Mod_come 199 = .ok (.lconst 0, 1) := by decide +kernel
theorem d_Mod_come_200 : decode b_Mod_come 200 = .ok (.lcmp, 1) := by decide +kernel
theorem d_Mod_come_201 : decode b_Mod_come 201 = .ok (.ifCond .lt 18, 3) := by decide +kernel
theorem d_Mod_come_204 : decode b_Mod_come 204 = .ok (.lload 9, 2) := by decide +kernel
theorem d_Mod_come_206 : decode b_Mod_come 206 = .ok (.lload 5, 2) := by decide +kernel
theorem d_Mod_come_208 : decode b_Mod_come 208 = .ok (.lsub, 1) := by decide +kernel
theorem d_Mod_come_209 : decode b_Mod_come 209 = .ok (.iload_n 3, 1) := by decide +kernel
theorem d_Mod_come_210 : decode b_Mod_come 210 = .ok (.invokestatic 240, 3) := by decide +kernel
theorem d_Mod_come_213 : decode b_Mod_come 213 = .ok (.lconst 1, 1) := by decide +kernel
theorem d_Mod_come_214 : decode b_Mod_come 214 = .ok (.lsub, 1) := by decide +kernel
theorem d_Mod_come_215 : decode b_Mod_come 215 = .ok (.lcmp, 1) := by decide +kernel
theorem d_Mod_come_216 : decode b_Mod_come 216 = .ok (.ifCond .le 11, 3) := by decide +kernel
theorem d_Mod_come_219 : decode b_Mod_come 219 = .ok (.aload_n 0, 1) := by decide +kernel
theorem d_Mod_come_220 : decode b_Mod_come 220 = .ok (.bipush 9, 2) := by decide +kernel
theorem d_Mod_come_222 : decode b_Mod_come 222 = .ok (.iload 8, 2) := by decide +kernel
theorem d_Mod_come_224 : decode b_Mod_come 224 = .ok (.invokevirtual 235, 3) := by decide +kernel
theorem d_Mod_come_227 : decode b_Mod_come 227 = .ok (.aload_n 0, 1) := by decide +kernel
theorem d_Mod_come_228 : decode b_Mod_come 228 = .ok (.getfield 173, 3) := by decide +kernel
theorem d_Mod_come_231 : decode b_Mod_come 231 = .ok (.ifCond .le 7, 3) := by decide +kernel
theorem d_Mod_come_234 : decode b_Mod_come 234 = .ok (.lconst 0, 1) := by decide +kernel
theorem d_Mod_come_235 : decode b_Mod_come 235 = .ok (.goto 5, 3) := by decide +kernel
theorem d_Mod_come_238 : decode b_Mod_come 238 = .ok (.lload 9, 2) := by decide +kernel
theorem d_Mod_come_240 : decode b_Mod_come 240 = .ok (.lreturn, 1) := by decide +kernel
theorem d_Mod_walkElement_0 : decode b_Mod_walkElement 0 = .ok (.aload_n 0, 1) := by decide +kernel
theorem d_Mod_walkElement_1 : decode b_Mod_walkElement 1 = .ok (.iload_n 1, 1) := by decide +kernel
theorem d_Mod_walkElement_2 : decode b_Mod_walkElement 2 = .ok (.invokevirtual 197, 3) := by decide +kernel
theorem d_Mod_walkElement_5 : decode b_Mod_walkElement 5 = .ok (.istore_n 2, 1) := by decide +kernel
theorem d_Mod_walkElement_6 : decode b_Mod_walkElement 6 = .ok (.aload_n 0, 1) := by decide +kernel
theorem d_Mod_walkElement_7 : decode b_Mod_walkElement 7 = .ok (.getfield 64, 3) := by decide +kernel
theorem d_Mod_walkElement_10 : decode b_Mod_walkElement 10 = .ok (.iconst 2, 1) := by decide +kernel
theorem d_Mod_walkElement_11 : decode b_Mod_walkElement 11 = .ok (.iaload, 1) := by decide +kernel
theorem d_Mod_walkElement_12 : decode b_Mod_walkElement 12 = .ok (.bipush (-100), 2) := by decide +kernel
theorem d_Mod_walkElement_14 : decode b_Mod_walkElement 14 = .ok (.if_icmp .eq 24, 3) := by decide +kernel
theorem d_Mod_walkElement_17 : decode b_Mod_walkElement 17 = .ok (.aload_n 0, 1) := by decide +kernel
theorem d_Mod_walkElement_18 : decode b_Mod_walkElement 18 = .ok (.iconst 1, 1) := by decide +kernel
theorem d_Mod_walkElement_19 : decode b_Mod_walkElement 19 = .ok (.iconst (-1), 1) := by decide +kernel
theorem d_Mod_walkElement_20 : decode b_Mod_walkElement 20 = .ok (.aload_n 0, 1) := by decide +kernel
theorem d_Mod_walkElement_21 : decode b_Mod_walkElement 21 = .ok (.getfield 64, 3) := by decide +kernel
theorem d_Mod_walkElement_24 : decode b_Mod_walkElement 24 = .ok (.iconst 2, 1) := by decide +kernel
theorem d_Mod_walkElement_25 : decode b_Mod_walkElement 25 = .ok (.iaload, 1) := by decide +kernel
theorem d_Mod_walkElement_26 : decode b_Mod_walkElement 26 = .ok (.iconst 0, 1) := by decide +kernel
theorem d_Mod_walkElement_27 : decode b_Mod_walkElement 27 = .ok (.lconst 0, 1) := by decide +kernel
theorem d_Mod_walkElement_28 : decode b_Mod_walkElement 28 = .ok (.aload_n 0, 1) := by decide +kernel
theorem d_Mod_walkElement_29 : decode b_Mod_walkElement 29 = .ok (.getfield 258, 3) := by decide +kernel
theorem d_Mod_walkElement_32 : decode b_Mod_walkElement 32 = .ok (.iconst 1, 1) := by decide +kernel
theorem d_Mod_walkElement_33 : decode b_Mod_walkElement 33 = .ok (.iadd, 1) := by decide +kernel
theorem d_Mod_walkElement_34 : decode b_Mod_walkElement 34 = .ok (.invokevirtual 269, 3) := by decide +kernel
theorem d_Mod_walkElement_37 : decode b_Mod_walkElement 37 = .ok (.pop2, 1) := by decide +kernel
theorem d_Mod_walkElement_38 : decode b_Mod_walkElement 38 = .ok (.aload_n 0, 1) := by decide +kernel
theorem d_Mod_walkElement_39 : decode b_Mod_walkElement 39 = .ok (.getfield 258, 3) := by decide +kernel
theorem d_Mod_walkElement_42 : decode b_Mod_walkElement 42 = .ok (.istore_n 3, 1) := by decide +kernel
theorem d_Mod_walkElement_43 : decode b_Mod_walkElement 43 = .ok (.aload_n 0, 1) := by decide +kernel
theorem d_Mod_walkElement_44 : decode b_Mod_walkElement 44 = .ok (.iconst 0, 1) := by decide +kernel
theorem d_Mod_walkElement_45 : decode b_Mod_walkElement 45 = .ok (.iload_n 1, 1) := by decide +kernel
theorem d_Mod_walkElement_46 : decode b_Mod_walkElement 46 = .ok (.aload_n 0, 1) := by decide +kernel
theorem d_Mod_walkElement_47 : decode b_Mod_walkElement 47 = .ok (.getfield 20, 3) := by decide +kernel
theorem d_Mod_walkElement_50 : decode b_Mod_walkElement 50 = .ok (.iload_n 2, 1) := by decide +kernel
theorem d_Mod_walkElement_51 : decode b_Mod_walkElement 51 = .ok (.iaload, 1) := by decide +kernel
theorem d_Mod_walkElement_52 : decode b_Mod_walkElement 52 = .ok (.aload_n 0, 1) := by decide +kernel
theorem d_Mod_walkElement_53 : decode b_Mod_walkElement 53 = .ok (.iconst 0, 1) := by decide +kernel
theorem d_Mod_walkElement_54 : decode b_Mod_walkElement 54 = .ok (.invokevirtual 200, 3) := by decide +kernel
theorem d_Mod_walkElement_57 : decode b_Mod_walkElement 57 = .ok (.iadd, 1) := by decide +kernel
theorem d_Mod_walkElement_58 : decode b_Mod_walkElement 58 = .ok (.aload_n 0, 1) := by decide +kernel
theorem d_Mod_walkElement_59 : decode b_Mod_walkElement 59 = .ok (.getfield 13, 3) := by decide +kernel
theorem d_Mod_walkElement_62 : decode b_Mod_walkElement 62 = .ok (.iload_n 2, 1) := by decide +kernel
theorem d_Mod_walkElement_63 : decode b_Mod_walkElement 63 = .ok (.iaload, 1) := by decide +kernel
theorem d_Mod_walkElement_64 : decode b_Mod_walkElement 64 = .ok (.aload_n 0, 1) := by decide +kernel
theorem d_Mod_walkElement_65 : decode b_Mod_walkElement 65 = .ok (.iconst 1, 1) := by decide +kernel
theorem d_Mod_walkElement_66 : decode b_Mod_walkElement 66 = .ok (.invokevirtual 200, 3) := by decide +kernel
theorem d_Mod_walkElement_69 : decode b_Mod_walkElement 69 = .ok (.iadd, 1) := by decide +kernel
theorem d_Mod_walkElement_70 : decode b_Mod_walkElement 70 = .ok (.aload_n 0, 1) := by decide +kernel
theorem d_Mod_walkElement_71 : decode b_Mod_walkElement 71 = .ok (.getfield 17, 3) := by decide +kernel
theorem d_Mod_walkElement_74 : decode b_Mod_walkElement 74 = .ok (.iload_n 2, 1) := by decide +kernel
theorem d_Mod_walkElement_75 : decode b_Mod_walkElement 75 = .ok (.iaload, 1) := by decide +kernel
theorem d_Mod_walkElement_76 : decode b_Mod_walkElement 76 = .ok (.i2l, 1) := by decide +kernel
theorem d_Mod_walkElement_77 : decode b_Mod_walkElement 77 = .ok (.aload_n 0, 1) := by decide +kernel
theorem d_Mod_walkElement_78 : decode b_Mod_walkElement 78 = .ok (.iconst 3, 1) := by decide +kernel
theorem d_Mod_walkElement_79 : decode b_Mod_walkElement 79 = .ok (.invokevirtual 200, 3) := by decide +kernel
theorem d_Mod_walkElement_82 : decode b_Mod_walkElement 82 = .ok (.lshl, 1) := by decide +kernel
theorem d_Mod_walkElement_83 : decode b_Mod_walkElement 83 = .ok (.iconst (-1), 1) := by decide +kernel
theorem d_Mod_walkElement_84 : decode b_Mod_walkElement 84 = .ok (.invokevirtual 269, 3) := by decide +kernel
theorem d_Mod_walkElement_87 : decode b_Mod_walkElement 87 = .ok (.pop2, 1) := by decide +kernel
theorem d_Mod_walkElement_88 : decode b_Mod_walkElement 88 = .ok (.aload_n 0, 1) := by decide +kernel
theorem d_Mod_walkElement_89 : decode b_Mod_walkElement 89 = .ok (.getfield 258, 3) := by decide +kernel
theorem d_Mod_walkElement_92 : decode b_Mod_walkElement 92 = .ok (.iload_n 3, 1) := by decide +kernel
theorem d_Mod_walkElement_93 : decode b_Mod_walkElement 93 = .ok (.if_icmp .ne 4, 3) := by decide +kernel
theorem d_Mod_walkElement_96 : decode b_Mod_walkElement 96 = .ok (.return_, 1) := by decide +kernel
theorem d_Mod_walkElement_97 : decode b_Mod_walkElement 97 = .ok (.aload_n 0, 1) := by decide +kernel
theorem d_Mod_walkElement_98 : decode b_Mod_walkElement 98 = .ok (.getfield 88, 3) := by decide +kernel
theorem d_Mod_walkElement_101 : decode b_Mod_walkElement 101 = .ok (.aload_n 0, 1) := by decide +kernel
theorem d_Mod_walkElement_102 : decode b_Mod_walkElement 102 = .ok (.getfield 273, 3) := by decide +kernel
theorem d_Mod_walkElement_105 : decode b_Mod_walkElement 105 = .ok (.iload_n 3, 1) := by decide +kernel
theorem d_Mod_walkElement_106 : decode b_Mod_walkElement 106 = .ok (.iastore, 1) := by decide +kernel
theorem d_Mod_walkElement_107 : decode b_Mod_walkElement 107 = .ok (.aload_n 0, 1) := by decide +kernel
theorem d_Mod_walkElement_108 : decode b_Mod_walkElement 108 = .ok (.dup, 1) := by decide +kernel
theorem d_Mod_walkElement_109 : decode b_Mod_walkElement 109 = .ok (.getfield 273, 3) := by decide +kernel
theorem d_Mod_walkElement_112 : decode b_Mod_walkElement 112 = .ok (.iconst 1, 1) := by decide +kernel
theorem d_Mod_walkElement_113 : decode b_Mod_walkElement 113 = .ok (.iadd, 1) := by decide +kernel
theorem d_Mod_walkElement_114 : decode b_Mod_walkElement 114 = .ok (.putfield 273, 3) := by decide +kernel
theorem d_Mod_walkElement_117 : decode b_Mod_walkElement 117 = .ok (.return_, 1) := by decide +kernel
theorem d_Mod_walkBits_0 : decode b_Mod_walkBits 0 = .ok (.aload_n 0, 1) := by decide +kernel
theorem d_Mod_walkBits_1 : decode b_Mod_walkBits 1 = .ok (.getfield 273, 3) := by decide +kernel
theorem d_Mod_walkBits_4 : decode b_Mod_walkBits 4 = .ok (.iload_n 1, 1) := by decide +kernel
theorem d_Mod_walkBits_5 : decode b_Mod_walkBits 5 = .ok (.if_icmp .ge 13, 3) := by decide +kernel
theorem d_Mod_walkBits_8 : decode b_Mod_walkBits 8 = .ok (.aload_n 0, 1) := by decide +kernel
theorem d_Mod_walkBits_9 : decode b_Mod_walkBits 9 = .ok (.bipush 7, 2) := by decide +kernel
theorem d_Mod_walkBits_11 : decode b_Mod_walkBits 11 = .ok (.aload_n 0, 1) := by decide +kernel
theorem d_Mod_walkBits_12 : decode b_Mod_walkBits 12 = .ok (.getfield 258, 3) := by decide +kernel
theorem d_Mod_walkBits_15 : decode b_Mod_walkBits 15 = .ok (.invokevirtual 235, 3) := by decide +kernel
theorem d_Mod_walkBits_18 : decode b_Mod_walkBits 18 = .ok (.aload_n 0, 1) := by decide +kernel
theorem d_Mod_walkBits_19 : decode b_Mod_walkBits 19 = .ok (.iconst 0, 1) := by decide +kernel
theorem d_Mod_walkBits_20 : decode b_Mod_walkBits 20 = .ok (.putfield 276, 3) := by decide +kernel
theorem d_Mod_walkBits_23 : decode b_Mod_walkBits 23 = .ok (.aload_n 0, 1) := by decide +kernel
theorem d_Mod_walkBits_24 : decode b_Mod_walkBits 24 = .ok (.iconst 0, 1) := by decide +kernel
theorem d_Mod_walkBits_25 : decode b_Mod_walkBits 25 = .ok (.putfield 279, 3) := by decide +kernel
theorem d_Mod_walkBits_28 : decode b_Mod_walkBits 28 = .ok (.iconst 0, 1) := by decide +kernel
theorem d_Mod_walkBits_29 : decode b_Mod_walkBits 29 = .ok (.istore_n 2, 1) := by decide +kernel
theorem d_Mod_walkBits_30 : decode b_Mod_walkBits 30 = .ok (.iload_n 2, 1) := by decide +kernel
theorem d_Mod_walkBits_31 : decode b_Mod_walkBits 31 = .ok (.iload_n 1, 1) := by decide +kernel
theorem d_Mod_walkBits_32 : decode b_Mod_walkBits 32 = .ok (.if_icmp .ge 65, 3) := by decide +kernel
theorem d_Mod_walkBits_35 : decode b_Mod_walkBits 35 = .ok (.aload_n 0, 1) := by decide +kernel
theorem d_Mod_walkBits_36 : decode b_Mod_walkBits 36 = .ok (.getfield 173, 3) := by decide +kernel
theorem d_Mod_walkBits_39 : decode b_Mod_walkBits 39 = .ok (.ifCond .ne 58, 3) := by decide +kernel
theorem d_Mod_walkBits_42 : decode b_Mod_walkBits 42 = .ok (.aload_n 0, 1) := by decide +kernel
theorem d_Mod_walkBits_43 : decode b_Mod_walkBits 43 = .ok (.getfield 88, 3) := by decide +kernel
theorem d_Mod_walkBits_46 : decode b_Mod_walkBits 46 = .ok (.aload_n 0, 1) := by decide +kernel
theorem d_Mod_walkBits_47 : decode b_Mod_walkBits 47 = .ok (.getfield 273, 3) := by decide +kernel
theorem d_Mod_walkBits_50 : decode b_Mod_walkBits 50 = .ok (.iload_n 1, 1) := by decide +kernel
theorem d_Mod_walkBits_51 : decode b_Mod_walkBits 51 = .ok (.isub, 1) := by decide +kernel
theorem d_Mod_walkBits_52 : decode b_Mod_walkBits 52 = .ok (.iload_n 2, 1) := by decide +kernel
theorem d_Mod_walkBits_53 : decode b_Mod_walkBits 53 = .ok (.iadd, 1) := by decide +kernel
theorem d_Mod_walkBits_54 : decode b_Mod_walkBits 54 = .ok (.iaload, 1) := by decide +kernel
theorem d_Mod_walkBits_55 : decode b_Mod_walkBits 55 = .ok (.istore_n 3, 1) := by decide +kernel
theorem d_Mod_walkBits_56 : decode b_Mod_walkBits 56 = .ok (.aload_n 0, 1) := by decide +kernel
theorem d_Mod_walkBits_57 : decode b_Mod_walkBits 57 = .ok (.iconst 3, 1) := by decide +kernel
theorem d_Mod_walkBits_58 : decode b_Mod_walkBits 58 = .ok (.iconst (-1), 1) := by decide +kernel
theorem d_Mod_walkBits_59 : decode b_Mod_walkBits 59 = .ok (.iconst 1, 1) := by decide +kernel
theorem d_Mod_walkBits_60 : decode b_Mod_walkBits 60 = .ok (.iconst 0, 1) := by decide +kernel
theorem d_Mod_walkBits_61 : decode b_Mod_walkBits 61 = .ok (.lconst 0, 1) := by decide +kernel
theorem d_Mod_walkBits_62 : decode b_Mod_walkBits 62 = .ok (.iload_n 3, 1) := by decide +kernel
theorem d_Mod_walkBits_63 : decode b_Mod_walkBits 63 = .ok (.invokevirtual 269, 3) := by decide +kernel
theorem d_Mod_walkBits_66 : decode b_Mod_walkBits 66 = .ok (.lconst 1, 1) := by decide +kernel
theorem d_Mod_walkBits_67 : decode b_Mod_walkBits 67 = .ok (.lcmp, 1) := by decide +kernel
theorem d_Mod_walkBits_68 : decode b_Mod_walkBits 68 = .ok (.ifCond .ne 23, 3) := by decide +kernel
theorem d_Mod_walkBits_71 : decode b_Mod_walkBits 71 = .ok (.aload_n 0, 1) := by decide +kernel
theorem d_Mod_walkBits_72 : decode b_Mod_walkBits 72 = .ok (.getfield 91, 3) := by decide +kernel
theorem d_Mod_walkBits_75 : decode b_Mod_walkBits 75 = .ok (.aload_n 0, 1) := by decide +kernel
theorem d_Mod_walkBits_76 : decode b_Mod_walkBits 76 = .ok (.getfield 276, 3) := by decide +kernel
theorem d_Mod_walkBits_79 : decode b_Mod_walkBits 79 = .ok (.iload_n 3, 1) := by decide +kernel
theorem d_Mod_walkBits_80 : decode b_Mod_walkBits 80 = .ok (.iastore, 1) := by decide +kernel
theorem d_Mod_walkBits_81 : decode b_Mod_walkBits 81 = .ok (.aload_n 0, 1) := by decide +kernel
theorem d_Mod_walkBits_82 : decode b_Mod_walkBits 82 = .ok (.dup, 1) := by decide +kernel
theorem d_Mod_walkBits_83 : decode b_Mod_walkBits 83 = .ok (.getfield 276, 3) := by decide +kernel
theorem d_Mod_walkBits_86 : decode b_Mod_walkBits 86 = .ok (.iconst 1, 1) := by decide +kernel
theorem d_Mod_walkBits_87 : decode b_Mod_walkBits 87 = .ok (.iadd, 1) := by decide +kernel
theorem d_Mod_walkBits_88 : decode b_Mod_walkBits 88 = .ok (.putfield 276, 3) := by decide +kernel
theorem d_Mod_walkBits_91 : decode b_Mod_walkBits 91 = .ok (.iinc 2 1, 3) := by decide +kernel
theorem d_Mod_walkBits_94 : decode b_Mod_walkBits 94 = .ok (.goto (-64), 3) := by decide +kernel
theorem d_Mod_walkBits_97 : decode b_Mod_walkBits 97 = .ok (.return_, 1) := by decide +kernel
theorem d_Mod_walkMark_0 : decode b_Mod_walkMark 0 = .ok (.aload_n 0, 1) := by decide +kernel
theorem d_Mod_walkMark_1 : decode b_Mod_walkMark 1 = .ok (.getfield 279, 3) := by decide +kernel
theorem d_Mod_walkMark_4 : decode b_Mod_walkMark 4 = .ok (.aload_n 0, 1) := by decide +kernel
theorem d_Mod_walkMark_5 : decode b_Mod_walkMark 5 = .ok (.getfield 276, 3) := by decide +kernel
theorem d_Mod_walkMark_8 : decode b_Mod_walkMark 8 = .ok (.if_icmp .ne 14, 3) := by decide +kernel
theorem d_Mod_walkMark_11 : decode b_Mod_walkMark 11 = .ok (.aload_n 0, 1) := by decide +kernel
theorem d_Mod_walkMark_12 : decode b_Mod_walkMark 12 = .ok (.bipush 7, 2) := by decide +kernel
theorem d_Mod_walkMark_14 : decode b_Mod_walkMark 14 = .ok (.aload_n 0, 1) := by decide +kernel
theorem d_Mod_walkMark_15 : decode b_Mod_walkMark 15 = .ok (.getfield 258, 3) := by decide +kernel
theorem d_Mod_walkMark_18 : decode b_Mod_walkMark 18 = .ok (.invokevirtual 235, 3) := by decide +kernel
theorem d_Mod_walkMark_21 : decode b_Mod_walkMark 21 = .ok (.return_, 1) := by decide +kernel
theorem d_Mod_walkMark_22 : decode b_Mod_walkMark 22 = .ok (.aload_n 0, 1) := by decide +kernel
theorem d_Mod_walkMark_23 : decode b_Mod_walkMark 23 = .ok (.getfield 91, 3) := by decide +kernel
theorem d_Mod_walkMark_26 : decode b_Mod_walkMark 26 = .ok (.aload_n 0, 1) := by decide +kernel
theorem d_Mod_walkMark_27 : decode b_Mod_walkMark 27 = .ok (.getfield 279, 3) := by decide +kernel
theorem d_Mod_walkMark_30 : decode b_Mod_walkMark 30 = .ok (.iaload, 1) := by decide +kernel
theorem d_Mod_walkMark_31 : decode b_Mod_walkMark 31 = .ok (.istore_n 1, 1) := by decide +kernel
theorem d_Mod_walkMark_32 : decode b_Mod_walkMark 32 = .ok (.aload_n 0, 1) := by decide +kernel
theorem d_Mod_walkMark_33 : decode b_Mod_walkMark 33 = .ok (.dup, 1) := by decide +kernel
theorem d_Mod_walkMark_34 : decode b_Mod_walkMark 34 = .ok (.getfield 279, 3) := by decide +kernel
theorem d_Mod_walkMark_37 : decode b_Mod_walkMark 37 = .ok (.iconst 1, 1) := by decide +kernel
theorem d_Mod_walkMark_38 : decode b_Mod_walkMark 38 = .ok (.iadd, 1) := by decide +kernel
theorem d_Mod_walkMark_39 : decode b_Mod_walkMark 39 = .ok (.putfield 279, 3) := by decide +kernel
theorem d_Mod_walkMark_42 : decode b_Mod_walkMark 42 = .ok (.aload_n 0, 1) := by decide +kernel
theorem d_Mod_walkMark_43 : decode b_Mod_walkMark 43 = .ok (.iconst 4, 1) := by decide +kernel
theorem d_Mod_walkMark_44 : decode b_Mod_walkMark 44 = .ok (.aload_n 0, 1) := by decide +kernel
theorem d_Mod_walkMark_45 : decode b_Mod_walkMark 45 = .ok (.getfield 70, 3) := by decide +kernel
theorem d_Mod_walkMark_48 : decode b_Mod_walkMark 48 = .ok (.iload_n 1, 1) := by decide +kernel
theorem d_Mod_walkMark_49 : decode b_Mod_walkMark 49 = .ok (.iaload, 1) := by decide +kernel
theorem d_Mod_walkMark_50 : decode b_Mod_walkMark 50 = .ok (.aload_n 0, 1) := by decide +kernel
theorem d_Mod_walkMark_51 : decode b_Mod_walkMark 51 = .ok (.getfield 73, 3) := by decide +kernel
theorem d_Mod_walkMark_54 : decode b_Mod_walkMark 54 = .ok (.iload_n 1, 1) := by decide +kernel
theorem d_Mod_walkMark_55 : decode b_Mod_walkMark 55 = .ok (.iaload, 1) := by decide +kernel
theorem d_Mod_walkMark_56 : decode b_Mod_walkMark 56 = .ok (.aload_n 0, 1) := by decide +kernel
theorem d_Mod_walkMark_57 : decode b_Mod_walkMark 57 = .ok (.getfield 76, 3) := by decide +kernel
theorem d_Mod_walkMark_60 : decode b_Mod_walkMark 60 = .ok (.iload_n 1, 1) := by decide +kernel
theorem d_Mod_walkMark_61 : decode b_Mod_walkMark 61 = .ok (.iaload, 1) := by decide +kernel
theorem d_Mod_walkMark_62 : decode b_Mod_walkMark 62 = .ok (.aload_n 0, 1) := by decide +kernel
theorem d_Mod_walkMark_63 : decode b_Mod_walkMark 63 = .ok (.getfield 85, 3) := by decide +kernel
theorem d_Mod_walkMark_66 : decode b_Mod_walkMark 66 = .ok (.iload_n 1, 1) := by decide +kernel
theorem d_Mod_walkMark_67 : decode b_Mod_walkMark 67 = .ok (.laload, 1) := by decide +kernel
theorem d_Mod_walkMark_68 : decode b_Mod_walkMark 68 = .ok (.iload_n 1, 1) := by decide +kernel
theorem d_Mod_walkMark_69 : decode b_Mod_walkMark 69 = .ok (.invokevirtual 269, 3) := by decide +kernel
theorem d_Mod_walkMark_72 : decode b_Mod_walkMark 72 = .ok (.pop2, 1) := by decide +kernel
theorem d_Mod_walkMark_73 : decode b_Mod_walkMark 73 = .ok (.return_, 1) := by decide +kernel
theorem d_Mod_comes_0 : decode b_Mod_comes 0 = .ok (.aload_n 0, 1) := by decide +kernel
theorem d_Mod_comes_1 : decode b_Mod_comes 1 = .ok (.dup, 1) := by decide +kernel
theorem d_Mod_comes_2 : decode b_Mod_comes 2 = .ok (.getfield 166, 3) := by decide +kernel
theorem d_Mod_comes_5 : decode b_Mod_comes 5 = .ok (.iconst 1, 1) := by decide +kernel
theorem d_Mod_comes_6 : decode b_Mod_comes 6 = .ok (.iadd, 1) := by decide +kernel
theorem d_Mod_comes_7 : decode b_Mod_comes 7 = .ok (.putfield 166, 3) := by decide +kernel
theorem d_Mod_comes_10 : decode b_Mod_comes 10 = .ok (.aload_n 0, 1) := by decide +kernel
theorem d_Mod_comes_11 : decode b_Mod_comes 11 = .ok (.getfield 166, 3) := by decide +kernel
theorem d_Mod_comes_14 : decode b_Mod_comes 14 = .ok (.sipush 2000, 3) := by decide +kernel
theorem d_Mod_comes_17 : decode b_Mod_comes 17 = .ok (.if_icmp .le 13, 3) := by decide +kernel
theorem d_Mod_comes_20 : decode b_Mod_comes 20 = .ok (.aload_n 0, 1) := by decide +kernel
theorem d_Mod_comes_21 : decode b_Mod_comes 21 = .ok (.bipush 8, 2) := by decide +kernel
theorem d_Mod_comes_23 : decode b_Mod_comes 23 = .ok (.aload_n 0, 1) := by decide +kernel
theorem d_Mod_comes_24 : decode b_Mod_comes 24 = .ok (.getfield 258, 3) := by decide +kernel
theorem d_Mod_comes_27 : decode b_Mod_comes 27 = .ok (.invokevirtual 235, 3) := by decide +kernel
theorem d_Mod_comes_30 : decode b_Mod_comes 30 = .ok (.aload_n 0, 1) := by decide +kernel
theorem d_Mod_comes_31 : decode b_Mod_comes 31 = .ok (.getfield 166, 3) := by decide +kernel
theorem d_Mod_comes_34 : decode b_Mod_comes 34 = .ok (.sipush 2000, 3) := by decide +kernel
theorem d_Mod_comes_37 : decode b_Mod_comes 37 = .ok (.if_icmp .gt 7, 3) := by decide +kernel
theorem d_Mod_comes_40 : decode b_Mod_comes 40 = .ok (.iconst 1, 1) := by decide +kernel
theorem d_Mod_comes_41 : decode b_Mod_comes 41 = .ok (.goto 4, 3) := by decide +kernel
theorem d_Mod_comes_44 : decode b_Mod_comes 44 = .ok (.iconst 0, 1) := by decide +kernel
theorem d_Mod_comes_45 : decode b_Mod_comes 45 = .ok (.ireturn, 1) := by decide +kernel
theorem d_Mod_walkOne_0 : decode b_Mod_walkOne 0 = .ok (.aload_n 0, 1) := by decide +kernel
theorem d_Mod_walkOne_1 : decode b_Mod_walkOne 1 = .ok (.getfield 163, 3) := by decide +kernel
theorem d_Mod_walkOne_4 : decode b_Mod_walkOne 4 = .ok (.iconst 1, 1) := by decide +kernel
theorem d_Mod_walkOne_5 : decode b_Mod_walkOne 5 = .ok (.isub, 1) := by decide +kernel
theorem d_Mod_walkOne_6 : decode b_Mod_walkOne 6 = .ok (.istore_n 2, 1) := by decide +kernel
theorem d_Mod_walkOne_7 : decode b_Mod_walkOne 7 = .ok (.iload_n 1, 1) := by decide +kernel
theorem d_Mod_walkOne_8 : decode b_Mod_walkOne 8 = .ok (.bipush 63, 2) := by decide +kernel
theorem d_Mod_walkOne_10 : decode b_Mod_walkOne 10 = .ok (.if_icmp .gt 11, 3) := by decide +kernel
theorem d_Mod_walkOne_13 : decode b_Mod_walkOne 13 = .ok (.aload_n 0, 1) := by decide +kernel
theorem d_Mod_walkOne_14 : decode b_Mod_walkOne 14 = .ok (.iload_n 1, 1) := by decide +kernel
theorem d_Mod_walkOne_15 : decode b_Mod_walkOne 15 = .ok (.invokevirtual 282, 3) := by decide +kernel
theorem d_Mod_walkOne_18 : decode b_Mod_walkOne 18 = .ok (.goto 237, 3) := by decide +kernel
theorem d_Mod_walkOne_21 : decode b_Mod_walkOne 21 = .ok (.iload_n 1, 1) := by decide +kernel
theorem d_Mod_walkOne_22 : decode b_Mod_walkOne 22 = .ok (.bipush 115, 2) := by decide +kernel
theorem d_Mod_walkOne_24 : decode b_Mod_walkOne 24 = .ok (.if_icmp .gt 26, 3) := by decide +kernel
theorem d_Mod_walkOne_27 : decode b_Mod_walkOne 27 = .ok (.aload_n 0, 1) := by decide +kernel
theorem d_Mod_walkOne_28 : decode b_Mod_walkOne 28 = .ok (.iload_n 1, 1) := by decide +kernel
theorem d_Mod_walkOne_29 : decode b_Mod_walkOne 29 = .ok (.bipush 100, 2) := by decide +kernel
theorem d_Mod_walkOne_31 : decode b_Mod_walkOne 31 = .ok (.isub, 1) := by decide +kernel
theorem d_Mod_walkOne_32 : decode b_Mod_walkOne 32 = .ok (.iconst 0, 1) := by decide +kernel
theorem d_Mod_walkOne_33 : decode b_Mod_walkOne 33 = .ok (.aload_n 0, 1) := by decide +kernel
theorem d_Mod_walkOne_34 : decode b_Mod_walkOne 34 = .ok (.getfield 30, 3) := by decide +kernel
theorem d_Mod_walkOne_37 : decode b_Mod_walkOne 37 = .ok (.iload_n 1, 1) := by decide +kernel
theorem d_Mod_walkOne_38 : decode b_Mod_walkOne 38 = .ok (.bipush 100, 2) := by decide +kernel
theorem d_Mod_walkOne_40 : decode b_Mod_walkOne 40 = .ok (.isub, 1) := by decide +kernel
theorem d_Mod_walkOne_41 : decode b_Mod_walkOne 41 = .ok (.iaload, 1) := by decide +kernel
theorem d_Mod_walkOne_42 : decode b_Mod_walkOne 42 = .ok (.iconst 1, 1) := by decide +kernel
theorem d_Mod_walkOne_43 : decode b_Mod_walkOne 43 = .ok (.iconst (-1), 1) := by decide +kernel
theorem d_Mod_walkOne_44 : decode b_Mod_walkOne 44 = .ok (.invokevirtual 169, 3) := by decide +kernel
theorem d_Mod_walkOne_47 : decode b_Mod_walkOne 47 = .ok (.goto 208, 3) := by decide +kernel
theorem d_Mod_walkOne_50 : decode b_Mod_walkOne 50 = .ok (.iload_n 1, 1) := by decide +kernel
theorem d_Mod_walkOne_51 : decode b_Mod_walkOne 51 = .ok (.invokestatic 152, 3) := by decide +kernel
theorem d_Mod_walkOne_54 : decode b_Mod_walkOne 54 = .ok (.ifCond .eq 155, 3) := by decide +kernel
theorem d_Mod_walkOne_57 : decode b_Mod_walkOne 57 = .ok (.iload_n 1, 1) := by decide +kernel
theorem d_Mod_walkOne_58 : decode b_Mod_walkOne 58 = .ok (.sipush 200, 3) := by decide +kernel
theorem d_Mod_walkOne_61 : decode b_Mod_walkOne 61 = .ok (.isub, 1) := by decide +kernel
theorem d_Mod_walkOne_62 : decode b_Mod_walkOne 62 = .ok (.bipush 16, 2) := by decide +kernel
theorem d_Mod_walkOne_64 : decode b_Mod_walkOne 64 = .ok (.idiv, 1) := by decide +kernel
theorem d_Mod_walkOne_65 : decode b_Mod_walkOne 65 = .ok (.istore_n 3, 1) := by decide +kernel
theorem d_Mod_walkOne_66 : decode b_Mod_walkOne 66 = .ok (.iload_n 1, 1) := by decide +kernel
theorem d_Mod_walkOne_67 : decode b_Mod_walkOne 67 = .ok (.sipush 200, 3) := by decide +kernel
theorem d_Mod_walkOne_70 : decode b_Mod_walkOne 70 = .ok (.isub, 1) := by decide +kernel
theorem d_Mod_walkOne_71 : decode b_Mod_walkOne 71 = .ok (.bipush 16, 2) := by decide +kernel
theorem d_Mod_walkOne_73 : decode b_Mod_walkOne 73 = .ok (.irem, 1) := by decide +kernel
theorem d_Mod_walkOne_74 : decode b_Mod_walkOne 74 = .ok (.istore 4, 2) := by decide +kernel
theorem d_Mod_walkOne_76 : decode b_Mod_walkOne 76 = .ok (.iload 4, 2) := by decide +kernel
theorem d_Mod_walkOne_78 : decode b_Mod_walkOne 78 = .ok (.ifCond .ne 84, 3) := by decide +kernel
theorem d_Mod_walkOne_81 : decode b_Mod_walkOne 81 = .ok (.aload_n 0, 1) := by decide +kernel
theorem d_Mod_walkOne_82 : decode b_Mod_walkOne 82 = .ok (.invokevirtual 285, 3) := by decide +kernel
theorem d_Mod_walkOne_85 : decode b_Mod_walkOne 85 = .ok (.ifCond .eq 77, 3) := by decide +kernel
theorem d_Mod_walkOne_88 : decode b_Mod_walkOne 88 = .ok (.aload_n 0, 1) := by decide +kernel
theorem d_Mod_walkOne_89 : decode b_Mod_walkOne 89 = .ok (.getfield 27, 3) := by decide +kernel
theorem d_Mod_walkOne_92 : decode b_Mod_walkOne 92 = .ok (.bipush 24, 2) := by decide +kernel
theorem d_Mod_walkOne_94 : decode b_Mod_walkOne 94 = .ok (.aload_n 0, 1) := by decide +kernel
theorem d_Mod_walkOne_95 : decode b_Mod_walkOne 95 = .ok (.getfield 43, 3) := by decide +kernel
theorem d_Mod_walkOne_98 : decode b_Mod_walkOne 98 = .ok (.iload_n 2, 1) := by decide +kernel
theorem d_Mod_walkOne_99 : decode b_Mod_walkOne 99 = .ok (.iaload, 1) := by decide +kernel
theorem d_Mod_walkOne_100 : decode b_Mod_walkOne 100 = .ok (.imul, 1) := by decide +kernel
theorem d_Mod_walkOne_101 : decode b_Mod_walkOne 101 = .ok (.aload_n 0, 1) := by decide +kernel
theorem d_Mod_walkOne_102 : decode b_Mod_walkOne 102 = .ok (.getfield 46, 3) := by decide +kernel
theorem d_Mod_walkOne_105 : decode b_Mod_walkOne 105 = .ok (.iload_n 2, 1) := by decide +kernel
theorem d_Mod_walkOne_106 : decode b_Mod_walkOne 106 = .ok (.iaload, 1) := by decide +kernel
theorem d_Mod_walkOne_107 : decode b_Mod_walkOne 107 = .ok (.iadd, 1) := by decide +kernel
