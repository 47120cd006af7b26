theorem d_Walk_giveFromEntry_105 : decode b_Walk_giveFromEntry 105 = .ok (.iload_n 1, 1) := by decide +kernel
theorem d_Walk_giveFromEntry_106 : decode b_Walk_giveFromEntry 106 = .ok (.aload_n 0, 1) := by decide +kernel
theorem d_Walk_giveFromEntry_107 : decode b_Walk_giveFromEntry 107 = .ok (.getfield 101, 3) := by decide +kernel
theorem d_Walk_giveFromEntry_110 : decode b_Walk_giveFromEntry 110 = .ok (.iload_n 3, 1) := by decide +kernel
theorem d_Walk_giveFromEntry_111 : decode b_Walk_giveFromEntry 111 = .ok (.iload 4, 2) := by decide +kernel
theorem d_Walk_giveFromEntry_113 : decode b_Walk_giveFromEntry 113 = .ok (.lload 5, 2) := by decide +kernel
theorem d_Walk_giveFromEntry_115 : decode b_Walk_giveFromEntry 115 = .ok (.iconst (-1), 1) := by decide +kernel
theorem d_Walk_giveFromEntry_116 : decode b_Walk_giveFromEntry 116 = .ok (.invokevirtual 188, 3) := by decide +kernel
theorem d_Walk_giveFromEntry_119 : decode b_Walk_giveFromEntry 119 = .ok (.return_, 1) := by decide +kernel
theorem d_Walk_giveQuality_0 : decode b_Walk_giveQuality 0 = .ok (.aload_n 0, 1) := by decide +kernel
theorem d_Walk_giveQuality_1 : decode b_Walk_giveQuality 1 = .ok (.iconst 0, 1) := by decide +kernel
theorem d_Walk_giveQuality_2 : decode b_Walk_giveQuality 2 = .ok (.putfield 98, 3) := by decide +kernel
theorem d_Walk_giveQuality_5 : decode b_Walk_giveQuality 5 = .ok (.aload_n 0, 1) := by decide +kernel
theorem d_Walk_giveQuality_6 : decode b_Walk_giveQuality 6 = .ok (.iconst 1, 1) := by decide +kernel
theorem d_Walk_giveQuality_7 : decode b_Walk_giveQuality 7 = .ok (.iconst (-1), 1) := by decide +kernel
theorem d_Walk_giveQuality_8 : decode b_Walk_giveQuality 8 = .ok (.aload_n 0, 1) := by decide +kernel
theorem d_Walk_giveQuality_9 : decode b_Walk_giveQuality 9 = .ok (.getfield 27, 3) := by decide +kernel
theorem d_Walk_giveQuality_12 : decode b_Walk_giveQuality 12 = .ok (.iconst 2, 1) := by decide +kernel
theorem d_Walk_giveQuality_13 : decode b_Walk_giveQuality 13 = .ok (.iaload, 1) := by decide +kernel
theorem d_Walk_giveQuality_14 : decode b_Walk_giveQuality 14 = .ok (.iconst 0, 1) := by decide +kernel
theorem d_Walk_giveQuality_15 : decode b_Walk_giveQuality 15 = .ok (.lconst 0, 1) := by decide +kernel
theorem d_Walk_giveQuality_16 : decode b_Walk_giveQuality 16 = .ok (.aload_n 0, 1) := by decide +kernel
theorem d_Walk_giveQuality_17 : decode b_Walk_giveQuality 17 = .ok (.getfield 12, 3) := by decide +kernel
theorem d_Walk_giveQuality_20 : decode b_Walk_giveQuality 20 = .ok (.getfield 68, 3) := by decide +kernel
theorem d_Walk_giveQuality_23 : decode b_Walk_giveQuality 23 = .ok (.iconst 1, 1) := by decide +kernel
theorem d_Walk_giveQuality_24 : decode b_Walk_giveQuality 24 = .ok (.iadd, 1) := by decide +kernel
theorem d_Walk_giveQuality_25 : decode b_Walk_giveQuality 25 = .ok (.invokevirtual 188, 3) := by decide +kernel
theorem d_Walk_giveQuality_28 : decode b_Walk_giveQuality 28 = .ok (.return_, 1) := by decide +kernel
theorem d_Walk_comeToBits_0 : decode b_Walk_comeToBits 0 = .ok (.aload_n 0, 1) := by decide +kernel
theorem d_Walk_comeToBits_1 : decode b_Walk_comeToBits 1 = .ok (.getfield 83, 3) := by decide +kernel
theorem d_Walk_comeToBits_4 : decode b_Walk_comeToBits 4 = .ok (.iload_n 1, 1) := by decide +kernel
theorem d_Walk_comeToBits_5 : decode b_Walk_comeToBits 5 = .ok (.if_icmp .ge 17, 3) := by decide +kernel
theorem d_Walk_comeToBits_8 : decode b_Walk_comeToBits 8 = .ok (.aload_n 0, 1) := by decide +kernel
theorem d_Walk_comeToBits_9 : decode b_Walk_comeToBits 9 = .ok (.bipush 7, 2) := by decide +kernel
theorem d_Walk_comeToBits_11 : decode b_Walk_comeToBits 11 = .ok (.aload_n 0, 1) := by decide +kernel
theorem d_Walk_comeToBits_12 : decode b_Walk_comeToBits 12 = .ok (.getfield 12, 3) := by decide +kernel
theorem d_Walk_comeToBits_15 : decode b_Walk_comeToBits 15 = .ok (.getfield 68, 3) := by decide +kernel
theorem d_Walk_comeToBits_18 : decode b_Walk_comeToBits 18 = .ok (.invokevirtual 64, 3) := by decide +kernel
theorem d_Walk_comeToBits_21 : decode b_Walk_comeToBits 21 = .ok (.return_, 1) := by decide +kernel
theorem d_Walk_comeToBits_22 : decode b_Walk_comeToBits 22 = .ok (.aload_n 0, 1) := by decide +kernel
theorem d_Walk_comeToBits_23 : decode b_Walk_comeToBits 23 = .ok (.iconst 0, 1) := by decide +kernel
theorem d_Walk_comeToBits_24 : decode b_Walk_comeToBits 24 = .ok (.putfield 86, 3) := by decide +kernel
theorem d_Walk_comeToBits_27 : decode b_Walk_comeToBits 27 = .ok (.aload_n 0, 1) := by decide +kernel
theorem d_Walk_comeToBits_28 : decode b_Walk_comeToBits 28 = .ok (.iconst 0, 1) := by decide +kernel
theorem d_Walk_comeToBits_29 : decode b_Walk_comeToBits 29 = .ok (.putfield 89, 3) := by decide +kernel
theorem d_Walk_comeToBits_32 : decode b_Walk_comeToBits 32 = .ok (.aload_n 0, 1) := by decide +kernel
theorem d_Walk_comeToBits_33 : decode b_Walk_comeToBits 33 = .ok (.iconst 3, 1) := by decide +kernel
theorem d_Walk_comeToBits_34 : decode b_Walk_comeToBits 34 = .ok (.putfield 98, 3) := by decide +kernel
theorem d_Walk_comeToBits_37 : decode b_Walk_comeToBits 37 = .ok (.aload_n 0, 1) := by decide +kernel
theorem d_Walk_comeToBits_38 : decode b_Walk_comeToBits 38 = .ok (.iload_n 1, 1) := by decide +kernel
theorem d_Walk_comeToBits_39 : decode b_Walk_comeToBits 39 = .ok (.putfield 104, 3) := by decide +kernel
theorem d_Walk_comeToBits_42 : decode b_Walk_comeToBits 42 = .ok (.return_, 1) := by decide +kernel
theorem d_Walk_comeToRepeat_0 : decode b_Walk_comeToRepeat 0 = .ok (.iload_n 1, 1) := by decide +kernel
theorem d_Walk_comeToRepeat_1 : decode b_Walk_comeToRepeat 1 = .ok (.ifCond .le 19, 3) := by decide +kernel
theorem d_Walk_comeToRepeat_4 : decode b_Walk_comeToRepeat 4 = .ok (.aload_n 0, 1) := by decide +kernel
theorem d_Walk_comeToRepeat_5 : decode b_Walk_comeToRepeat 5 = .ok (.getfield 21, 3) := by decide +kernel
theorem d_Walk_comeToRepeat_8 : decode b_Walk_comeToRepeat 8 = .ok (.aload_n 0, 1) := by decide +kernel
theorem d_Walk_comeToRepeat_9 : decode b_Walk_comeToRepeat 9 = .ok (.getfield 92, 3) := by decide +kernel
theorem d_Walk_comeToRepeat_12 : decode b_Walk_comeToRepeat 12 = .ok (.iload_n 2, 1) := by decide +kernel
theorem d_Walk_comeToRepeat_13 : decode b_Walk_comeToRepeat 13 = .ok (.iload_n 1, 1) := by decide +kernel
theorem d_Walk_comeToRepeat_14 : decode b_Walk_comeToRepeat 14 = .ok (.invokevirtual 143, 3) := by decide +kernel
theorem d_Walk_comeToRepeat_17 : decode b_Walk_comeToRepeat 17 = .ok (.goto 8, 3) := by decide +kernel
theorem d_Walk_comeToRepeat_20 : decode b_Walk_comeToRepeat 20 = .ok (.aload_n 0, 1) := by decide +kernel
theorem d_Walk_comeToRepeat_21 : decode b_Walk_comeToRepeat 21 = .ok (.iload_n 2, 1) := by decide +kernel
theorem d_Walk_comeToRepeat_22 : decode b_Walk_comeToRepeat 22 = .ok (.putfield 107, 3) := by decide +kernel
theorem d_Walk_comeToRepeat_25 : decode b_Walk_comeToRepeat 25 = .ok (.return_, 1) := by decide +kernel
theorem d_Walk_comeToElement_0 : decode b_Walk_comeToElement 0 = .ok (.aload_n 0, 1) := by decide +kernel
theorem d_Walk_comeToElement_1 : decode b_Walk_comeToElement 1 = .ok (.iload_n 1, 1) := by decide +kernel
theorem d_Walk_comeToElement_2 : decode b_Walk_comeToElement 2 = .ok (.putfield 101, 3) := by decide +kernel
theorem d_Walk_comeToElement_5 : decode b_Walk_comeToElement 5 = .ok (.aload_n 0, 1) := by decide +kernel
theorem d_Walk_comeToElement_6 : decode b_Walk_comeToElement 6 = .ok (.getfield 107, 3) := by decide +kernel
theorem d_Walk_comeToElement_9 : decode b_Walk_comeToElement 9 = .ok (.iconst (-1), 1) := by decide +kernel
theorem d_Walk_comeToElement_10 : decode b_Walk_comeToElement 10 = .ok (.if_icmp .eq 11, 3) := by decide +kernel
theorem d_Walk_comeToElement_13 : decode b_Walk_comeToElement 13 = .ok (.aload_n 0, 1) := by decide +kernel
theorem d_Walk_comeToElement_14 : decode b_Walk_comeToElement 14 = .ok (.iconst 2, 1) := by decide +kernel
theorem d_Walk_comeToElement_15 : decode b_Walk_comeToElement 15 = .ok (.putfield 98, 3) := by decide +kernel
theorem d_Walk_comeToElement_18 : decode b_Walk_comeToElement 18 = .ok (.goto 21, 3) := by decide +kernel
theorem d_Walk_comeToElement_21 : decode b_Walk_comeToElement 21 = .ok (.aload_n 0, 1) := by decide +kernel
theorem d_Walk_comeToElement_22 : decode b_Walk_comeToElement 22 = .ok (.aload_n 0, 1) := by decide +kernel
theorem d_Walk_comeToElement_23 : decode b_Walk_comeToElement 23 = .ok (.getfield 27, 3) := by decide +kernel
theorem d_Walk_comeToElement_26 : decode b_Walk_comeToElement 26 = .ok (.iconst 2, 1) := by decide +kernel
theorem d_Walk_comeToElement_27 : decode b_Walk_comeToElement 27 = .ok (.iaload, 1) := by decide +kernel
theorem d_Walk_comeToElement_28 : decode b_Walk_comeToElement 28 = .ok (.ifCond .le 7, 3) := by decide +kernel
theorem d_Walk_comeToElement_31 : decode b_Walk_comeToElement 31 = .ok (.iconst 1, 1) := by decide +kernel
theorem d_Walk_comeToElement_32 : decode b_Walk_comeToElement 32 = .ok (.goto 4, 3) := by decide +kernel
theorem d_Walk_comeToElement_35 : decode b_Walk_comeToElement 35 = .ok (.iconst 0, 1) := by decide +kernel
theorem d_Walk_comeToElement_36 : decode b_Walk_comeToElement 36 = .ok (.putfield 98, 3) := by decide +kernel
theorem d_Walk_comeToElement_39 : decode b_Walk_comeToElement 39 = .ok (.return_, 1) := by decide +kernel
theorem d_Walk_comeToNext_0 : decode b_Walk_comeToNext 0 = .ok (.aload_n 0, 1) := by decide +kernel
theorem d_Walk_comeToNext_1 : decode b_Walk_comeToNext 1 = .ok (.dup, 1) := by decide +kernel
theorem d_Walk_comeToNext_2 : decode b_Walk_comeToNext 2 = .ok (.getfield 95, 3) := by decide +kernel
theorem d_Walk_comeToNext_5 : decode b_Walk_comeToNext 5 = .ok (.iconst 1, 1) := by decide +kernel
theorem d_Walk_comeToNext_6 : decode b_Walk_comeToNext 6 = .ok (.iadd, 1) := by decide +kernel
theorem d_Walk_comeToNext_7 : decode b_Walk_comeToNext 7 = .ok (.putfield 95, 3) := by decide +kernel
theorem d_Walk_comeToNext_10 : decode b_Walk_comeToNext 10 = .ok (.aload_n 0, 1) := by decide +kernel
theorem d_Walk_comeToNext_11 : decode b_Walk_comeToNext 11 = .ok (.getfield 95, 3) := by decide +kernel
theorem d_Walk_comeToNext_14 : decode b_Walk_comeToNext 14 = .ok (.sipush 2000, 3) := by decide +kernel
theorem d_Walk_comeToNext_17 : decode b_Walk_comeToNext 17 = .ok (.if_icmp .le 17, 3) := by decide +kernel
theorem d_Walk_comeToNext_20 : decode b_Walk_comeToNext 20 = .ok (.aload_n 0, 1) := by decide +kernel
theorem d_Walk_comeToNext_21 : decode b_Walk_comeToNext 21 = .ok (.bipush 8, 2) := by decide +kernel
theorem d_Walk_comeToNext_23 : decode b_Walk_comeToNext 23 = .ok (.aload_n 0, 1) := by decide +kernel
theorem d_Walk_comeToNext_24 : decode b_Walk_comeToNext 24 = .ok (.getfield 12, 3) := by decide +kernel
theorem d_Walk_comeToNext_27 : decode b_Walk_comeToNext 27 = .ok (.getfield 68, 3) := by decide +kernel
theorem d_Walk_comeToNext_30 : decode b_Walk_comeToNext 30 = .ok (.invokevirtual 64, 3) := by decide +kernel
theorem d_Walk_comeToNext_33 : decode b_Walk_comeToNext 33 = .ok (.return_, 1) := by decide +kernel
theorem d_Walk_comeToNext_34 : decode b_Walk_comeToNext 34 = .ok (.aload_n 0, 1) := by decide +kernel
theorem d_Walk_comeToNext_35 : decode b_Walk_comeToNext 35 = .ok (.getfield 41, 3) := by decide +kernel
theorem d_Walk_comeToNext_38 : decode b_Walk_comeToNext 38 = .ok (.getfield 150, 3) := by decide +kernel
theorem d_Walk_comeToNext_41 : decode b_Walk_comeToNext 41 = .ok (.aload_n 0, 1) := by decide +kernel
theorem d_Walk_comeToNext_42 : decode b_Walk_comeToNext 42 = .ok (.getfield 92, 3) := by decide +kernel
theorem d_Walk_comeToNext_45 : decode b_Walk_comeToNext 45 = .ok (.iaload, 1) := by decide +kernel
theorem d_Walk_comeToNext_46 : decode b_Walk_comeToNext 46 = .ok (.istore_n 1, 1) := by decide +kernel
theorem d_Walk_comeToNext_47 : decode b_Walk_comeToNext 47 = .ok (.aload_n 0, 1) := by decide +kernel
theorem d_Walk_comeToNext_48 : decode b_Walk_comeToNext 48 = .ok (.dup, 1) := by decide +kernel
theorem d_Walk_comeToNext_49 : decode b_Walk_comeToNext 49 = .ok (.getfield 92, 3) := by decide +kernel
theorem d_Walk_comeToNext_52 : decode b_Walk_comeToNext 52 = .ok (.iconst 1, 1) := by decide +kernel
theorem d_Walk_comeToNext_53 : decode b_Walk_comeToNext 53 = .ok (.iadd, 1) := by decide +kernel
theorem d_Walk_comeToNext_54 : decode b_Walk_comeToNext 54 = .ok (.putfield 92, 3) := by decide +kernel
theorem d_Walk_comeToNext_57 : decode b_Walk_comeToNext 57 = .ok (.iload_n 1, 1) := by decide +kernel
theorem d_Walk_comeToNext_58 : decode b_Walk_comeToNext 58 = .ok (.invokestatic 153, 3) := by decide +kernel
theorem d_Walk_comeToNext_61 : decode b_Walk_comeToNext 61 = .ok (.istore_n 2, 1) := by decide +kernel
theorem d_Walk_comeToNext_62 : decode b_Walk_comeToNext 62 = .ok (.iload_n 1, 1) := by decide +kernel
theorem d_Walk_comeToNext_63 : decode b_Walk_comeToNext 63 = .ok (.invokestatic 156, 3) := by decide +kernel
theorem d_Walk_comeToNext_66 : decode b_Walk_comeToNext 66 = .ok (.ifCond .eq 11, 3) := by decide +kernel
theorem d_Walk_comeToNext_69 : decode b_Walk_comeToNext 69 = .ok (.aload_n 0, 1) := by decide +kernel
theorem d_Walk_comeToNext_70 : decode b_Walk_comeToNext 70 = .ok (.iload_n 1, 1) := by decide +kernel
theorem d_Walk_comeToNext_71 : decode b_Walk_comeToNext 71 = .ok (.invokevirtual 159, 3) := by decide +kernel
theorem d_Walk_comeToNext_74 : decode b_Walk_comeToNext 74 = .ok (.goto 85, 3) := by decide +kernel
theorem d_Walk_comeToNext_77 : decode b_Walk_comeToNext 77 = .ok (.iload_n 1, 1) := by decide +kernel
theorem d_Walk_comeToNext_78 : decode b_Walk_comeToNext 78 = .ok (.invokestatic 163, 3) := by decide +kernel
theorem d_Walk_comeToNext_81 : decode b_Walk_comeToNext 81 = .ok (.ifCond .eq 28, 3) := by decide +kernel
theorem d_Walk_comeToNext_84 : decode b_Walk_comeToNext 84 = .ok (.aload_n 0, 1) := by decide +kernel
theorem d_Walk_comeToNext_85 : decode b_Walk_comeToNext 85 = .ok (.iload_n 1, 1) := by decide +kernel
theorem d_Walk_comeToNext_86 : decode b_Walk_comeToNext 86 = .ok (.invokestatic 166, 3) := by decide +kernel
theorem d_Walk_comeToNext_89 : decode b_Walk_comeToNext 89 = .ok (.aload_n 0, 1) := by decide +kernel
theorem d_Walk_comeToNext_90 : decode b_Walk_comeToNext 90 = .ok (.getfield 41, 3) := by decide +kernel
theorem d_Walk_comeToNext_93 : decode b_Walk_comeToNext 93 = .ok (.getfield 169, 3) := by decide +kernel
theorem d_Walk_comeToNext_96 : decode b_Walk_comeToNext 96 = .ok (.aload_n 0, 1) := by decide +kernel
theorem d_Walk_comeToNext_97 : decode b_Walk_comeToNext 97 = .ok (.getfield 92, 3) := by decide +kernel
theorem d_Walk_comeToNext_100 : decode b_Walk_comeToNext 100 = .ok (.iconst 1, 1) := by decide +kernel
theorem d_Walk_comeToNext_101 : decode b_Walk_comeToNext 101 = .ok (.isub, 1) := by decide +kernel
theorem d_Walk_comeToNext_102 : decode b_Walk_comeToNext 102 = .ok (.iaload, 1) := by decide +kernel
theorem d_Walk_comeToNext_103 : decode b_Walk_comeToNext 103 = .ok (.invokevirtual 172, 3) := by decide +kernel
theorem d_Walk_comeToNext_106 : decode b_Walk_comeToNext 106 = .ok (.goto 53, 3) := by decide +kernel
theorem d_Walk_comeToNext_109 : decode b_Walk_comeToNext 109 = .ok (.iload_n 2, 1) := by decide +kernel
theorem d_Walk_comeToNext_110 : decode b_Walk_comeToNext 110 = .ok (.iconst (-1), 1) := by decide +kernel
theorem d_Walk_comeToNext_111 : decode b_Walk_comeToNext 111 = .ok (.if_icmp .eq 17, 3) := by decide +kernel
theorem d_Walk_comeToNext_114 : decode b_Walk_comeToNext 114 = .ok (.aload_n 0, 1) := by decide +kernel
theorem d_Walk_comeToNext_115 : decode b_Walk_comeToNext 115 = .ok (.getfield 27, 3) := by decide +kernel
theorem d_Walk_comeToNext_118 : decode b_Walk_comeToNext 118 = .ok (.iload_n 2, 1) := by decide +kernel
theorem d_Walk_comeToNext_119 : decode b_Walk_comeToNext 119 = .ok (.iload_n 1, 1) := by decide +kernel
theorem d_Walk_comeToNext_120 : decode b_Walk_comeToNext 120 = .ok (.iload_n 2, 1) := by decide +kernel
theorem d_Walk_comeToNext_121 : decode b_Walk_comeToNext 121 = .ok (.invokestatic 175, 3) := by decide +kernel
theorem d_Walk_comeToNext_124 : decode b_Walk_comeToNext 124 = .ok (.iastore, 1) := by decide +kernel
theorem d_Walk_comeToNext_125 : decode b_Walk_comeToNext 125 = .ok (.goto 34, 3) := by decide +kernel
theorem d_Walk_comeToNext_128 : decode b_Walk_comeToNext 128 = .ok (.iload_n 1, 1) := by decide +kernel
theorem d_Walk_comeToNext_129 : decode b_Walk_comeToNext 129 = .ok (.invokestatic 179, 3) := by decide +kernel
theorem d_Walk_comeToNext_132 : decode b_Walk_comeToNext 132 = .ok (.iconst (-1), 1) := by decide +kernel
theorem d_Walk_comeToNext_133 : decode b_Walk_comeToNext 133 = .ok (.if_icmp .eq 14, 3) := by decide +kernel
theorem d_Walk_comeToNext_136 : decode b_Walk_comeToNext 136 = .ok (.aload_n 0, 1) := by decide +kernel
theorem d_Walk_comeToNext_137 : decode b_Walk_comeToNext 137 = .ok (.iload_n 1, 1) := by decide +kernel
theorem d_Walk_comeToNext_138 : decode b_Walk_comeToNext 138 = .ok (.invokestatic 179, 3) := by decide +kernel
theorem d_Walk_comeToNext_141 : decode b_Walk_comeToNext 141 = .ok (.invokevirtual 182, 3) := by decide +kernel
theorem d_Walk_comeToNext_144 : decode b_Walk_comeToNext 144 = .ok (.goto 15, 3) := by decide +kernel
theorem d_Walk_comeToNext_147 : decode b_Walk_comeToNext 147 = .ok (.iload_n 1, 1) := by decide +kernel
theorem d_Walk_comeToNext_148 : decode b_Walk_comeToNext 148 = .ok (.invokestatic 185, 3) := by decide +kernel
theorem d_Walk_comeToNext_151 : decode b_Walk_comeToNext 151 = .ok (.ifCond .eq 8, 3) := by decide +kernel
theorem d_Walk_comeToNext_154 : decode b_Walk_comeToNext 154 = .ok (.aload_n 0, 1) := by decide +kernel
theorem d_Walk_comeToNext_155 : decode b_Walk_comeToNext 155 = .ok (.iconst 4, 1) := by decide +kernel
theorem d_Walk_comeToNext_156 : decode b_Walk_comeToNext 156 = .ok (.putfield 98, 3) := by decide +kernel
theorem d_Walk_comeToNext_159 : decode b_Walk_comeToNext 159 = .ok (.return_, 1) := by decide +kernel
theorem d_Walk_settle_0 : decode b_Walk_settle 0 = .ok (.aload_n 0, 1) := by decide +kernel
theorem d_Walk_settle_1 : decode b_Walk_settle 1 = .ok (.getfield 12, 3) := by decide +kernel
theorem d_Walk_settle_4 : decode b_Walk_settle 4 = .ok (.getfield 68, 3) := by decide +kernel
theorem d_Walk_settle_7 : decode b_Walk_settle 7 = .ok (.iconst 1, 1) := by decide +kernel
theorem d_Walk_settle_8 : decode b_Walk_settle 8 = .ok (.isub, 1) := by decide +kernel
theorem d_Walk_settle_9 : decode b_Walk_settle 9 = .ok (.istore_n 3, 1) := by decide +kernel
theorem d_Walk_settle_10 : decode b_Walk_settle 10 = .ok (.iload_n 3, 1) := by decide +kernel
theorem d_Walk_settle_11 : decode b_Walk_settle 11 = .ok (.ifCond .lt 14, 3) := by decide +kernel
theorem d_Walk_settle_14 : decode b_Walk_settle 14 = .ok (.aload_n 0, 1) := by decide +kernel
theorem d_Walk_settle_15 : decode b_Walk_settle 15 = .ok (.getfield 12, 3) := by decide +kernel
theorem d_Walk_settle_18 : decode b_Walk_settle 18 = .ok (.iload_n 3, 1) := by decide +kernel
theorem d_Walk_settle_19 : decode b_Walk_settle 19 = .ok (.invokevirtual 134, 3) := by decide +kernel
theorem d_Walk_settle_22 : decode b_Walk_settle 22 = .ok (.ifCond .ne 4, 3) := by decide +kernel
theorem d_Walk_settle_25 : decode b_Walk_settle 25 = .ok (.return_, 1) := by decide +kernel
theorem d_Walk_settle_26 : decode b_Walk_settle 26 = .ok (.aload_n 0, 1) := by decide +kernel
theorem d_Walk_settle_27 : decode b_Walk_settle 27 = .ok (.getfield 12, 3) := by decide +kernel
theorem d_Walk_settle_30 : decode b_Walk_settle 30 = .ok (.getfield 138, 3) := by decide +kernel
theorem d_Walk_settle_33 : decode b_Walk_settle 33 = .ok (.iload_n 3, 1) := by decide +kernel
theorem d_Walk_settle_34 : decode b_Walk_settle 34 = .ok (.iaload, 1) := by decide +kernel
theorem d_Walk_settle_35 : decode b_Walk_settle 35 = .ok (.iconst 2, 1) := by decide +kernel
theorem d_Walk_settle_36 : decode b_Walk_settle 36 = .ok (.if_icmp .ne 7, 3) := by decide +kernel
theorem d_Walk_settle_39 : decode b_Walk_settle 39 = .ok (.iconst 1, 1) := by decide +kernel
theorem d_Walk_settle_40 : decode b_Walk_settle 40 = .ok (.goto 4, 3) := by decide +kernel
theorem d_Walk_settle_43 : decode b_Walk_settle 43 = .ok (.iconst 0, 1) := by decide +kernel
theorem d_Walk_settle_44 : decode b_Walk_settle 44 = .ok (.istore 4, 2) := by decide +kernel
theorem d_Walk_settle_46 : decode b_Walk_settle 46 = .ok (.iload 4, 2) := by decide +kernel
theorem d_Walk_settle_48 : decode b_Walk_settle 48 = .ok (.ifCond .eq 7, 3) := by decide +kernel
theorem d_Walk_settle_51 : decode b_Walk_settle 51 = .ok (.lconst 1, 1) := by decide +kernel
theorem d_Walk_settle_52 : decode b_Walk_settle 52 = .ok (.goto 4, 3) := by decide +kernel
theorem d_Walk_settle_55 : decode b_Walk_settle 55 = .ok (.lconst 0, 1) := by decide +kernel
theorem d_Walk_settle_56 : decode b_Walk_settle 56 = .ok (.lstore 5, 2) := by decide +kernel
theorem d_Walk_settle_58 : decode b_Walk_settle 58 = .ok (.iload 4, 2) := by decide +kernel
theorem d_Walk_settle_60 : decode b_Walk_settle 60 = .ok (.ifCond .eq 9, 3) := by decide +kernel
theorem d_Walk_settle_63 : decode b_Walk_settle 63 = .ok (.ldc2_w 141, 3) := by decide +kernel
theorem d_Walk_settle_66 : decode b_Walk_settle 66 = .ok (.goto 4, 3) := by decide +kernel
theorem d_Walk_settle_69 : decode b_Walk_settle 69 = .ok (.lconst 1, 1) := by decide +kernel
theorem d_Walk_settle_70 : decode b_Walk_settle 70 = .ok (.lstore 7, 2) := by decide +kernel
theorem d_Walk_settle_72 : decode b_Walk_settle 72 = .ok (.lload_n 1, 1) := by decide +kernel
theorem d_Walk_settle_73 : decode b_Walk_settle 73 = .ok (.lload 5, 2) := by decide +kernel
theorem d_Walk_settle_75 : decode b_Walk_settle 75 = .ok (.lcmp, 1) := by decide +kernel
theorem d_Walk_settle_76 : decode b_Walk_settle 76 = .ok (.ifCond .lt 10, 3) := by decide +kernel
theorem d_Walk_settle_79 : decode b_Walk_settle 79 = .ok (.lload_n 1, 1) := by decide +kernel
theorem d_Walk_settle_80 : decode b_Walk_settle 80 = .ok (.lload 7, 2) := by decide +kernel
theorem d_Walk_settle_82 : decode b_Walk_settle 82 = .ok (.lcmp, 1) := by decide +kernel
theorem d_Walk_settle_83 : decode b_Walk_settle 83 = .ok (.ifCond .le 13, 3) := by decide +kernel
theorem d_Walk_settle_86 : decode b_Walk_settle 86 = .ok (.aload_n 0, 1) := by decide +kernel
theorem d_Walk_settle_87 : decode b_Walk_settle 87 = .ok (.bipush 6, 2) := by decide +kernel
theorem d_Walk_settle_89 : decode b_Walk_settle 89 = .ok (.iload_n 3, 1) := by decide +kernel
theorem d_Walk_settle_90 : decode b_Walk_settle 90 = .ok (.invokevirtual 64, 3) := by decide +kernel
theorem d_Walk_settle_93 : decode b_Walk_settle 93 = .ok (.goto 79, 3) := by decide +kernel
theorem d_Walk_settle_96 : decode b_Walk_settle 96 = .ok (.iload 4, 2) := by decide +kernel
theorem d_Walk_settle_98 : decode b_Walk_settle 98 = .ok (.ifCond .eq 28, 3) := by decide +kernel
theorem d_Walk_settle_101 : decode b_Walk_settle 101 = .ok (.aload_n 0, 1) := by decide +kernel
theorem d_Walk_settle_102 : decode b_Walk_settle 102 = .ok (.getfield 21, 3) := by decide +kernel
theorem d_Walk_settle_105 : decode b_Walk_settle 105 = .ok (.aload_n 0, 1) := by decide +kernel
theorem d_Walk_settle_106 : decode b_Walk_settle 106 = .ok (.getfield 92, 3) := by decide +kernel
theorem d_Walk_settle_109 : decode b_Walk_settle 109 = .ok (.aload_n 0, 1) := by decide +kernel
theorem d_Walk_settle_110 : decode b_Walk_settle 110 = .ok (.getfield 107, 3) := by decide +kernel
theorem d_Walk_settle_113 : decode b_Walk_settle 113 = .ok (.lload_n 1, 1) := by decide +kernel
theorem d_Walk_settle_114 : decode b_Walk_settle 114 = .ok (.l2i, 1) := by decide +kernel
theorem d_Walk_settle_115 : decode b_Walk_settle 115 = .ok (.invokevirtual 143, 3) := by decide +kernel
theorem d_Walk_settle_118 : decode b_Walk_settle 118 = .ok (.aload_n 0, 1) := by decide +kernel
theorem d_Walk_settle_119 : decode b_Walk_settle 119 = .ok (.iconst (-1), 1) := by decide +kernel
theorem d_Walk_settle_120 : decode b_Walk_settle 120 = .ok (.putfield 107, 3) := by decide +kernel
theorem d_Walk_settle_123 : decode b_Walk_settle 123 = .ok (.goto 49, 3) := by decide +kernel
theorem d_Walk_settle_126 : decode b_Walk_settle 126 = .ok (.lload_n 1, 1) := by decide +kernel
theorem d_Walk_settle_127 : decode b_Walk_settle 127 = .ok (.lconst 1, 1) := by decide +kernel
theorem d_Walk_settle_128 : decode b_Walk_settle 128 = .ok (.lcmp, 1) := by decide +kernel
theorem d_Walk_settle_129 : decode b_Walk_settle 129 = .ok (.ifCond .ne 43, 3) := by decide +kernel
theorem d_Walk_settle_132 : decode b_Walk_settle 132 = .ok (.aload_n 0, 1) := by decide +kernel
theorem d_Walk_settle_133 : decode b_Walk_settle 133 = .ok (.getfield 86, 3) := by decide +kernel
theorem d_Walk_settle_136 : decode b_Walk_settle 136 = .ok (.aload_n 0, 1) := by decide +kernel
theorem d_Walk_settle_137 : decode b_Walk_settle 137 = .ok (.getfield 34, 3) := by decide +kernel
theorem d_Walk_settle_140 : decode b_Walk_settle 140 = .ok (.arraylength, 1) := by decide +kernel
theorem d_Walk_settle_141 : decode b_Walk_settle 141 = .ok (.if_icmp .ge 31, 3) := by decide +kernel
theorem d_Walk_settle_144 : decode b_Walk_settle 144 = .ok (.aload_n 0, 1) := by decide +kernel
theorem d_Walk_settle_145 : decode b_Walk_settle 145 = .ok (.getfield 34, 3) := by decide +kernel
theorem d_Walk_settle_148 : decode b_Walk_settle 148 = .ok (.aload_n 0, 1) := by decide +kernel
theorem d_Walk_settle_149 : decode b_Walk_settle 149 = .ok (.getfield 86, 3) := by decide +kernel
theorem d_Walk_settle_152 : decode b_Walk_settle 152 = .ok (.aload_n 0, 1) := by decide +kernel
theorem d_Walk_settle_153 : decode b_Walk_settle 153 = .ok (.getfield 12, 3) := by decide +kernel
theorem d_Walk_settle_156 : decode b_Walk_settle 156 = .ok (.getfield 147, 3) := by decide +kernel
theorem d_Walk_settle_159 : decode b_Walk_settle 159 = .ok (.iload_n 3, 1) := by decide +kernel
theorem d_Walk_settle_160 : decode b_Walk_settle 160 = .ok (.iaload, 1) := by decide +kernel
theorem d_Walk_settle_161 : decode b_Walk_settle 161 = .ok (.iastore, 1) := by decide +kernel
theorem d_Walk_settle_162 : decode b_Walk_settle 162 = .ok (.aload_n 0, 1) := by decide +kernel
theorem d_Walk_settle_163 : decode b_Walk_settle 163 = .ok (.dup, 1) := by decide +kernel
theorem d_Walk_settle_164 : decode b_Walk_settle 164 = .ok (.getfield 86, 3) := by decide +kernel
theorem d_Walk_settle_167 : decode b_Walk_settle 167 = .ok (.iconst 1, 1) := by decide +kernel
theorem d_Walk_settle_168 : decode b_Walk_settle 168 = .ok (.iadd, 1) := by decide +kernel
theorem d_Walk_settle_169 : decode b_Walk_settle 169 = .ok (.putfield 86, 3) := by decide +kernel
theorem d_Walk_settle_172 : decode b_Walk_settle 172 = .ok (.return_, 1) := by decide +kernel
theorem d_Walk_advance_0 : decode b_Walk_advance 0 = .ok (.aload_n 0, 1) := by decide +kernel
theorem d_Walk_advance_1 : decode b_Walk_advance 1 = .ok (.getfield 12, 3) := by decide +kernel
theorem d_Walk_advance_4 : decode b_Walk_advance 4 = .ok (.getfield 68, 3) := by decide +kernel
theorem d_Walk_advance_7 : decode b_Walk_advance 7 = .ok (.istore_n 1, 1) := by decide +kernel
theorem d_Walk_advance_8 : decode b_Walk_advance 8 = .ok (.iconst 0, 1) := by decide +kernel
theorem d_Walk_advance_9 : decode b_Walk_advance 9 = .ok (.istore_n 2, 1) := by decide +kernel
theorem d_Walk_advance_10 : decode b_Walk_advance 10 = .ok (.iload_n 2, 1) := by decide +kernel
theorem d_Walk_advance_11 : decode b_Walk_advance 11 = .ok (.sipush 2000, 3) := by decide +kernel
theorem d_Walk_advance_14 : decode b_Walk_advance 14 = .ok (.if_icmp .gt 127, 3) := by decide +kernel
theorem d_Walk_advance_17 : decode b_Walk_advance 17 = .ok (.aload_n 0, 1) := by decide +kernel
theorem d_Walk_advance_18 : decode b_Walk_advance 18 = .ok (.getfield 56, 3) := by decide +kernel
theorem d_Walk_advance_21 : decode b_Walk_advance 21 = .ok (.ifCond .ne 120, 3) := by decide +kernel
theorem d_Walk_advance_24 : decode b_Walk_advance 24 = .ok (.aload_n 0, 1) := by decide +kernel
theorem d_Walk_advance_25 : decode b_Walk_advance 25 = .ok (.getfield 12, 3) := by decide +kernel
theorem d_Walk_advance_28 : decode b_Walk_advance 28 = .ok (.getfield 68, 3) := by decide +kernel
theorem d_Walk_advance_31 : decode b_Walk_advance 31 = .ok (.iload_n 1, 1) := by decide +kernel
theorem d_Walk_advance_32 : decode b_Walk_advance 32 = .ok (.if_icmp .ne 109, 3) := by decide +kernel
theorem d_Walk_advance_35 : decode b_Walk_advance 35 = .ok (.aload_n 0, 1) := by decide +kernel
theorem d_Walk_advance_36 : decode b_Walk_advance 36 = .ok (.getfield 98, 3) := by decide +kernel
theorem d_Walk_advance_39 : decode b_Walk_advance 39 = .ok (.tableswitch 61 0 4 #[40, 33, 40, 47, 54], 33) := by decide +kernel
theorem d_Walk_advance_72 : decode b_Walk_advance 72 = .ok (.aload_n 0, 1) := by decide +kernel
theorem d_Walk_advance_73 : decode b_Walk_advance 73 = .ok (.invokevirtual 110, 3) := by decide +kernel
theorem d_Walk_advance_76 : decode b_Walk_advance 76 = .ok (.goto 59, 3) := by decide +kernel
theorem d_Walk_advance_79 : decode b_Walk_advance 79 = .ok (.aload_n 0, 1) := by decide +kernel
theorem d_Walk_advance_80 : decode b_Walk_advance 80 = .ok (.invokevirtual 113, 3) := by decide +kernel
theorem d_Walk_advance_83 : decode b_Walk_advance 83 = .ok (.goto 52, 3) := by decide +kernel
theorem d_Walk_advance_86 : decode b_Walk_advance 86 = .ok (.aload_n 0, 1) := by decide +kernel
theorem d_Walk_advance_87 : decode b_Walk_advance 87 = .ok (.invokevirtual 116, 3) := by decide +kernel
theorem d_Walk_advance_90 : decode b_Walk_advance 90 = .ok (.goto 45, 3) := by decide +kernel
theorem d_Walk_advance_93 : decode b_Walk_advance 93 = .ok (.aload_n 0, 1) := by decide +kernel
theorem d_Walk_advance_94 : decode b_Walk_advance 94 = .ok (.invokevirtual 119, 3) := by decide +kernel
theorem d_Walk_advance_97 : decode b_Walk_advance 97 = .ok (.goto 38, 3) := by decide +kernel
theorem d_Walk_advance_100 : decode b_Walk_advance 100 = .ok (.aload_n 0, 1) := by decide +kernel
theorem d_Walk_advance_101 : decode b_Walk_advance 101 = .ok (.aload_n 0, 1) := by decide +kernel
theorem d_Walk_advance_102 : decode b_Walk_advance 102 = .ok (.getfield 21, 3) := by decide +kernel
theorem d_Walk_advance_105 : decode b_Walk_advance 105 = .ok (.aload_n 0, 1) := by decide +kernel
theorem d_Walk_advance_106 : decode b_Walk_advance 106 = .ok (.getfield 92, 3) := by decide +kernel
theorem d_Walk_advance_109 : decode b_Walk_advance 109 = .ok (.invokevirtual 122, 3) := by decide +kernel
theorem d_Walk_advance_112 : decode b_Walk_advance 112 = .ok (.putfield 92, 3) := by decide +kernel
theorem d_Walk_advance_115 : decode b_Walk_advance 115 = .ok (.aload_n 0, 1) := by decide +kernel
theorem d_Walk_advance_116 : decode b_Walk_advance 116 = .ok (.getfield 92, 3) := by decide +kernel
theorem d_Walk_advance_119 : decode b_Walk_advance 119 = .ok (.aload_n 0, 1) := by decide +kernel
theorem d_Walk_advance_120 : decode b_Walk_advance 120 = .ok (.getfield 41, 3) := by decide +kernel
theorem d_Walk_advance_123 : decode b_Walk_advance 123 = .ok (.getfield 126, 3) := by decide +kernel
theorem d_Walk_advance_126 : decode b_Walk_advance 126 = .ok (.if_icmp .lt 5, 3) := by decide +kernel
theorem d_Walk_advance_129 : decode b_Walk_advance 129 = .ok (.iconst 0, 1) := by decide +kernel
theorem d_Walk_advance_130 : decode b_Walk_advance 130 = .ok (.ireturn, 1) := by decide +kernel
theorem d_Walk_advance_131 : decode b_Walk_advance 131 = .ok (.aload_n 0, 1) := by decide +kernel
theorem d_Walk_advance_132 : decode b_Walk_advance 132 = .ok (.invokevirtual 131, 3) := by decide +kernel
theorem d_Walk_advance_135 : decode b_Walk_advance 135 = .ok (.iinc 2 1, 3) := by decide +kernel
theorem d_Walk_advance_138 : decode b_Walk_advance 138 = .ok (.goto (-128), 3) := by decide +kernel
theorem d_Walk_advance_141 : decode b_Walk_advance 141 = .ok (.aload_n 0, 1) := by decide +kernel
theorem d_Walk_advance_142 : decode b_Walk_advance 142 = .ok (.getfield 56, 3) := by decide +kernel
theorem d_Walk_advance_145 : decode b_Walk_advance 145 = .ok (.ifCond .ne 18, 3) := by decide +kernel
theorem d_Walk_advance_148 : decode b_Walk_advance 148 = .ok (.aload_n 0, 1) := by decide +kernel
theorem d_Walk_advance_149 : decode b_Walk_advance 149 = .ok (.getfield 12, 3) := by decide +kernel
theorem d_Walk_advance_152 : decode b_Walk_advance 152 = .ok (.getfield 68, 3) := by decide +kernel
theorem d_Walk_advance_155 : decode b_Walk_advance 155 = .ok (.iload_n 1, 1) := by decide +kernel
theorem d_Walk_advance_156 : decode b_Walk_advance 156 = .ok (.if_icmp .le 7, 3) := by decide +kernel
theorem d_Walk_advance_159 : decode b_Walk_advance 159 = .ok (.iconst 1, 1) := by decide +kernel
theorem d_Walk_advance_160 : decode b_Walk_advance 160 = .ok (.goto 4, 3) := by decide +kernel
theorem d_Walk_advance_163 : decode b_Walk_advance 163 = .ok (.iconst 0, 1) := by decide +kernel
theorem d_Walk_advance_164 : decode b_Walk_advance 164 = .ok (.ireturn, 1) := by decide +kernel
theorem d_Walk_over_0 : decode b_Walk_over 0 = .ok (.aload_n 0, 1) := by decide +kernel
theorem d_Walk_over_1 : decode b_Walk_over 1 = .ok (.invokevirtual 45, 3) := by decide +kernel
theorem d_Walk_over_4 : decode b_Walk_over 4 = .ok (.iconst 0, 1) := by decide +kernel
theorem d_Walk_over_5 : decode b_Walk_over 5 = .ok (.istore_n 2, 1) := by decide +kernel
theorem d_Walk_over_6 : decode b_Walk_over 6 = .ok (.aload_n 0, 1) := by decide +kernel
theorem d_Walk_over_7 : decode b_Walk_over 7 = .ok (.invokevirtual 48, 3) := by decide +kernel
theorem d_Walk_over_10 : decode b_Walk_over 10 = .ok (.ifCond .eq 22, 3) := by decide +kernel
theorem d_Walk_over_13 : decode b_Walk_over 13 = .ok (.iload_n 2, 1) := by decide +kernel
theorem d_Walk_over_14 : decode b_Walk_over 14 = .ok (.bipush 100, 2) := by decide +kernel
theorem d_Walk_over_16 : decode b_Walk_over 16 = .ok (.if_icmp .ge 16, 3) := by decide +kernel
theorem d_Walk_over_19 : decode b_Walk_over 19 = .ok (.aload_n 0, 1) := by decide +kernel
theorem d_Walk_over_20 : decode b_Walk_over 20 = .ok (.aload_n 1, 1) := by decide +kernel
theorem d_Walk_over_21 : decode b_Walk_over 21 = .ok (.iload_n 2, 1) := by decide +kernel
theorem d_Walk_over_22 : decode b_Walk_over 22 = .ok (.laload, 1) := by decide +kernel
theorem d_Walk_over_23 : decode b_Walk_over 23 = .ok (.invokevirtual 52, 3) := by decide +kernel
theorem d_Walk_over_26 : decode b_Walk_over 26 = .ok (.iinc 2 1, 3) := by decide +kernel
theorem d_Walk_over_29 : decode b_Walk_over 29 = .ok (.goto (-23), 3) := by decide +kernel
theorem d_Walk_over_32 : decode b_Walk_over 32 = .ok (.return_, 1) := by decide +kernel
theorem d_Walk_overChecked_0 : decode b_Walk_overChecked 0 = .ok (.aload_n 0, 1) := by decide +kernel
theorem d_Walk_overChecked_1 : decode b_Walk_overChecked 1 = .ok (.invokevirtual 45, 3) := by decide +kernel
theorem d_Walk_overChecked_4 : decode b_Walk_overChecked 4 = .ok (.iconst 0, 1) := by decide +kernel
theorem d_Walk_overChecked_5 : decode b_Walk_overChecked 5 = .ok (.istore_n 2, 1) := by decide +kernel
theorem d_Walk_overChecked_6 : decode b_Walk_overChecked 6 = .ok (.aload_n 0, 1) := by decide +kernel
theorem d_Walk_overChecked_7 : decode b_Walk_overChecked 7 = .ok (.invokevirtual 48, 3) := by decide +kernel
theorem d_Walk_overChecked_10 : decode b_Walk_overChecked 10 = .ok (.ifCond .eq 50, 3) := by decide +kernel
theorem d_Walk_overChecked_13 : decode b_Walk_overChecked 13 = .ok (.iload_n 2, 1) := by decide +kernel
theorem d_Walk_overChecked_14 : decode b_Walk_overChecked 14 = .ok (.bipush 100, 2) := by decide +kernel
theorem d_Walk_overChecked_16 : decode b_Walk_overChecked 16 = .ok (.if_icmp .ge 44, 3) := by decide +kernel
theorem d_Walk_overChecked_19 : decode b_Walk_overChecked 19 = .ok (.aload_n 0, 1) := by decide +kernel
theorem d_Walk_overChecked_20 : decode b_Walk_overChecked 20 = .ok (.aload_n 1, 1) := by decide +kernel
theorem d_Walk_overChecked_21 : decode b_Walk_overChecked 21 = .ok (.iload_n 2, 1) := by decide +kernel
theorem d_Walk_overChecked_22 : decode b_Walk_overChecked 22 = .ok (.laload, 1) := by decide +kernel
theorem d_Walk_overChecked_23 : decode b_Walk_overChecked 23 = .ok (.invokevirtual 52, 3) := by decide +kernel
theorem d_Walk_overChecked_26 : decode b_Walk_overChecked 26 = .ok (.aload_n 0, 1) := by decide +kernel
theorem d_Walk_overChecked_27 : decode b_Walk_overChecked 27 = .ok (.getfield 56, 3) := by decide +kernel
theorem d_Walk_overChecked_30 : decode b_Walk_overChecked 30 = .ok (.ifCond .ne 24, 3) := by decide +kernel
theorem d_Walk_overChecked_33 : decode b_Walk_overChecked 33 = .ok (.aload_n 0, 1) := by decide +kernel
theorem d_Walk_overChecked_34 : decode b_Walk_overChecked 34 = .ok (.getfield 12, 3) := by decide +kernel
theorem d_Walk_overChecked_37 : decode b_Walk_overChecked 37 = .ok (.iload_n 2, 1) := by decide +kernel
theorem d_Walk_overChecked_38 : decode b_Walk_overChecked 38 = .ok (.aload_n 1, 1) := by decide +kernel
theorem d_Walk_overChecked_39 : decode b_Walk_overChecked 39 = .ok (.iload_n 2, 1) := by decide +kernel
theorem d_Walk_overChecked_40 : decode b_Walk_overChecked 40 = .ok (.laload, 1) := by decide +kernel
theorem d_Walk_overChecked_41 : decode b_Walk_overChecked 41 = .ok (.invokevirtual 60, 3) := by decide +kernel
theorem d_Walk_overChecked_44 : decode b_Walk_overChecked 44 = .ok (.ifCond .ne 10, 3) := by decide +kernel
theorem d_Walk_overChecked_47 : decode b_Walk_overChecked 47 = .ok (.aload_n 0, 1) := by decide +kernel
theorem d_Walk_overChecked_48 : decode b_Walk_overChecked 48 = .ok (.bipush 9, 2) := by decide +kernel
theorem d_Walk_overChecked_50 : decode b_Walk_overChecked 50 = .ok (.iload_n 2, 1) := by decide +kernel
theorem d_Walk_overChecked_51 : decode b_Walk_overChecked 51 = .ok (.invokevirtual 64, 3) := by decide +kernel
theorem d_Walk_overChecked_54 : decode b_Walk_overChecked 54 = .ok (.iinc 2 1, 3) := by decide +kernel
theorem d_Walk_overChecked_57 : decode b_Walk_overChecked 57 = .ok (.goto (-51), 3) := by decide +kernel
theorem d_Walk_overChecked_60 : decode b_Walk_overChecked 60 = .ok (.return_, 1) := by decide +kernel
theorem d_Grd_isBare_0 : decode b_Grd_isBare 0 = .ok (.iconst 0, 1) := by decide +kernel
theorem d_Grd_isBare_1 : decode b_Grd_isBare 1 = .ok (.istore_n 1, 1) := by decide +kernel
theorem d_Grd_isBare_2 : decode b_Grd_isBare 2 = .ok (.iload_n 1, 1) := by decide +kernel
theorem d_Grd_isBare_3 : decode b_Grd_isBare 3 = .ok (.bipush 64, 2) := by decide +kernel
theorem d_Grd_isBare_5 : decode b_Grd_isBare 5 = .ok (.if_icmp .ge 24, 3) := by decide +kernel
theorem d_Grd_isBare_8 : decode b_Grd_isBare 8 = .ok (.aload_n 0, 1) := by decide +kernel
theorem d_Grd_isBare_9 : decode b_Grd_isBare 9 = .ok (.getfield 11, 3) := by decide +kernel
theorem d_Grd_isBare_12 : decode b_Grd_isBare 12 = .ok (.iload_n 1, 1) := by decide +kernel
theorem d_Grd_isBare_13 : decode b_Grd_isBare 13 = .ok (.laload, 1) := by decide +kernel
theorem d_Grd_isBare_14 : decode b_Grd_isBare 14 = .ok (.ldc2_w 38, 3) := by decide +kernel
theorem d_Grd_isBare_17 : decode b_Grd_isBare 17 = .ok (.lcmp, 1) := by decide +kernel
theorem d_Grd_isBare_18 : decode b_Grd_isBare 18 = .ok (.ifCond .eq 5, 3) := by decide +kernel
theorem d_Grd_isBare_21 : decode b_Grd_isBare 21 = .ok (.iconst 0, 1) := by decide +kernel
theorem d_Grd_isBare_22 : decode b_Grd_isBare 22 = .ok (.ireturn, 1) := by decide +kernel
theorem d_Grd_isBare_23 : decode b_Grd_isBare 23 = .ok (.iinc 1 1, 3) := by decide +kernel
theorem d_Grd_isBare_26 : decode b_Grd_isBare 26 = .ok (.goto (-24), 3) := by decide +kernel
theorem d_Grd_isBare_29 : decode b_Grd_isBare 29 = .ok (.iconst 1, 1) := by decide +kernel
theorem d_Grd_isBare_30 : decode b_Grd_isBare 30 = .ok (.ireturn, 1) := by decide +kernel
theorem d_Grd_inOrder_0 : decode b_Grd_inOrder 0 = .ok (.iload_n 0, 1) := by decide +kernel
theorem d_Grd_inOrder_1 : decode b_Grd_inOrder 1 = .ok (.bipush 8, 2) := by decide +kernel
theorem d_Grd_inOrder_3 : decode b_Grd_inOrder 3 = .ok (.idiv, 1) := by decide +kernel
theorem d_Grd_inOrder_4 : decode b_Grd_inOrder 4 = .ok (.istore_n 1, 1) := by decide +kernel
theorem d_Grd_inOrder_5 : decode b_Grd_inOrder 5 = .ok (.iload_n 1, 1) := by decide +kernel
theorem d_Grd_inOrder_6 : decode b_Grd_inOrder 6 = .ok (.iconst 2, 1) := by decide +kernel
theorem d_Grd_inOrder_7 : decode b_Grd_inOrder 7 = .ok (.irem, 1) := by decide +kernel
theorem d_Grd_inOrder_8 : decode b_Grd_inOrder 8 = .ok (.ifCond .ne 10, 3) := by decide +kernel
theorem d_Grd_inOrder_11 : decode b_Grd_inOrder 11 = .ok (.iload_n 0, 1) := by decide +kernel
theorem d_Grd_inOrder_12 : decode b_Grd_inOrder 12 = .ok (.bipush 8, 2) := by decide +kernel
theorem d_Grd_inOrder_14 : decode b_Grd_inOrder 14 = .ok (.irem, 1) := by decide +kernel
theorem d_Grd_inOrder_15 : decode b_Grd_inOrder 15 = .ok (.goto 10, 3) := by decide +kernel
theorem d_Grd_inOrder_18 : decode b_Grd_inOrder 18 = .ok (.bipush 7, 2) := by decide +kernel
theorem d_Grd_inOrder_20 : decode b_Grd_inOrder 20 = .ok (.iload_n 0, 1) := by decide +kernel
theorem d_Grd_inOrder_21 : decode b_Grd_inOrder 21 = .ok (.bipush 8, 2) := by decide +kernel
theorem d_Grd_inOrder_23 : decode b_Grd_inOrder 23 = .ok (.irem, 1) := by decide +kernel
theorem d_Grd_inOrder_24 : decode b_Grd_inOrder 24 = .ok (.isub, 1) := by decide +kernel
theorem d_Grd_inOrder_25 : decode b_Grd_inOrder 25 = .ok (.istore_n 2, 1) := by decide +kernel
theorem d_Grd_inOrder_26 : decode b_Grd_inOrder 26 = .ok (.bipush 8, 2) := by decide +kernel
theorem d_Grd_inOrder_28 : decode b_Grd_inOrder 28 = .ok (.iload_n 1, 1) := by decide +kernel
theorem d_Grd_inOrder_29 : decode b_Grd_inOrder 29 = .ok (.imul, 1) := by decide +kernel
theorem d_Grd_inOrder_30 : decode b_Grd_inOrder 30 = .ok (.iload_n 2, 1) := by decide +kernel
theorem d_Grd_inOrder_31 : decode b_Grd_inOrder 31 = .ok (.iadd, 1) := by decide +kernel
theorem d_Grd_inOrder_32 : decode b_Grd_inOrder 32 = .ok (.ireturn, 1) := by decide +kernel
theorem d_Grd_takeCode_0 : decode b_Grd_takeCode 0 = .ok (.aload_n 0, 1) := by decide +kernel
theorem d_Grd_takeCode_1 : decode b_Grd_takeCode 1 = .ok (.getfield 15, 3) := by decide +kernel
theorem d_Grd_takeCode_4 : decode b_Grd_takeCode 4 = .ok (.iload_n 1, 1) := by decide +kernel
theorem d_Grd_takeCode_5 : decode b_Grd_takeCode 5 = .ok (.ldc2_w 38, 3) := by decide +kernel
theorem d_Grd_takeCode_8 : decode b_Grd_takeCode 8 = .ok (.lastore, 1) := by decide +kernel
theorem d_Grd_takeCode_9 : decode b_Grd_takeCode 9 = .ok (.aload_n 0, 1) := by decide +kernel
theorem d_Grd_takeCode_10 : decode b_Grd_takeCode 10 = .ok (.getfield 11, 3) := by decide +kernel
theorem d_Grd_takeCode_13 : decode b_Grd_takeCode 13 = .ok (.iload_n 1, 1) := by decide +kernel
theorem d_Grd_takeCode_14 : decode b_Grd_takeCode 14 = .ok (.laload, 1) := by decide +kernel
theorem d_Grd_takeCode_15 : decode b_Grd_takeCode 15 = .ok (.ldc2_w 38, 3) := by decide +kernel
theorem d_Grd_takeCode_18 : decode b_Grd_takeCode 18 = .ok (.lcmp, 1) := by decide +kernel
theorem d_Grd_takeCode_19 : decode b_Grd_takeCode 19 = .ok (.ifCond .eq 53, 3) := by decide +kernel
theorem d_Grd_takeCode_22 : decode b_Grd_takeCode 22 = .ok (.aload_n 0, 1) := by decide +kernel
theorem d_Grd_takeCode_23 : decode b_Grd_takeCode 23 = .ok (.getfield 29, 3) := by decide +kernel
theorem d_Grd_takeCode_26 : decode b_Grd_takeCode 26 = .ok (.aload_n 0, 1) := by decide +kernel
theorem d_Grd_takeCode_27 : decode b_Grd_takeCode 27 = .ok (.getfield 26, 3) := by decide +kernel
theorem d_Grd_takeCode_30 : decode b_Grd_takeCode 30 = .ok (.aload_n 0, 1) := by decide +kernel
theorem d_Grd_takeCode_31 : decode b_Grd_takeCode 31 = .ok (.getfield 11, 3) := by decide +kernel
theorem d_Grd_takeCode_34 : decode b_Grd_takeCode 34 = .ok (.iload_n 1, 1) := by decide +kernel
theorem d_Grd_takeCode_35 : decode b_Grd_takeCode 35 = .ok (.laload, 1) := by decide +kernel
theorem d_Grd_takeCode_36 : decode b_Grd_takeCode 36 = .ok (.lload_n 2, 1) := by decide +kernel
theorem d_Grd_takeCode_37 : decode b_Grd_takeCode 37 = .ok (.lsub, 1) := by decide +kernel
theorem d_Grd_takeCode_38 : decode b_Grd_takeCode 38 = .ok (.iload 4, 2) := by decide +kernel
theorem d_Grd_takeCode_40 : decode b_Grd_takeCode 40 = .ok (.lshr, 1) := by decide +kernel
theorem d_Grd_takeCode_41 : decode b_Grd_takeCode 41 = .ok (.lastore, 1) := by decide +kernel
theorem d_Grd_takeCode_42 : decode b_Grd_takeCode 42 = .ok (.aload_n 0, 1) := by decide +kernel
theorem d_Grd_takeCode_43 : decode b_Grd_takeCode 43 = .ok (.getfield 15, 3) := by decide +kernel
theorem d_Grd_takeCode_46 : decode b_Grd_takeCode 46 = .ok (.iload_n 1, 1) := by decide +kernel
theorem d_Grd_takeCode_47 : decode b_Grd_takeCode 47 = .ok (.lload_n 2, 1) := by decide +kernel
theorem d_Grd_takeCode_48 : decode b_Grd_takeCode 48 = .ok (.aload_n 0, 1) := by decide +kernel
theorem d_Grd_takeCode_49 : decode b_Grd_takeCode 49 = .ok (.getfield 29, 3) := by decide +kernel
theorem d_Grd_takeCode_52 : decode b_Grd_takeCode 52 = .ok (.aload_n 0, 1) := by decide +kernel
theorem d_Grd_takeCode_53 : decode b_Grd_takeCode 53 = .ok (.getfield 26, 3) := by decide +kernel
theorem d_Grd_takeCode_56 : decode b_Grd_takeCode 56 = .ok (.laload, 1) := by decide +kernel
theorem d_Grd_takeCode_57 : decode b_Grd_takeCode 57 = .ok (.iload 4, 2) := by decide +kernel
theorem d_Grd_takeCode_59 : decode b_Grd_takeCode 59 = .ok (.lshl, 1) := by decide +kernel
theorem d_Grd_takeCode_60 : decode b_Grd_takeCode 60 = .ok (.ladd, 1) := by decide +kernel
theorem d_Grd_takeCode_61 : decode b_Grd_takeCode 61 = .ok (.lastore, 1) := by decide +kernel
theorem d_Grd_takeCode_62 : decode b_Grd_takeCode 62 = .ok (.aload_n 0, 1) := by decide +kernel
theorem d_Grd_takeCode_63 : decode b_Grd_takeCode 63 = .ok (.dup, 1) := by decide +kernel
theorem d_Grd_takeCode_64 : decode b_Grd_takeCode 64 = .ok (.getfield 26, 3) := by decide +kernel
theorem d_Grd_takeCode_67 : decode b_Grd_takeCode 67 = .ok (.iconst 1, 1) := by decide +kernel
theorem d_Grd_takeCode_68 : decode b_Grd_takeCode 68 = .ok (.iadd, 1) := by decide +kernel
theorem d_Grd_takeCode_69 : decode b_Grd_takeCode 69 = .ok (.putfield 26, 3) := by decide +kernel
theorem d_Grd_takeCode_72 : decode b_Grd_takeCode 72 = .ok (.return_, 1) := by decide +kernel
theorem d_Grd_takeCodes_0 : decode b_Grd_takeCodes 0 = .ok (.ldc2_w 46, 3) := by decide +kernel
theorem d_Grd_takeCodes_3 : decode b_Grd_takeCodes 3 = .ok (.lstore_n 2, 1) := by decide +kernel
theorem d_Grd_takeCodes_4 : decode b_Grd_takeCodes 4 = .ok (.ldc2_w 48, 3) := by decide +kernel
theorem d_Grd_takeCodes_7 : decode b_Grd_takeCodes 7 = .ok (.lstore 4, 2) := by decide +kernel
theorem d_Grd_takeCodes_9 : decode b_Grd_takeCodes 9 = .ok (.iconst 0, 1) := by decide +kernel
theorem d_Grd_takeCodes_10 : decode b_Grd_takeCodes 10 = .ok (.istore 6, 2) := by decide +kernel
theorem d_Grd_takeCodes_12 : decode b_Grd_takeCodes 12 = .ok (.iload 6, 2) := by decide +kernel
theorem d_Grd_takeCodes_14 : decode b_Grd_takeCodes 14 = .ok (.bipush 64, 2) := by decide +kernel
theorem d_Grd_takeCodes_16 : decode b_Grd_takeCodes 16 = .ok (.if_icmp .ge 49, 3) := by decide +kernel
theorem d_Grd_takeCodes_19 : decode b_Grd_takeCodes 19 = .ok (.aload_n 0, 1) := by decide +kernel
theorem d_Grd_takeCodes_20 : decode b_Grd_takeCodes 20 = .ok (.getfield 11, 3) := by decide +kernel
theorem d_Grd_takeCodes_23 : decode b_Grd_takeCodes 23 = .ok (.iload 6, 2) := by decide +kernel
theorem d_Grd_takeCodes_25 : decode b_Grd_takeCodes 25 = .ok (.laload, 1) := by decide +kernel
theorem d_Grd_takeCodes_26 : decode b_Grd_takeCodes 26 = .ok (.ldc2_w 38, 3) := by decide +kernel
theorem d_Grd_takeCodes_29 : decode b_Grd_takeCodes 29 = .ok (.lcmp, 1) := by decide +kernel
theorem d_Grd_takeCodes_30 : decode b_Grd_takeCodes 30 = .ok (.ifCond .eq 29, 3) := by decide +kernel
theorem d_Grd_takeCodes_33 : decode b_Grd_takeCodes 33 = .ok (.lload_n 2, 1) := by decide +kernel
theorem d_Grd_takeCodes_34 : decode b_Grd_takeCodes 34 = .ok (.aload_n 0, 1) := by decide +kernel
theorem d_Grd_takeCodes_35 : decode b_Grd_takeCodes 35 = .ok (.getfield 11, 3) := by decide +kernel
theorem d_Grd_takeCodes_38 : decode b_Grd_takeCodes 38 = .ok (.iload 6, 2) := by decide +kernel
theorem d_Grd_takeCodes_40 : decode b_Grd_takeCodes 40 = .ok (.laload, 1) := by decide +kernel
theorem d_Grd_takeCodes_41 : decode b_Grd_takeCodes 41 = .ok (.invokestatic 50, 3) := by decide +kernel
theorem d_Grd_takeCodes_44 : decode b_Grd_takeCodes 44 = .ok (.lstore_n 2, 1) := by decide +kernel
theorem d_Grd_takeCodes_45 : decode b_Grd_takeCodes 45 = .ok (.lload 4, 2) := by decide +kernel
theorem d_Grd_takeCodes_47 : decode b_Grd_takeCodes 47 = .ok (.aload_n 0, 1) := by decide +kernel
theorem d_Grd_takeCodes_48 : decode b_Grd_takeCodes 48 = .ok (.getfield 11, 3) := by decide +kernel
theorem d_Grd_takeCodes_51 : decode b_Grd_takeCodes 51 = .ok (.iload 6, 2) := by decide +kernel
theorem d_Grd_takeCodes_53 : decode b_Grd_takeCodes 53 = .ok (.laload, 1) := by decide +kernel
theorem d_Grd_takeCodes_54 : decode b_Grd_takeCodes 54 = .ok (.invokestatic 56, 3) := by decide +kernel
theorem d_Grd_takeCodes_57 : decode b_Grd_takeCodes 57 = .ok (.lstore 4, 2) := by decide +kernel
theorem d_Grd_takeCodes_59 : decode b_Grd_takeCodes 59 = .ok (.iinc 6 1, 3) := by decide +kernel
theorem d_Grd_takeCodes_62 : decode b_Grd_takeCodes 62 = .ok (.goto (-50), 3) := by decide +kernel
theorem d_Grd_takeCodes_65 : decode b_Grd_takeCodes 65 = .ok (.iconst 0, 1) := by decide +kernel
theorem d_Grd_takeCodes_66 : decode b_Grd_takeCodes 66 = .ok (.lload 4, 2) := by decide +kernel
theorem d_Grd_takeCodes_68 : decode b_Grd_takeCodes 68 = .ok (.lload_n 2, 1) := by decide +kernel
theorem d_Grd_takeCodes_69 : decode b_Grd_takeCodes 69 = .ok (.lsub, 1) := by decide +kernel
