theorem d_Rea_takeDifferences_68 : decode b_Rea_takeDifferences 68 = .ok (.aaload, 1) := by decide +kernel
theorem d_Rea_takeDifferences_69 : decode b_Rea_takeDifferences 69 = .ok (.iload_n 2, 1) := by decide +kernel
theorem d_Rea_takeDifferences_70 : decode b_Rea_takeDifferences 70 = .ok (.iload 9, 2) := by decide +kernel
theorem d_Rea_takeDifferences_72 : decode b_Rea_takeDifferences 72 = .ok (.ifCond .eq 9, 3) := by decide +kernel
theorem d_Rea_takeDifferences_75 : decode b_Rea_takeDifferences 75 = .ok (.ldc2_w 52, 3) := by decide +kernel
theorem d_Rea_takeDifferences_78 : decode b_Rea_takeDifferences 78 = .ok (.goto 14, 3) := by decide +kernel
theorem d_Rea_takeDifferences_81 : decode b_Rea_takeDifferences 81 = .ok (.aload_n 1, 1) := by decide +kernel
theorem d_Rea_takeDifferences_82 : decode b_Rea_takeDifferences 82 = .ok (.getfield 144, 3) := by decide +kernel
theorem d_Rea_takeDifferences_85 : decode b_Rea_takeDifferences 85 = .ok (.iload_n 2, 1) := by decide +kernel
theorem d_Rea_takeDifferences_86 : decode b_Rea_takeDifferences 86 = .ok (.laload, 1) := by decide +kernel
theorem d_Rea_takeDifferences_87 : decode b_Rea_takeDifferences 87 = .ok (.lload_n 3, 1) := by decide +kernel
theorem d_Rea_takeDifferences_88 : decode b_Rea_takeDifferences 88 = .ok (.ladd, 1) := by decide +kernel
theorem d_Rea_takeDifferences_89 : decode b_Rea_takeDifferences 89 = .ok (.lload 7, 2) := by decide +kernel
theorem d_Rea_takeDifferences_91 : decode b_Rea_takeDifferences 91 = .ok (.ladd, 1) := by decide +kernel
theorem d_Rea_takeDifferences_92 : decode b_Rea_takeDifferences 92 = .ok (.lastore, 1) := by decide +kernel
theorem d_Rea_takeDifferences_93 : decode b_Rea_takeDifferences 93 = .ok (.iinc 6 1, 3) := by decide +kernel
theorem d_Rea_takeDifferences_96 : decode b_Rea_takeDifferences 96 = .ok (.goto (-93), 3) := by decide +kernel
theorem d_Rea_takeDifferences_99 : decode b_Rea_takeDifferences 99 = .ok (.iconst 1, 1) := by decide +kernel
theorem d_Rea_takeDifferences_100 : decode b_Rea_takeDifferences 100 = .ok (.ireturn, 1) := by decide +kernel
theorem d_Rea_takePackedValues_0 : decode b_Rea_takePackedValues 0 = .ok (.aload_n 1, 1) := by decide +kernel
theorem d_Rea_takePackedValues_1 : decode b_Rea_takePackedValues 1 = .ok (.getfield 111, 3) := by decide +kernel
theorem d_Rea_takePackedValues_4 : decode b_Rea_takePackedValues 4 = .ok (.iload_n 2, 1) := by decide +kernel
theorem d_Rea_takePackedValues_5 : decode b_Rea_takePackedValues 5 = .ok (.iaload, 1) := by decide +kernel
theorem d_Rea_takePackedValues_6 : decode b_Rea_takePackedValues 6 = .ok (.istore_n 3, 1) := by decide +kernel
theorem d_Rea_takePackedValues_7 : decode b_Rea_takePackedValues 7 = .ok (.aload_n 0, 1) := by decide +kernel
theorem d_Rea_takePackedValues_8 : decode b_Rea_takePackedValues 8 = .ok (.getfield 49, 3) := by decide +kernel
theorem d_Rea_takePackedValues_11 : decode b_Rea_takePackedValues 11 = .ok (.aload_n 0, 1) := by decide +kernel
theorem d_Rea_takePackedValues_12 : decode b_Rea_takePackedValues 12 = .ok (.getfield 46, 3) := by decide +kernel
theorem d_Rea_takePackedValues_15 : decode b_Rea_takePackedValues 15 = .ok (.isub, 1) := by decide +kernel
theorem d_Rea_takePackedValues_16 : decode b_Rea_takePackedValues 16 = .ok (.iload_n 3, 1) := by decide +kernel
theorem d_Rea_takePackedValues_17 : decode b_Rea_takePackedValues 17 = .ok (.bipush 6, 2) := by decide +kernel
theorem d_Rea_takePackedValues_19 : decode b_Rea_takePackedValues 19 = .ok (.iadd, 1) := by decide +kernel
theorem d_Rea_takePackedValues_20 : decode b_Rea_takePackedValues 20 = .ok (.if_icmp .ge 5, 3) := by decide +kernel
theorem d_Rea_takePackedValues_23 : decode b_Rea_takePackedValues 23 = .ok (.iconst 0, 1) := by decide +kernel
theorem d_Rea_takePackedValues_24 : decode b_Rea_takePackedValues 24 = .ok (.ireturn, 1) := by decide +kernel
theorem d_Rea_takePackedValues_25 : decode b_Rea_takePackedValues 25 = .ok (.aload_n 0, 1) := by decide +kernel
theorem d_Rea_takePackedValues_26 : decode b_Rea_takePackedValues 26 = .ok (.iload_n 3, 1) := by decide +kernel
theorem d_Rea_takePackedValues_27 : decode b_Rea_takePackedValues 27 = .ok (.invokevirtual 114, 3) := by decide +kernel
theorem d_Rea_takePackedValues_30 : decode b_Rea_takePackedValues 30 = .ok (.lstore 4, 2) := by decide +kernel
theorem d_Rea_takePackedValues_32 : decode b_Rea_takePackedValues 32 = .ok (.aload_n 0, 1) := by decide +kernel
theorem d_Rea_takePackedValues_33 : decode b_Rea_takePackedValues 33 = .ok (.bipush 6, 2) := by decide +kernel
theorem d_Rea_takePackedValues_35 : decode b_Rea_takePackedValues 35 = .ok (.invokevirtual 114, 3) := by decide +kernel
theorem d_Rea_takePackedValues_38 : decode b_Rea_takePackedValues 38 = .ok (.l2i, 1) := by decide +kernel
theorem d_Rea_takePackedValues_39 : decode b_Rea_takePackedValues 39 = .ok (.istore 6, 2) := by decide +kernel
theorem d_Rea_takePackedValues_41 : decode b_Rea_takePackedValues 41 = .ok (.iload 6, 2) := by decide +kernel
theorem d_Rea_takePackedValues_43 : decode b_Rea_takePackedValues 43 = .ok (.bipush 33, 2) := by decide +kernel
theorem d_Rea_takePackedValues_45 : decode b_Rea_takePackedValues 45 = .ok (.if_icmp .gt 22, 3) := by decide +kernel
theorem d_Rea_takePackedValues_48 : decode b_Rea_takePackedValues 48 = .ok (.aload_n 0, 1) := by decide +kernel
theorem d_Rea_takePackedValues_49 : decode b_Rea_takePackedValues 49 = .ok (.getfield 49, 3) := by decide +kernel
theorem d_Rea_takePackedValues_52 : decode b_Rea_takePackedValues 52 = .ok (.aload_n 0, 1) := by decide +kernel
theorem d_Rea_takePackedValues_53 : decode b_Rea_takePackedValues 53 = .ok (.getfield 46, 3) := by decide +kernel
theorem d_Rea_takePackedValues_56 : decode b_Rea_takePackedValues 56 = .ok (.isub, 1) := by decide +kernel
theorem d_Rea_takePackedValues_57 : decode b_Rea_takePackedValues 57 = .ok (.aload_n 0, 1) := by decide +kernel
theorem d_Rea_takePackedValues_58 : decode b_Rea_takePackedValues 58 = .ok (.getfield 39, 3) := by decide +kernel
theorem d_Rea_takePackedValues_61 : decode b_Rea_takePackedValues 61 = .ok (.iload 6, 2) := by decide +kernel
theorem d_Rea_takePackedValues_63 : decode b_Rea_takePackedValues 63 = .ok (.imul, 1) := by decide +kernel
theorem d_Rea_takePackedValues_64 : decode b_Rea_takePackedValues 64 = .ok (.if_icmp .ge 5, 3) := by decide +kernel
theorem d_Rea_takePackedValues_67 : decode b_Rea_takePackedValues 67 = .ok (.iconst 0, 1) := by decide +kernel
theorem d_Rea_takePackedValues_68 : decode b_Rea_takePackedValues 68 = .ok (.ireturn, 1) := by decide +kernel
theorem d_Rea_takePackedValues_69 : decode b_Rea_takePackedValues 69 = .ok (.iload 6, 2) := by decide +kernel
theorem d_Rea_takePackedValues_71 : decode b_Rea_takePackedValues 71 = .ok (.ifCond .ne 12, 3) := by decide +kernel
theorem d_Rea_takePackedValues_74 : decode b_Rea_takePackedValues 74 = .ok (.aload_n 0, 1) := by decide +kernel
theorem d_Rea_takePackedValues_75 : decode b_Rea_takePackedValues 75 = .ok (.aload_n 1, 1) := by decide +kernel
theorem d_Rea_takePackedValues_76 : decode b_Rea_takePackedValues 76 = .ok (.iload_n 2, 1) := by decide +kernel
theorem d_Rea_takePackedValues_77 : decode b_Rea_takePackedValues 77 = .ok (.lload 4, 2) := by decide +kernel
theorem d_Rea_takePackedValues_79 : decode b_Rea_takePackedValues 79 = .ok (.invokevirtual 122, 3) := by decide +kernel
theorem d_Rea_takePackedValues_82 : decode b_Rea_takePackedValues 82 = .ok (.ireturn, 1) := by decide +kernel
theorem d_Rea_takePackedValues_83 : decode b_Rea_takePackedValues 83 = .ok (.aload_n 1, 1) := by decide +kernel
theorem d_Rea_takePackedValues_84 : decode b_Rea_takePackedValues 84 = .ok (.iload_n 2, 1) := by decide +kernel
theorem d_Rea_takePackedValues_85 : decode b_Rea_takePackedValues 85 = .ok (.invokevirtual 126, 3) := by decide +kernel
theorem d_Rea_takePackedValues_88 : decode b_Rea_takePackedValues 88 = .ok (.ifCond .ne 20, 3) := by decide +kernel
theorem d_Rea_takePackedValues_91 : decode b_Rea_takePackedValues 91 = .ok (.aload_n 0, 1) := by decide +kernel
theorem d_Rea_takePackedValues_92 : decode b_Rea_takePackedValues 92 = .ok (.aload_n 1, 1) := by decide +kernel
theorem d_Rea_takePackedValues_93 : decode b_Rea_takePackedValues 93 = .ok (.iload_n 2, 1) := by decide +kernel
theorem d_Rea_takePackedValues_94 : decode b_Rea_takePackedValues 94 = .ok (.lload 4, 2) := by decide +kernel
theorem d_Rea_takePackedValues_96 : decode b_Rea_takePackedValues 96 = .ok (.iload 6, 2) := by decide +kernel
theorem d_Rea_takePackedValues_98 : decode b_Rea_takePackedValues 98 = .ok (.invokevirtual 130, 3) := by decide +kernel
theorem d_Rea_takePackedValues_101 : decode b_Rea_takePackedValues 101 = .ok (.ifCond .eq 7, 3) := by decide +kernel
theorem d_Rea_takePackedValues_104 : decode b_Rea_takePackedValues 104 = .ok (.iconst 1, 1) := by decide +kernel
theorem d_Rea_takePackedValues_105 : decode b_Rea_takePackedValues 105 = .ok (.goto 4, 3) := by decide +kernel
theorem d_Rea_takePackedValues_108 : decode b_Rea_takePackedValues 108 = .ok (.iconst 0, 1) := by decide +kernel
theorem d_Rea_takePackedValues_109 : decode b_Rea_takePackedValues 109 = .ok (.ireturn, 1) := by decide +kernel
theorem d_Rea_endWalk_0 : decode b_Rea_endWalk 0 = .ok (.aload_n 1, 1) := by decide +kernel
theorem d_Rea_endWalk_1 : decode b_Rea_endWalk 1 = .ok (.getfield 100, 3) := by decide +kernel
theorem d_Rea_endWalk_4 : decode b_Rea_endWalk 4 = .ok (.ifCond .ne 31, 3) := by decide +kernel
theorem d_Rea_endWalk_7 : decode b_Rea_endWalk 7 = .ok (.iload_n 3, 1) := by decide +kernel
theorem d_Rea_endWalk_8 : decode b_Rea_endWalk 8 = .ok (.ifCond .eq 27, 3) := by decide +kernel
theorem d_Rea_endWalk_11 : decode b_Rea_endWalk 11 = .ok (.aload_n 0, 1) := by decide +kernel
theorem d_Rea_endWalk_12 : decode b_Rea_endWalk 12 = .ok (.getfield 46, 3) := by decide +kernel
theorem d_Rea_endWalk_15 : decode b_Rea_endWalk 15 = .ok (.aload_n 0, 1) := by decide +kernel
theorem d_Rea_endWalk_16 : decode b_Rea_endWalk 16 = .ok (.getfield 49, 3) := by decide +kernel
theorem d_Rea_endWalk_19 : decode b_Rea_endWalk 19 = .ok (.if_icmp .ge 16, 3) := by decide +kernel
theorem d_Rea_endWalk_22 : decode b_Rea_endWalk 22 = .ok (.aload_n 1, 1) := by decide +kernel
theorem d_Rea_endWalk_23 : decode b_Rea_endWalk 23 = .ok (.bipush 12, 2) := by decide +kernel
theorem d_Rea_endWalk_25 : decode b_Rea_endWalk 25 = .ok (.aload_n 1, 1) := by decide +kernel
theorem d_Rea_endWalk_26 : decode b_Rea_endWalk 26 = .ok (.getfield 76, 3) := by decide +kernel
theorem d_Rea_endWalk_29 : decode b_Rea_endWalk 29 = .ok (.getfield 101, 3) := by decide +kernel
theorem d_Rea_endWalk_32 : decode b_Rea_endWalk 32 = .ok (.invokevirtual 88, 3) := by decide +kernel
theorem d_Rea_endWalk_35 : decode b_Rea_endWalk 35 = .ok (.aload_n 1, 1) := by decide +kernel
theorem d_Rea_endWalk_36 : decode b_Rea_endWalk 36 = .ok (.getfield 100, 3) := by decide +kernel
theorem d_Rea_endWalk_39 : decode b_Rea_endWalk 39 = .ok (.ifCond .eq 23, 3) := by decide +kernel
theorem d_Rea_endWalk_42 : decode b_Rea_endWalk 42 = .ok (.aload_n 0, 1) := by decide +kernel
theorem d_Rea_endWalk_43 : decode b_Rea_endWalk 43 = .ok (.aload_n 1, 1) := by decide +kernel
theorem d_Rea_endWalk_44 : decode b_Rea_endWalk 44 = .ok (.getfield 100, 3) := by decide +kernel
theorem d_Rea_endWalk_47 : decode b_Rea_endWalk 47 = .ok (.putfield 20, 3) := by decide +kernel
theorem d_Rea_endWalk_50 : decode b_Rea_endWalk 50 = .ok (.aload_n 0, 1) := by decide +kernel
theorem d_Rea_endWalk_51 : decode b_Rea_endWalk 51 = .ok (.iload_n 2, 1) := by decide +kernel
theorem d_Rea_endWalk_52 : decode b_Rea_endWalk 52 = .ok (.aload_n 1, 1) := by decide +kernel
theorem d_Rea_endWalk_53 : decode b_Rea_endWalk 53 = .ok (.getfield 106, 3) := by decide +kernel
theorem d_Rea_endWalk_56 : decode b_Rea_endWalk 56 = .ok (.invokestatic 107, 3) := by decide +kernel
theorem d_Rea_endWalk_59 : decode b_Rea_endWalk 59 = .ok (.putfield 24, 3) := by decide +kernel
theorem d_Rea_endWalk_62 : decode b_Rea_endWalk 62 = .ok (.return_, 1) := by decide +kernel
theorem d_Rea_open_0 : decode b_Rea_open 0 = .ok (.aload_n 0, 1) := by decide +kernel
theorem d_Rea_open_1 : decode b_Rea_open 1 = .ok (.iconst 0, 1) := by decide +kernel
theorem d_Rea_open_2 : decode b_Rea_open 2 = .ok (.putfield 20, 3) := by decide +kernel
theorem d_Rea_open_5 : decode b_Rea_open 5 = .ok (.aload_n 0, 1) := by decide +kernel
theorem d_Rea_open_6 : decode b_Rea_open 6 = .ok (.iconst (-1), 1) := by decide +kernel
theorem d_Rea_open_7 : decode b_Rea_open 7 = .ok (.putfield 24, 3) := by decide +kernel
theorem d_Rea_open_10 : decode b_Rea_open 10 = .ok (.aload_n 0, 1) := by decide +kernel
theorem d_Rea_open_11 : decode b_Rea_open 11 = .ok (.getfield 16, 3) := by decide +kernel
theorem d_Rea_open_14 : decode b_Rea_open 14 = .ok (.invokevirtual 27, 3) := by decide +kernel
theorem d_Rea_open_17 : decode b_Rea_open 17 = .ok (.iconst 4, 1) := by decide +kernel
theorem d_Rea_open_18 : decode b_Rea_open 18 = .ok (.if_icmp .ge 5, 3) := by decide +kernel
theorem d_Rea_open_21 : decode b_Rea_open 21 = .ok (.iconst 0, 1) := by decide +kernel
theorem d_Rea_open_22 : decode b_Rea_open 22 = .ok (.ireturn, 1) := by decide +kernel
theorem d_Rea_open_23 : decode b_Rea_open 23 = .ok (.aload_n 0, 1) := by decide +kernel
theorem d_Rea_open_24 : decode b_Rea_open 24 = .ok (.getfield 16, 3) := by decide +kernel
theorem d_Rea_open_27 : decode b_Rea_open 27 = .ok (.getfield 35, 3) := by decide +kernel
theorem d_Rea_open_30 : decode b_Rea_open 30 = .ok (.iconst 0, 1) := by decide +kernel
theorem d_Rea_open_31 : decode b_Rea_open 31 = .ok (.iaload, 1) := by decide +kernel
theorem d_Rea_open_32 : decode b_Rea_open 32 = .ok (.istore_n 1, 1) := by decide +kernel
theorem d_Rea_open_33 : decode b_Rea_open 33 = .ok (.aload_n 0, 1) := by decide +kernel
theorem d_Rea_open_34 : decode b_Rea_open 34 = .ok (.aload_n 0, 1) := by decide +kernel
theorem d_Rea_open_35 : decode b_Rea_open 35 = .ok (.getfield 16, 3) := by decide +kernel
theorem d_Rea_open_38 : decode b_Rea_open 38 = .ok (.getfield 35, 3) := by decide +kernel
theorem d_Rea_open_41 : decode b_Rea_open 41 = .ok (.iconst 1, 1) := by decide +kernel
theorem d_Rea_open_42 : decode b_Rea_open 42 = .ok (.iaload, 1) := by decide +kernel
theorem d_Rea_open_43 : decode b_Rea_open 43 = .ok (.putfield 39, 3) := by decide +kernel
theorem d_Rea_open_46 : decode b_Rea_open 46 = .ok (.aload_n 0, 1) := by decide +kernel
theorem d_Rea_open_47 : decode b_Rea_open 47 = .ok (.iload_n 1, 1) := by decide +kernel
theorem d_Rea_open_48 : decode b_Rea_open 48 = .ok (.bipush 67, 2) := by decide +kernel
theorem d_Rea_open_50 : decode b_Rea_open 50 = .ok (.if_icmp .ne 7, 3) := by decide +kernel
theorem d_Rea_open_53 : decode b_Rea_open 53 = .ok (.iconst 1, 1) := by decide +kernel
theorem d_Rea_open_54 : decode b_Rea_open 54 = .ok (.goto 4, 3) := by decide +kernel
theorem d_Rea_open_57 : decode b_Rea_open 57 = .ok (.iconst 0, 1) := by decide +kernel
theorem d_Rea_open_58 : decode b_Rea_open 58 = .ok (.putfield 42, 3) := by decide +kernel
theorem d_Rea_open_61 : decode b_Rea_open 61 = .ok (.aload_n 0, 1) := by decide +kernel
theorem d_Rea_open_62 : decode b_Rea_open 62 = .ok (.bipush 32, 2) := by decide +kernel
theorem d_Rea_open_64 : decode b_Rea_open 64 = .ok (.putfield 46, 3) := by decide +kernel
theorem d_Rea_open_67 : decode b_Rea_open 67 = .ok (.aload_n 0, 1) := by decide +kernel
theorem d_Rea_open_68 : decode b_Rea_open 68 = .ok (.aload_n 0, 1) := by decide +kernel
theorem d_Rea_open_69 : decode b_Rea_open 69 = .ok (.getfield 46, 3) := by decide +kernel
theorem d_Rea_open_72 : decode b_Rea_open 72 = .ok (.sipush 256, 3) := by decide +kernel
theorem d_Rea_open_75 : decode b_Rea_open 75 = .ok (.aload_n 0, 1) := by decide +kernel
theorem d_Rea_open_76 : decode b_Rea_open 76 = .ok (.getfield 16, 3) := by decide +kernel
theorem d_Rea_open_79 : decode b_Rea_open 79 = .ok (.getfield 35, 3) := by decide +kernel
theorem d_Rea_open_82 : decode b_Rea_open 82 = .ok (.iconst 2, 1) := by decide +kernel
theorem d_Rea_open_83 : decode b_Rea_open 83 = .ok (.iaload, 1) := by decide +kernel
theorem d_Rea_open_84 : decode b_Rea_open 84 = .ok (.imul, 1) := by decide +kernel
theorem d_Rea_open_85 : decode b_Rea_open 85 = .ok (.iadd, 1) := by decide +kernel
theorem d_Rea_open_86 : decode b_Rea_open 86 = .ok (.aload_n 0, 1) := by decide +kernel
theorem d_Rea_open_87 : decode b_Rea_open 87 = .ok (.getfield 16, 3) := by decide +kernel
theorem d_Rea_open_90 : decode b_Rea_open 90 = .ok (.getfield 35, 3) := by decide +kernel
theorem d_Rea_open_93 : decode b_Rea_open 93 = .ok (.iconst 3, 1) := by decide +kernel
theorem d_Rea_open_94 : decode b_Rea_open 94 = .ok (.iaload, 1) := by decide +kernel
theorem d_Rea_open_95 : decode b_Rea_open 95 = .ok (.iadd, 1) := by decide +kernel
theorem d_Rea_open_96 : decode b_Rea_open 96 = .ok (.putfield 49, 3) := by decide +kernel
theorem d_Rea_open_99 : decode b_Rea_open 99 = .ok (.iconst 0, 1) := by decide +kernel
theorem d_Rea_open_100 : decode b_Rea_open 100 = .ok (.istore_n 2, 1) := by decide +kernel
theorem d_Rea_open_101 : decode b_Rea_open 101 = .ok (.iload_n 2, 1) := by decide +kernel
theorem d_Rea_open_102 : decode b_Rea_open 102 = .ok (.bipush 8, 2) := by decide +kernel
theorem d_Rea_open_104 : decode b_Rea_open 104 = .ok (.if_icmp .ge 21, 3) := by decide +kernel
theorem d_Rea_open_107 : decode b_Rea_open 107 = .ok (.aload_n 0, 1) := by decide +kernel
theorem d_Rea_open_108 : decode b_Rea_open 108 = .ok (.getfield 11, 3) := by decide +kernel
theorem d_Rea_open_111 : decode b_Rea_open 111 = .ok (.iload_n 2, 1) := by decide +kernel
theorem d_Rea_open_112 : decode b_Rea_open 112 = .ok (.aaload, 1) := by decide +kernel
theorem d_Rea_open_113 : decode b_Rea_open 113 = .ok (.ldc2_w 52, 3) := by decide +kernel
theorem d_Rea_open_116 : decode b_Rea_open 116 = .ok (.invokestatic 54, 3) := by decide +kernel
theorem d_Rea_open_119 : decode b_Rea_open 119 = .ok (.iinc 2 1, 3) := by decide +kernel
theorem d_Rea_open_122 : decode b_Rea_open 122 = .ok (.goto (-21), 3) := by decide +kernel
theorem d_Rea_open_125 : decode b_Rea_open 125 = .ok (.aload_n 0, 1) := by decide +kernel
theorem d_Rea_open_126 : decode b_Rea_open 126 = .ok (.getfield 42, 3) := by decide +kernel
theorem d_Rea_open_129 : decode b_Rea_open 129 = .ok (.ifCond .ne 9, 3) := by decide +kernel
theorem d_Rea_open_132 : decode b_Rea_open 132 = .ok (.iload_n 1, 1) := by decide +kernel
theorem d_Rea_open_133 : decode b_Rea_open 133 = .ok (.bipush 66, 2) := by decide +kernel
theorem d_Rea_open_135 : decode b_Rea_open 135 = .ok (.if_icmp .ne 72, 3) := by decide +kernel
theorem d_Rea_open_138 : decode b_Rea_open 138 = .ok (.aload_n 0, 1) := by decide +kernel
theorem d_Rea_open_139 : decode b_Rea_open 139 = .ok (.getfield 39, 3) := by decide +kernel
theorem d_Rea_open_142 : decode b_Rea_open 142 = .ok (.iconst 1, 1) := by decide +kernel
theorem d_Rea_open_143 : decode b_Rea_open 143 = .ok (.if_icmp .lt 64, 3) := by decide +kernel
theorem d_Rea_open_146 : decode b_Rea_open 146 = .ok (.aload_n 0, 1) := by decide +kernel
theorem d_Rea_open_147 : decode b_Rea_open 147 = .ok (.getfield 39, 3) := by decide +kernel
theorem d_Rea_open_150 : decode b_Rea_open 150 = .ok (.bipush 8, 2) := by decide +kernel
theorem d_Rea_open_152 : decode b_Rea_open 152 = .ok (.if_icmp .gt 55, 3) := by decide +kernel
theorem d_Rea_open_155 : decode b_Rea_open 155 = .ok (.aload_n 0, 1) := by decide +kernel
theorem d_Rea_open_156 : decode b_Rea_open 156 = .ok (.getfield 16, 3) := by decide +kernel
theorem d_Rea_open_159 : decode b_Rea_open 159 = .ok (.invokevirtual 27, 3) := by decide +kernel
theorem d_Rea_open_162 : decode b_Rea_open 162 = .ok (.aload_n 0, 1) := by decide +kernel
theorem d_Rea_open_163 : decode b_Rea_open 163 = .ok (.getfield 49, 3) := by decide +kernel
theorem d_Rea_open_166 : decode b_Rea_open 166 = .ok (.bipush 7, 2) := by decide +kernel
theorem d_Rea_open_168 : decode b_Rea_open 168 = .ok (.iadd, 1) := by decide +kernel
theorem d_Rea_open_169 : decode b_Rea_open 169 = .ok (.bipush 8, 2) := by decide +kernel
theorem d_Rea_open_171 : decode b_Rea_open 171 = .ok (.idiv, 1) := by decide +kernel
theorem d_Rea_open_172 : decode b_Rea_open 172 = .ok (.if_icmp .ne 35, 3) := by decide +kernel
theorem d_Rea_open_175 : decode b_Rea_open 175 = .ok (.aload_n 0, 1) := by decide +kernel
theorem d_Rea_open_176 : decode b_Rea_open 176 = .ok (.getfield 16, 3) := by decide +kernel
theorem d_Rea_open_179 : decode b_Rea_open 179 = .ok (.aload_n 0, 1) := by decide +kernel
theorem d_Rea_open_180 : decode b_Rea_open 180 = .ok (.getfield 49, 3) := by decide +kernel
theorem d_Rea_open_183 : decode b_Rea_open 183 = .ok (.aload_n 0, 1) := by decide +kernel
theorem d_Rea_open_184 : decode b_Rea_open 184 = .ok (.getfield 16, 3) := by decide +kernel
theorem d_Rea_open_187 : decode b_Rea_open 187 = .ok (.getfield 60, 3) := by decide +kernel
theorem d_Rea_open_190 : decode b_Rea_open 190 = .ok (.aload_n 0, 1) := by decide +kernel
theorem d_Rea_open_191 : decode b_Rea_open 191 = .ok (.getfield 49, 3) := by decide +kernel
theorem d_Rea_open_194 : decode b_Rea_open 194 = .ok (.isub, 1) := by decide +kernel
theorem d_Rea_open_195 : decode b_Rea_open 195 = .ok (.invokevirtual 63, 3) := by decide +kernel
theorem d_Rea_open_198 : decode b_Rea_open 198 = .ok (.lconst 0, 1) := by decide +kernel
theorem d_Rea_open_199 : decode b_Rea_open 199 = .ok (.lcmp, 1) := by decide +kernel
theorem d_Rea_open_200 : decode b_Rea_open 200 = .ok (.ifCond .ne 7, 3) := by decide +kernel
theorem d_Rea_open_203 : decode b_Rea_open 203 = .ok (.iconst 1, 1) := by decide +kernel
theorem d_Rea_open_204 : decode b_Rea_open 204 = .ok (.goto 4, 3) := by decide +kernel
theorem d_Rea_open_207 : decode b_Rea_open 207 = .ok (.iconst 0, 1) := by decide +kernel
theorem d_Rea_open_208 : decode b_Rea_open 208 = .ok (.ireturn, 1) := by decide +kernel
theorem d_Rea_takePlain_0 : decode b_Rea_takePlain 0 = .ok (.iconst 0, 1) := by decide +kernel
theorem d_Rea_takePlain_1 : decode b_Rea_takePlain 1 = .ok (.istore_n 2, 1) := by decide +kernel
theorem d_Rea_takePlain_2 : decode b_Rea_takePlain 2 = .ok (.iload_n 2, 1) := by decide +kernel
theorem d_Rea_takePlain_3 : decode b_Rea_takePlain 3 = .ok (.aload_n 0, 1) := by decide +kernel
theorem d_Rea_takePlain_4 : decode b_Rea_takePlain 4 = .ok (.getfield 39, 3) := by decide +kernel
theorem d_Rea_takePlain_7 : decode b_Rea_takePlain 7 = .ok (.if_icmp .ge 102, 3) := by decide +kernel
theorem d_Rea_takePlain_10 : decode b_Rea_takePlain 10 = .ok (.aload_n 0, 1) := by decide +kernel
theorem d_Rea_takePlain_11 : decode b_Rea_takePlain 11 = .ok (.getfield 20, 3) := by decide +kernel
theorem d_Rea_takePlain_14 : decode b_Rea_takePlain 14 = .ok (.ifCond .ne 95, 3) := by decide +kernel
theorem d_Rea_takePlain_17 : decode b_Rea_takePlain 17 = .ok (.aload_n 1, 1) := by decide +kernel
theorem d_Rea_takePlain_18 : decode b_Rea_takePlain 18 = .ok (.invokevirtual 67, 3) := by decide +kernel
theorem d_Rea_takePlain_21 : decode b_Rea_takePlain 21 = .ok (.iconst 0, 1) := by decide +kernel
theorem d_Rea_takePlain_22 : decode b_Rea_takePlain 22 = .ok (.istore_n 3, 1) := by decide +kernel
theorem d_Rea_takePlain_23 : decode b_Rea_takePlain 23 = .ok (.aload_n 1, 1) := by decide +kernel
theorem d_Rea_takePlain_24 : decode b_Rea_takePlain 24 = .ok (.invokevirtual 72, 3) := by decide +kernel
theorem d_Rea_takePlain_27 : decode b_Rea_takePlain 27 = .ok (.ifCond .eq 55, 3) := by decide +kernel
theorem d_Rea_takePlain_30 : decode b_Rea_takePlain 30 = .ok (.iload_n 3, 1) := by decide +kernel
theorem d_Rea_takePlain_31 : decode b_Rea_takePlain 31 = .ok (.bipush 100, 2) := by decide +kernel
theorem d_Rea_takePlain_33 : decode b_Rea_takePlain 33 = .ok (.if_icmp .ge 49, 3) := by decide +kernel
theorem d_Rea_takePlain_36 : decode b_Rea_takePlain 36 = .ok (.aload_n 0, 1) := by decide +kernel
theorem d_Rea_takePlain_37 : decode b_Rea_takePlain 37 = .ok (.aload_n 1, 1) := by decide +kernel
theorem d_Rea_takePlain_38 : decode b_Rea_takePlain 38 = .ok (.getfield 76, 3) := by decide +kernel
theorem d_Rea_takePlain_41 : decode b_Rea_takePlain 41 = .ok (.iload_n 3, 1) := by decide +kernel
theorem d_Rea_takePlain_42 : decode b_Rea_takePlain 42 = .ok (.aload_n 0, 1) := by decide +kernel
theorem d_Rea_takePlain_43 : decode b_Rea_takePlain 43 = .ok (.getfield 11, 3) := by decide +kernel
theorem d_Rea_takePlain_46 : decode b_Rea_takePlain 46 = .ok (.iload_n 2, 1) := by decide +kernel
theorem d_Rea_takePlain_47 : decode b_Rea_takePlain 47 = .ok (.aaload, 1) := by decide +kernel
theorem d_Rea_takePlain_48 : decode b_Rea_takePlain 48 = .ok (.invokevirtual 80, 3) := by decide +kernel
theorem d_Rea_takePlain_51 : decode b_Rea_takePlain 51 = .ok (.ifCond .eq 18, 3) := by decide +kernel
theorem d_Rea_takePlain_54 : decode b_Rea_takePlain 54 = .ok (.aload_n 1, 1) := by decide +kernel
theorem d_Rea_takePlain_55 : decode b_Rea_takePlain 55 = .ok (.aload_n 0, 1) := by decide +kernel
theorem d_Rea_takePlain_56 : decode b_Rea_takePlain 56 = .ok (.getfield 11, 3) := by decide +kernel
theorem d_Rea_takePlain_59 : decode b_Rea_takePlain 59 = .ok (.iload_n 2, 1) := by decide +kernel
theorem d_Rea_takePlain_60 : decode b_Rea_takePlain 60 = .ok (.aaload, 1) := by decide +kernel
theorem d_Rea_takePlain_61 : decode b_Rea_takePlain 61 = .ok (.iload_n 3, 1) := by decide +kernel
theorem d_Rea_takePlain_62 : decode b_Rea_takePlain 62 = .ok (.laload, 1) := by decide +kernel
theorem d_Rea_takePlain_63 : decode b_Rea_takePlain 63 = .ok (.invokevirtual 84, 3) := by decide +kernel
theorem d_Rea_takePlain_66 : decode b_Rea_takePlain 66 = .ok (.goto 10, 3) := by decide +kernel
theorem d_Rea_takePlain_69 : decode b_Rea_takePlain 69 = .ok (.aload_n 1, 1) := by decide +kernel
theorem d_Rea_takePlain_70 : decode b_Rea_takePlain 70 = .ok (.bipush 12, 2) := by decide +kernel
theorem d_Rea_takePlain_72 : decode b_Rea_takePlain 72 = .ok (.iload_n 3, 1) := by decide +kernel
theorem d_Rea_takePlain_73 : decode b_Rea_takePlain 73 = .ok (.invokevirtual 88, 3) := by decide +kernel
theorem d_Rea_takePlain_76 : decode b_Rea_takePlain 76 = .ok (.iinc 3 1, 3) := by decide +kernel
theorem d_Rea_takePlain_79 : decode b_Rea_takePlain 79 = .ok (.goto (-56), 3) := by decide +kernel
theorem d_Rea_takePlain_82 : decode b_Rea_takePlain 82 = .ok (.aload_n 0, 1) := by decide +kernel
theorem d_Rea_takePlain_83 : decode b_Rea_takePlain 83 = .ok (.aload_n 1, 1) := by decide +kernel
theorem d_Rea_takePlain_84 : decode b_Rea_takePlain 84 = .ok (.iload_n 2, 1) := by decide +kernel
theorem d_Rea_takePlain_85 : decode b_Rea_takePlain 85 = .ok (.iload_n 2, 1) := by decide +kernel
theorem d_Rea_takePlain_86 : decode b_Rea_takePlain 86 = .ok (.aload_n 0, 1) := by decide +kernel
theorem d_Rea_takePlain_87 : decode b_Rea_takePlain 87 = .ok (.getfield 39, 3) := by decide +kernel
theorem d_Rea_takePlain_90 : decode b_Rea_takePlain 90 = .ok (.iconst 1, 1) := by decide +kernel
theorem d_Rea_takePlain_91 : decode b_Rea_takePlain 91 = .ok (.isub, 1) := by decide +kernel
theorem d_Rea_takePlain_92 : decode b_Rea_takePlain 92 = .ok (.if_icmp .ne 7, 3) := by decide +kernel
theorem d_Rea_takePlain_95 : decode b_Rea_takePlain 95 = .ok (.iconst 1, 1) := by decide +kernel
theorem d_Rea_takePlain_96 : decode b_Rea_takePlain 96 = .ok (.goto 4, 3) := by decide +kernel
theorem d_Rea_takePlain_99 : decode b_Rea_takePlain 99 = .ok (.iconst 0, 1) := by decide +kernel
theorem d_Rea_takePlain_100 : decode b_Rea_takePlain 100 = .ok (.invokevirtual 92, 3) := by decide +kernel
theorem d_Rea_takePlain_103 : decode b_Rea_takePlain 103 = .ok (.iinc 2 1, 3) := by decide +kernel
theorem d_Rea_takePlain_106 : decode b_Rea_takePlain 106 = .ok (.goto (-104), 3) := by decide +kernel
theorem d_Rea_takePlain_109 : decode b_Rea_takePlain 109 = .ok (.return_, 1) := by decide +kernel
theorem d_Rea_takePacked_0 : decode b_Rea_takePacked 0 = .ok (.aload_n 1, 1) := by decide +kernel
theorem d_Rea_takePacked_1 : decode b_Rea_takePacked 1 = .ok (.invokevirtual 67, 3) := by decide +kernel
theorem d_Rea_takePacked_4 : decode b_Rea_takePacked 4 = .ok (.iconst 0, 1) := by decide +kernel
theorem d_Rea_takePacked_5 : decode b_Rea_takePacked 5 = .ok (.istore_n 2, 1) := by decide +kernel
theorem d_Rea_takePacked_6 : decode b_Rea_takePacked 6 = .ok (.aload_n 1, 1) := by decide +kernel
theorem d_Rea_takePacked_7 : decode b_Rea_takePacked 7 = .ok (.invokevirtual 72, 3) := by decide +kernel
theorem d_Rea_takePacked_10 : decode b_Rea_takePacked 10 = .ok (.ifCond .eq 49, 3) := by decide +kernel
theorem d_Rea_takePacked_13 : decode b_Rea_takePacked 13 = .ok (.iload_n 2, 1) := by decide +kernel
theorem d_Rea_takePacked_14 : decode b_Rea_takePacked 14 = .ok (.bipush 100, 2) := by decide +kernel
theorem d_Rea_takePacked_16 : decode b_Rea_takePacked 16 = .ok (.if_icmp .ge 43, 3) := by decide +kernel
theorem d_Rea_takePacked_19 : decode b_Rea_takePacked 19 = .ok (.aload_n 0, 1) := by decide +kernel
theorem d_Rea_takePacked_20 : decode b_Rea_takePacked 20 = .ok (.aload_n 1, 1) := by decide +kernel
theorem d_Rea_takePacked_21 : decode b_Rea_takePacked 21 = .ok (.getfield 76, 3) := by decide +kernel
theorem d_Rea_takePacked_24 : decode b_Rea_takePacked 24 = .ok (.iload_n 2, 1) := by decide +kernel
theorem d_Rea_takePacked_25 : decode b_Rea_takePacked 25 = .ok (.invokevirtual 96, 3) := by decide +kernel
theorem d_Rea_takePacked_28 : decode b_Rea_takePacked 28 = .ok (.ifCond .eq 18, 3) := by decide +kernel
theorem d_Rea_takePacked_31 : decode b_Rea_takePacked 31 = .ok (.aload_n 1, 1) := by decide +kernel
theorem d_Rea_takePacked_32 : decode b_Rea_takePacked 32 = .ok (.aload_n 0, 1) := by decide +kernel
theorem d_Rea_takePacked_33 : decode b_Rea_takePacked 33 = .ok (.getfield 11, 3) := by decide +kernel
theorem d_Rea_takePacked_36 : decode b_Rea_takePacked 36 = .ok (.iconst 0, 1) := by decide +kernel
theorem d_Rea_takePacked_37 : decode b_Rea_takePacked 37 = .ok (.aaload, 1) := by decide +kernel
theorem d_Rea_takePacked_38 : decode b_Rea_takePacked 38 = .ok (.iload_n 2, 1) := by decide +kernel
theorem d_Rea_takePacked_39 : decode b_Rea_takePacked 39 = .ok (.laload, 1) := by decide +kernel
theorem d_Rea_takePacked_40 : decode b_Rea_takePacked 40 = .ok (.invokevirtual 84, 3) := by decide +kernel
theorem d_Rea_takePacked_43 : decode b_Rea_takePacked 43 = .ok (.goto 10, 3) := by decide +kernel
theorem d_Rea_takePacked_46 : decode b_Rea_takePacked 46 = .ok (.aload_n 1, 1) := by decide +kernel
theorem d_Rea_takePacked_47 : decode b_Rea_takePacked 47 = .ok (.bipush 12, 2) := by decide +kernel
theorem d_Rea_takePacked_49 : decode b_Rea_takePacked 49 = .ok (.iload_n 2, 1) := by decide +kernel
theorem d_Rea_takePacked_50 : decode b_Rea_takePacked 50 = .ok (.invokevirtual 88, 3) := by decide +kernel
theorem d_Rea_takePacked_53 : decode b_Rea_takePacked 53 = .ok (.iinc 2 1, 3) := by decide +kernel
theorem d_Rea_takePacked_56 : decode b_Rea_takePacked 56 = .ok (.goto (-50), 3) := by decide +kernel
theorem d_Rea_takePacked_59 : decode b_Rea_takePacked 59 = .ok (.aload_n 0, 1) := by decide +kernel
theorem d_Rea_takePacked_60 : decode b_Rea_takePacked 60 = .ok (.aload_n 1, 1) := by decide +kernel
theorem d_Rea_takePacked_61 : decode b_Rea_takePacked 61 = .ok (.iconst 0, 1) := by decide +kernel
theorem d_Rea_takePacked_62 : decode b_Rea_takePacked 62 = .ok (.iconst 1, 1) := by decide +kernel
theorem d_Rea_takePacked_63 : decode b_Rea_takePacked 63 = .ok (.invokevirtual 92, 3) := by decide +kernel
theorem d_Rea_takePacked_66 : decode b_Rea_takePacked 66 = .ok (.return_, 1) := by decide +kernel
theorem d_X_drop_0 : decode b_X_drop 0 = .ok (.iload_n 1, 1) := by decide +kernel
theorem d_X_drop_1 : decode b_X_drop 1 = .ok (.iload_n 2, 1) := by decide +kernel
theorem d_X_drop_2 : decode b_X_drop 2 = .ok (.invokestatic 86, 3) := by decide +kernel
theorem d_X_drop_5 : decode b_X_drop 5 = .ok (.istore_n 3, 1) := by decide +kernel
theorem d_X_drop_6 : decode b_X_drop 6 = .ok (.iload_n 3, 1) := by decide +kernel
theorem d_X_drop_7 : decode b_X_drop 7 = .ok (.iconst (-1), 1) := by decide +kernel
theorem d_X_drop_8 : decode b_X_drop 8 = .ok (.if_icmp .eq 15, 3) := by decide +kernel
theorem d_X_drop_11 : decode b_X_drop 11 = .ok (.aload_n 0, 1) := by decide +kernel
theorem d_X_drop_12 : decode b_X_drop 12 = .ok (.getfield 10, 3) := by decide +kernel
theorem d_X_drop_15 : decode b_X_drop 15 = .ok (.getfield 108, 3) := by decide +kernel
theorem d_X_drop_18 : decode b_X_drop 18 = .ok (.iload_n 3, 1) := by decide +kernel
theorem d_X_drop_19 : decode b_X_drop 19 = .ok (.iaload, 1) := by decide +kernel
theorem d_X_drop_20 : decode b_X_drop 20 = .ok (.ifCond .ne 5, 3) := by decide +kernel
theorem d_X_drop_23 : decode b_X_drop 23 = .ok (.iconst 0, 1) := by decide +kernel
theorem d_X_drop_24 : decode b_X_drop 24 = .ok (.ireturn, 1) := by decide +kernel
theorem d_X_drop_25 : decode b_X_drop 25 = .ok (.aload_n 0, 1) := by decide +kernel
theorem d_X_drop_26 : decode b_X_drop 26 = .ok (.getfield 10, 3) := by decide +kernel
theorem d_X_drop_29 : decode b_X_drop 29 = .ok (.getfield 108, 3) := by decide +kernel
theorem d_X_drop_32 : decode b_X_drop 32 = .ok (.iload_n 3, 1) := by decide +kernel
theorem d_X_drop_33 : decode b_X_drop 33 = .ok (.iconst 0, 1) := by decide +kernel
theorem d_X_drop_34 : decode b_X_drop 34 = .ok (.iastore, 1) := by decide +kernel
theorem d_X_drop_35 : decode b_X_drop 35 = .ok (.iconst 1, 1) := by decide +kernel
theorem d_X_drop_36 : decode b_X_drop 36 = .ok (.ireturn, 1) := by decide +kernel
theorem d_X_fault_0 : decode b_X_fault 0 = .ok (.iload_n 1, 1) := by decide +kernel
theorem d_X_fault_1 : decode b_X_fault 1 = .ok (.ifCond .ne 8, 3) := by decide +kernel
theorem d_X_fault_4 : decode b_X_fault 4 = .ok (.aload_n 0, 1) := by decide +kernel
theorem d_X_fault_5 : decode b_X_fault 5 = .ok (.getfield 79, 3) := by decide +kernel
theorem d_X_fault_8 : decode b_X_fault 8 = .ok (.ireturn, 1) := by decide +kernel
theorem d_X_fault_9 : decode b_X_fault 9 = .ok (.iload_n 1, 1) := by decide +kernel
theorem d_X_fault_10 : decode b_X_fault 10 = .ok (.iconst 1, 1) := by decide +kernel
theorem d_X_fault_11 : decode b_X_fault 11 = .ok (.if_icmp .ne 10, 3) := by decide +kernel
theorem d_X_fault_14 : decode b_X_fault 14 = .ok (.aload_n 0, 1) := by decide +kernel
theorem d_X_fault_15 : decode b_X_fault 15 = .ok (.getfield 83, 3) := by decide +kernel
theorem d_X_fault_18 : decode b_X_fault 18 = .ok (.goto 4, 3) := by decide +kernel
theorem d_X_fault_21 : decode b_X_fault 21 = .ok (.iconst (-1), 1) := by decide +kernel
theorem d_X_fault_22 : decode b_X_fault 22 = .ok (.ireturn, 1) := by decide +kernel
theorem d_X_setFault_0 : decode b_X_setFault 0 = .ok (.aload_n 0, 1) := by decide +kernel
theorem d_X_setFault_1 : decode b_X_setFault 1 = .ok (.iload_n 1, 1) := by decide +kernel
theorem d_X_setFault_2 : decode b_X_setFault 2 = .ok (.putfield 79, 3) := by decide +kernel
theorem d_X_setFault_5 : decode b_X_setFault 5 = .ok (.aload_n 0, 1) := by decide +kernel
theorem d_X_setFault_6 : decode b_X_setFault 6 = .ok (.iload_n 2, 1) := by decide +kernel
theorem d_X_setFault_7 : decode b_X_setFault 7 = .ok (.putfield 83, 3) := by decide +kernel
theorem d_X_setFault_10 : decode b_X_setFault 10 = .ok (.return_, 1) := by decide +kernel
theorem d_X_compileAnew_0 : decode b_X_compileAnew 0 = .ok (.aload_n 0, 1) := by decide +kernel
theorem d_X_compileAnew_1 : decode b_X_compileAnew 1 = .ok (.getfield 21, 3) := by decide +kernel
theorem d_X_compileAnew_4 : decode b_X_compileAnew 4 = .ok (.invokevirtual 319, 3) := by decide +kernel
theorem d_X_compileAnew_7 : decode b_X_compileAnew 7 = .ok (.aload_n 0, 1) := by decide +kernel
theorem d_X_compileAnew_8 : decode b_X_compileAnew 8 = .ok (.aload_n 0, 1) := by decide +kernel
theorem d_X_compileAnew_9 : decode b_X_compileAnew 9 = .ok (.getfield 21, 3) := by decide +kernel
theorem d_X_compileAnew_12 : decode b_X_compileAnew 12 = .ok (.getfield 322, 3) := by decide +kernel
theorem d_X_compileAnew_15 : decode b_X_compileAnew 15 = .ok (.aload_n 0, 1) := by decide +kernel
theorem d_X_compileAnew_16 : decode b_X_compileAnew 16 = .ok (.getfield 21, 3) := by decide +kernel
theorem d_X_compileAnew_19 : decode b_X_compileAnew 19 = .ok (.getfield 323, 3) := by decide +kernel
theorem d_X_compileAnew_22 : decode b_X_compileAnew 22 = .ok (.invokevirtual 162, 3) := by decide +kernel
theorem d_X_compileAnew_25 : decode b_X_compileAnew 25 = .ok (.aload_n 0, 1) := by decide +kernel
theorem d_X_compileAnew_26 : decode b_X_compileAnew 26 = .ok (.getfield 21, 3) := by decide +kernel
theorem d_X_compileAnew_29 : decode b_X_compileAnew 29 = .ok (.getfield 322, 3) := by decide +kernel
theorem d_X_compileAnew_32 : decode b_X_compileAnew 32 = .ok (.ifCond .ne 7, 3) := by decide +kernel
theorem d_X_compileAnew_35 : decode b_X_compileAnew 35 = .ok (.iconst 1, 1) := by decide +kernel
theorem d_X_compileAnew_36 : decode b_X_compileAnew 36 = .ok (.goto 4, 3) := by decide +kernel
theorem d_X_compileAnew_39 : decode b_X_compileAnew 39 = .ok (.iconst 0, 1) := by decide +kernel
theorem d_X_compileAnew_40 : decode b_X_compileAnew 40 = .ok (.ireturn, 1) := by decide +kernel
theorem d_X_walkOver_0 : decode b_X_walkOver 0 = .ok (.iload_n 1, 1) := by decide +kernel
theorem d_X_walkOver_1 : decode b_X_walkOver 1 = .ok (.invokestatic 166, 3) := by decide +kernel
theorem d_X_walkOver_4 : decode b_X_walkOver 4 = .ok (.ifCond .ne 5, 3) := by decide +kernel
theorem d_X_walkOver_7 : decode b_X_walkOver 7 = .ok (.iconst 0, 1) := by decide +kernel
theorem d_X_walkOver_8 : decode b_X_walkOver 8 = .ok (.ireturn, 1) := by decide +kernel
theorem d_X_walkOver_9 : decode b_X_walkOver 9 = .ok (.aload_n 0, 1) := by decide +kernel
theorem d_X_walkOver_10 : decode b_X_walkOver 10 = .ok (.getfield 21, 3) := by decide +kernel
theorem d_X_walkOver_13 : decode b_X_walkOver 13 = .ok (.invokevirtual 319, 3) := by decide +kernel
theorem d_X_walkOver_16 : decode b_X_walkOver 16 = .ok (.aload_n 0, 1) := by decide +kernel
theorem d_X_walkOver_17 : decode b_X_walkOver 17 = .ok (.getfield 21, 3) := by decide +kernel
theorem d_X_walkOver_20 : decode b_X_walkOver 20 = .ok (.getfield 322, 3) := by decide +kernel
theorem d_X_walkOver_23 : decode b_X_walkOver 23 = .ok (.ifCond .eq 5, 3) := by decide +kernel
theorem d_X_walkOver_26 : decode b_X_walkOver 26 = .ok (.iconst 0, 1) := by decide +kernel
theorem d_X_walkOver_27 : decode b_X_walkOver 27 = .ok (.ireturn, 1) := by decide +kernel
theorem d_X_walkOver_28 : decode b_X_walkOver 28 = .ok (.aload_n 0, 1) := by decide +kernel
theorem d_X_walkOver_29 : decode b_X_walkOver 29 = .ok (.getfield 30, 3) := by decide +kernel
theorem d_X_walkOver_32 : decode b_X_walkOver 32 = .ok (.aload_n 0, 1) := by decide +kernel
theorem d_X_walkOver_33 : decode b_X_walkOver 33 = .ok (.getfield 68, 3) := by decide +kernel
theorem d_X_walkOver_36 : decode b_X_walkOver 36 = .ok (.iload_n 1, 1) := by decide +kernel
theorem d_X_walkOver_37 : decode b_X_walkOver 37 = .ok (.aaload, 1) := by decide +kernel
theorem d_X_walkOver_38 : decode b_X_walkOver 38 = .ok (.invokevirtual 171, 3) := by decide +kernel
theorem d_X_walkOver_41 : decode b_X_walkOver 41 = .ok (.iconst 1, 1) := by decide +kernel
theorem d_X_walkOver_42 : decode b_X_walkOver 42 = .ok (.ireturn, 1) := by decide +kernel
theorem d_X_checkValues_0 : decode b_X_checkValues 0 = .ok (.iconst 0, 1) := by decide +kernel
theorem d_X_checkValues_1 : decode b_X_checkValues 1 = .ok (.istore_n 2, 1) := by decide +kernel
theorem d_X_checkValues_2 : decode b_X_checkValues 2 = .ok (.iload_n 2, 1) := by decide +kernel
theorem d_X_checkValues_3 : decode b_X_checkValues 3 = .ok (.iload_n 1, 1) := by decide +kernel
theorem d_X_checkValues_4 : decode b_X_checkValues 4 = .ok (.if_icmp .ge 56, 3) := by decide +kernel
theorem d_X_checkValues_7 : decode b_X_checkValues 7 = .ok (.aload_n 0, 1) := by decide +kernel
theorem d_X_checkValues_8 : decode b_X_checkValues 8 = .ok (.getfield 30, 3) := by decide +kernel
theorem d_X_checkValues_11 : decode b_X_checkValues 11 = .ok (.aload_n 0, 1) := by decide +kernel
theorem d_X_checkValues_12 : decode b_X_checkValues 12 = .ok (.getfield 68, 3) := by decide +kernel
theorem d_X_checkValues_15 : decode b_X_checkValues 15 = .ok (.iload_n 2, 1) := by decide +kernel
theorem d_X_checkValues_16 : decode b_X_checkValues 16 = .ok (.aaload, 1) := by decide +kernel
theorem d_X_checkValues_17 : decode b_X_checkValues 17 = .ok (.invokevirtual 324, 3) := by decide +kernel
theorem d_X_checkValues_20 : decode b_X_checkValues 20 = .ok (.aload_n 0, 1) := by decide +kernel
theorem d_X_checkValues_21 : decode b_X_checkValues 21 = .ok (.getfield 30, 3) := by decide +kernel
theorem d_X_checkValues_24 : decode b_X_checkValues 24 = .ok (.getfield 175, 3) := by decide +kernel
theorem d_X_checkValues_27 : decode b_X_checkValues 27 = .ok (.ifCond .eq 27, 3) := by decide +kernel
theorem d_X_checkValues_30 : decode b_X_checkValues 30 = .ok (.aload_n 0, 1) := by decide +kernel
theorem d_X_checkValues_31 : decode b_X_checkValues 31 = .ok (.aload_n 0, 1) := by decide +kernel
theorem d_X_checkValues_32 : decode b_X_checkValues 32 = .ok (.getfield 30, 3) := by decide +kernel
theorem d_X_checkValues_35 : decode b_X_checkValues 35 = .ok (.getfield 175, 3) := by decide +kernel
theorem d_X_checkValues_38 : decode b_X_checkValues 38 = .ok (.iload_n 2, 1) := by decide +kernel
theorem d_X_checkValues_39 : decode b_X_checkValues 39 = .ok (.aload_n 0, 1) := by decide +kernel
theorem d_X_checkValues_40 : decode b_X_checkValues 40 = .ok (.getfield 30, 3) := by decide +kernel
theorem d_X_checkValues_43 : decode b_X_checkValues 43 = .ok (.getfield 178, 3) := by decide +kernel
theorem d_X_checkValues_46 : decode b_X_checkValues 46 = .ok (.invokestatic 181, 3) := by decide +kernel
theorem d_X_checkValues_49 : decode b_X_checkValues 49 = .ok (.invokevirtual 162, 3) := by decide +kernel
theorem d_X_checkValues_52 : decode b_X_checkValues 52 = .ok (.iconst 0, 1) := by decide +kernel
theorem d_X_checkValues_53 : decode b_X_checkValues 53 = .ok (.ireturn, 1) := by decide +kernel
theorem d_X_checkValues_54 : decode b_X_checkValues 54 = .ok (.iinc 2 1, 3) := by decide +kernel
theorem d_X_checkValues_57 : decode b_X_checkValues 57 = .ok (.goto (-55), 3) := by decide +kernel
theorem d_X_checkValues_60 : decode b_X_checkValues 60 = .ok (.iconst 1, 1) := by decide +kernel
theorem d_X_checkValues_61 : decode b_X_checkValues 61 = .ok (.ireturn, 1) := by decide +kernel
theorem d_X_openTape_0 : decode b_X_openTape 0 = .ok (.aload_n 0, 1) := by decide +kernel
theorem d_X_openTape_1 : decode b_X_openTape 1 = .ok (.getfield 55, 3) := by decide +kernel
theorem d_X_openTape_4 : decode b_X_openTape 4 = .ok (.invokevirtual 331, 3) := by decide +kernel
theorem d_X_openTape_7 : decode b_X_openTape 7 = .ok (.ifCond .eq 5, 3) := by decide +kernel
theorem d_X_openTape_10 : decode b_X_openTape 10 = .ok (.iconst 1, 1) := by decide +kernel
theorem d_X_openTape_11 : decode b_X_openTape 11 = .ok (.ireturn, 1) := by decide +kernel
theorem d_X_openTape_12 : decode b_X_openTape 12 = .ok (.aload_n 0, 1) := by decide +kernel
theorem d_X_openTape_13 : decode b_X_openTape 13 = .ok (.bipush 11, 2) := by decide +kernel
theorem d_X_openTape_15 : decode b_X_openTape 15 = .ok (.iconst (-1), 1) := by decide +kernel
theorem d_X_openTape_16 : decode b_X_openTape 16 = .ok (.invokevirtual 162, 3) := by decide +kernel
theorem d_X_openTape_19 : decode b_X_openTape 19 = .ok (.iconst 0, 1) := by decide +kernel
theorem d_X_openTape_20 : decode b_X_openTape 20 = .ok (.ireturn, 1) := by decide +kernel
theorem d_X_field_0 : decode b_X_field 0 = .ok (.aload_n 0, 1) := by decide +kernel
theorem d_X_field_1 : decode b_X_field 1 = .ok (.iload_n 1, 1) := by decide +kernel
theorem d_X_field_2 : decode b_X_field 2 = .ok (.invokevirtual 195, 3) := by decide +kernel
theorem d_X_field_5 : decode b_X_field 5 = .ok (.ifCond .eq 17, 3) := by decide +kernel
theorem d_X_field_8 : decode b_X_field 8 = .ok (.aload_n 0, 1) := by decide +kernel
theorem d_X_field_9 : decode b_X_field 9 = .ok (.getfield 30, 3) := by decide +kernel
theorem d_X_field_12 : decode b_X_field 12 = .ok (.getfield 186, 3) := by decide +kernel
theorem d_X_field_15 : decode b_X_field 15 = .ok (.iload_n 2, 1) := by decide +kernel
theorem d_X_field_16 : decode b_X_field 16 = .ok (.invokevirtual 198, 3) := by decide +kernel
theorem d_X_field_19 : decode b_X_field 19 = .ok (.ifCond .ne 5, 3) := by decide +kernel
theorem d_X_field_22 : decode b_X_field 22 = .ok (.iconst (-1), 1) := by decide +kernel
theorem d_X_field_23 : decode b_X_field 23 = .ok (.ireturn, 1) := by decide +kernel
theorem d_X_field_24 : decode b_X_field 24 = .ok (.iload_n 3, 1) := by decide +kernel
theorem d_X_field_25 : decode b_X_field 25 = .ok (.tableswitch 117 0 5 #[39, 52, 65, 78, 91, 104], 39) := by decide +kernel
theorem d_X_field_64 : decode b_X_field 64 = .ok (.aload_n 0, 1) := by decide +kernel
theorem d_X_field_65 : decode b_X_field 65 = .ok (.getfield 30, 3) := by decide +kernel
theorem d_X_field_68 : decode b_X_field 68 = .ok (.getfield 186, 3) := by decide +kernel
theorem d_X_field_71 : decode b_X_field 71 = .ok (.getfield 201, 3) := by decide +kernel
theorem d_X_field_74 : decode b_X_field 74 = .ok (.iload_n 2, 1) := by decide +kernel
theorem d_X_field_75 : decode b_X_field 75 = .ok (.iaload, 1) := by decide +kernel
theorem d_X_field_76 : decode b_X_field 76 = .ok (.ireturn, 1) := by decide +kernel
theorem d_X_field_77 : decode b_X_field 77 = .ok (.aload_n 0, 1) := by decide +kernel
theorem d_X_field_78 : decode b_X_field 78 = .ok (.getfield 30, 3) := by decide +kernel
theorem d_X_field_81 : decode b_X_field 81 = .ok (.getfield 186, 3) := by decide +kernel
theorem d_X_field_84 : decode b_X_field 84 = .ok (.getfield 204, 3) := by decide +kernel
theorem d_X_field_87 : decode b_X_field 87 = .ok (.iload_n 2, 1) := by decide +kernel
theorem d_X_field_88 : decode b_X_field 88 = .ok (.iaload, 1) := by decide +kernel
theorem d_X_field_89 : decode b_X_field 89 = .ok (.ireturn, 1) := by decide +kernel
theorem d_X_field_90 : decode b_X_field 90 = .ok (.aload_n 0, 1) := by decide +kernel
theorem d_X_field_91 : decode b_X_field 91 = .ok (.getfield 30, 3) := by decide +kernel
theorem d_X_field_94 : decode b_X_field 94 = .ok (.getfield 186, 3) := by decide +kernel
theorem d_X_field_97 : decode b_X_field 97 = .ok (.getfield 207, 3) := by decide +kernel
theorem d_X_field_100 : decode b_X_field 100 = .ok (.iload_n 2, 1) := by decide +kernel
theorem d_X_field_101 : decode b_X_field 101 = .ok (.iaload, 1) := by decide +kernel
theorem d_X_field_102 : decode b_X_field 102 = .ok (.ireturn, 1) := by decide +kernel
theorem d_X_field_103 : decode b_X_field 103 = .ok (.aload_n 0, 1) := by decide +kernel
theorem d_X_field_104 : decode b_X_field 104 = .ok (.getfield 30, 3) := by decide +kernel
theorem d_X_field_107 : decode b_X_field 107 = .ok (.getfield 186, 3) := by decide +kernel
theorem d_X_field_110 : decode b_X_field 110 = .ok (.getfield 208, 3) := by decide +kernel
theorem d_X_field_113 : decode b_X_field 113 = .ok (.iload_n 2, 1) := by decide +kernel
theorem d_X_field_114 : decode b_X_field 114 = .ok (.iaload, 1) := by decide +kernel
theorem d_X_field_115 : decode b_X_field 115 = .ok (.ireturn, 1) := by decide +kernel
theorem d_X_field_116 : decode b_X_field 116 = .ok (.aload_n 0, 1) := by decide +kernel
theorem d_X_field_117 : decode b_X_field 117 = .ok (.getfield 30, 3) := by decide +kernel
theorem d_X_field_120 : decode b_X_field 120 = .ok (.getfield 186, 3) := by decide +kernel
theorem d_X_field_123 : decode b_X_field 123 = .ok (.getfield 209, 3) := by decide +kernel
theorem d_X_field_126 : decode b_X_field 126 = .ok (.iload_n 2, 1) := by decide +kernel
theorem d_X_field_127 : decode b_X_field 127 = .ok (.iaload, 1) := by decide +kernel
theorem d_X_field_128 : decode b_X_field 128 = .ok (.ireturn, 1) := by decide +kernel
theorem d_X_field_129 : decode b_X_field 129 = .ok (.aload_n 0, 1) := by decide +kernel
theorem d_X_field_130 : decode b_X_field 130 = .ok (.getfield 30, 3) := by decide +kernel
theorem d_X_field_133 : decode b_X_field 133 = .ok (.getfield 186, 3) := by decide +kernel
