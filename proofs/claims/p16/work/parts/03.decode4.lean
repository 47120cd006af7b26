theorem d_Grd_takeCodes_70 : decode b_Grd_takeCodes 70 = .ok (.invokestatic 59, 3) := by decide +kernel
theorem d_Grd_takeCodes_73 : decode b_Grd_takeCodes 73 = .ok (.iload_n 1, 1) := by decide +kernel
theorem d_Grd_takeCodes_74 : decode b_Grd_takeCodes 74 = .ok (.isub, 1) := by decide +kernel
theorem d_Grd_takeCodes_75 : decode b_Grd_takeCodes 75 = .ok (.invokestatic 63, 3) := by decide +kernel
theorem d_Grd_takeCodes_78 : decode b_Grd_takeCodes 78 = .ok (.istore 6, 2) := by decide +kernel
theorem d_Grd_takeCodes_80 : decode b_Grd_takeCodes 80 = .ok (.aload_n 0, 1) := by decide +kernel
theorem d_Grd_takeCodes_81 : decode b_Grd_takeCodes 81 = .ok (.iconst 0, 1) := by decide +kernel
theorem d_Grd_takeCodes_82 : decode b_Grd_takeCodes 82 = .ok (.putfield 26, 3) := by decide +kernel
theorem d_Grd_takeCodes_85 : decode b_Grd_takeCodes 85 = .ok (.iconst 0, 1) := by decide +kernel
theorem d_Grd_takeCodes_86 : decode b_Grd_takeCodes 86 = .ok (.istore 7, 2) := by decide +kernel
theorem d_Grd_takeCodes_88 : decode b_Grd_takeCodes 88 = .ok (.iload 7, 2) := by decide +kernel
theorem d_Grd_takeCodes_90 : decode b_Grd_takeCodes 90 = .ok (.bipush 64, 2) := by decide +kernel
theorem d_Grd_takeCodes_92 : decode b_Grd_takeCodes 92 = .ok (.if_icmp .ge 21, 3) := by decide +kernel
theorem d_Grd_takeCodes_95 : decode b_Grd_takeCodes 95 = .ok (.aload_n 0, 1) := by decide +kernel
theorem d_Grd_takeCodes_96 : decode b_Grd_takeCodes 96 = .ok (.iload 7, 2) := by decide +kernel
theorem d_Grd_takeCodes_98 : decode b_Grd_takeCodes 98 = .ok (.invokestatic 66, 3) := by decide +kernel
theorem d_Grd_takeCodes_101 : decode b_Grd_takeCodes 101 = .ok (.lload_n 2, 1) := by decide +kernel
theorem d_Grd_takeCodes_102 : decode b_Grd_takeCodes 102 = .ok (.iload 6, 2) := by decide +kernel
theorem d_Grd_takeCodes_104 : decode b_Grd_takeCodes 104 = .ok (.invokevirtual 70, 3) := by decide +kernel
theorem d_Grd_takeCodes_107 : decode b_Grd_takeCodes 107 = .ok (.iinc 7 1, 3) := by decide +kernel
theorem d_Grd_takeCodes_110 : decode b_Grd_takeCodes 110 = .ok (.goto (-22), 3) := by decide +kernel
theorem d_Grd_takeCodes_113 : decode b_Grd_takeCodes 113 = .ok (.iload 6, 2) := by decide +kernel
theorem d_Grd_takeCodes_115 : decode b_Grd_takeCodes 115 = .ok (.ireturn, 1) := by decide +kernel
theorem d_Grd_cutFrom_0 : decode b_Grd_cutFrom 0 = .ok (.aload_n 0, 1) := by decide +kernel
theorem d_Grd_cutFrom_1 : decode b_Grd_cutFrom 1 = .ok (.getfield 29, 3) := by decide +kernel
theorem d_Grd_cutFrom_4 : decode b_Grd_cutFrom 4 = .ok (.iload_n 1, 1) := by decide +kernel
theorem d_Grd_cutFrom_5 : decode b_Grd_cutFrom 5 = .ok (.laload, 1) := by decide +kernel
theorem d_Grd_cutFrom_6 : decode b_Grd_cutFrom 6 = .ok (.lstore_n 3, 1) := by decide +kernel
theorem d_Grd_cutFrom_7 : decode b_Grd_cutFrom 7 = .ok (.aload_n 0, 1) := by decide +kernel
theorem d_Grd_cutFrom_8 : decode b_Grd_cutFrom 8 = .ok (.getfield 29, 3) := by decide +kernel
theorem d_Grd_cutFrom_11 : decode b_Grd_cutFrom 11 = .ok (.iload_n 1, 1) := by decide +kernel
theorem d_Grd_cutFrom_12 : decode b_Grd_cutFrom 12 = .ok (.laload, 1) := by decide +kernel
theorem d_Grd_cutFrom_13 : decode b_Grd_cutFrom 13 = .ok (.lstore 5, 2) := by decide +kernel
theorem d_Grd_cutFrom_15 : decode b_Grd_cutFrom 15 = .ok (.aload_n 0, 1) := by decide +kernel
theorem d_Grd_cutFrom_16 : decode b_Grd_cutFrom 16 = .ok (.getfield 32, 3) := by decide +kernel
theorem d_Grd_cutFrom_19 : decode b_Grd_cutFrom 19 = .ok (.iload_n 1, 1) := by decide +kernel
theorem d_Grd_cutFrom_20 : decode b_Grd_cutFrom 20 = .ok (.ldc 81, 2) := by decide +kernel
theorem d_Grd_cutFrom_22 : decode b_Grd_cutFrom 22 = .ok (.iastore, 1) := by decide +kernel
theorem d_Grd_cutFrom_23 : decode b_Grd_cutFrom 23 = .ok (.iload_n 1, 1) := by decide +kernel
theorem d_Grd_cutFrom_24 : decode b_Grd_cutFrom 24 = .ok (.iconst 1, 1) := by decide +kernel
theorem d_Grd_cutFrom_25 : decode b_Grd_cutFrom 25 = .ok (.iadd, 1) := by decide +kernel
theorem d_Grd_cutFrom_26 : decode b_Grd_cutFrom 26 = .ok (.istore 7, 2) := by decide +kernel
theorem d_Grd_cutFrom_28 : decode b_Grd_cutFrom 28 = .ok (.iload 7, 2) := by decide +kernel
theorem d_Grd_cutFrom_30 : decode b_Grd_cutFrom 30 = .ok (.aload_n 0, 1) := by decide +kernel
theorem d_Grd_cutFrom_31 : decode b_Grd_cutFrom 31 = .ok (.getfield 26, 3) := by decide +kernel
theorem d_Grd_cutFrom_34 : decode b_Grd_cutFrom 34 = .ok (.if_icmp .gt 90, 3) := by decide +kernel
theorem d_Grd_cutFrom_37 : decode b_Grd_cutFrom 37 = .ok (.lload_n 3, 1) := by decide +kernel
theorem d_Grd_cutFrom_38 : decode b_Grd_cutFrom 38 = .ok (.aload_n 0, 1) := by decide +kernel
theorem d_Grd_cutFrom_39 : decode b_Grd_cutFrom 39 = .ok (.getfield 29, 3) := by decide +kernel
theorem d_Grd_cutFrom_42 : decode b_Grd_cutFrom 42 = .ok (.iload 7, 2) := by decide +kernel
theorem d_Grd_cutFrom_44 : decode b_Grd_cutFrom 44 = .ok (.iconst 1, 1) := by decide +kernel
theorem d_Grd_cutFrom_45 : decode b_Grd_cutFrom 45 = .ok (.isub, 1) := by decide +kernel
theorem d_Grd_cutFrom_46 : decode b_Grd_cutFrom 46 = .ok (.laload, 1) := by decide +kernel
theorem d_Grd_cutFrom_47 : decode b_Grd_cutFrom 47 = .ok (.invokestatic 50, 3) := by decide +kernel
theorem d_Grd_cutFrom_50 : decode b_Grd_cutFrom 50 = .ok (.lstore_n 3, 1) := by decide +kernel
theorem d_Grd_cutFrom_51 : decode b_Grd_cutFrom 51 = .ok (.lload 5, 2) := by decide +kernel
theorem d_Grd_cutFrom_53 : decode b_Grd_cutFrom 53 = .ok (.aload_n 0, 1) := by decide +kernel
theorem d_Grd_cutFrom_54 : decode b_Grd_cutFrom 54 = .ok (.getfield 29, 3) := by decide +kernel
theorem d_Grd_cutFrom_57 : decode b_Grd_cutFrom 57 = .ok (.iload 7, 2) := by decide +kernel
theorem d_Grd_cutFrom_59 : decode b_Grd_cutFrom 59 = .ok (.iconst 1, 1) := by decide +kernel
theorem d_Grd_cutFrom_60 : decode b_Grd_cutFrom 60 = .ok (.isub, 1) := by decide +kernel
theorem d_Grd_cutFrom_61 : decode b_Grd_cutFrom 61 = .ok (.laload, 1) := by decide +kernel
theorem d_Grd_cutFrom_62 : decode b_Grd_cutFrom 62 = .ok (.invokestatic 56, 3) := by decide +kernel
theorem d_Grd_cutFrom_65 : decode b_Grd_cutFrom 65 = .ok (.lstore 5, 2) := by decide +kernel
theorem d_Grd_cutFrom_67 : decode b_Grd_cutFrom 67 = .ok (.iload_n 2, 1) := by decide +kernel
theorem d_Grd_cutFrom_68 : decode b_Grd_cutFrom 68 = .ok (.iload 7, 2) := by decide +kernel
theorem d_Grd_cutFrom_70 : decode b_Grd_cutFrom 70 = .ok (.iload_n 1, 1) := by decide +kernel
theorem d_Grd_cutFrom_71 : decode b_Grd_cutFrom 71 = .ok (.isub, 1) := by decide +kernel
theorem d_Grd_cutFrom_72 : decode b_Grd_cutFrom 72 = .ok (.lload 5, 2) := by decide +kernel
theorem d_Grd_cutFrom_74 : decode b_Grd_cutFrom 74 = .ok (.lload_n 3, 1) := by decide +kernel
theorem d_Grd_cutFrom_75 : decode b_Grd_cutFrom 75 = .ok (.lsub, 1) := by decide +kernel
theorem d_Grd_cutFrom_76 : decode b_Grd_cutFrom 76 = .ok (.invokestatic 59, 3) := by decide +kernel
theorem d_Grd_cutFrom_79 : decode b_Grd_cutFrom 79 = .ok (.imul, 1) := by decide +kernel
theorem d_Grd_cutFrom_80 : decode b_Grd_cutFrom 80 = .ok (.iadd, 1) := by decide +kernel
theorem d_Grd_cutFrom_81 : decode b_Grd_cutFrom 81 = .ok (.aload_n 0, 1) := by decide +kernel
theorem d_Grd_cutFrom_82 : decode b_Grd_cutFrom 82 = .ok (.getfield 32, 3) := by decide +kernel
theorem d_Grd_cutFrom_85 : decode b_Grd_cutFrom 85 = .ok (.iload 7, 2) := by decide +kernel
theorem d_Grd_cutFrom_87 : decode b_Grd_cutFrom 87 = .ok (.iaload, 1) := by decide +kernel
theorem d_Grd_cutFrom_88 : decode b_Grd_cutFrom 88 = .ok (.iadd, 1) := by decide +kernel
theorem d_Grd_cutFrom_89 : decode b_Grd_cutFrom 89 = .ok (.istore 8, 2) := by decide +kernel
theorem d_Grd_cutFrom_91 : decode b_Grd_cutFrom 91 = .ok (.iload 8, 2) := by decide +kernel
theorem d_Grd_cutFrom_93 : decode b_Grd_cutFrom 93 = .ok (.aload_n 0, 1) := by decide +kernel
theorem d_Grd_cutFrom_94 : decode b_Grd_cutFrom 94 = .ok (.getfield 32, 3) := by decide +kernel
theorem d_Grd_cutFrom_97 : decode b_Grd_cutFrom 97 = .ok (.iload_n 1, 1) := by decide +kernel
theorem d_Grd_cutFrom_98 : decode b_Grd_cutFrom 98 = .ok (.iaload, 1) := by decide +kernel
theorem d_Grd_cutFrom_99 : decode b_Grd_cutFrom 99 = .ok (.if_icmp .gt 19, 3) := by decide +kernel
theorem d_Grd_cutFrom_102 : decode b_Grd_cutFrom 102 = .ok (.aload_n 0, 1) := by decide +kernel
theorem d_Grd_cutFrom_103 : decode b_Grd_cutFrom 103 = .ok (.getfield 32, 3) := by decide +kernel
theorem d_Grd_cutFrom_106 : decode b_Grd_cutFrom 106 = .ok (.iload_n 1, 1) := by decide +kernel
theorem d_Grd_cutFrom_107 : decode b_Grd_cutFrom 107 = .ok (.iload 8, 2) := by decide +kernel
theorem d_Grd_cutFrom_109 : decode b_Grd_cutFrom 109 = .ok (.iastore, 1) := by decide +kernel
theorem d_Grd_cutFrom_110 : decode b_Grd_cutFrom 110 = .ok (.aload_n 0, 1) := by decide +kernel
theorem d_Grd_cutFrom_111 : decode b_Grd_cutFrom 111 = .ok (.getfield 35, 3) := by decide +kernel
theorem d_Grd_cutFrom_114 : decode b_Grd_cutFrom 114 = .ok (.iload_n 1, 1) := by decide +kernel
theorem d_Grd_cutFrom_115 : decode b_Grd_cutFrom 115 = .ok (.iload 7, 2) := by decide +kernel
theorem d_Grd_cutFrom_117 : decode b_Grd_cutFrom 117 = .ok (.iastore, 1) := by decide +kernel
theorem d_Grd_cutFrom_118 : decode b_Grd_cutFrom 118 = .ok (.iinc 7 1, 3) := by decide +kernel
theorem d_Grd_cutFrom_121 : decode b_Grd_cutFrom 121 = .ok (.goto (-93), 3) := by decide +kernel
theorem d_Grd_cutFrom_124 : decode b_Grd_cutFrom 124 = .ok (.return_, 1) := by decide +kernel
theorem d_Grd_cut_0 : decode b_Grd_cut 0 = .ok (.aload_n 0, 1) := by decide +kernel
theorem d_Grd_cut_1 : decode b_Grd_cut 1 = .ok (.getfield 32, 3) := by decide +kernel
theorem d_Grd_cut_4 : decode b_Grd_cut 4 = .ok (.aload_n 0, 1) := by decide +kernel
theorem d_Grd_cut_5 : decode b_Grd_cut 5 = .ok (.getfield 26, 3) := by decide +kernel
theorem d_Grd_cut_8 : decode b_Grd_cut 8 = .ok (.iconst 0, 1) := by decide +kernel
theorem d_Grd_cut_9 : decode b_Grd_cut 9 = .ok (.iastore, 1) := by decide +kernel
theorem d_Grd_cut_10 : decode b_Grd_cut 10 = .ok (.aload_n 0, 1) := by decide +kernel
theorem d_Grd_cut_11 : decode b_Grd_cut 11 = .ok (.getfield 26, 3) := by decide +kernel
theorem d_Grd_cut_14 : decode b_Grd_cut 14 = .ok (.iconst 1, 1) := by decide +kernel
theorem d_Grd_cut_15 : decode b_Grd_cut 15 = .ok (.isub, 1) := by decide +kernel
theorem d_Grd_cut_16 : decode b_Grd_cut 16 = .ok (.istore_n 2, 1) := by decide +kernel
theorem d_Grd_cut_17 : decode b_Grd_cut 17 = .ok (.iload_n 2, 1) := by decide +kernel
theorem d_Grd_cut_18 : decode b_Grd_cut 18 = .ok (.ifCond .lt 18, 3) := by decide +kernel
theorem d_Grd_cut_21 : decode b_Grd_cut 21 = .ok (.aload_n 0, 1) := by decide +kernel
theorem d_Grd_cut_22 : decode b_Grd_cut 22 = .ok (.iload_n 2, 1) := by decide +kernel
theorem d_Grd_cut_23 : decode b_Grd_cut 23 = .ok (.iload_n 1, 1) := by decide +kernel
theorem d_Grd_cut_24 : decode b_Grd_cut 24 = .ok (.bipush 11, 2) := by decide +kernel
theorem d_Grd_cut_26 : decode b_Grd_cut 26 = .ok (.iadd, 1) := by decide +kernel
theorem d_Grd_cut_27 : decode b_Grd_cut 27 = .ok (.invokevirtual 74, 3) := by decide +kernel
theorem d_Grd_cut_30 : decode b_Grd_cut 30 = .ok (.iinc 2 (-1), 3) := by decide +kernel
theorem d_Grd_cut_33 : decode b_Grd_cut 33 = .ok (.goto (-16), 3) := by decide +kernel
theorem d_Grd_cut_36 : decode b_Grd_cut 36 = .ok (.aload_n 0, 1) := by decide +kernel
theorem d_Grd_cut_37 : decode b_Grd_cut 37 = .ok (.aload_n 0, 1) := by decide +kernel
theorem d_Grd_cut_38 : decode b_Grd_cut 38 = .ok (.getfield 32, 3) := by decide +kernel
theorem d_Grd_cut_41 : decode b_Grd_cut 41 = .ok (.iconst 0, 1) := by decide +kernel
theorem d_Grd_cut_42 : decode b_Grd_cut 42 = .ok (.iaload, 1) := by decide +kernel
theorem d_Grd_cut_43 : decode b_Grd_cut 43 = .ok (.putfield 22, 3) := by decide +kernel
theorem d_Grd_cut_46 : decode b_Grd_cut 46 = .ok (.aload_n 0, 1) := by decide +kernel
theorem d_Grd_cut_47 : decode b_Grd_cut 47 = .ok (.iconst 0, 1) := by decide +kernel
theorem d_Grd_cut_48 : decode b_Grd_cut 48 = .ok (.putfield 78, 3) := by decide +kernel
theorem d_Grd_cut_51 : decode b_Grd_cut 51 = .ok (.iconst 0, 1) := by decide +kernel
theorem d_Grd_cut_52 : decode b_Grd_cut 52 = .ok (.istore_n 2, 1) := by decide +kernel
theorem d_Grd_cut_53 : decode b_Grd_cut 53 = .ok (.iload_n 2, 1) := by decide +kernel
theorem d_Grd_cut_54 : decode b_Grd_cut 54 = .ok (.aload_n 0, 1) := by decide +kernel
theorem d_Grd_cut_55 : decode b_Grd_cut 55 = .ok (.getfield 26, 3) := by decide +kernel
theorem d_Grd_cut_58 : decode b_Grd_cut 58 = .ok (.if_icmp .ge 47, 3) := by decide +kernel
theorem d_Grd_cut_61 : decode b_Grd_cut 61 = .ok (.aload_n 0, 1) := by decide +kernel
theorem d_Grd_cut_62 : decode b_Grd_cut 62 = .ok (.getfield 78, 3) := by decide +kernel
theorem d_Grd_cut_65 : decode b_Grd_cut 65 = .ok (.bipush 64, 2) := by decide +kernel
theorem d_Grd_cut_67 : decode b_Grd_cut 67 = .ok (.if_icmp .ge 38, 3) := by decide +kernel
theorem d_Grd_cut_70 : decode b_Grd_cut 70 = .ok (.aload_n 0, 1) := by decide +kernel
theorem d_Grd_cut_71 : decode b_Grd_cut 71 = .ok (.getfield 18, 3) := by decide +kernel
theorem d_Grd_cut_74 : decode b_Grd_cut 74 = .ok (.aload_n 0, 1) := by decide +kernel
theorem d_Grd_cut_75 : decode b_Grd_cut 75 = .ok (.getfield 78, 3) := by decide +kernel
theorem d_Grd_cut_78 : decode b_Grd_cut 78 = .ok (.aload_n 0, 1) := by decide +kernel
theorem d_Grd_cut_79 : decode b_Grd_cut 79 = .ok (.getfield 35, 3) := by decide +kernel
theorem d_Grd_cut_82 : decode b_Grd_cut 82 = .ok (.iload_n 2, 1) := by decide +kernel
theorem d_Grd_cut_83 : decode b_Grd_cut 83 = .ok (.iaload, 1) := by decide +kernel
theorem d_Grd_cut_84 : decode b_Grd_cut 84 = .ok (.iastore, 1) := by decide +kernel
theorem d_Grd_cut_85 : decode b_Grd_cut 85 = .ok (.aload_n 0, 1) := by decide +kernel
theorem d_Grd_cut_86 : decode b_Grd_cut 86 = .ok (.dup, 1) := by decide +kernel
theorem d_Grd_cut_87 : decode b_Grd_cut 87 = .ok (.getfield 78, 3) := by decide +kernel
theorem d_Grd_cut_90 : decode b_Grd_cut 90 = .ok (.iconst 1, 1) := by decide +kernel
theorem d_Grd_cut_91 : decode b_Grd_cut 91 = .ok (.iadd, 1) := by decide +kernel
theorem d_Grd_cut_92 : decode b_Grd_cut 92 = .ok (.putfield 78, 3) := by decide +kernel
theorem d_Grd_cut_95 : decode b_Grd_cut 95 = .ok (.aload_n 0, 1) := by decide +kernel
theorem d_Grd_cut_96 : decode b_Grd_cut 96 = .ok (.getfield 35, 3) := by decide +kernel
theorem d_Grd_cut_99 : decode b_Grd_cut 99 = .ok (.iload_n 2, 1) := by decide +kernel
theorem d_Grd_cut_100 : decode b_Grd_cut 100 = .ok (.iaload, 1) := by decide +kernel
theorem d_Grd_cut_101 : decode b_Grd_cut 101 = .ok (.istore_n 2, 1) := by decide +kernel
theorem d_Grd_cut_102 : decode b_Grd_cut 102 = .ok (.goto (-49), 3) := by decide +kernel
theorem d_Grd_cut_105 : decode b_Grd_cut 105 = .ok (.return_, 1) := by decide +kernel
theorem d_Wri_spreadOf_0 : decode b_Wri_spreadOf 0 = .ok (.lload_n 0, 1) := by decide +kernel
theorem d_Wri_spreadOf_1 : decode b_Wri_spreadOf 1 = .ok (.lconst 0, 1) := by decide +kernel
theorem d_Wri_spreadOf_2 : decode b_Wri_spreadOf 2 = .ok (.lcmp, 1) := by decide +kernel
theorem d_Wri_spreadOf_3 : decode b_Wri_spreadOf 3 = .ok (.ifCond .lt 13, 3) := by decide +kernel
theorem d_Wri_spreadOf_6 : decode b_Wri_spreadOf 6 = .ok (.lload_n 0, 1) := by decide +kernel
theorem d_Wri_spreadOf_7 : decode b_Wri_spreadOf 7 = .ok (.lconst 0, 1) := by decide +kernel
theorem d_Wri_spreadOf_8 : decode b_Wri_spreadOf 8 = .ok (.lcmp, 1) := by decide +kernel
theorem d_Wri_spreadOf_9 : decode b_Wri_spreadOf 9 = .ok (.ifCond .ne 9, 3) := by decide +kernel
theorem d_Wri_spreadOf_12 : decode b_Wri_spreadOf 12 = .ok (.iload_n 2, 1) := by decide +kernel
theorem d_Wri_spreadOf_13 : decode b_Wri_spreadOf 13 = .ok (.ifCond .ne 5, 3) := by decide +kernel
theorem d_Wri_spreadOf_16 : decode b_Wri_spreadOf 16 = .ok (.iconst 0, 1) := by decide +kernel
theorem d_Wri_spreadOf_17 : decode b_Wri_spreadOf 17 = .ok (.ireturn, 1) := by decide +kernel
theorem d_Wri_spreadOf_18 : decode b_Wri_spreadOf 18 = .ok (.lload_n 0, 1) := by decide +kernel
theorem d_Wri_spreadOf_19 : decode b_Wri_spreadOf 19 = .ok (.lconst 1, 1) := by decide +kernel
theorem d_Wri_spreadOf_20 : decode b_Wri_spreadOf 20 = .ok (.ladd, 1) := by decide +kernel
theorem d_Wri_spreadOf_21 : decode b_Wri_spreadOf 21 = .ok (.invokestatic 91, 3) := by decide +kernel
theorem d_Wri_spreadOf_24 : decode b_Wri_spreadOf 24 = .ok (.ireturn, 1) := by decide +kernel
theorem d_Wri_begin_0 : decode b_Wri_begin 0 = .ok (.aload_n 0, 1) := by decide +kernel
theorem d_Wri_begin_1 : decode b_Wri_begin 1 = .ok (.getfield 14, 3) := by decide +kernel
theorem d_Wri_begin_4 : decode b_Wri_begin 4 = .ok (.invokevirtual 59, 3) := by decide +kernel
theorem d_Wri_begin_7 : decode b_Wri_begin 7 = .ok (.aload_n 0, 1) := by decide +kernel
theorem d_Wri_begin_8 : decode b_Wri_begin 8 = .ok (.getfield 14, 3) := by decide +kernel
theorem d_Wri_begin_11 : decode b_Wri_begin 11 = .ok (.iload_n 1, 1) := by decide +kernel
theorem d_Wri_begin_12 : decode b_Wri_begin 12 = .ok (.i2l, 1) := by decide +kernel
theorem d_Wri_begin_13 : decode b_Wri_begin 13 = .ok (.bipush 8, 2) := by decide +kernel
theorem d_Wri_begin_15 : decode b_Wri_begin 15 = .ok (.invokevirtual 48, 3) := by decide +kernel
theorem d_Wri_begin_18 : decode b_Wri_begin 18 = .ok (.aload_n 0, 1) := by decide +kernel
theorem d_Wri_begin_19 : decode b_Wri_begin 19 = .ok (.getfield 14, 3) := by decide +kernel
theorem d_Wri_begin_22 : decode b_Wri_begin 22 = .ok (.iload_n 2, 1) := by decide +kernel
theorem d_Wri_begin_23 : decode b_Wri_begin 23 = .ok (.i2l, 1) := by decide +kernel
theorem d_Wri_begin_24 : decode b_Wri_begin 24 = .ok (.bipush 8, 2) := by decide +kernel
theorem d_Wri_begin_26 : decode b_Wri_begin 26 = .ok (.invokevirtual 48, 3) := by decide +kernel
theorem d_Wri_begin_29 : decode b_Wri_begin 29 = .ok (.aload_n 0, 1) := by decide +kernel
theorem d_Wri_begin_30 : decode b_Wri_begin 30 = .ok (.getfield 14, 3) := by decide +kernel
theorem d_Wri_begin_33 : decode b_Wri_begin 33 = .ok (.lconst 0, 1) := by decide +kernel
theorem d_Wri_begin_34 : decode b_Wri_begin 34 = .ok (.bipush 16, 2) := by decide +kernel
theorem d_Wri_begin_36 : decode b_Wri_begin 36 = .ok (.invokevirtual 48, 3) := by decide +kernel
theorem d_Wri_begin_39 : decode b_Wri_begin 39 = .ok (.return_, 1) := by decide +kernel
theorem d_Wri_end_0 : decode b_Wri_end 0 = .ok (.aload_n 0, 1) := by decide +kernel
theorem d_Wri_end_1 : decode b_Wri_end 1 = .ok (.getfield 14, 3) := by decide +kernel
theorem d_Wri_end_4 : decode b_Wri_end 4 = .ok (.getfield 62, 3) := by decide +kernel
theorem d_Wri_end_7 : decode b_Wri_end 7 = .ok (.bipush 32, 2) := by decide +kernel
theorem d_Wri_end_9 : decode b_Wri_end 9 = .ok (.isub, 1) := by decide +kernel
theorem d_Wri_end_10 : decode b_Wri_end 10 = .ok (.istore_n 1, 1) := by decide +kernel
theorem d_Wri_end_11 : decode b_Wri_end 11 = .ok (.aload_n 0, 1) := by decide +kernel
theorem d_Wri_end_12 : decode b_Wri_end 12 = .ok (.getfield 14, 3) := by decide +kernel
theorem d_Wri_end_15 : decode b_Wri_end 15 = .ok (.getfield 65, 3) := by decide +kernel
theorem d_Wri_end_18 : decode b_Wri_end 18 = .ok (.iconst 2, 1) := by decide +kernel
theorem d_Wri_end_19 : decode b_Wri_end 19 = .ok (.iload_n 1, 1) := by decide +kernel
theorem d_Wri_end_20 : decode b_Wri_end 20 = .ok (.sipush 256, 3) := by decide +kernel
theorem d_Wri_end_23 : decode b_Wri_end 23 = .ok (.idiv, 1) := by decide +kernel
theorem d_Wri_end_24 : decode b_Wri_end 24 = .ok (.iastore, 1) := by decide +kernel
theorem d_Wri_end_25 : decode b_Wri_end 25 = .ok (.aload_n 0, 1) := by decide +kernel
theorem d_Wri_end_26 : decode b_Wri_end 26 = .ok (.getfield 14, 3) := by decide +kernel
theorem d_Wri_end_29 : decode b_Wri_end 29 = .ok (.getfield 65, 3) := by decide +kernel
theorem d_Wri_end_32 : decode b_Wri_end 32 = .ok (.iconst 3, 1) := by decide +kernel
theorem d_Wri_end_33 : decode b_Wri_end 33 = .ok (.iload_n 1, 1) := by decide +kernel
theorem d_Wri_end_34 : decode b_Wri_end 34 = .ok (.sipush 256, 3) := by decide +kernel
theorem d_Wri_end_37 : decode b_Wri_end 37 = .ok (.irem, 1) := by decide +kernel
theorem d_Wri_end_38 : decode b_Wri_end 38 = .ok (.iastore, 1) := by decide +kernel
theorem d_Wri_end_39 : decode b_Wri_end 39 = .ok (.return_, 1) := by decide +kernel
theorem d_Wri_addPacked_0 : decode b_Wri_addPacked 0 = .ok (.aload_n 1, 1) := by decide +kernel
theorem d_Wri_addPacked_1 : decode b_Wri_addPacked 1 = .ok (.getfield 44, 3) := by decide +kernel
theorem d_Wri_addPacked_4 : decode b_Wri_addPacked 4 = .ok (.iload_n 2, 1) := by decide +kernel
theorem d_Wri_addPacked_5 : decode b_Wri_addPacked 5 = .ok (.iaload, 1) := by decide +kernel
theorem d_Wri_addPacked_6 : decode b_Wri_addPacked 6 = .ok (.invokestatic 68, 3) := by decide +kernel
theorem d_Wri_addPacked_9 : decode b_Wri_addPacked 9 = .ok (.lstore 5, 2) := by decide +kernel
theorem d_Wri_addPacked_11 : decode b_Wri_addPacked 11 = .ok (.lconst 0, 1) := by decide +kernel
theorem d_Wri_addPacked_12 : decode b_Wri_addPacked 12 = .ok (.lstore 7, 2) := by decide +kernel
theorem d_Wri_addPacked_14 : decode b_Wri_addPacked 14 = .ok (.iconst 0, 1) := by decide +kernel
theorem d_Wri_addPacked_15 : decode b_Wri_addPacked 15 = .ok (.istore 9, 2) := by decide +kernel
theorem d_Wri_addPacked_17 : decode b_Wri_addPacked 17 = .ok (.iconst 0, 1) := by decide +kernel
theorem d_Wri_addPacked_18 : decode b_Wri_addPacked 18 = .ok (.istore 10, 2) := by decide +kernel
theorem d_Wri_addPacked_20 : decode b_Wri_addPacked 20 = .ok (.iload 10, 2) := by decide +kernel
theorem d_Wri_addPacked_22 : decode b_Wri_addPacked 22 = .ok (.iload 4, 2) := by decide +kernel
theorem d_Wri_addPacked_24 : decode b_Wri_addPacked 24 = .ok (.if_icmp .ge 56, 3) := by decide +kernel
theorem d_Wri_addPacked_27 : decode b_Wri_addPacked 27 = .ok (.aload_n 1, 1) := by decide +kernel
theorem d_Wri_addPacked_28 : decode b_Wri_addPacked 28 = .ok (.iload_n 2, 1) := by decide +kernel
theorem d_Wri_addPacked_29 : decode b_Wri_addPacked 29 = .ok (.aload_n 3, 1) := by decide +kernel
theorem d_Wri_addPacked_30 : decode b_Wri_addPacked 30 = .ok (.iload 10, 2) := by decide +kernel
theorem d_Wri_addPacked_32 : decode b_Wri_addPacked 32 = .ok (.aaload, 1) := by decide +kernel
theorem d_Wri_addPacked_33 : decode b_Wri_addPacked 33 = .ok (.iload_n 2, 1) := by decide +kernel
theorem d_Wri_addPacked_34 : decode b_Wri_addPacked 34 = .ok (.laload, 1) := by decide +kernel
theorem d_Wri_addPacked_35 : decode b_Wri_addPacked 35 = .ok (.invokevirtual 40, 3) := by decide +kernel
theorem d_Wri_addPacked_38 : decode b_Wri_addPacked 38 = .ok (.lstore 11, 2) := by decide +kernel
theorem d_Wri_addPacked_40 : decode b_Wri_addPacked 40 = .ok (.aload_n 1, 1) := by decide +kernel
theorem d_Wri_addPacked_41 : decode b_Wri_addPacked 41 = .ok (.iload_n 2, 1) := by decide +kernel
theorem d_Wri_addPacked_42 : decode b_Wri_addPacked 42 = .ok (.lload 11, 2) := by decide +kernel
theorem d_Wri_addPacked_44 : decode b_Wri_addPacked 44 = .ok (.invokevirtual 74, 3) := by decide +kernel
theorem d_Wri_addPacked_47 : decode b_Wri_addPacked 47 = .ok (.ifCond .eq 9, 3) := by decide +kernel
theorem d_Wri_addPacked_50 : decode b_Wri_addPacked 50 = .ok (.iconst 1, 1) := by decide +kernel
theorem d_Wri_addPacked_51 : decode b_Wri_addPacked 51 = .ok (.istore 9, 2) := by decide +kernel
theorem d_Wri_addPacked_53 : decode b_Wri_addPacked 53 = .ok (.goto 21, 3) := by decide +kernel
theorem d_Wri_addPacked_56 : decode b_Wri_addPacked 56 = .ok (.lload 5, 2) := by decide +kernel
theorem d_Wri_addPacked_58 : decode b_Wri_addPacked 58 = .ok (.lload 11, 2) := by decide +kernel
theorem d_Wri_addPacked_60 : decode b_Wri_addPacked 60 = .ok (.invokestatic 78, 3) := by decide +kernel
theorem d_Wri_addPacked_63 : decode b_Wri_addPacked 63 = .ok (.lstore 5, 2) := by decide +kernel
theorem d_Wri_addPacked_65 : decode b_Wri_addPacked 65 = .ok (.lload 7, 2) := by decide +kernel
theorem d_Wri_addPacked_67 : decode b_Wri_addPacked 67 = .ok (.lload 11, 2) := by decide +kernel
theorem d_Wri_addPacked_69 : decode b_Wri_addPacked 69 = .ok (.invokestatic 84, 3) := by decide +kernel
theorem d_Wri_addPacked_72 : decode b_Wri_addPacked 72 = .ok (.lstore 7, 2) := by decide +kernel
theorem d_Wri_addPacked_74 : decode b_Wri_addPacked 74 = .ok (.iinc 10 1, 3) := by decide +kernel
theorem d_Wri_addPacked_77 : decode b_Wri_addPacked 77 = .ok (.goto (-57), 3) := by decide +kernel
theorem d_Wri_addPacked_80 : decode b_Wri_addPacked 80 = .ok (.lload 7, 2) := by decide +kernel
theorem d_Wri_addPacked_82 : decode b_Wri_addPacked 82 = .ok (.lload 5, 2) := by decide +kernel
theorem d_Wri_addPacked_84 : decode b_Wri_addPacked 84 = .ok (.lsub, 1) := by decide +kernel
theorem d_Wri_addPacked_85 : decode b_Wri_addPacked 85 = .ok (.iload 9, 2) := by decide +kernel
theorem d_Wri_addPacked_87 : decode b_Wri_addPacked 87 = .ok (.invokestatic 87, 3) := by decide +kernel
theorem d_Wri_addPacked_90 : decode b_Wri_addPacked 90 = .ok (.istore 10, 2) := by decide +kernel
theorem d_Wri_addPacked_92 : decode b_Wri_addPacked 92 = .ok (.aload_n 0, 1) := by decide +kernel
theorem d_Wri_addPacked_93 : decode b_Wri_addPacked 93 = .ok (.getfield 14, 3) := by decide +kernel
theorem d_Wri_addPacked_96 : decode b_Wri_addPacked 96 = .ok (.lload 5, 2) := by decide +kernel
theorem d_Wri_addPacked_98 : decode b_Wri_addPacked 98 = .ok (.aload_n 1, 1) := by decide +kernel
theorem d_Wri_addPacked_99 : decode b_Wri_addPacked 99 = .ok (.getfield 44, 3) := by decide +kernel
theorem d_Wri_addPacked_102 : decode b_Wri_addPacked 102 = .ok (.iload_n 2, 1) := by decide +kernel
theorem d_Wri_addPacked_103 : decode b_Wri_addPacked 103 = .ok (.iaload, 1) := by decide +kernel
theorem d_Wri_addPacked_104 : decode b_Wri_addPacked 104 = .ok (.invokevirtual 48, 3) := by decide +kernel
theorem d_Wri_addPacked_107 : decode b_Wri_addPacked 107 = .ok (.aload_n 0, 1) := by decide +kernel
theorem d_Wri_addPacked_108 : decode b_Wri_addPacked 108 = .ok (.getfield 14, 3) := by decide +kernel
theorem d_Wri_addPacked_111 : decode b_Wri_addPacked 111 = .ok (.iload 10, 2) := by decide +kernel
theorem d_Wri_addPacked_113 : decode b_Wri_addPacked 113 = .ok (.i2l, 1) := by decide +kernel
theorem d_Wri_addPacked_114 : decode b_Wri_addPacked 114 = .ok (.bipush 6, 2) := by decide +kernel
theorem d_Wri_addPacked_116 : decode b_Wri_addPacked 116 = .ok (.invokevirtual 48, 3) := by decide +kernel
theorem d_Wri_addPacked_119 : decode b_Wri_addPacked 119 = .ok (.iconst 0, 1) := by decide +kernel
theorem d_Wri_addPacked_120 : decode b_Wri_addPacked 120 = .ok (.istore 11, 2) := by decide +kernel
theorem d_Wri_addPacked_122 : decode b_Wri_addPacked 122 = .ok (.iload 11, 2) := by decide +kernel
theorem d_Wri_addPacked_124 : decode b_Wri_addPacked 124 = .ok (.iload 4, 2) := by decide +kernel
theorem d_Wri_addPacked_126 : decode b_Wri_addPacked 126 = .ok (.if_icmp .ge 59, 3) := by decide +kernel
theorem d_Wri_addPacked_129 : decode b_Wri_addPacked 129 = .ok (.iload 10, 2) := by decide +kernel
theorem d_Wri_addPacked_131 : decode b_Wri_addPacked 131 = .ok (.ifCond .le 54, 3) := by decide +kernel
theorem d_Wri_addPacked_134 : decode b_Wri_addPacked 134 = .ok (.aload_n 1, 1) := by decide +kernel
theorem d_Wri_addPacked_135 : decode b_Wri_addPacked 135 = .ok (.iload_n 2, 1) := by decide +kernel
theorem d_Wri_addPacked_136 : decode b_Wri_addPacked 136 = .ok (.aload_n 3, 1) := by decide +kernel
theorem d_Wri_addPacked_137 : decode b_Wri_addPacked 137 = .ok (.iload 11, 2) := by decide +kernel
theorem d_Wri_addPacked_139 : decode b_Wri_addPacked 139 = .ok (.aaload, 1) := by decide +kernel
theorem d_Wri_addPacked_140 : decode b_Wri_addPacked 140 = .ok (.iload_n 2, 1) := by decide +kernel
theorem d_Wri_addPacked_141 : decode b_Wri_addPacked 141 = .ok (.laload, 1) := by decide +kernel
theorem d_Wri_addPacked_142 : decode b_Wri_addPacked 142 = .ok (.invokevirtual 40, 3) := by decide +kernel
theorem d_Wri_addPacked_145 : decode b_Wri_addPacked 145 = .ok (.lstore 12, 2) := by decide +kernel
theorem d_Wri_addPacked_147 : decode b_Wri_addPacked 147 = .ok (.aload_n 0, 1) := by decide +kernel
theorem d_Wri_addPacked_148 : decode b_Wri_addPacked 148 = .ok (.getfield 14, 3) := by decide +kernel
theorem d_Wri_addPacked_151 : decode b_Wri_addPacked 151 = .ok (.aload_n 1, 1) := by decide +kernel
theorem d_Wri_addPacked_152 : decode b_Wri_addPacked 152 = .ok (.iload_n 2, 1) := by decide +kernel
theorem d_Wri_addPacked_153 : decode b_Wri_addPacked 153 = .ok (.lload 12, 2) := by decide +kernel
theorem d_Wri_addPacked_155 : decode b_Wri_addPacked 155 = .ok (.invokevirtual 74, 3) := by decide +kernel
theorem d_Wri_addPacked_158 : decode b_Wri_addPacked 158 = .ok (.ifCond .eq 11, 3) := by decide +kernel
theorem d_Wri_addPacked_161 : decode b_Wri_addPacked 161 = .ok (.iload 10, 2) := by decide +kernel
theorem d_Wri_addPacked_163 : decode b_Wri_addPacked 163 = .ok (.invokestatic 68, 3) := by decide +kernel
theorem d_Wri_addPacked_166 : decode b_Wri_addPacked 166 = .ok (.goto 8, 3) := by decide +kernel
theorem d_Wri_addPacked_169 : decode b_Wri_addPacked 169 = .ok (.lload 12, 2) := by decide +kernel
theorem d_Wri_addPacked_171 : decode b_Wri_addPacked 171 = .ok (.lload 5, 2) := by decide +kernel
theorem d_Wri_addPacked_173 : decode b_Wri_addPacked 173 = .ok (.lsub, 1) := by decide +kernel
theorem d_Wri_addPacked_174 : decode b_Wri_addPacked 174 = .ok (.iload 10, 2) := by decide +kernel
theorem d_Wri_addPacked_176 : decode b_Wri_addPacked 176 = .ok (.invokevirtual 48, 3) := by decide +kernel
theorem d_Wri_addPacked_179 : decode b_Wri_addPacked 179 = .ok (.iinc 11 1, 3) := by decide +kernel
theorem d_Wri_addPacked_182 : decode b_Wri_addPacked 182 = .ok (.goto (-60), 3) := by decide +kernel
theorem d_Wri_addPacked_185 : decode b_Wri_addPacked 185 = .ok (.return_, 1) := by decide +kernel
theorem d_Wri_takePlain_0 : decode b_Wri_takePlain 0 = .ok (.aload_n 0, 1) := by decide +kernel
theorem d_Wri_takePlain_1 : decode b_Wri_takePlain 1 = .ok (.bipush 66, 2) := by decide +kernel
theorem d_Wri_takePlain_3 : decode b_Wri_takePlain 3 = .ok (.iload_n 3, 1) := by decide +kernel
theorem d_Wri_takePlain_4 : decode b_Wri_takePlain 4 = .ok (.invokevirtual 20, 3) := by decide +kernel
theorem d_Wri_takePlain_7 : decode b_Wri_takePlain 7 = .ok (.iconst 0, 1) := by decide +kernel
theorem d_Wri_takePlain_8 : decode b_Wri_takePlain 8 = .ok (.istore 4, 2) := by decide +kernel
theorem d_Wri_takePlain_10 : decode b_Wri_takePlain 10 = .ok (.iload 4, 2) := by decide +kernel
theorem d_Wri_takePlain_12 : decode b_Wri_takePlain 12 = .ok (.iload_n 3, 1) := by decide +kernel
theorem d_Wri_takePlain_13 : decode b_Wri_takePlain 13 = .ok (.if_icmp .ge 71, 3) := by decide +kernel
theorem d_Wri_takePlain_16 : decode b_Wri_takePlain 16 = .ok (.aload_n 1, 1) := by decide +kernel
theorem d_Wri_takePlain_17 : decode b_Wri_takePlain 17 = .ok (.aload_n 2, 1) := by decide +kernel
theorem d_Wri_takePlain_18 : decode b_Wri_takePlain 18 = .ok (.iload 4, 2) := by decide +kernel
theorem d_Wri_takePlain_20 : decode b_Wri_takePlain 20 = .ok (.aaload, 1) := by decide +kernel
theorem d_Wri_takePlain_21 : decode b_Wri_takePlain 21 = .ok (.invokevirtual 24, 3) := by decide +kernel
theorem d_Wri_takePlain_24 : decode b_Wri_takePlain 24 = .ok (.iconst 0, 1) := by decide +kernel
theorem d_Wri_takePlain_25 : decode b_Wri_takePlain 25 = .ok (.istore 5, 2) := by decide +kernel
theorem d_Wri_takePlain_27 : decode b_Wri_takePlain 27 = .ok (.iload 5, 2) := by decide +kernel
theorem d_Wri_takePlain_29 : decode b_Wri_takePlain 29 = .ok (.aload_n 1, 1) := by decide +kernel
theorem d_Wri_takePlain_30 : decode b_Wri_takePlain 30 = .ok (.getfield 30, 3) := by decide +kernel
theorem d_Wri_takePlain_33 : decode b_Wri_takePlain 33 = .ok (.getfield 34, 3) := by decide +kernel
theorem d_Wri_takePlain_36 : decode b_Wri_takePlain 36 = .ok (.if_icmp .ge 42, 3) := by decide +kernel
theorem d_Wri_takePlain_39 : decode b_Wri_takePlain 39 = .ok (.aload_n 0, 1) := by decide +kernel
theorem d_Wri_takePlain_40 : decode b_Wri_takePlain 40 = .ok (.getfield 14, 3) := by decide +kernel
theorem d_Wri_takePlain_43 : decode b_Wri_takePlain 43 = .ok (.aload_n 1, 1) := by decide +kernel
theorem d_Wri_takePlain_44 : decode b_Wri_takePlain 44 = .ok (.getfield 30, 3) := by decide +kernel
theorem d_Wri_takePlain_47 : decode b_Wri_takePlain 47 = .ok (.iload 5, 2) := by decide +kernel
theorem d_Wri_takePlain_49 : decode b_Wri_takePlain 49 = .ok (.aload_n 2, 1) := by decide +kernel
theorem d_Wri_takePlain_50 : decode b_Wri_takePlain 50 = .ok (.iload 4, 2) := by decide +kernel
theorem d_Wri_takePlain_52 : decode b_Wri_takePlain 52 = .ok (.aaload, 1) := by decide +kernel
theorem d_Wri_takePlain_53 : decode b_Wri_takePlain 53 = .ok (.iload 5, 2) := by decide +kernel
theorem d_Wri_takePlain_55 : decode b_Wri_takePlain 55 = .ok (.laload, 1) := by decide +kernel
theorem d_Wri_takePlain_56 : decode b_Wri_takePlain 56 = .ok (.invokevirtual 40, 3) := by decide +kernel
theorem d_Wri_takePlain_59 : decode b_Wri_takePlain 59 = .ok (.aload_n 1, 1) := by decide +kernel
theorem d_Wri_takePlain_60 : decode b_Wri_takePlain 60 = .ok (.getfield 30, 3) := by decide +kernel
theorem d_Wri_takePlain_63 : decode b_Wri_takePlain 63 = .ok (.getfield 44, 3) := by decide +kernel
theorem d_Wri_takePlain_66 : decode b_Wri_takePlain 66 = .ok (.iload 5, 2) := by decide +kernel
theorem d_Wri_takePlain_68 : decode b_Wri_takePlain 68 = .ok (.iaload, 1) := by decide +kernel
theorem d_Wri_takePlain_69 : decode b_Wri_takePlain 69 = .ok (.invokevirtual 48, 3) := by decide +kernel
theorem d_Wri_takePlain_72 : decode b_Wri_takePlain 72 = .ok (.iinc 5 1, 3) := by decide +kernel
theorem d_Wri_takePlain_75 : decode b_Wri_takePlain 75 = .ok (.goto (-48), 3) := by decide +kernel
theorem d_Wri_takePlain_78 : decode b_Wri_takePlain 78 = .ok (.iinc 4 1, 3) := by decide +kernel
theorem d_Wri_takePlain_81 : decode b_Wri_takePlain 81 = .ok (.goto (-71), 3) := by decide +kernel
theorem d_Wri_takePlain_84 : decode b_Wri_takePlain 84 = .ok (.aload_n 0, 1) := by decide +kernel
theorem d_Wri_takePlain_85 : decode b_Wri_takePlain 85 = .ok (.invokevirtual 52, 3) := by decide +kernel
theorem d_Wri_takePlain_88 : decode b_Wri_takePlain 88 = .ok (.return_, 1) := by decide +kernel
theorem d_Wri_takePacked_0 : decode b_Wri_takePacked 0 = .ok (.aload_n 0, 1) := by decide +kernel
theorem d_Wri_takePacked_1 : decode b_Wri_takePacked 1 = .ok (.bipush 67, 2) := by decide +kernel
theorem d_Wri_takePacked_3 : decode b_Wri_takePacked 3 = .ok (.iload_n 3, 1) := by decide +kernel
theorem d_Wri_takePacked_4 : decode b_Wri_takePacked 4 = .ok (.invokevirtual 20, 3) := by decide +kernel
theorem d_Wri_takePacked_7 : decode b_Wri_takePacked 7 = .ok (.aload_n 1, 1) := by decide +kernel
theorem d_Wri_takePacked_8 : decode b_Wri_takePacked 8 = .ok (.aload_n 2, 1) := by decide +kernel
theorem d_Wri_takePacked_9 : decode b_Wri_takePacked 9 = .ok (.iconst 0, 1) := by decide +kernel
theorem d_Wri_takePacked_10 : decode b_Wri_takePacked 10 = .ok (.aaload, 1) := by decide +kernel
theorem d_Wri_takePacked_11 : decode b_Wri_takePacked 11 = .ok (.invokevirtual 24, 3) := by decide +kernel
theorem d_Wri_takePacked_14 : decode b_Wri_takePacked 14 = .ok (.iconst 0, 1) := by decide +kernel
theorem d_Wri_takePacked_15 : decode b_Wri_takePacked 15 = .ok (.istore 4, 2) := by decide +kernel
theorem d_Wri_takePacked_17 : decode b_Wri_takePacked 17 = .ok (.iload 4, 2) := by decide +kernel
theorem d_Wri_takePacked_19 : decode b_Wri_takePacked 19 = .ok (.aload_n 1, 1) := by decide +kernel
theorem d_Wri_takePacked_20 : decode b_Wri_takePacked 20 = .ok (.getfield 30, 3) := by decide +kernel
theorem d_Wri_takePacked_23 : decode b_Wri_takePacked 23 = .ok (.getfield 34, 3) := by decide +kernel
theorem d_Wri_takePacked_26 : decode b_Wri_takePacked 26 = .ok (.if_icmp .ge 21, 3) := by decide +kernel
theorem d_Wri_takePacked_29 : decode b_Wri_takePacked 29 = .ok (.aload_n 0, 1) := by decide +kernel
theorem d_Wri_takePacked_30 : decode b_Wri_takePacked 30 = .ok (.aload_n 1, 1) := by decide +kernel
theorem d_Wri_takePacked_31 : decode b_Wri_takePacked 31 = .ok (.getfield 30, 3) := by decide +kernel
theorem d_Wri_takePacked_34 : decode b_Wri_takePacked 34 = .ok (.iload 4, 2) := by decide +kernel
theorem d_Wri_takePacked_36 : decode b_Wri_takePacked 36 = .ok (.aload_n 2, 1) := by decide +kernel
theorem d_Wri_takePacked_37 : decode b_Wri_takePacked 37 = .ok (.iload_n 3, 1) := by decide +kernel
theorem d_Wri_takePacked_38 : decode b_Wri_takePacked 38 = .ok (.invokevirtual 55, 3) := by decide +kernel
theorem d_Wri_takePacked_41 : decode b_Wri_takePacked 41 = .ok (.iinc 4 1, 3) := by decide +kernel
theorem d_Wri_takePacked_44 : decode b_Wri_takePacked 44 = .ok (.goto (-27), 3) := by decide +kernel
theorem d_Wri_takePacked_47 : decode b_Wri_takePacked 47 = .ok (.aload_n 0, 1) := by decide +kernel
theorem d_Wri_takePacked_48 : decode b_Wri_takePacked 48 = .ok (.invokevirtual 52, 3) := by decide +kernel
theorem d_Wri_takePacked_51 : decode b_Wri_takePacked 51 = .ok (.return_, 1) := by decide +kernel
theorem d_Rea_take_0 : decode b_Rea_take 0 = .ok (.aload_n 0, 1) := by decide +kernel
theorem d_Rea_take_1 : decode b_Rea_take 1 = .ok (.getfield 16, 3) := by decide +kernel
theorem d_Rea_take_4 : decode b_Rea_take 4 = .ok (.aload_n 0, 1) := by decide +kernel
theorem d_Rea_take_5 : decode b_Rea_take 5 = .ok (.getfield 46, 3) := by decide +kernel
theorem d_Rea_take_8 : decode b_Rea_take 8 = .ok (.iload_n 1, 1) := by decide +kernel
theorem d_Rea_take_9 : decode b_Rea_take 9 = .ok (.invokevirtual 63, 3) := by decide +kernel
theorem d_Rea_take_12 : decode b_Rea_take 12 = .ok (.lstore_n 2, 1) := by decide +kernel
theorem d_Rea_take_13 : decode b_Rea_take 13 = .ok (.aload_n 0, 1) := by decide +kernel
theorem d_Rea_take_14 : decode b_Rea_take 14 = .ok (.dup, 1) := by decide +kernel
theorem d_Rea_take_15 : decode b_Rea_take 15 = .ok (.getfield 46, 3) := by decide +kernel
theorem d_Rea_take_18 : decode b_Rea_take 18 = .ok (.iload_n 1, 1) := by decide +kernel
theorem d_Rea_take_19 : decode b_Rea_take 19 = .ok (.iadd, 1) := by decide +kernel
theorem d_Rea_take_20 : decode b_Rea_take 20 = .ok (.putfield 46, 3) := by decide +kernel
theorem d_Rea_take_23 : decode b_Rea_take 23 = .ok (.lload_n 2, 1) := by decide +kernel
theorem d_Rea_take_24 : decode b_Rea_take 24 = .ok (.lreturn, 1) := by decide +kernel
theorem d_Rea_takePlainValue_0 : decode b_Rea_takePlainValue 0 = .ok (.aload_n 1, 1) := by decide +kernel
theorem d_Rea_takePlainValue_1 : decode b_Rea_takePlainValue 1 = .ok (.getfield 111, 3) := by decide +kernel
theorem d_Rea_takePlainValue_4 : decode b_Rea_takePlainValue 4 = .ok (.iload_n 2, 1) := by decide +kernel
theorem d_Rea_takePlainValue_5 : decode b_Rea_takePlainValue 5 = .ok (.iaload, 1) := by decide +kernel
theorem d_Rea_takePlainValue_6 : decode b_Rea_takePlainValue 6 = .ok (.istore 4, 2) := by decide +kernel
theorem d_Rea_takePlainValue_8 : decode b_Rea_takePlainValue 8 = .ok (.aload_n 0, 1) := by decide +kernel
theorem d_Rea_takePlainValue_9 : decode b_Rea_takePlainValue 9 = .ok (.getfield 49, 3) := by decide +kernel
theorem d_Rea_takePlainValue_12 : decode b_Rea_takePlainValue 12 = .ok (.aload_n 0, 1) := by decide +kernel
theorem d_Rea_takePlainValue_13 : decode b_Rea_takePlainValue 13 = .ok (.getfield 46, 3) := by decide +kernel
theorem d_Rea_takePlainValue_16 : decode b_Rea_takePlainValue 16 = .ok (.isub, 1) := by decide +kernel
theorem d_Rea_takePlainValue_17 : decode b_Rea_takePlainValue 17 = .ok (.iload 4, 2) := by decide +kernel
theorem d_Rea_takePlainValue_19 : decode b_Rea_takePlainValue 19 = .ok (.if_icmp .ge 5, 3) := by decide +kernel
theorem d_Rea_takePlainValue_22 : decode b_Rea_takePlainValue 22 = .ok (.iconst 0, 1) := by decide +kernel
theorem d_Rea_takePlainValue_23 : decode b_Rea_takePlainValue 23 = .ok (.ireturn, 1) := by decide +kernel
theorem d_Rea_takePlainValue_24 : decode b_Rea_takePlainValue 24 = .ok (.aload_n 3, 1) := by decide +kernel
theorem d_Rea_takePlainValue_25 : decode b_Rea_takePlainValue 25 = .ok (.iload_n 2, 1) := by decide +kernel
theorem d_Rea_takePlainValue_26 : decode b_Rea_takePlainValue 26 = .ok (.aload_n 1, 1) := by decide +kernel
theorem d_Rea_takePlainValue_27 : decode b_Rea_takePlainValue 27 = .ok (.iload_n 2, 1) := by decide +kernel
theorem d_Rea_takePlainValue_28 : decode b_Rea_takePlainValue 28 = .ok (.aload_n 0, 1) := by decide +kernel
theorem d_Rea_takePlainValue_29 : decode b_Rea_takePlainValue 29 = .ok (.iload 4, 2) := by decide +kernel
theorem d_Rea_takePlainValue_31 : decode b_Rea_takePlainValue 31 = .ok (.invokevirtual 114, 3) := by decide +kernel
theorem d_Rea_takePlainValue_34 : decode b_Rea_takePlainValue 34 = .ok (.invokevirtual 118, 3) := by decide +kernel
theorem d_Rea_takePlainValue_37 : decode b_Rea_takePlainValue 37 = .ok (.lastore, 1) := by decide +kernel
theorem d_Rea_takePlainValue_38 : decode b_Rea_takePlainValue 38 = .ok (.iconst 1, 1) := by decide +kernel
theorem d_Rea_takePlainValue_39 : decode b_Rea_takePlainValue 39 = .ok (.ireturn, 1) := by decide +kernel
theorem d_Rea_takeOneForAll_0 : decode b_Rea_takeOneForAll 0 = .ok (.iconst 0, 1) := by decide +kernel
theorem d_Rea_takeOneForAll_1 : decode b_Rea_takeOneForAll 1 = .ok (.istore 5, 2) := by decide +kernel
theorem d_Rea_takeOneForAll_3 : decode b_Rea_takeOneForAll 3 = .ok (.iload 5, 2) := by decide +kernel
theorem d_Rea_takeOneForAll_5 : decode b_Rea_takeOneForAll 5 = .ok (.aload_n 0, 1) := by decide +kernel
theorem d_Rea_takeOneForAll_6 : decode b_Rea_takeOneForAll 6 = .ok (.getfield 39, 3) := by decide +kernel
theorem d_Rea_takeOneForAll_9 : decode b_Rea_takeOneForAll 9 = .ok (.if_icmp .ge 24, 3) := by decide +kernel
theorem d_Rea_takeOneForAll_12 : decode b_Rea_takeOneForAll 12 = .ok (.aload_n 0, 1) := by decide +kernel
theorem d_Rea_takeOneForAll_13 : decode b_Rea_takeOneForAll 13 = .ok (.getfield 11, 3) := by decide +kernel
theorem d_Rea_takeOneForAll_16 : decode b_Rea_takeOneForAll 16 = .ok (.iload 5, 2) := by decide +kernel
theorem d_Rea_takeOneForAll_18 : decode b_Rea_takeOneForAll 18 = .ok (.aaload, 1) := by decide +kernel
theorem d_Rea_takeOneForAll_19 : decode b_Rea_takeOneForAll 19 = .ok (.iload_n 2, 1) := by decide +kernel
theorem d_Rea_takeOneForAll_20 : decode b_Rea_takeOneForAll 20 = .ok (.aload_n 1, 1) := by decide +kernel
theorem d_Rea_takeOneForAll_21 : decode b_Rea_takeOneForAll 21 = .ok (.iload_n 2, 1) := by decide +kernel
theorem d_Rea_takeOneForAll_22 : decode b_Rea_takeOneForAll 22 = .ok (.lload_n 3, 1) := by decide +kernel
theorem d_Rea_takeOneForAll_23 : decode b_Rea_takeOneForAll 23 = .ok (.invokevirtual 118, 3) := by decide +kernel
theorem d_Rea_takeOneForAll_26 : decode b_Rea_takeOneForAll 26 = .ok (.lastore, 1) := by decide +kernel
theorem d_Rea_takeOneForAll_27 : decode b_Rea_takeOneForAll 27 = .ok (.iinc 5 1, 3) := by decide +kernel
theorem d_Rea_takeOneForAll_30 : decode b_Rea_takeOneForAll 30 = .ok (.goto (-27), 3) := by decide +kernel
theorem d_Rea_takeOneForAll_33 : decode b_Rea_takeOneForAll 33 = .ok (.aload_n 1, 1) := by decide +kernel
theorem d_Rea_takeOneForAll_34 : decode b_Rea_takeOneForAll 34 = .ok (.getfield 134, 3) := by decide +kernel
theorem d_Rea_takeOneForAll_37 : decode b_Rea_takeOneForAll 37 = .ok (.iload_n 2, 1) := by decide +kernel
theorem d_Rea_takeOneForAll_38 : decode b_Rea_takeOneForAll 38 = .ok (.iaload, 1) := by decide +kernel
theorem d_Rea_takeOneForAll_39 : decode b_Rea_takeOneForAll 39 = .ok (.iconst 2, 1) := by decide +kernel
theorem d_Rea_takeOneForAll_40 : decode b_Rea_takeOneForAll 40 = .ok (.if_icmp .ne 12, 3) := by decide +kernel
theorem d_Rea_takeOneForAll_43 : decode b_Rea_takeOneForAll 43 = .ok (.aload_n 1, 1) := by decide +kernel
theorem d_Rea_takeOneForAll_44 : decode b_Rea_takeOneForAll 44 = .ok (.iload_n 2, 1) := by decide +kernel
theorem d_Rea_takeOneForAll_45 : decode b_Rea_takeOneForAll 45 = .ok (.lload_n 3, 1) := by decide +kernel
theorem d_Rea_takeOneForAll_46 : decode b_Rea_takeOneForAll 46 = .ok (.invokevirtual 137, 3) := by decide +kernel
theorem d_Rea_takeOneForAll_49 : decode b_Rea_takeOneForAll 49 = .ok (.ifCond .ne 7, 3) := by decide +kernel
theorem d_Rea_takeOneForAll_52 : decode b_Rea_takeOneForAll 52 = .ok (.iconst 1, 1) := by decide +kernel
theorem d_Rea_takeOneForAll_53 : decode b_Rea_takeOneForAll 53 = .ok (.goto 4, 3) := by decide +kernel
theorem d_Rea_takeOneForAll_56 : decode b_Rea_takeOneForAll 56 = .ok (.iconst 0, 1) := by decide +kernel
theorem d_Rea_takeOneForAll_57 : decode b_Rea_takeOneForAll 57 = .ok (.ireturn, 1) := by decide +kernel
theorem d_Rea_takeDifferences_0 : decode b_Rea_takeDifferences 0 = .ok (.iconst 0, 1) := by decide +kernel
theorem d_Rea_takeDifferences_1 : decode b_Rea_takeDifferences 1 = .ok (.istore 6, 2) := by decide +kernel
theorem d_Rea_takeDifferences_3 : decode b_Rea_takeDifferences 3 = .ok (.iload 6, 2) := by decide +kernel
theorem d_Rea_takeDifferences_5 : decode b_Rea_takeDifferences 5 = .ok (.aload_n 0, 1) := by decide +kernel
theorem d_Rea_takeDifferences_6 : decode b_Rea_takeDifferences 6 = .ok (.getfield 39, 3) := by decide +kernel
theorem d_Rea_takeDifferences_9 : decode b_Rea_takeDifferences 9 = .ok (.if_icmp .ge 90, 3) := by decide +kernel
theorem d_Rea_takeDifferences_12 : decode b_Rea_takeDifferences 12 = .ok (.aload_n 0, 1) := by decide +kernel
theorem d_Rea_takeDifferences_13 : decode b_Rea_takeDifferences 13 = .ok (.iload 5, 2) := by decide +kernel
theorem d_Rea_takeDifferences_15 : decode b_Rea_takeDifferences 15 = .ok (.invokevirtual 114, 3) := by decide +kernel
theorem d_Rea_takeDifferences_18 : decode b_Rea_takeDifferences 18 = .ok (.lstore 7, 2) := by decide +kernel
theorem d_Rea_takeDifferences_20 : decode b_Rea_takeDifferences 20 = .ok (.lload 7, 2) := by decide +kernel
theorem d_Rea_takeDifferences_22 : decode b_Rea_takeDifferences 22 = .ok (.iload 5, 2) := by decide +kernel
theorem d_Rea_takeDifferences_24 : decode b_Rea_takeDifferences 24 = .ok (.invokestatic 141, 3) := by decide +kernel
theorem d_Rea_takeDifferences_27 : decode b_Rea_takeDifferences 27 = .ok (.lcmp, 1) := by decide +kernel
theorem d_Rea_takeDifferences_28 : decode b_Rea_takeDifferences 28 = .ok (.ifCond .ne 7, 3) := by decide +kernel
theorem d_Rea_takeDifferences_31 : decode b_Rea_takeDifferences 31 = .ok (.iconst 1, 1) := by decide +kernel
theorem d_Rea_takeDifferences_32 : decode b_Rea_takeDifferences 32 = .ok (.goto 4, 3) := by decide +kernel
theorem d_Rea_takeDifferences_35 : decode b_Rea_takeDifferences 35 = .ok (.iconst 0, 1) := by decide +kernel
theorem d_Rea_takeDifferences_36 : decode b_Rea_takeDifferences 36 = .ok (.istore 9, 2) := by decide +kernel
theorem d_Rea_takeDifferences_38 : decode b_Rea_takeDifferences 38 = .ok (.iload 9, 2) := by decide +kernel
theorem d_Rea_takeDifferences_40 : decode b_Rea_takeDifferences 40 = .ok (.ifCond .ne 22, 3) := by decide +kernel
theorem d_Rea_takeDifferences_43 : decode b_Rea_takeDifferences 43 = .ok (.lload_n 3, 1) := by decide +kernel
theorem d_Rea_takeDifferences_44 : decode b_Rea_takeDifferences 44 = .ok (.lload 7, 2) := by decide +kernel
theorem d_Rea_takeDifferences_46 : decode b_Rea_takeDifferences 46 = .ok (.ladd, 1) := by decide +kernel
theorem d_Rea_takeDifferences_47 : decode b_Rea_takeDifferences 47 = .ok (.aload_n 1, 1) := by decide +kernel
theorem d_Rea_takeDifferences_48 : decode b_Rea_takeDifferences 48 = .ok (.getfield 111, 3) := by decide +kernel
theorem d_Rea_takeDifferences_51 : decode b_Rea_takeDifferences 51 = .ok (.iload_n 2, 1) := by decide +kernel
theorem d_Rea_takeDifferences_52 : decode b_Rea_takeDifferences 52 = .ok (.iaload, 1) := by decide +kernel
theorem d_Rea_takeDifferences_53 : decode b_Rea_takeDifferences 53 = .ok (.invokestatic 141, 3) := by decide +kernel
theorem d_Rea_takeDifferences_56 : decode b_Rea_takeDifferences 56 = .ok (.lcmp, 1) := by decide +kernel
theorem d_Rea_takeDifferences_57 : decode b_Rea_takeDifferences 57 = .ok (.ifCond .lt 5, 3) := by decide +kernel
theorem d_Rea_takeDifferences_60 : decode b_Rea_takeDifferences 60 = .ok (.iconst 0, 1) := by decide +kernel
theorem d_Rea_takeDifferences_61 : decode b_Rea_takeDifferences 61 = .ok (.ireturn, 1) := by decide +kernel
theorem d_Rea_takeDifferences_62 : decode b_Rea_takeDifferences 62 = .ok (.aload_n 0, 1) := by decide +kernel
theorem d_Rea_takeDifferences_63 : decode b_Rea_takeDifferences 63 = .ok (.getfield 11, 3) := by decide +kernel
theorem d_Rea_takeDifferences_66 : decode b_Rea_takeDifferences 66 = .ok (.iload 6, 2) := by decide +kernel
