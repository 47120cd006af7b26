theorem d_Prog_lookAtNext_115 : decode b_Prog_lookAtNext 115 = .ok (.invokevirtual 124, 3) := by decide +kernel
theorem d_Prog_lookAtNext_118 : decode b_Prog_lookAtNext 118 = .ok (.return_, 1) := by decide +kernel
theorem d_Prog_build_0 : decode b_Prog_build 0 = .ok (.aload_n 0, 1) := by decide +kernel
theorem d_Prog_build_1 : decode b_Prog_build 1 = .ok (.iconst 0, 1) := by decide +kernel
theorem d_Prog_build_2 : decode b_Prog_build 2 = .ok (.putfield 42, 3) := by decide +kernel
theorem d_Prog_build_5 : decode b_Prog_build 5 = .ok (.aload_n 0, 1) := by decide +kernel
theorem d_Prog_build_6 : decode b_Prog_build 6 = .ok (.iconst 0, 1) := by decide +kernel
theorem d_Prog_build_7 : decode b_Prog_build 7 = .ok (.putfield 46, 3) := by decide +kernel
theorem d_Prog_build_10 : decode b_Prog_build 10 = .ok (.aload_n 0, 1) := by decide +kernel
theorem d_Prog_build_11 : decode b_Prog_build 11 = .ok (.iconst (-1), 1) := by decide +kernel
theorem d_Prog_build_12 : decode b_Prog_build 12 = .ok (.putfield 49, 3) := by decide +kernel
theorem d_Prog_build_15 : decode b_Prog_build 15 = .ok (.aload_n 0, 1) := by decide +kernel
theorem d_Prog_build_16 : decode b_Prog_build 16 = .ok (.iconst 0, 1) := by decide +kernel
theorem d_Prog_build_17 : decode b_Prog_build 17 = .ok (.putfield 52, 3) := by decide +kernel
theorem d_Prog_build_20 : decode b_Prog_build 20 = .ok (.aload_n 0, 1) := by decide +kernel
theorem d_Prog_build_21 : decode b_Prog_build 21 = .ok (.iconst 0, 1) := by decide +kernel
theorem d_Prog_build_22 : decode b_Prog_build 22 = .ok (.putfield 55, 3) := by decide +kernel
theorem d_Prog_build_25 : decode b_Prog_build 25 = .ok (.aload_n 0, 1) := by decide +kernel
theorem d_Prog_build_26 : decode b_Prog_build 26 = .ok (.getfield 20, 3) := by decide +kernel
theorem d_Prog_build_29 : decode b_Prog_build 29 = .ok (.iconst 0, 1) := by decide +kernel
theorem d_Prog_build_30 : decode b_Prog_build 30 = .ok (.invokestatic 58, 3) := by decide +kernel
theorem d_Prog_build_33 : decode b_Prog_build 33 = .ok (.aload_n 0, 1) := by decide +kernel
theorem d_Prog_build_34 : decode b_Prog_build 34 = .ok (.sipush 128, 3) := by decide +kernel
theorem d_Prog_build_37 : decode b_Prog_build 37 = .ok (.aload_n 0, 1) := by decide +kernel
theorem d_Prog_build_38 : decode b_Prog_build 38 = .ok (.getfield 38, 3) := by decide +kernel
theorem d_Prog_build_41 : decode b_Prog_build 41 = .ok (.bipush 16, 2) := by decide +kernel
theorem d_Prog_build_43 : decode b_Prog_build 43 = .ok (.invokevirtual 66, 3) := by decide +kernel
theorem d_Prog_build_46 : decode b_Prog_build 46 = .ok (.iconst (-1), 1) := by decide +kernel
theorem d_Prog_build_47 : decode b_Prog_build 47 = .ok (.iconst (-1), 1) := by decide +kernel
theorem d_Prog_build_48 : decode b_Prog_build 48 = .ok (.invokevirtual 70, 3) := by decide +kernel
theorem d_Prog_build_51 : decode b_Prog_build 51 = .ok (.iconst 0, 1) := by decide +kernel
theorem d_Prog_build_52 : decode b_Prog_build 52 = .ok (.istore_n 1, 1) := by decide +kernel
theorem d_Prog_build_53 : decode b_Prog_build 53 = .ok (.iload_n 1, 1) := by decide +kernel
theorem d_Prog_build_54 : decode b_Prog_build 54 = .ok (.sipush 10000, 3) := by decide +kernel
theorem d_Prog_build_57 : decode b_Prog_build 57 = .ok (.if_icmp .ge 59, 3) := by decide +kernel
theorem d_Prog_build_60 : decode b_Prog_build 60 = .ok (.aload_n 0, 1) := by decide +kernel
theorem d_Prog_build_61 : decode b_Prog_build 61 = .ok (.getfield 52, 3) := by decide +kernel
theorem d_Prog_build_64 : decode b_Prog_build 64 = .ok (.ifCond .le 52, 3) := by decide +kernel
theorem d_Prog_build_67 : decode b_Prog_build 67 = .ok (.aload_n 0, 1) := by decide +kernel
theorem d_Prog_build_68 : decode b_Prog_build 68 = .ok (.getfield 46, 3) := by decide +kernel
theorem d_Prog_build_71 : decode b_Prog_build 71 = .ok (.ifCond .ne 45, 3) := by decide +kernel
theorem d_Prog_build_74 : decode b_Prog_build 74 = .ok (.aload_n 0, 1) := by decide +kernel
theorem d_Prog_build_75 : decode b_Prog_build 75 = .ok (.getfield 23, 3) := by decide +kernel
theorem d_Prog_build_78 : decode b_Prog_build 78 = .ok (.aload_n 0, 1) := by decide +kernel
theorem d_Prog_build_79 : decode b_Prog_build 79 = .ok (.getfield 52, 3) := by decide +kernel
theorem d_Prog_build_82 : decode b_Prog_build 82 = .ok (.iconst 1, 1) := by decide +kernel
theorem d_Prog_build_83 : decode b_Prog_build 83 = .ok (.isub, 1) := by decide +kernel
theorem d_Prog_build_84 : decode b_Prog_build 84 = .ok (.iaload, 1) := by decide +kernel
theorem d_Prog_build_85 : decode b_Prog_build 85 = .ok (.aload_n 0, 1) := by decide +kernel
theorem d_Prog_build_86 : decode b_Prog_build 86 = .ok (.getfield 26, 3) := by decide +kernel
theorem d_Prog_build_89 : decode b_Prog_build 89 = .ok (.aload_n 0, 1) := by decide +kernel
theorem d_Prog_build_90 : decode b_Prog_build 90 = .ok (.getfield 52, 3) := by decide +kernel
theorem d_Prog_build_93 : decode b_Prog_build 93 = .ok (.iconst 1, 1) := by decide +kernel
theorem d_Prog_build_94 : decode b_Prog_build 94 = .ok (.isub, 1) := by decide +kernel
theorem d_Prog_build_95 : decode b_Prog_build 95 = .ok (.iaload, 1) := by decide +kernel
theorem d_Prog_build_96 : decode b_Prog_build 96 = .ok (.if_icmp .ge 10, 3) := by decide +kernel
theorem d_Prog_build_99 : decode b_Prog_build 99 = .ok (.aload_n 0, 1) := by decide +kernel
theorem d_Prog_build_100 : decode b_Prog_build 100 = .ok (.invokevirtual 74, 3) := by decide +kernel
theorem d_Prog_build_103 : decode b_Prog_build 103 = .ok (.goto 7, 3) := by decide +kernel
theorem d_Prog_build_106 : decode b_Prog_build 106 = .ok (.aload_n 0, 1) := by decide +kernel
theorem d_Prog_build_107 : decode b_Prog_build 107 = .ok (.invokevirtual 77, 3) := by decide +kernel
theorem d_Prog_build_110 : decode b_Prog_build 110 = .ok (.iinc 1 1, 3) := by decide +kernel
theorem d_Prog_build_113 : decode b_Prog_build 113 = .ok (.goto (-60), 3) := by decide +kernel
theorem d_Prog_build_116 : decode b_Prog_build 116 = .ok (.return_, 1) := by decide +kernel
theorem d_Fld_has_0 : decode b_Fld_has 0 = .ok (.iload_n 1, 1) := by decide +kernel
theorem d_Fld_has_1 : decode b_Fld_has 1 = .ok (.ifCond .lt 15, 3) := by decide +kernel
theorem d_Fld_has_4 : decode b_Fld_has 4 = .ok (.iload_n 1, 1) := by decide +kernel
theorem d_Fld_has_5 : decode b_Fld_has 5 = .ok (.aload_n 0, 1) := by decide +kernel
theorem d_Fld_has_6 : decode b_Fld_has 6 = .ok (.getfield 34, 3) := by decide +kernel
theorem d_Fld_has_9 : decode b_Fld_has 9 = .ok (.if_icmp .ge 7, 3) := by decide +kernel
theorem d_Fld_has_12 : decode b_Fld_has 12 = .ok (.iconst 1, 1) := by decide +kernel
theorem d_Fld_has_13 : decode b_Fld_has 13 = .ok (.goto 4, 3) := by decide +kernel
theorem d_Fld_has_16 : decode b_Fld_has 16 = .ok (.iconst 0, 1) := by decide +kernel
theorem d_Fld_has_17 : decode b_Fld_has 17 = .ok (.ireturn, 1) := by decide +kernel
theorem d_Fld_isElementOf_0 : decode b_Fld_isElementOf 0 = .ok (.aload_n 0, 1) := by decide +kernel
theorem d_Fld_isElementOf_1 : decode b_Fld_isElementOf 1 = .ok (.getfield 9, 3) := by decide +kernel
theorem d_Fld_isElementOf_4 : decode b_Fld_isElementOf 4 = .ok (.iload_n 1, 1) := by decide +kernel
theorem d_Fld_isElementOf_5 : decode b_Fld_isElementOf 5 = .ok (.iaload, 1) := by decide +kernel
theorem d_Fld_isElementOf_6 : decode b_Fld_isElementOf 6 = .ok (.ifCond .ne 32, 3) := by decide +kernel
theorem d_Fld_isElementOf_9 : decode b_Fld_isElementOf 9 = .ok (.aload_n 0, 1) := by decide +kernel
theorem d_Fld_isElementOf_10 : decode b_Fld_isElementOf 10 = .ok (.getfield 15, 3) := by decide +kernel
theorem d_Fld_isElementOf_13 : decode b_Fld_isElementOf 13 = .ok (.iload_n 1, 1) := by decide +kernel
theorem d_Fld_isElementOf_14 : decode b_Fld_isElementOf 14 = .ok (.iaload, 1) := by decide +kernel
theorem d_Fld_isElementOf_15 : decode b_Fld_isElementOf 15 = .ok (.iload_n 2, 1) := by decide +kernel
theorem d_Fld_isElementOf_16 : decode b_Fld_isElementOf 16 = .ok (.if_icmp .ne 22, 3) := by decide +kernel
theorem d_Fld_isElementOf_19 : decode b_Fld_isElementOf 19 = .ok (.iload_n 3, 1) := by decide +kernel
theorem d_Fld_isElementOf_20 : decode b_Fld_isElementOf 20 = .ok (.iconst (-1), 1) := by decide +kernel
theorem d_Fld_isElementOf_21 : decode b_Fld_isElementOf 21 = .ok (.if_icmp .eq 13, 3) := by decide +kernel
theorem d_Fld_isElementOf_24 : decode b_Fld_isElementOf 24 = .ok (.aload_n 0, 1) := by decide +kernel
theorem d_Fld_isElementOf_25 : decode b_Fld_isElementOf 25 = .ok (.getfield 31, 3) := by decide +kernel
theorem d_Fld_isElementOf_28 : decode b_Fld_isElementOf 28 = .ok (.iload_n 1, 1) := by decide +kernel
theorem d_Fld_isElementOf_29 : decode b_Fld_isElementOf 29 = .ok (.iaload, 1) := by decide +kernel
theorem d_Fld_isElementOf_30 : decode b_Fld_isElementOf 30 = .ok (.iload_n 3, 1) := by decide +kernel
theorem d_Fld_isElementOf_31 : decode b_Fld_isElementOf 31 = .ok (.if_icmp .ne 7, 3) := by decide +kernel
theorem d_Fld_isElementOf_34 : decode b_Fld_isElementOf 34 = .ok (.iconst 1, 1) := by decide +kernel
theorem d_Fld_isElementOf_35 : decode b_Fld_isElementOf 35 = .ok (.goto 4, 3) := by decide +kernel
theorem d_Fld_isElementOf_38 : decode b_Fld_isElementOf 38 = .ok (.iconst 0, 1) := by decide +kernel
theorem d_Fld_isElementOf_39 : decode b_Fld_isElementOf 39 = .ok (.ireturn, 1) := by decide +kernel
theorem d_Fld_isCountOrBit_0 : decode b_Fld_isCountOrBit 0 = .ok (.aload_n 0, 1) := by decide +kernel
theorem d_Fld_isCountOrBit_1 : decode b_Fld_isCountOrBit 1 = .ok (.getfield 9, 3) := by decide +kernel
theorem d_Fld_isCountOrBit_4 : decode b_Fld_isCountOrBit 4 = .ok (.iload_n 1, 1) := by decide +kernel
theorem d_Fld_isCountOrBit_5 : decode b_Fld_isCountOrBit 5 = .ok (.iaload, 1) := by decide +kernel
theorem d_Fld_isCountOrBit_6 : decode b_Fld_isCountOrBit 6 = .ok (.iconst 2, 1) := by decide +kernel
theorem d_Fld_isCountOrBit_7 : decode b_Fld_isCountOrBit 7 = .ok (.if_icmp .eq 13, 3) := by decide +kernel
theorem d_Fld_isCountOrBit_10 : decode b_Fld_isCountOrBit 10 = .ok (.aload_n 0, 1) := by decide +kernel
theorem d_Fld_isCountOrBit_11 : decode b_Fld_isCountOrBit 11 = .ok (.getfield 9, 3) := by decide +kernel
theorem d_Fld_isCountOrBit_14 : decode b_Fld_isCountOrBit 14 = .ok (.iload_n 1, 1) := by decide +kernel
theorem d_Fld_isCountOrBit_15 : decode b_Fld_isCountOrBit 15 = .ok (.iaload, 1) := by decide +kernel
theorem d_Fld_isCountOrBit_16 : decode b_Fld_isCountOrBit 16 = .ok (.iconst 3, 1) := by decide +kernel
theorem d_Fld_isCountOrBit_17 : decode b_Fld_isCountOrBit 17 = .ok (.if_icmp .ne 7, 3) := by decide +kernel
theorem d_Fld_isCountOrBit_20 : decode b_Fld_isCountOrBit 20 = .ok (.iconst 1, 1) := by decide +kernel
theorem d_Fld_isCountOrBit_21 : decode b_Fld_isCountOrBit 21 = .ok (.goto 4, 3) := by decide +kernel
theorem d_Fld_isCountOrBit_24 : decode b_Fld_isCountOrBit 24 = .ok (.iconst 0, 1) := by decide +kernel
theorem d_Fld_isCountOrBit_25 : decode b_Fld_isCountOrBit 25 = .ok (.ireturn, 1) := by decide +kernel
theorem d_Fld_firstOther_0 : decode b_Fld_firstOther 0 = .ok (.iconst 0, 1) := by decide +kernel
theorem d_Fld_firstOther_1 : decode b_Fld_firstOther 1 = .ok (.istore_n 3, 1) := by decide +kernel
theorem d_Fld_firstOther_2 : decode b_Fld_firstOther 2 = .ok (.iload_n 3, 1) := by decide +kernel
theorem d_Fld_firstOther_3 : decode b_Fld_firstOther 3 = .ok (.aload_n 0, 1) := by decide +kernel
theorem d_Fld_firstOther_4 : decode b_Fld_firstOther 4 = .ok (.getfield 34, 3) := by decide +kernel
theorem d_Fld_firstOther_7 : decode b_Fld_firstOther 7 = .ok (.if_icmp .ge 29, 3) := by decide +kernel
theorem d_Fld_firstOther_10 : decode b_Fld_firstOther 10 = .ok (.aload_n 0, 1) := by decide +kernel
theorem d_Fld_firstOther_11 : decode b_Fld_firstOther 11 = .ok (.iload_n 3, 1) := by decide +kernel
theorem d_Fld_firstOther_12 : decode b_Fld_firstOther 12 = .ok (.invokevirtual 38, 3) := by decide +kernel
theorem d_Fld_firstOther_15 : decode b_Fld_firstOther 15 = .ok (.ifCond .eq 15, 3) := by decide +kernel
theorem d_Fld_firstOther_18 : decode b_Fld_firstOther 18 = .ok (.aload_n 1, 1) := by decide +kernel
theorem d_Fld_firstOther_19 : decode b_Fld_firstOther 19 = .ok (.iload_n 3, 1) := by decide +kernel
theorem d_Fld_firstOther_20 : decode b_Fld_firstOther 20 = .ok (.laload, 1) := by decide +kernel
theorem d_Fld_firstOther_21 : decode b_Fld_firstOther 21 = .ok (.aload_n 2, 1) := by decide +kernel
theorem d_Fld_firstOther_22 : decode b_Fld_firstOther 22 = .ok (.iload_n 3, 1) := by decide +kernel
theorem d_Fld_firstOther_23 : decode b_Fld_firstOther 23 = .ok (.laload, 1) := by decide +kernel
theorem d_Fld_firstOther_24 : decode b_Fld_firstOther 24 = .ok (.lcmp, 1) := by decide +kernel
theorem d_Fld_firstOther_25 : decode b_Fld_firstOther 25 = .ok (.ifCond .eq 5, 3) := by decide +kernel
theorem d_Fld_firstOther_28 : decode b_Fld_firstOther 28 = .ok (.iload_n 3, 1) := by decide +kernel
theorem d_Fld_firstOther_29 : decode b_Fld_firstOther 29 = .ok (.ireturn, 1) := by decide +kernel
theorem d_Fld_firstOther_30 : decode b_Fld_firstOther 30 = .ok (.iinc 3 1, 3) := by decide +kernel
theorem d_Fld_firstOther_33 : decode b_Fld_firstOther 33 = .ok (.goto (-31), 3) := by decide +kernel
theorem d_Fld_firstOther_36 : decode b_Fld_firstOther 36 = .ok (.iconst (-1), 1) := by decide +kernel
theorem d_Fld_firstOther_37 : decode b_Fld_firstOther 37 = .ok (.ireturn, 1) := by decide +kernel
theorem d_Fld_hasRaw_0 : decode b_Fld_hasRaw 0 = .ok (.aload_n 0, 1) := by decide +kernel
theorem d_Fld_hasRaw_1 : decode b_Fld_hasRaw 1 = .ok (.getfield 9, 3) := by decide +kernel
theorem d_Fld_hasRaw_4 : decode b_Fld_hasRaw 4 = .ok (.iload_n 1, 1) := by decide +kernel
theorem d_Fld_hasRaw_5 : decode b_Fld_hasRaw 5 = .ok (.iaload, 1) := by decide +kernel
theorem d_Fld_hasRaw_6 : decode b_Fld_hasRaw 6 = .ok (.iconst 3, 1) := by decide +kernel
theorem d_Fld_hasRaw_7 : decode b_Fld_hasRaw 7 = .ok (.if_icmp .eq 11, 3) := by decide +kernel
theorem d_Fld_hasRaw_10 : decode b_Fld_hasRaw 10 = .ok (.lload_n 2, 1) := by decide +kernel
theorem d_Fld_hasRaw_11 : decode b_Fld_hasRaw 11 = .ok (.ldc2_w 42, 3) := by decide +kernel
theorem d_Fld_hasRaw_14 : decode b_Fld_hasRaw 14 = .ok (.lcmp, 1) := by decide +kernel
theorem d_Fld_hasRaw_15 : decode b_Fld_hasRaw 15 = .ok (.ifCond .ne 5, 3) := by decide +kernel
theorem d_Fld_hasRaw_18 : decode b_Fld_hasRaw 18 = .ok (.iconst 1, 1) := by decide +kernel
theorem d_Fld_hasRaw_19 : decode b_Fld_hasRaw 19 = .ok (.ireturn, 1) := by decide +kernel
theorem d_Fld_hasRaw_20 : decode b_Fld_hasRaw 20 = .ok (.lload_n 2, 1) := by decide +kernel
theorem d_Fld_hasRaw_21 : decode b_Fld_hasRaw 21 = .ok (.aload_n 0, 1) := by decide +kernel
theorem d_Fld_hasRaw_22 : decode b_Fld_hasRaw 22 = .ok (.getfield 24, 3) := by decide +kernel
theorem d_Fld_hasRaw_25 : decode b_Fld_hasRaw 25 = .ok (.iload_n 1, 1) := by decide +kernel
theorem d_Fld_hasRaw_26 : decode b_Fld_hasRaw 26 = .ok (.laload, 1) := by decide +kernel
theorem d_Fld_hasRaw_27 : decode b_Fld_hasRaw 27 = .ok (.lcmp, 1) := by decide +kernel
theorem d_Fld_hasRaw_28 : decode b_Fld_hasRaw 28 = .ok (.ifCond .lt 28, 3) := by decide +kernel
theorem d_Fld_hasRaw_31 : decode b_Fld_hasRaw 31 = .ok (.lload_n 2, 1) := by decide +kernel
theorem d_Fld_hasRaw_32 : decode b_Fld_hasRaw 32 = .ok (.aload_n 0, 1) := by decide +kernel
theorem d_Fld_hasRaw_33 : decode b_Fld_hasRaw 33 = .ok (.getfield 24, 3) := by decide +kernel
theorem d_Fld_hasRaw_36 : decode b_Fld_hasRaw 36 = .ok (.iload_n 1, 1) := by decide +kernel
theorem d_Fld_hasRaw_37 : decode b_Fld_hasRaw 37 = .ok (.laload, 1) := by decide +kernel
theorem d_Fld_hasRaw_38 : decode b_Fld_hasRaw 38 = .ok (.aload_n 0, 1) := by decide +kernel
theorem d_Fld_hasRaw_39 : decode b_Fld_hasRaw 39 = .ok (.getfield 18, 3) := by decide +kernel
theorem d_Fld_hasRaw_42 : decode b_Fld_hasRaw 42 = .ok (.iload_n 1, 1) := by decide +kernel
theorem d_Fld_hasRaw_43 : decode b_Fld_hasRaw 43 = .ok (.iaload, 1) := by decide +kernel
theorem d_Fld_hasRaw_44 : decode b_Fld_hasRaw 44 = .ok (.invokestatic 44, 3) := by decide +kernel
theorem d_Fld_hasRaw_47 : decode b_Fld_hasRaw 47 = .ok (.ladd, 1) := by decide +kernel
theorem d_Fld_hasRaw_48 : decode b_Fld_hasRaw 48 = .ok (.lcmp, 1) := by decide +kernel
theorem d_Fld_hasRaw_49 : decode b_Fld_hasRaw 49 = .ok (.ifCond .ge 7, 3) := by decide +kernel
theorem d_Fld_hasRaw_52 : decode b_Fld_hasRaw 52 = .ok (.iconst 1, 1) := by decide +kernel
theorem d_Fld_hasRaw_53 : decode b_Fld_hasRaw 53 = .ok (.goto 4, 3) := by decide +kernel
theorem d_Fld_hasRaw_56 : decode b_Fld_hasRaw 56 = .ok (.iconst 0, 1) := by decide +kernel
theorem d_Fld_hasRaw_57 : decode b_Fld_hasRaw 57 = .ok (.ireturn, 1) := by decide +kernel
theorem d_Fld_rawOf_0 : decode b_Fld_rawOf 0 = .ok (.lload_n 2, 1) := by decide +kernel
theorem d_Fld_rawOf_1 : decode b_Fld_rawOf 1 = .ok (.ldc2_w 42, 3) := by decide +kernel
theorem d_Fld_rawOf_4 : decode b_Fld_rawOf 4 = .ok (.lcmp, 1) := by decide +kernel
theorem d_Fld_rawOf_5 : decode b_Fld_rawOf 5 = .ok (.ifCond .ne 13, 3) := by decide +kernel
theorem d_Fld_rawOf_8 : decode b_Fld_rawOf 8 = .ok (.aload_n 0, 1) := by decide +kernel
theorem d_Fld_rawOf_9 : decode b_Fld_rawOf 9 = .ok (.getfield 18, 3) := by decide +kernel
theorem d_Fld_rawOf_12 : decode b_Fld_rawOf 12 = .ok (.iload_n 1, 1) := by decide +kernel
theorem d_Fld_rawOf_13 : decode b_Fld_rawOf 13 = .ok (.iaload, 1) := by decide +kernel
theorem d_Fld_rawOf_14 : decode b_Fld_rawOf 14 = .ok (.invokestatic 44, 3) := by decide +kernel
theorem d_Fld_rawOf_17 : decode b_Fld_rawOf 17 = .ok (.lreturn, 1) := by decide +kernel
theorem d_Fld_rawOf_18 : decode b_Fld_rawOf 18 = .ok (.lload_n 2, 1) := by decide +kernel
theorem d_Fld_rawOf_19 : decode b_Fld_rawOf 19 = .ok (.aload_n 0, 1) := by decide +kernel
theorem d_Fld_rawOf_20 : decode b_Fld_rawOf 20 = .ok (.getfield 24, 3) := by decide +kernel
theorem d_Fld_rawOf_23 : decode b_Fld_rawOf 23 = .ok (.iload_n 1, 1) := by decide +kernel
theorem d_Fld_rawOf_24 : decode b_Fld_rawOf 24 = .ok (.laload, 1) := by decide +kernel
theorem d_Fld_rawOf_25 : decode b_Fld_rawOf 25 = .ok (.lsub, 1) := by decide +kernel
theorem d_Fld_rawOf_26 : decode b_Fld_rawOf 26 = .ok (.lreturn, 1) := by decide +kernel
theorem d_Fld_isMissing_0 : decode b_Fld_isMissing 0 = .ok (.aload_n 0, 1) := by decide +kernel
theorem d_Fld_isMissing_1 : decode b_Fld_isMissing 1 = .ok (.getfield 9, 3) := by decide +kernel
theorem d_Fld_isMissing_4 : decode b_Fld_isMissing 4 = .ok (.iload_n 1, 1) := by decide +kernel
theorem d_Fld_isMissing_5 : decode b_Fld_isMissing 5 = .ok (.iaload, 1) := by decide +kernel
theorem d_Fld_isMissing_6 : decode b_Fld_isMissing 6 = .ok (.iconst 3, 1) := by decide +kernel
theorem d_Fld_isMissing_7 : decode b_Fld_isMissing 7 = .ok (.if_icmp .eq 21, 3) := by decide +kernel
theorem d_Fld_isMissing_10 : decode b_Fld_isMissing 10 = .ok (.lload_n 2, 1) := by decide +kernel
theorem d_Fld_isMissing_11 : decode b_Fld_isMissing 11 = .ok (.aload_n 0, 1) := by decide +kernel
theorem d_Fld_isMissing_12 : decode b_Fld_isMissing 12 = .ok (.getfield 18, 3) := by decide +kernel
theorem d_Fld_isMissing_15 : decode b_Fld_isMissing 15 = .ok (.iload_n 1, 1) := by decide +kernel
theorem d_Fld_isMissing_16 : decode b_Fld_isMissing 16 = .ok (.iaload, 1) := by decide +kernel
theorem d_Fld_isMissing_17 : decode b_Fld_isMissing 17 = .ok (.invokestatic 44, 3) := by decide +kernel
theorem d_Fld_isMissing_20 : decode b_Fld_isMissing 20 = .ok (.lcmp, 1) := by decide +kernel
theorem d_Fld_isMissing_21 : decode b_Fld_isMissing 21 = .ok (.ifCond .ne 7, 3) := by decide +kernel
theorem d_Fld_isMissing_24 : decode b_Fld_isMissing 24 = .ok (.iconst 1, 1) := by decide +kernel
theorem d_Fld_isMissing_25 : decode b_Fld_isMissing 25 = .ok (.goto 4, 3) := by decide +kernel
theorem d_Fld_isMissing_28 : decode b_Fld_isMissing 28 = .ok (.iconst 0, 1) := by decide +kernel
theorem d_Fld_isMissing_29 : decode b_Fld_isMissing 29 = .ok (.ireturn, 1) := by decide +kernel
theorem d_Fld_valueOf_0 : decode b_Fld_valueOf 0 = .ok (.aload_n 0, 1) := by decide +kernel
theorem d_Fld_valueOf_1 : decode b_Fld_valueOf 1 = .ok (.iload_n 1, 1) := by decide +kernel
theorem d_Fld_valueOf_2 : decode b_Fld_valueOf 2 = .ok (.lload_n 2, 1) := by decide +kernel
theorem d_Fld_valueOf_3 : decode b_Fld_valueOf 3 = .ok (.invokevirtual 48, 3) := by decide +kernel
theorem d_Fld_valueOf_6 : decode b_Fld_valueOf 6 = .ok (.ifCond .eq 9, 3) := by decide +kernel
theorem d_Fld_valueOf_9 : decode b_Fld_valueOf 9 = .ok (.ldc2_w 42, 3) := by decide +kernel
theorem d_Fld_valueOf_12 : decode b_Fld_valueOf 12 = .ok (.goto 11, 3) := by decide +kernel
theorem d_Fld_valueOf_15 : decode b_Fld_valueOf 15 = .ok (.aload_n 0, 1) := by decide +kernel
theorem d_Fld_valueOf_16 : decode b_Fld_valueOf 16 = .ok (.getfield 24, 3) := by decide +kernel
theorem d_Fld_valueOf_19 : decode b_Fld_valueOf 19 = .ok (.iload_n 1, 1) := by decide +kernel
theorem d_Fld_valueOf_20 : decode b_Fld_valueOf 20 = .ok (.laload, 1) := by decide +kernel
theorem d_Fld_valueOf_21 : decode b_Fld_valueOf 21 = .ok (.lload_n 2, 1) := by decide +kernel
theorem d_Fld_valueOf_22 : decode b_Fld_valueOf 22 = .ok (.ladd, 1) := by decide +kernel
theorem d_Fld_valueOf_23 : decode b_Fld_valueOf 23 = .ok (.lreturn, 1) := by decide +kernel
theorem d_Walk_fail_0 : decode b_Walk_fail 0 = .ok (.aload_n 0, 1) := by decide +kernel
theorem d_Walk_fail_1 : decode b_Walk_fail 1 = .ok (.iload_n 1, 1) := by decide +kernel
theorem d_Walk_fail_2 : decode b_Walk_fail 2 = .ok (.putfield 56, 3) := by decide +kernel
theorem d_Walk_fail_5 : decode b_Walk_fail 5 = .ok (.aload_n 0, 1) := by decide +kernel
theorem d_Walk_fail_6 : decode b_Walk_fail 6 = .ok (.iload_n 2, 1) := by decide +kernel
theorem d_Walk_fail_7 : decode b_Walk_fail 7 = .ok (.putfield 71, 3) := by decide +kernel
theorem d_Walk_fail_10 : decode b_Walk_fail 10 = .ok (.return_, 1) := by decide +kernel
theorem d_Walk_begin_0 : decode b_Walk_begin 0 = .ok (.aload_n 0, 1) := by decide +kernel
theorem d_Walk_begin_1 : decode b_Walk_begin 1 = .ok (.getfield 12, 3) := by decide +kernel
theorem d_Walk_begin_4 : decode b_Walk_begin 4 = .ok (.iconst 0, 1) := by decide +kernel
theorem d_Walk_begin_5 : decode b_Walk_begin 5 = .ok (.putfield 68, 3) := by decide +kernel
theorem d_Walk_begin_8 : decode b_Walk_begin 8 = .ok (.aload_n 0, 1) := by decide +kernel
theorem d_Walk_begin_9 : decode b_Walk_begin 9 = .ok (.iconst 0, 1) := by decide +kernel
theorem d_Walk_begin_10 : decode b_Walk_begin 10 = .ok (.putfield 56, 3) := by decide +kernel
theorem d_Walk_begin_13 : decode b_Walk_begin 13 = .ok (.aload_n 0, 1) := by decide +kernel
theorem d_Walk_begin_14 : decode b_Walk_begin 14 = .ok (.iconst (-1), 1) := by decide +kernel
theorem d_Walk_begin_15 : decode b_Walk_begin 15 = .ok (.putfield 71, 3) := by decide +kernel
theorem d_Walk_begin_18 : decode b_Walk_begin 18 = .ok (.aload_n 0, 1) := by decide +kernel
theorem d_Walk_begin_19 : decode b_Walk_begin 19 = .ok (.getfield 21, 3) := by decide +kernel
theorem d_Walk_begin_22 : decode b_Walk_begin 22 = .ok (.invokevirtual 74, 3) := by decide +kernel
theorem d_Walk_begin_25 : decode b_Walk_begin 25 = .ok (.aload_n 0, 1) := by decide +kernel
theorem d_Walk_begin_26 : decode b_Walk_begin 26 = .ok (.getfield 27, 3) := by decide +kernel
theorem d_Walk_begin_29 : decode b_Walk_begin 29 = .ok (.iconst 0, 1) := by decide +kernel
theorem d_Walk_begin_30 : decode b_Walk_begin 30 = .ok (.invokestatic 77, 3) := by decide +kernel
theorem d_Walk_begin_33 : decode b_Walk_begin 33 = .ok (.aload_n 0, 1) := by decide +kernel
theorem d_Walk_begin_34 : decode b_Walk_begin 34 = .ok (.iconst 0, 1) := by decide +kernel
theorem d_Walk_begin_35 : decode b_Walk_begin 35 = .ok (.putfield 83, 3) := by decide +kernel
theorem d_Walk_begin_38 : decode b_Walk_begin 38 = .ok (.aload_n 0, 1) := by decide +kernel
theorem d_Walk_begin_39 : decode b_Walk_begin 39 = .ok (.iconst 0, 1) := by decide +kernel
theorem d_Walk_begin_40 : decode b_Walk_begin 40 = .ok (.putfield 86, 3) := by decide +kernel
theorem d_Walk_begin_43 : decode b_Walk_begin 43 = .ok (.aload_n 0, 1) := by decide +kernel
theorem d_Walk_begin_44 : decode b_Walk_begin 44 = .ok (.iconst 0, 1) := by decide +kernel
theorem d_Walk_begin_45 : decode b_Walk_begin 45 = .ok (.putfield 89, 3) := by decide +kernel
theorem d_Walk_begin_48 : decode b_Walk_begin 48 = .ok (.aload_n 0, 1) := by decide +kernel
theorem d_Walk_begin_49 : decode b_Walk_begin 49 = .ok (.iconst 0, 1) := by decide +kernel
theorem d_Walk_begin_50 : decode b_Walk_begin 50 = .ok (.putfield 92, 3) := by decide +kernel
theorem d_Walk_begin_53 : decode b_Walk_begin 53 = .ok (.aload_n 0, 1) := by decide +kernel
theorem d_Walk_begin_54 : decode b_Walk_begin 54 = .ok (.iconst 0, 1) := by decide +kernel
theorem d_Walk_begin_55 : decode b_Walk_begin 55 = .ok (.putfield 95, 3) := by decide +kernel
theorem d_Walk_begin_58 : decode b_Walk_begin 58 = .ok (.aload_n 0, 1) := by decide +kernel
theorem d_Walk_begin_59 : decode b_Walk_begin 59 = .ok (.iconst (-1), 1) := by decide +kernel
theorem d_Walk_begin_60 : decode b_Walk_begin 60 = .ok (.putfield 98, 3) := by decide +kernel
theorem d_Walk_begin_63 : decode b_Walk_begin 63 = .ok (.aload_n 0, 1) := by decide +kernel
theorem d_Walk_begin_64 : decode b_Walk_begin 64 = .ok (.iconst (-1), 1) := by decide +kernel
theorem d_Walk_begin_65 : decode b_Walk_begin 65 = .ok (.putfield 101, 3) := by decide +kernel
theorem d_Walk_begin_68 : decode b_Walk_begin 68 = .ok (.aload_n 0, 1) := by decide +kernel
theorem d_Walk_begin_69 : decode b_Walk_begin 69 = .ok (.iconst 0, 1) := by decide +kernel
theorem d_Walk_begin_70 : decode b_Walk_begin 70 = .ok (.putfield 104, 3) := by decide +kernel
theorem d_Walk_begin_73 : decode b_Walk_begin 73 = .ok (.aload_n 0, 1) := by decide +kernel
theorem d_Walk_begin_74 : decode b_Walk_begin 74 = .ok (.iconst (-1), 1) := by decide +kernel
theorem d_Walk_begin_75 : decode b_Walk_begin 75 = .ok (.putfield 107, 3) := by decide +kernel
theorem d_Walk_begin_78 : decode b_Walk_begin 78 = .ok (.return_, 1) := by decide +kernel
theorem d_Walk_give_0 : decode b_Walk_give 0 = .ok (.aload_n 0, 1) := by decide +kernel
theorem d_Walk_give_1 : decode b_Walk_give 1 = .ok (.getfield 12, 3) := by decide +kernel
theorem d_Walk_give_4 : decode b_Walk_give 4 = .ok (.getfield 68, 3) := by decide +kernel
theorem d_Walk_give_7 : decode b_Walk_give 7 = .ok (.istore 8, 2) := by decide +kernel
theorem d_Walk_give_9 : decode b_Walk_give 9 = .ok (.iload 8, 2) := by decide +kernel
theorem d_Walk_give_11 : decode b_Walk_give 11 = .ok (.bipush 100, 2) := by decide +kernel
theorem d_Walk_give_13 : decode b_Walk_give 13 = .ok (.if_icmp .lt 12, 3) := by decide +kernel
theorem d_Walk_give_16 : decode b_Walk_give 16 = .ok (.aload_n 0, 1) := by decide +kernel
theorem d_Walk_give_17 : decode b_Walk_give 17 = .ok (.bipush 8, 2) := by decide +kernel
theorem d_Walk_give_19 : decode b_Walk_give 19 = .ok (.iload 8, 2) := by decide +kernel
theorem d_Walk_give_21 : decode b_Walk_give 21 = .ok (.invokevirtual 64, 3) := by decide +kernel
theorem d_Walk_give_24 : decode b_Walk_give 24 = .ok (.return_, 1) := by decide +kernel
theorem d_Walk_give_25 : decode b_Walk_give 25 = .ok (.aload_n 0, 1) := by decide +kernel
theorem d_Walk_give_26 : decode b_Walk_give 26 = .ok (.getfield 12, 3) := by decide +kernel
theorem d_Walk_give_29 : decode b_Walk_give 29 = .ok (.getfield 138, 3) := by decide +kernel
theorem d_Walk_give_32 : decode b_Walk_give 32 = .ok (.iload 8, 2) := by decide +kernel
theorem d_Walk_give_34 : decode b_Walk_give 34 = .ok (.iload_n 1, 1) := by decide +kernel
theorem d_Walk_give_35 : decode b_Walk_give 35 = .ok (.iastore, 1) := by decide +kernel
theorem d_Walk_give_36 : decode b_Walk_give 36 = .ok (.aload_n 0, 1) := by decide +kernel
theorem d_Walk_give_37 : decode b_Walk_give 37 = .ok (.getfield 12, 3) := by decide +kernel
theorem d_Walk_give_40 : decode b_Walk_give 40 = .ok (.getfield 212, 3) := by decide +kernel
theorem d_Walk_give_43 : decode b_Walk_give 43 = .ok (.iload 8, 2) := by decide +kernel
theorem d_Walk_give_45 : decode b_Walk_give 45 = .ok (.iload_n 2, 1) := by decide +kernel
theorem d_Walk_give_46 : decode b_Walk_give 46 = .ok (.iastore, 1) := by decide +kernel
theorem d_Walk_give_47 : decode b_Walk_give 47 = .ok (.aload_n 0, 1) := by decide +kernel
theorem d_Walk_give_48 : decode b_Walk_give 48 = .ok (.getfield 12, 3) := by decide +kernel
theorem d_Walk_give_51 : decode b_Walk_give 51 = .ok (.getfield 215, 3) := by decide +kernel
theorem d_Walk_give_54 : decode b_Walk_give 54 = .ok (.iload 8, 2) := by decide +kernel
theorem d_Walk_give_56 : decode b_Walk_give 56 = .ok (.iload_n 3, 1) := by decide +kernel
theorem d_Walk_give_57 : decode b_Walk_give 57 = .ok (.iastore, 1) := by decide +kernel
theorem d_Walk_give_58 : decode b_Walk_give 58 = .ok (.aload_n 0, 1) := by decide +kernel
theorem d_Walk_give_59 : decode b_Walk_give 59 = .ok (.getfield 12, 3) := by decide +kernel
theorem d_Walk_give_62 : decode b_Walk_give 62 = .ok (.getfield 216, 3) := by decide +kernel
theorem d_Walk_give_65 : decode b_Walk_give 65 = .ok (.iload 8, 2) := by decide +kernel
theorem d_Walk_give_67 : decode b_Walk_give 67 = .ok (.iload 4, 2) := by decide +kernel
theorem d_Walk_give_69 : decode b_Walk_give 69 = .ok (.iastore, 1) := by decide +kernel
theorem d_Walk_give_70 : decode b_Walk_give 70 = .ok (.aload_n 0, 1) := by decide +kernel
theorem d_Walk_give_71 : decode b_Walk_give 71 = .ok (.getfield 12, 3) := by decide +kernel
theorem d_Walk_give_74 : decode b_Walk_give 74 = .ok (.getfield 217, 3) := by decide +kernel
theorem d_Walk_give_77 : decode b_Walk_give 77 = .ok (.iload 8, 2) := by decide +kernel
theorem d_Walk_give_79 : decode b_Walk_give 79 = .ok (.lload 5, 2) := by decide +kernel
theorem d_Walk_give_81 : decode b_Walk_give 81 = .ok (.lastore, 1) := by decide +kernel
theorem d_Walk_give_82 : decode b_Walk_give 82 = .ok (.aload_n 0, 1) := by decide +kernel
theorem d_Walk_give_83 : decode b_Walk_give 83 = .ok (.getfield 12, 3) := by decide +kernel
theorem d_Walk_give_86 : decode b_Walk_give 86 = .ok (.getfield 147, 3) := by decide +kernel
theorem d_Walk_give_89 : decode b_Walk_give 89 = .ok (.iload 8, 2) := by decide +kernel
theorem d_Walk_give_91 : decode b_Walk_give 91 = .ok (.iload 7, 2) := by decide +kernel
theorem d_Walk_give_93 : decode b_Walk_give 93 = .ok (.iastore, 1) := by decide +kernel
theorem d_Walk_give_94 : decode b_Walk_give 94 = .ok (.aload_n 0, 1) := by decide +kernel
theorem d_Walk_give_95 : decode b_Walk_give 95 = .ok (.getfield 12, 3) := by decide +kernel
theorem d_Walk_give_98 : decode b_Walk_give 98 = .ok (.getfield 220, 3) := by decide +kernel
theorem d_Walk_give_101 : decode b_Walk_give 101 = .ok (.iload 8, 2) := by decide +kernel
theorem d_Walk_give_103 : decode b_Walk_give 103 = .ok (.aload_n 0, 1) := by decide +kernel
theorem d_Walk_give_104 : decode b_Walk_give 104 = .ok (.getfield 21, 3) := by decide +kernel
theorem d_Walk_give_107 : decode b_Walk_give 107 = .ok (.invokevirtual 223, 3) := by decide +kernel
theorem d_Walk_give_110 : decode b_Walk_give 110 = .ok (.iastore, 1) := by decide +kernel
theorem d_Walk_give_111 : decode b_Walk_give 111 = .ok (.aload_n 0, 1) := by decide +kernel
theorem d_Walk_give_112 : decode b_Walk_give 112 = .ok (.getfield 12, 3) := by decide +kernel
theorem d_Walk_give_115 : decode b_Walk_give 115 = .ok (.dup, 1) := by decide +kernel
theorem d_Walk_give_116 : decode b_Walk_give 116 = .ok (.getfield 68, 3) := by decide +kernel
theorem d_Walk_give_119 : decode b_Walk_give 119 = .ok (.iconst 1, 1) := by decide +kernel
theorem d_Walk_give_120 : decode b_Walk_give 120 = .ok (.iadd, 1) := by decide +kernel
theorem d_Walk_give_121 : decode b_Walk_give 121 = .ok (.putfield 68, 3) := by decide +kernel
theorem d_Walk_give_124 : decode b_Walk_give 124 = .ok (.iload_n 1, 1) := by decide +kernel
theorem d_Walk_give_125 : decode b_Walk_give 125 = .ok (.ifCond .ne 24, 3) := by decide +kernel
theorem d_Walk_give_128 : decode b_Walk_give 128 = .ok (.aload_n 0, 1) := by decide +kernel
theorem d_Walk_give_129 : decode b_Walk_give 129 = .ok (.getfield 31, 3) := by decide +kernel
theorem d_Walk_give_132 : decode b_Walk_give 132 = .ok (.aload_n 0, 1) := by decide +kernel
theorem d_Walk_give_133 : decode b_Walk_give 133 = .ok (.getfield 83, 3) := by decide +kernel
theorem d_Walk_give_136 : decode b_Walk_give 136 = .ok (.iload 8, 2) := by decide +kernel
theorem d_Walk_give_138 : decode b_Walk_give 138 = .ok (.iastore, 1) := by decide +kernel
theorem d_Walk_give_139 : decode b_Walk_give 139 = .ok (.aload_n 0, 1) := by decide +kernel
theorem d_Walk_give_140 : decode b_Walk_give 140 = .ok (.dup, 1) := by decide +kernel
theorem d_Walk_give_141 : decode b_Walk_give 141 = .ok (.getfield 83, 3) := by decide +kernel
theorem d_Walk_give_144 : decode b_Walk_give 144 = .ok (.iconst 1, 1) := by decide +kernel
theorem d_Walk_give_145 : decode b_Walk_give 145 = .ok (.iadd, 1) := by decide +kernel
theorem d_Walk_give_146 : decode b_Walk_give 146 = .ok (.putfield 83, 3) := by decide +kernel
theorem d_Walk_give_149 : decode b_Walk_give 149 = .ok (.return_, 1) := by decide +kernel
theorem d_Walk_giveMark_0 : decode b_Walk_giveMark 0 = .ok (.aload_n 0, 1) := by decide +kernel
theorem d_Walk_giveMark_1 : decode b_Walk_giveMark 1 = .ok (.iconst (-1), 1) := by decide +kernel
theorem d_Walk_giveMark_2 : decode b_Walk_giveMark 2 = .ok (.putfield 98, 3) := by decide +kernel
theorem d_Walk_giveMark_5 : decode b_Walk_giveMark 5 = .ok (.aload_n 0, 1) := by decide +kernel
theorem d_Walk_giveMark_6 : decode b_Walk_giveMark 6 = .ok (.getfield 89, 3) := by decide +kernel
theorem d_Walk_giveMark_9 : decode b_Walk_giveMark 9 = .ok (.aload_n 0, 1) := by decide +kernel
theorem d_Walk_giveMark_10 : decode b_Walk_giveMark 10 = .ok (.getfield 86, 3) := by decide +kernel
theorem d_Walk_giveMark_13 : decode b_Walk_giveMark 13 = .ok (.if_icmp .lt 17, 3) := by decide +kernel
theorem d_Walk_giveMark_16 : decode b_Walk_giveMark 16 = .ok (.aload_n 0, 1) := by decide +kernel
theorem d_Walk_giveMark_17 : decode b_Walk_giveMark 17 = .ok (.bipush 7, 2) := by decide +kernel
theorem d_Walk_giveMark_19 : decode b_Walk_giveMark 19 = .ok (.aload_n 0, 1) := by decide +kernel
theorem d_Walk_giveMark_20 : decode b_Walk_giveMark 20 = .ok (.getfield 12, 3) := by decide +kernel
theorem d_Walk_giveMark_23 : decode b_Walk_giveMark 23 = .ok (.getfield 68, 3) := by decide +kernel
theorem d_Walk_giveMark_26 : decode b_Walk_giveMark 26 = .ok (.invokevirtual 64, 3) := by decide +kernel
theorem d_Walk_giveMark_29 : decode b_Walk_giveMark 29 = .ok (.return_, 1) := by decide +kernel
theorem d_Walk_giveMark_30 : decode b_Walk_giveMark 30 = .ok (.aload_n 0, 1) := by decide +kernel
theorem d_Walk_giveMark_31 : decode b_Walk_giveMark 31 = .ok (.getfield 34, 3) := by decide +kernel
theorem d_Walk_giveMark_34 : decode b_Walk_giveMark 34 = .ok (.aload_n 0, 1) := by decide +kernel
theorem d_Walk_giveMark_35 : decode b_Walk_giveMark 35 = .ok (.getfield 89, 3) := by decide +kernel
theorem d_Walk_giveMark_38 : decode b_Walk_giveMark 38 = .ok (.iaload, 1) := by decide +kernel
theorem d_Walk_giveMark_39 : decode b_Walk_giveMark 39 = .ok (.istore_n 1, 1) := by decide +kernel
theorem d_Walk_giveMark_40 : decode b_Walk_giveMark 40 = .ok (.aload_n 0, 1) := by decide +kernel
theorem d_Walk_giveMark_41 : decode b_Walk_giveMark 41 = .ok (.dup, 1) := by decide +kernel
theorem d_Walk_giveMark_42 : decode b_Walk_giveMark 42 = .ok (.getfield 89, 3) := by decide +kernel
theorem d_Walk_giveMark_45 : decode b_Walk_giveMark 45 = .ok (.iconst 1, 1) := by decide +kernel
theorem d_Walk_giveMark_46 : decode b_Walk_giveMark 46 = .ok (.iadd, 1) := by decide +kernel
theorem d_Walk_giveMark_47 : decode b_Walk_giveMark 47 = .ok (.putfield 89, 3) := by decide +kernel
theorem d_Walk_giveMark_50 : decode b_Walk_giveMark 50 = .ok (.aload_n 0, 1) := by decide +kernel
theorem d_Walk_giveMark_51 : decode b_Walk_giveMark 51 = .ok (.iconst 4, 1) := by decide +kernel
theorem d_Walk_giveMark_52 : decode b_Walk_giveMark 52 = .ok (.aload_n 0, 1) := by decide +kernel
theorem d_Walk_giveMark_53 : decode b_Walk_giveMark 53 = .ok (.getfield 12, 3) := by decide +kernel
theorem d_Walk_giveMark_56 : decode b_Walk_giveMark 56 = .ok (.getfield 212, 3) := by decide +kernel
theorem d_Walk_giveMark_59 : decode b_Walk_giveMark 59 = .ok (.iload_n 1, 1) := by decide +kernel
theorem d_Walk_giveMark_60 : decode b_Walk_giveMark 60 = .ok (.iaload, 1) := by decide +kernel
theorem d_Walk_giveMark_61 : decode b_Walk_giveMark 61 = .ok (.aload_n 0, 1) := by decide +kernel
theorem d_Walk_giveMark_62 : decode b_Walk_giveMark 62 = .ok (.getfield 12, 3) := by decide +kernel
theorem d_Walk_giveMark_65 : decode b_Walk_giveMark 65 = .ok (.getfield 215, 3) := by decide +kernel
theorem d_Walk_giveMark_68 : decode b_Walk_giveMark 68 = .ok (.iload_n 1, 1) := by decide +kernel
theorem d_Walk_giveMark_69 : decode b_Walk_giveMark 69 = .ok (.iaload, 1) := by decide +kernel
theorem d_Walk_giveMark_70 : decode b_Walk_giveMark 70 = .ok (.aload_n 0, 1) := by decide +kernel
theorem d_Walk_giveMark_71 : decode b_Walk_giveMark 71 = .ok (.getfield 12, 3) := by decide +kernel
theorem d_Walk_giveMark_74 : decode b_Walk_giveMark 74 = .ok (.getfield 216, 3) := by decide +kernel
theorem d_Walk_giveMark_77 : decode b_Walk_giveMark 77 = .ok (.iload_n 1, 1) := by decide +kernel
theorem d_Walk_giveMark_78 : decode b_Walk_giveMark 78 = .ok (.iaload, 1) := by decide +kernel
theorem d_Walk_giveMark_79 : decode b_Walk_giveMark 79 = .ok (.aload_n 0, 1) := by decide +kernel
theorem d_Walk_giveMark_80 : decode b_Walk_giveMark 80 = .ok (.getfield 12, 3) := by decide +kernel
theorem d_Walk_giveMark_83 : decode b_Walk_giveMark 83 = .ok (.getfield 217, 3) := by decide +kernel
theorem d_Walk_giveMark_86 : decode b_Walk_giveMark 86 = .ok (.iload_n 1, 1) := by decide +kernel
theorem d_Walk_giveMark_87 : decode b_Walk_giveMark 87 = .ok (.laload, 1) := by decide +kernel
theorem d_Walk_giveMark_88 : decode b_Walk_giveMark 88 = .ok (.iload_n 1, 1) := by decide +kernel
theorem d_Walk_giveMark_89 : decode b_Walk_giveMark 89 = .ok (.invokevirtual 188, 3) := by decide +kernel
theorem d_Walk_giveMark_92 : decode b_Walk_giveMark 92 = .ok (.return_, 1) := by decide +kernel
theorem d_Walk_giveBit_0 : decode b_Walk_giveBit 0 = .ok (.aload_n 0, 1) := by decide +kernel
theorem d_Walk_giveBit_1 : decode b_Walk_giveBit 1 = .ok (.getfield 31, 3) := by decide +kernel
theorem d_Walk_giveBit_4 : decode b_Walk_giveBit 4 = .ok (.aload_n 0, 1) := by decide +kernel
theorem d_Walk_giveBit_5 : decode b_Walk_giveBit 5 = .ok (.getfield 83, 3) := by decide +kernel
theorem d_Walk_giveBit_8 : decode b_Walk_giveBit 8 = .ok (.aload_n 0, 1) := by decide +kernel
theorem d_Walk_giveBit_9 : decode b_Walk_giveBit 9 = .ok (.getfield 104, 3) := by decide +kernel
theorem d_Walk_giveBit_12 : decode b_Walk_giveBit 12 = .ok (.isub, 1) := by decide +kernel
theorem d_Walk_giveBit_13 : decode b_Walk_giveBit 13 = .ok (.iaload, 1) := by decide +kernel
theorem d_Walk_giveBit_14 : decode b_Walk_giveBit 14 = .ok (.istore_n 1, 1) := by decide +kernel
theorem d_Walk_giveBit_15 : decode b_Walk_giveBit 15 = .ok (.aload_n 0, 1) := by decide +kernel
theorem d_Walk_giveBit_16 : decode b_Walk_giveBit 16 = .ok (.dup, 1) := by decide +kernel
theorem d_Walk_giveBit_17 : decode b_Walk_giveBit 17 = .ok (.getfield 104, 3) := by decide +kernel
theorem d_Walk_giveBit_20 : decode b_Walk_giveBit 20 = .ok (.iconst 1, 1) := by decide +kernel
theorem d_Walk_giveBit_21 : decode b_Walk_giveBit 21 = .ok (.isub, 1) := by decide +kernel
theorem d_Walk_giveBit_22 : decode b_Walk_giveBit 22 = .ok (.putfield 104, 3) := by decide +kernel
theorem d_Walk_giveBit_25 : decode b_Walk_giveBit 25 = .ok (.aload_n 0, 1) := by decide +kernel
theorem d_Walk_giveBit_26 : decode b_Walk_giveBit 26 = .ok (.aload_n 0, 1) := by decide +kernel
theorem d_Walk_giveBit_27 : decode b_Walk_giveBit 27 = .ok (.getfield 104, 3) := by decide +kernel
theorem d_Walk_giveBit_30 : decode b_Walk_giveBit 30 = .ok (.ifCond .le 7, 3) := by decide +kernel
theorem d_Walk_giveBit_33 : decode b_Walk_giveBit 33 = .ok (.iconst 3, 1) := by decide +kernel
theorem d_Walk_giveBit_34 : decode b_Walk_giveBit 34 = .ok (.goto 4, 3) := by decide +kernel
theorem d_Walk_giveBit_37 : decode b_Walk_giveBit 37 = .ok (.iconst (-1), 1) := by decide +kernel
theorem d_Walk_giveBit_38 : decode b_Walk_giveBit 38 = .ok (.putfield 98, 3) := by decide +kernel
theorem d_Walk_giveBit_41 : decode b_Walk_giveBit 41 = .ok (.aload_n 0, 1) := by decide +kernel
theorem d_Walk_giveBit_42 : decode b_Walk_giveBit 42 = .ok (.iconst 3, 1) := by decide +kernel
theorem d_Walk_giveBit_43 : decode b_Walk_giveBit 43 = .ok (.iconst (-1), 1) := by decide +kernel
theorem d_Walk_giveBit_44 : decode b_Walk_giveBit 44 = .ok (.iconst 1, 1) := by decide +kernel
theorem d_Walk_giveBit_45 : decode b_Walk_giveBit 45 = .ok (.iconst 0, 1) := by decide +kernel
theorem d_Walk_giveBit_46 : decode b_Walk_giveBit 46 = .ok (.lconst 0, 1) := by decide +kernel
theorem d_Walk_giveBit_47 : decode b_Walk_giveBit 47 = .ok (.iload_n 1, 1) := by decide +kernel
theorem d_Walk_giveBit_48 : decode b_Walk_giveBit 48 = .ok (.invokevirtual 188, 3) := by decide +kernel
theorem d_Walk_giveBit_51 : decode b_Walk_giveBit 51 = .ok (.return_, 1) := by decide +kernel
theorem d_Walk_giveFromEntry_0 : decode b_Walk_giveFromEntry 0 = .ok (.aload_n 0, 1) := by decide +kernel
theorem d_Walk_giveFromEntry_1 : decode b_Walk_giveFromEntry 1 = .ok (.getfield 98, 3) := by decide +kernel
theorem d_Walk_giveFromEntry_4 : decode b_Walk_giveFromEntry 4 = .ok (.istore_n 1, 1) := by decide +kernel
theorem d_Walk_giveFromEntry_5 : decode b_Walk_giveFromEntry 5 = .ok (.aload_n 0, 1) := by decide +kernel
theorem d_Walk_giveFromEntry_6 : decode b_Walk_giveFromEntry 6 = .ok (.iconst (-1), 1) := by decide +kernel
theorem d_Walk_giveFromEntry_7 : decode b_Walk_giveFromEntry 7 = .ok (.putfield 98, 3) := by decide +kernel
theorem d_Walk_giveFromEntry_10 : decode b_Walk_giveFromEntry 10 = .ok (.aload_n 0, 1) := by decide +kernel
theorem d_Walk_giveFromEntry_11 : decode b_Walk_giveFromEntry 11 = .ok (.getfield 37, 3) := by decide +kernel
theorem d_Walk_giveFromEntry_14 : decode b_Walk_giveFromEntry 14 = .ok (.aload_n 0, 1) := by decide +kernel
theorem d_Walk_giveFromEntry_15 : decode b_Walk_giveFromEntry 15 = .ok (.getfield 101, 3) := by decide +kernel
theorem d_Walk_giveFromEntry_18 : decode b_Walk_giveFromEntry 18 = .ok (.invokevirtual 192, 3) := by decide +kernel
theorem d_Walk_giveFromEntry_21 : decode b_Walk_giveFromEntry 21 = .ok (.istore_n 2, 1) := by decide +kernel
theorem d_Walk_giveFromEntry_22 : decode b_Walk_giveFromEntry 22 = .ok (.iload_n 2, 1) := by decide +kernel
theorem d_Walk_giveFromEntry_23 : decode b_Walk_giveFromEntry 23 = .ok (.iconst (-1), 1) := by decide +kernel
theorem d_Walk_giveFromEntry_24 : decode b_Walk_giveFromEntry 24 = .ok (.if_icmp .ne 4, 3) := by decide +kernel
theorem d_Walk_giveFromEntry_27 : decode b_Walk_giveFromEntry 27 = .ok (.return_, 1) := by decide +kernel
theorem d_Walk_giveFromEntry_28 : decode b_Walk_giveFromEntry 28 = .ok (.aload_n 0, 1) := by decide +kernel
theorem d_Walk_giveFromEntry_29 : decode b_Walk_giveFromEntry 29 = .ok (.getfield 37, 3) := by decide +kernel
theorem d_Walk_giveFromEntry_32 : decode b_Walk_giveFromEntry 32 = .ok (.getfield 197, 3) := by decide +kernel
theorem d_Walk_giveFromEntry_35 : decode b_Walk_giveFromEntry 35 = .ok (.iload_n 2, 1) := by decide +kernel
theorem d_Walk_giveFromEntry_36 : decode b_Walk_giveFromEntry 36 = .ok (.iaload, 1) := by decide +kernel
theorem d_Walk_giveFromEntry_37 : decode b_Walk_giveFromEntry 37 = .ok (.istore_n 3, 1) := by decide +kernel
theorem d_Walk_giveFromEntry_38 : decode b_Walk_giveFromEntry 38 = .ok (.aload_n 0, 1) := by decide +kernel
theorem d_Walk_giveFromEntry_39 : decode b_Walk_giveFromEntry 39 = .ok (.getfield 37, 3) := by decide +kernel
theorem d_Walk_giveFromEntry_42 : decode b_Walk_giveFromEntry 42 = .ok (.getfield 200, 3) := by decide +kernel
theorem d_Walk_giveFromEntry_45 : decode b_Walk_giveFromEntry 45 = .ok (.iload_n 2, 1) := by decide +kernel
theorem d_Walk_giveFromEntry_46 : decode b_Walk_giveFromEntry 46 = .ok (.iaload, 1) := by decide +kernel
theorem d_Walk_giveFromEntry_47 : decode b_Walk_giveFromEntry 47 = .ok (.istore 4, 2) := by decide +kernel
theorem d_Walk_giveFromEntry_49 : decode b_Walk_giveFromEntry 49 = .ok (.aload_n 0, 1) := by decide +kernel
theorem d_Walk_giveFromEntry_50 : decode b_Walk_giveFromEntry 50 = .ok (.getfield 37, 3) := by decide +kernel
theorem d_Walk_giveFromEntry_53 : decode b_Walk_giveFromEntry 53 = .ok (.getfield 203, 3) := by decide +kernel
theorem d_Walk_giveFromEntry_56 : decode b_Walk_giveFromEntry 56 = .ok (.iload_n 2, 1) := by decide +kernel
theorem d_Walk_giveFromEntry_57 : decode b_Walk_giveFromEntry 57 = .ok (.iaload, 1) := by decide +kernel
theorem d_Walk_giveFromEntry_58 : decode b_Walk_giveFromEntry 58 = .ok (.i2l, 1) := by decide +kernel
theorem d_Walk_giveFromEntry_59 : decode b_Walk_giveFromEntry 59 = .ok (.lstore 5, 2) := by decide +kernel
theorem d_Walk_giveFromEntry_61 : decode b_Walk_giveFromEntry 61 = .ok (.iload_n 1, 1) := by decide +kernel
theorem d_Walk_giveFromEntry_62 : decode b_Walk_giveFromEntry 62 = .ok (.ifCond .ne 42, 3) := by decide +kernel
theorem d_Walk_giveFromEntry_65 : decode b_Walk_giveFromEntry 65 = .ok (.iload_n 3, 1) := by decide +kernel
theorem d_Walk_giveFromEntry_66 : decode b_Walk_giveFromEntry 66 = .ok (.aload_n 0, 1) := by decide +kernel
theorem d_Walk_giveFromEntry_67 : decode b_Walk_giveFromEntry 67 = .ok (.getfield 27, 3) := by decide +kernel
theorem d_Walk_giveFromEntry_70 : decode b_Walk_giveFromEntry 70 = .ok (.iconst 0, 1) := by decide +kernel
theorem d_Walk_giveFromEntry_71 : decode b_Walk_giveFromEntry 71 = .ok (.iaload, 1) := by decide +kernel
theorem d_Walk_giveFromEntry_72 : decode b_Walk_giveFromEntry 72 = .ok (.invokestatic 206, 3) := by decide +kernel
theorem d_Walk_giveFromEntry_75 : decode b_Walk_giveFromEntry 75 = .ok (.iadd, 1) := by decide +kernel
theorem d_Walk_giveFromEntry_76 : decode b_Walk_giveFromEntry 76 = .ok (.istore_n 3, 1) := by decide +kernel
theorem d_Walk_giveFromEntry_77 : decode b_Walk_giveFromEntry 77 = .ok (.iload 4, 2) := by decide +kernel
theorem d_Walk_giveFromEntry_79 : decode b_Walk_giveFromEntry 79 = .ok (.aload_n 0, 1) := by decide +kernel
theorem d_Walk_giveFromEntry_80 : decode b_Walk_giveFromEntry 80 = .ok (.getfield 27, 3) := by decide +kernel
theorem d_Walk_giveFromEntry_83 : decode b_Walk_giveFromEntry 83 = .ok (.iconst 1, 1) := by decide +kernel
theorem d_Walk_giveFromEntry_84 : decode b_Walk_giveFromEntry 84 = .ok (.iaload, 1) := by decide +kernel
theorem d_Walk_giveFromEntry_85 : decode b_Walk_giveFromEntry 85 = .ok (.invokestatic 209, 3) := by decide +kernel
theorem d_Walk_giveFromEntry_88 : decode b_Walk_giveFromEntry 88 = .ok (.iadd, 1) := by decide +kernel
theorem d_Walk_giveFromEntry_89 : decode b_Walk_giveFromEntry 89 = .ok (.istore 4, 2) := by decide +kernel
theorem d_Walk_giveFromEntry_91 : decode b_Walk_giveFromEntry 91 = .ok (.lload 5, 2) := by decide +kernel
theorem d_Walk_giveFromEntry_93 : decode b_Walk_giveFromEntry 93 = .ok (.lconst 1, 1) := by decide +kernel
theorem d_Walk_giveFromEntry_94 : decode b_Walk_giveFromEntry 94 = .ok (.aload_n 0, 1) := by decide +kernel
theorem d_Walk_giveFromEntry_95 : decode b_Walk_giveFromEntry 95 = .ok (.getfield 27, 3) := by decide +kernel
theorem d_Walk_giveFromEntry_98 : decode b_Walk_giveFromEntry 98 = .ok (.iconst 3, 1) := by decide +kernel
theorem d_Walk_giveFromEntry_99 : decode b_Walk_giveFromEntry 99 = .ok (.iaload, 1) := by decide +kernel
theorem d_Walk_giveFromEntry_100 : decode b_Walk_giveFromEntry 100 = .ok (.lshl, 1) := by decide +kernel
theorem d_Walk_giveFromEntry_101 : decode b_Walk_giveFromEntry 101 = .ok (.lmul, 1) := by decide +kernel
theorem d_Walk_giveFromEntry_102 : decode b_Walk_giveFromEntry 102 = .ok (.lstore 5, 2) := by decide +kernel
theorem d_Walk_giveFromEntry_104 : decode b_Walk_giveFromEntry 104 = .ok (.aload_n 0, 1) := by decide +kernel
