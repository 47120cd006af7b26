theorem d_Arr_fill_aJJ_2 : decode b_Arr_fill_aJJ 2 = .ok (.aload_n 0, 1) := by decide +kernel
theorem d_Arr_fill_aJJ_3 : decode b_Arr_fill_aJJ 3 = .ok (.arraylength, 1) := by decide +kernel
theorem d_Arr_fill_aJJ_4 : decode b_Arr_fill_aJJ 4 = .ok (.istore 4, 2) := by decide +kernel
theorem d_Arr_fill_aJJ_6 : decode b_Arr_fill_aJJ 6 = .ok (.iload_n 3, 1) := by decide +kernel
theorem d_Arr_fill_aJJ_7 : decode b_Arr_fill_aJJ 7 = .ok (.iload 4, 2) := by decide +kernel
theorem d_Arr_fill_aJJ_9 : decode b_Arr_fill_aJJ 9 = .ok (.if_icmp .ge 13, 3) := by decide +kernel
theorem d_Arr_fill_aJJ_12 : decode b_Arr_fill_aJJ 12 = .ok (.aload_n 0, 1) := by decide +kernel
theorem d_Arr_fill_aJJ_13 : decode b_Arr_fill_aJJ 13 = .ok (.iload_n 3, 1) := by decide +kernel
theorem d_Arr_fill_aJJ_14 : decode b_Arr_fill_aJJ 14 = .ok (.lload_n 1, 1) := by decide +kernel
theorem d_Arr_fill_aJJ_15 : decode b_Arr_fill_aJJ 15 = .ok (.lastore, 1) := by decide +kernel
theorem d_Arr_fill_aJJ_16 : decode b_Arr_fill_aJJ 16 = .ok (.iinc 3 1, 3) := by decide +kernel
theorem d_Arr_fill_aJJ_19 : decode b_Arr_fill_aJJ 19 = .ok (.goto (-13), 3) := by decide +kernel
theorem d_Arr_fill_aJJ_22 : decode b_Arr_fill_aJJ 22 = .ok (.return_, 1) := by decide +kernel
theorem d_Bits_empty_0 : decode b_Bits_empty 0 = .ok (.aload_n 0, 1) := by decide +kernel
theorem d_Bits_empty_1 : decode b_Bits_empty 1 = .ok (.getfield 7, 3) := by decide +kernel
theorem d_Bits_empty_4 : decode b_Bits_empty 4 = .ok (.iconst 0, 1) := by decide +kernel
theorem d_Bits_empty_5 : decode b_Bits_empty 5 = .ok (.invokestatic 13, 3) := by decide +kernel
theorem d_Bits_empty_8 : decode b_Bits_empty 8 = .ok (.aload_n 0, 1) := by decide +kernel
theorem d_Bits_empty_9 : decode b_Bits_empty 9 = .ok (.iconst 0, 1) := by decide +kernel
theorem d_Bits_empty_10 : decode b_Bits_empty 10 = .ok (.putfield 19, 3) := by decide +kernel
theorem d_Bits_empty_13 : decode b_Bits_empty 13 = .ok (.return_, 1) := by decide +kernel
theorem d_X_isSubset_0 : decode b_X_isSubset 0 = .ok (.iload_n 0, 1) := by decide +kernel
theorem d_X_isSubset_1 : decode b_X_isSubset 1 = .ok (.ifCond .lt 13, 3) := by decide +kernel
theorem d_X_isSubset_4 : decode b_X_isSubset 4 = .ok (.iload_n 0, 1) := by decide +kernel
theorem d_X_isSubset_5 : decode b_X_isSubset 5 = .ok (.bipush 8, 2) := by decide +kernel
theorem d_X_isSubset_7 : decode b_X_isSubset 7 = .ok (.if_icmp .ge 7, 3) := by decide +kernel
theorem d_X_isSubset_10 : decode b_X_isSubset 10 = .ok (.iconst 1, 1) := by decide +kernel
theorem d_X_isSubset_11 : decode b_X_isSubset 11 = .ok (.goto 4, 3) := by decide +kernel
theorem d_X_isSubset_14 : decode b_X_isSubset 14 = .ok (.iconst 0, 1) := by decide +kernel
theorem d_X_isSubset_15 : decode b_X_isSubset 15 = .ok (.ireturn, 1) := by decide +kernel
theorem d_X_isValue_0 : decode b_X_isValue 0 = .ok (.iload_n 0, 1) := by decide +kernel
theorem d_X_isValue_1 : decode b_X_isValue 1 = .ok (.invokestatic 166, 3) := by decide +kernel
theorem d_X_isValue_4 : decode b_X_isValue 4 = .ok (.ifCond .eq 17, 3) := by decide +kernel
theorem d_X_isValue_7 : decode b_X_isValue 7 = .ok (.iload_n 1, 1) := by decide +kernel
theorem d_X_isValue_8 : decode b_X_isValue 8 = .ok (.ifCond .lt 13, 3) := by decide +kernel
theorem d_X_isValue_11 : decode b_X_isValue 11 = .ok (.iload_n 1, 1) := by decide +kernel
theorem d_X_isValue_12 : decode b_X_isValue 12 = .ok (.bipush 100, 2) := by decide +kernel
theorem d_X_isValue_14 : decode b_X_isValue 14 = .ok (.if_icmp .ge 7, 3) := by decide +kernel
theorem d_X_isValue_17 : decode b_X_isValue 17 = .ok (.iconst 1, 1) := by decide +kernel
theorem d_X_isValue_18 : decode b_X_isValue 18 = .ok (.goto 4, 3) := by decide +kernel
theorem d_X_isValue_21 : decode b_X_isValue 21 = .ok (.iconst 0, 1) := by decide +kernel
theorem d_X_isValue_22 : decode b_X_isValue 22 = .ok (.ireturn, 1) := by decide +kernel
theorem d_X_placeOf_0 : decode b_X_placeOf 0 = .ok (.bipush 100, 2) := by decide +kernel
theorem d_X_placeOf_2 : decode b_X_placeOf 2 = .ok (.iload_n 0, 1) := by decide +kernel
theorem d_X_placeOf_3 : decode b_X_placeOf 3 = .ok (.imul, 1) := by decide +kernel
theorem d_X_placeOf_4 : decode b_X_placeOf 4 = .ok (.iload_n 1, 1) := by decide +kernel
theorem d_X_placeOf_5 : decode b_X_placeOf 5 = .ok (.iadd, 1) := by decide +kernel
theorem d_X_placeOf_6 : decode b_X_placeOf 6 = .ok (.ireturn, 1) := by decide +kernel
theorem d_X_bitLength_0 : decode b_X_bitLength 0 = .ok (.iconst 0, 1) := by decide +kernel
theorem d_X_bitLength_1 : decode b_X_bitLength 1 = .ok (.istore_n 2, 1) := by decide +kernel
theorem d_X_bitLength_2 : decode b_X_bitLength 2 = .ok (.iload_n 2, 1) := by decide +kernel
theorem d_X_bitLength_3 : decode b_X_bitLength 3 = .ok (.bipush 63, 2) := by decide +kernel
theorem d_X_bitLength_5 : decode b_X_bitLength 5 = .ok (.if_icmp .ge 17, 3) := by decide +kernel
theorem d_X_bitLength_8 : decode b_X_bitLength 8 = .ok (.lload_n 0, 1) := by decide +kernel
theorem d_X_bitLength_9 : decode b_X_bitLength 9 = .ok (.iload_n 2, 1) := by decide +kernel
theorem d_X_bitLength_10 : decode b_X_bitLength 10 = .ok (.lshr, 1) := by decide +kernel
theorem d_X_bitLength_11 : decode b_X_bitLength 11 = .ok (.lconst 0, 1) := by decide +kernel
theorem d_X_bitLength_12 : decode b_X_bitLength 12 = .ok (.lcmp, 1) := by decide +kernel
theorem d_X_bitLength_13 : decode b_X_bitLength 13 = .ok (.ifCond .eq 9, 3) := by decide +kernel
theorem d_X_bitLength_16 : decode b_X_bitLength 16 = .ok (.iinc 2 1, 3) := by decide +kernel
theorem d_X_bitLength_19 : decode b_X_bitLength 19 = .ok (.goto (-17), 3) := by decide +kernel
theorem d_X_bitLength_22 : decode b_X_bitLength 22 = .ok (.iload_n 2, 1) := by decide +kernel
theorem d_X_bitLength_23 : decode b_X_bitLength 23 = .ok (.ireturn, 1) := by decide +kernel
theorem d_X_allOnes_0 : decode b_X_allOnes 0 = .ok (.lconst 1, 1) := by decide +kernel
theorem d_X_allOnes_1 : decode b_X_allOnes 1 = .ok (.iload_n 0, 1) := by decide +kernel
theorem d_X_allOnes_2 : decode b_X_allOnes 2 = .ok (.lshl, 1) := by decide +kernel
theorem d_X_allOnes_3 : decode b_X_allOnes 3 = .ok (.lconst 1, 1) := by decide +kernel
theorem d_X_allOnes_4 : decode b_X_allOnes 4 = .ok (.lsub, 1) := by decide +kernel
theorem d_X_allOnes_5 : decode b_X_allOnes 5 = .ok (.lreturn, 1) := by decide +kernel
theorem d_Prog_fail_0 : decode b_Prog_fail 0 = .ok (.aload_n 0, 1) := by decide +kernel
theorem d_Prog_fail_1 : decode b_Prog_fail 1 = .ok (.iload_n 1, 1) := by decide +kernel
theorem d_Prog_fail_2 : decode b_Prog_fail 2 = .ok (.putfield 46, 3) := by decide +kernel
theorem d_Prog_fail_5 : decode b_Prog_fail 5 = .ok (.aload_n 0, 1) := by decide +kernel
theorem d_Prog_fail_6 : decode b_Prog_fail 6 = .ok (.aload_n 0, 1) := by decide +kernel
theorem d_Prog_fail_7 : decode b_Prog_fail 7 = .ok (.getfield 55, 3) := by decide +kernel
theorem d_Prog_fail_10 : decode b_Prog_fail 10 = .ok (.putfield 49, 3) := by decide +kernel
theorem d_Prog_fail_13 : decode b_Prog_fail 13 = .ok (.return_, 1) := by decide +kernel
theorem d_Prog_openList_0 : decode b_Prog_openList 0 = .ok (.aload_n 0, 1) := by decide +kernel
theorem d_Prog_openList_1 : decode b_Prog_openList 1 = .ok (.getfield 52, 3) := by decide +kernel
theorem d_Prog_openList_4 : decode b_Prog_openList 4 = .ok (.bipush 64, 2) := by decide +kernel
theorem d_Prog_openList_6 : decode b_Prog_openList 6 = .ok (.if_icmp .lt 9, 3) := by decide +kernel
theorem d_Prog_openList_9 : decode b_Prog_openList 9 = .ok (.aload_n 0, 1) := by decide +kernel
theorem d_Prog_openList_10 : decode b_Prog_openList 10 = .ok (.iconst 2, 1) := by decide +kernel
theorem d_Prog_openList_11 : decode b_Prog_openList 11 = .ok (.invokevirtual 80, 3) := by decide +kernel
theorem d_Prog_openList_14 : decode b_Prog_openList 14 = .ok (.return_, 1) := by decide +kernel
theorem d_Prog_openList_15 : decode b_Prog_openList 15 = .ok (.aload_n 0, 1) := by decide +kernel
theorem d_Prog_openList_16 : decode b_Prog_openList 16 = .ok (.getfield 23, 3) := by decide +kernel
theorem d_Prog_openList_19 : decode b_Prog_openList 19 = .ok (.aload_n 0, 1) := by decide +kernel
theorem d_Prog_openList_20 : decode b_Prog_openList 20 = .ok (.getfield 52, 3) := by decide +kernel
theorem d_Prog_openList_23 : decode b_Prog_openList 23 = .ok (.iload_n 1, 1) := by decide +kernel
theorem d_Prog_openList_24 : decode b_Prog_openList 24 = .ok (.iastore, 1) := by decide +kernel
theorem d_Prog_openList_25 : decode b_Prog_openList 25 = .ok (.aload_n 0, 1) := by decide +kernel
theorem d_Prog_openList_26 : decode b_Prog_openList 26 = .ok (.getfield 26, 3) := by decide +kernel
theorem d_Prog_openList_29 : decode b_Prog_openList 29 = .ok (.aload_n 0, 1) := by decide +kernel
theorem d_Prog_openList_30 : decode b_Prog_openList 30 = .ok (.getfield 52, 3) := by decide +kernel
theorem d_Prog_openList_33 : decode b_Prog_openList 33 = .ok (.iload_n 2, 1) := by decide +kernel
theorem d_Prog_openList_34 : decode b_Prog_openList 34 = .ok (.iastore, 1) := by decide +kernel
theorem d_Prog_openList_35 : decode b_Prog_openList 35 = .ok (.aload_n 0, 1) := by decide +kernel
theorem d_Prog_openList_36 : decode b_Prog_openList 36 = .ok (.getfield 29, 3) := by decide +kernel
theorem d_Prog_openList_39 : decode b_Prog_openList 39 = .ok (.aload_n 0, 1) := by decide +kernel
theorem d_Prog_openList_40 : decode b_Prog_openList 40 = .ok (.getfield 52, 3) := by decide +kernel
theorem d_Prog_openList_43 : decode b_Prog_openList 43 = .ok (.iload_n 3, 1) := by decide +kernel
theorem d_Prog_openList_44 : decode b_Prog_openList 44 = .ok (.iastore, 1) := by decide +kernel
theorem d_Prog_openList_45 : decode b_Prog_openList 45 = .ok (.aload_n 0, 1) := by decide +kernel
theorem d_Prog_openList_46 : decode b_Prog_openList 46 = .ok (.getfield 32, 3) := by decide +kernel
theorem d_Prog_openList_49 : decode b_Prog_openList 49 = .ok (.aload_n 0, 1) := by decide +kernel
theorem d_Prog_openList_50 : decode b_Prog_openList 50 = .ok (.getfield 52, 3) := by decide +kernel
theorem d_Prog_openList_53 : decode b_Prog_openList 53 = .ok (.iload 4, 2) := by decide +kernel
theorem d_Prog_openList_55 : decode b_Prog_openList 55 = .ok (.iastore, 1) := by decide +kernel
theorem d_Prog_openList_56 : decode b_Prog_openList 56 = .ok (.aload_n 0, 1) := by decide +kernel
theorem d_Prog_openList_57 : decode b_Prog_openList 57 = .ok (.getfield 20, 3) := by decide +kernel
theorem d_Prog_openList_60 : decode b_Prog_openList 60 = .ok (.iconst 0, 1) := by decide +kernel
theorem d_Prog_openList_61 : decode b_Prog_openList 61 = .ok (.aload_n 0, 1) := by decide +kernel
theorem d_Prog_openList_62 : decode b_Prog_openList 62 = .ok (.getfield 35, 3) := by decide +kernel
theorem d_Prog_openList_65 : decode b_Prog_openList 65 = .ok (.aload_n 0, 1) := by decide +kernel
theorem d_Prog_openList_66 : decode b_Prog_openList 66 = .ok (.getfield 52, 3) := by decide +kernel
theorem d_Prog_openList_69 : decode b_Prog_openList 69 = .ok (.iconst 4, 1) := by decide +kernel
theorem d_Prog_openList_70 : decode b_Prog_openList 70 = .ok (.imul, 1) := by decide +kernel
theorem d_Prog_openList_71 : decode b_Prog_openList 71 = .ok (.iconst 4, 1) := by decide +kernel
theorem d_Prog_openList_72 : decode b_Prog_openList 72 = .ok (.invokestatic 84, 3) := by decide +kernel
theorem d_Prog_openList_75 : decode b_Prog_openList 75 = .ok (.aload_n 0, 1) := by decide +kernel
theorem d_Prog_openList_76 : decode b_Prog_openList 76 = .ok (.dup, 1) := by decide +kernel
theorem d_Prog_openList_77 : decode b_Prog_openList 77 = .ok (.getfield 52, 3) := by decide +kernel
theorem d_Prog_openList_80 : decode b_Prog_openList 80 = .ok (.iconst 1, 1) := by decide +kernel
theorem d_Prog_openList_81 : decode b_Prog_openList 81 = .ok (.iadd, 1) := by decide +kernel
theorem d_Prog_openList_82 : decode b_Prog_openList 82 = .ok (.putfield 52, 3) := by decide +kernel
theorem d_Prog_openList_85 : decode b_Prog_openList 85 = .ok (.return_, 1) := by decide +kernel
theorem d_Prog_closeList_0 : decode b_Prog_closeList 0 = .ok (.aload_n 0, 1) := by decide +kernel
theorem d_Prog_closeList_1 : decode b_Prog_closeList 1 = .ok (.dup, 1) := by decide +kernel
theorem d_Prog_closeList_2 : decode b_Prog_closeList 2 = .ok (.getfield 52, 3) := by decide +kernel
theorem d_Prog_closeList_5 : decode b_Prog_closeList 5 = .ok (.iconst 1, 1) := by decide +kernel
theorem d_Prog_closeList_6 : decode b_Prog_closeList 6 = .ok (.isub, 1) := by decide +kernel
theorem d_Prog_closeList_7 : decode b_Prog_closeList 7 = .ok (.putfield 52, 3) := by decide +kernel
theorem d_Prog_closeList_10 : decode b_Prog_closeList 10 = .ok (.iconst 0, 1) := by decide +kernel
theorem d_Prog_closeList_11 : decode b_Prog_closeList 11 = .ok (.istore_n 1, 1) := by decide +kernel
theorem d_Prog_closeList_12 : decode b_Prog_closeList 12 = .ok (.iload_n 1, 1) := by decide +kernel
theorem d_Prog_closeList_13 : decode b_Prog_closeList 13 = .ok (.iconst 4, 1) := by decide +kernel
theorem d_Prog_closeList_14 : decode b_Prog_closeList 14 = .ok (.if_icmp .ge 37, 3) := by decide +kernel
theorem d_Prog_closeList_17 : decode b_Prog_closeList 17 = .ok (.aload_n 0, 1) := by decide +kernel
theorem d_Prog_closeList_18 : decode b_Prog_closeList 18 = .ok (.getfield 20, 3) := by decide +kernel
theorem d_Prog_closeList_21 : decode b_Prog_closeList 21 = .ok (.iload_n 1, 1) := by decide +kernel
theorem d_Prog_closeList_22 : decode b_Prog_closeList 22 = .ok (.iaload, 1) := by decide +kernel
theorem d_Prog_closeList_23 : decode b_Prog_closeList 23 = .ok (.aload_n 0, 1) := by decide +kernel
theorem d_Prog_closeList_24 : decode b_Prog_closeList 24 = .ok (.getfield 35, 3) := by decide +kernel
theorem d_Prog_closeList_27 : decode b_Prog_closeList 27 = .ok (.aload_n 0, 1) := by decide +kernel
theorem d_Prog_closeList_28 : decode b_Prog_closeList 28 = .ok (.getfield 52, 3) := by decide +kernel
theorem d_Prog_closeList_31 : decode b_Prog_closeList 31 = .ok (.iconst 4, 1) := by decide +kernel
theorem d_Prog_closeList_32 : decode b_Prog_closeList 32 = .ok (.imul, 1) := by decide +kernel
theorem d_Prog_closeList_33 : decode b_Prog_closeList 33 = .ok (.iload_n 1, 1) := by decide +kernel
theorem d_Prog_closeList_34 : decode b_Prog_closeList 34 = .ok (.iadd, 1) := by decide +kernel
theorem d_Prog_closeList_35 : decode b_Prog_closeList 35 = .ok (.iaload, 1) := by decide +kernel
theorem d_Prog_closeList_36 : decode b_Prog_closeList 36 = .ok (.if_icmp .eq 9, 3) := by decide +kernel
theorem d_Prog_closeList_39 : decode b_Prog_closeList 39 = .ok (.aload_n 0, 1) := by decide +kernel
theorem d_Prog_closeList_40 : decode b_Prog_closeList 40 = .ok (.iconst 4, 1) := by decide +kernel
theorem d_Prog_closeList_41 : decode b_Prog_closeList 41 = .ok (.invokevirtual 80, 3) := by decide +kernel
theorem d_Prog_closeList_44 : decode b_Prog_closeList 44 = .ok (.return_, 1) := by decide +kernel
theorem d_Prog_closeList_45 : decode b_Prog_closeList 45 = .ok (.iinc 1 1, 3) := by decide +kernel
theorem d_Prog_closeList_48 : decode b_Prog_closeList 48 = .ok (.goto (-36), 3) := by decide +kernel
theorem d_Prog_closeList_51 : decode b_Prog_closeList 51 = .ok (.aload_n 0, 1) := by decide +kernel
theorem d_Prog_closeList_52 : decode b_Prog_closeList 52 = .ok (.getfield 32, 3) := by decide +kernel
theorem d_Prog_closeList_55 : decode b_Prog_closeList 55 = .ok (.aload_n 0, 1) := by decide +kernel
theorem d_Prog_closeList_56 : decode b_Prog_closeList 56 = .ok (.getfield 52, 3) := by decide +kernel
theorem d_Prog_closeList_59 : decode b_Prog_closeList 59 = .ok (.iaload, 1) := by decide +kernel
theorem d_Prog_closeList_60 : decode b_Prog_closeList 60 = .ok (.iconst (-1), 1) := by decide +kernel
theorem d_Prog_closeList_61 : decode b_Prog_closeList 61 = .ok (.if_icmp .eq 21, 3) := by decide +kernel
theorem d_Prog_closeList_64 : decode b_Prog_closeList 64 = .ok (.aload_n 0, 1) := by decide +kernel
theorem d_Prog_closeList_65 : decode b_Prog_closeList 65 = .ok (.getfield 15, 3) := by decide +kernel
theorem d_Prog_closeList_68 : decode b_Prog_closeList 68 = .ok (.aload_n 0, 1) := by decide +kernel
theorem d_Prog_closeList_69 : decode b_Prog_closeList 69 = .ok (.getfield 32, 3) := by decide +kernel
theorem d_Prog_closeList_72 : decode b_Prog_closeList 72 = .ok (.aload_n 0, 1) := by decide +kernel
theorem d_Prog_closeList_73 : decode b_Prog_closeList 73 = .ok (.getfield 52, 3) := by decide +kernel
theorem d_Prog_closeList_76 : decode b_Prog_closeList 76 = .ok (.iaload, 1) := by decide +kernel
theorem d_Prog_closeList_77 : decode b_Prog_closeList 77 = .ok (.aload_n 0, 1) := by decide +kernel
theorem d_Prog_closeList_78 : decode b_Prog_closeList 78 = .ok (.getfield 42, 3) := by decide +kernel
theorem d_Prog_closeList_81 : decode b_Prog_closeList 81 = .ok (.iastore, 1) := by decide +kernel
theorem d_Prog_closeList_82 : decode b_Prog_closeList 82 = .ok (.return_, 1) := by decide +kernel
theorem d_Prog_takeUp_0 : decode b_Prog_takeUp 0 = .ok (.iload_n 1, 1) := by decide +kernel
theorem d_Prog_takeUp_1 : decode b_Prog_takeUp 1 = .ok (.sipush 128, 3) := by decide +kernel
theorem d_Prog_takeUp_4 : decode b_Prog_takeUp 4 = .ok (.if_icmp .lt 12, 3) := by decide +kernel
theorem d_Prog_takeUp_7 : decode b_Prog_takeUp 7 = .ok (.aload_n 0, 1) := by decide +kernel
theorem d_Prog_takeUp_8 : decode b_Prog_takeUp 8 = .ok (.iload_n 1, 1) := by decide +kernel
theorem d_Prog_takeUp_9 : decode b_Prog_takeUp 9 = .ok (.sipush 128, 3) := by decide +kernel
theorem d_Prog_takeUp_12 : decode b_Prog_takeUp 12 = .ok (.isub, 1) := by decide +kernel
theorem d_Prog_takeUp_13 : decode b_Prog_takeUp 13 = .ok (.putfield 55, 3) := by decide +kernel
theorem d_Prog_takeUp_16 : decode b_Prog_takeUp 16 = .ok (.aload_n 0, 1) := by decide +kernel
theorem d_Prog_takeUp_17 : decode b_Prog_takeUp 17 = .ok (.getfield 42, 3) := by decide +kernel
theorem d_Prog_takeUp_20 : decode b_Prog_takeUp 20 = .ok (.sipush 1000, 3) := by decide +kernel
theorem d_Prog_takeUp_23 : decode b_Prog_takeUp 23 = .ok (.if_icmp .lt 10, 3) := by decide +kernel
theorem d_Prog_takeUp_26 : decode b_Prog_takeUp 26 = .ok (.aload_n 0, 1) := by decide +kernel
theorem d_Prog_takeUp_27 : decode b_Prog_takeUp 27 = .ok (.iconst 2, 1) := by decide +kernel
theorem d_Prog_takeUp_28 : decode b_Prog_takeUp 28 = .ok (.invokevirtual 80, 3) := by decide +kernel
theorem d_Prog_takeUp_31 : decode b_Prog_takeUp 31 = .ok (.iconst 0, 1) := by decide +kernel
theorem d_Prog_takeUp_32 : decode b_Prog_takeUp 32 = .ok (.ireturn, 1) := by decide +kernel
theorem d_Prog_takeUp_33 : decode b_Prog_takeUp 33 = .ok (.aload_n 0, 1) := by decide +kernel
theorem d_Prog_takeUp_34 : decode b_Prog_takeUp 34 = .ok (.getfield 11, 3) := by decide +kernel
theorem d_Prog_takeUp_37 : decode b_Prog_takeUp 37 = .ok (.aload_n 0, 1) := by decide +kernel
theorem d_Prog_takeUp_38 : decode b_Prog_takeUp 38 = .ok (.getfield 42, 3) := by decide +kernel
theorem d_Prog_takeUp_41 : decode b_Prog_takeUp 41 = .ok (.iload_n 2, 1) := by decide +kernel
theorem d_Prog_takeUp_42 : decode b_Prog_takeUp 42 = .ok (.iastore, 1) := by decide +kernel
theorem d_Prog_takeUp_43 : decode b_Prog_takeUp 43 = .ok (.aload_n 0, 1) := by decide +kernel
theorem d_Prog_takeUp_44 : decode b_Prog_takeUp 44 = .ok (.dup, 1) := by decide +kernel
theorem d_Prog_takeUp_45 : decode b_Prog_takeUp 45 = .ok (.getfield 42, 3) := by decide +kernel
theorem d_Prog_takeUp_48 : decode b_Prog_takeUp 48 = .ok (.iconst 1, 1) := by decide +kernel
theorem d_Prog_takeUp_49 : decode b_Prog_takeUp 49 = .ok (.iadd, 1) := by decide +kernel
theorem d_Prog_takeUp_50 : decode b_Prog_takeUp 50 = .ok (.putfield 42, 3) := by decide +kernel
theorem d_Prog_takeUp_53 : decode b_Prog_takeUp 53 = .ok (.iconst 1, 1) := by decide +kernel
theorem d_Prog_takeUp_54 : decode b_Prog_takeUp 54 = .ok (.ireturn, 1) := by decide +kernel
theorem d_Prog_lookAtElement_0 : decode b_Prog_lookAtElement 0 = .ok (.aload_n 0, 1) := by decide +kernel
theorem d_Prog_lookAtElement_1 : decode b_Prog_lookAtElement 1 = .ok (.getfield 38, 3) := by decide +kernel
theorem d_Prog_lookAtElement_4 : decode b_Prog_lookAtElement 4 = .ok (.iload_n 1, 1) := by decide +kernel
theorem d_Prog_lookAtElement_5 : decode b_Prog_lookAtElement 5 = .ok (.invokevirtual 128, 3) := by decide +kernel
theorem d_Prog_lookAtElement_8 : decode b_Prog_lookAtElement 8 = .ok (.istore_n 2, 1) := by decide +kernel
theorem d_Prog_lookAtElement_9 : decode b_Prog_lookAtElement 9 = .ok (.iload_n 2, 1) := by decide +kernel
theorem d_Prog_lookAtElement_10 : decode b_Prog_lookAtElement 10 = .ok (.iconst (-1), 1) := by decide +kernel
theorem d_Prog_lookAtElement_11 : decode b_Prog_lookAtElement 11 = .ok (.if_icmp .ne 9, 3) := by decide +kernel
theorem d_Prog_lookAtElement_14 : decode b_Prog_lookAtElement 14 = .ok (.aload_n 0, 1) := by decide +kernel
theorem d_Prog_lookAtElement_15 : decode b_Prog_lookAtElement 15 = .ok (.iconst 1, 1) := by decide +kernel
theorem d_Prog_lookAtElement_16 : decode b_Prog_lookAtElement 16 = .ok (.invokevirtual 80, 3) := by decide +kernel
theorem d_Prog_lookAtElement_19 : decode b_Prog_lookAtElement 19 = .ok (.return_, 1) := by decide +kernel
theorem d_Prog_lookAtElement_20 : decode b_Prog_lookAtElement 20 = .ok (.aload_n 0, 1) := by decide +kernel
theorem d_Prog_lookAtElement_21 : decode b_Prog_lookAtElement 21 = .ok (.getfield 38, 3) := by decide +kernel
theorem d_Prog_lookAtElement_24 : decode b_Prog_lookAtElement 24 = .ok (.getfield 131, 3) := by decide +kernel
theorem d_Prog_lookAtElement_27 : decode b_Prog_lookAtElement 27 = .ok (.iload_n 2, 1) := by decide +kernel
theorem d_Prog_lookAtElement_28 : decode b_Prog_lookAtElement 28 = .ok (.iaload, 1) := by decide +kernel
theorem d_Prog_lookAtElement_29 : decode b_Prog_lookAtElement 29 = .ok (.aload_n 0, 1) := by decide +kernel
theorem d_Prog_lookAtElement_30 : decode b_Prog_lookAtElement 30 = .ok (.getfield 20, 3) := by decide +kernel
theorem d_Prog_lookAtElement_33 : decode b_Prog_lookAtElement 33 = .ok (.iconst 0, 1) := by decide +kernel
theorem d_Prog_lookAtElement_34 : decode b_Prog_lookAtElement 34 = .ok (.iaload, 1) := by decide +kernel
theorem d_Prog_lookAtElement_35 : decode b_Prog_lookAtElement 35 = .ok (.invokestatic 134, 3) := by decide +kernel
theorem d_Prog_lookAtElement_38 : decode b_Prog_lookAtElement 38 = .ok (.iadd, 1) := by decide +kernel
theorem d_Prog_lookAtElement_39 : decode b_Prog_lookAtElement 39 = .ok (.istore_n 3, 1) := by decide +kernel
theorem d_Prog_lookAtElement_40 : decode b_Prog_lookAtElement 40 = .ok (.aload_n 0, 1) := by decide +kernel
theorem d_Prog_lookAtElement_41 : decode b_Prog_lookAtElement 41 = .ok (.getfield 38, 3) := by decide +kernel
theorem d_Prog_lookAtElement_44 : decode b_Prog_lookAtElement 44 = .ok (.getfield 137, 3) := by decide +kernel
theorem d_Prog_lookAtElement_47 : decode b_Prog_lookAtElement 47 = .ok (.iload_n 2, 1) := by decide +kernel
theorem d_Prog_lookAtElement_48 : decode b_Prog_lookAtElement 48 = .ok (.iaload, 1) := by decide +kernel
theorem d_Prog_lookAtElement_49 : decode b_Prog_lookAtElement 49 = .ok (.aload_n 0, 1) := by decide +kernel
theorem d_Prog_lookAtElement_50 : decode b_Prog_lookAtElement 50 = .ok (.getfield 20, 3) := by decide +kernel
theorem d_Prog_lookAtElement_53 : decode b_Prog_lookAtElement 53 = .ok (.iconst 1, 1) := by decide +kernel
theorem d_Prog_lookAtElement_54 : decode b_Prog_lookAtElement 54 = .ok (.iaload, 1) := by decide +kernel
theorem d_Prog_lookAtElement_55 : decode b_Prog_lookAtElement 55 = .ok (.invokestatic 140, 3) := by decide +kernel
theorem d_Prog_lookAtElement_58 : decode b_Prog_lookAtElement 58 = .ok (.iadd, 1) := by decide +kernel
theorem d_Prog_lookAtElement_59 : decode b_Prog_lookAtElement 59 = .ok (.istore 4, 2) := by decide +kernel
theorem d_Prog_lookAtElement_61 : decode b_Prog_lookAtElement 61 = .ok (.iload_n 3, 1) := by decide +kernel
theorem d_Prog_lookAtElement_62 : decode b_Prog_lookAtElement 62 = .ok (.invokestatic 143, 3) := by decide +kernel
theorem d_Prog_lookAtElement_65 : decode b_Prog_lookAtElement 65 = .ok (.ifCond .eq 11, 3) := by decide +kernel
theorem d_Prog_lookAtElement_68 : decode b_Prog_lookAtElement 68 = .ok (.iload 4, 2) := by decide +kernel
theorem d_Prog_lookAtElement_70 : decode b_Prog_lookAtElement 70 = .ok (.invokestatic 146, 3) := by decide +kernel
theorem d_Prog_lookAtElement_73 : decode b_Prog_lookAtElement 73 = .ok (.ifCond .ne 8, 3) := by decide +kernel
theorem d_Prog_lookAtElement_76 : decode b_Prog_lookAtElement 76 = .ok (.aload_n 0, 1) := by decide +kernel
theorem d_Prog_lookAtElement_77 : decode b_Prog_lookAtElement 77 = .ok (.iconst 5, 1) := by decide +kernel
theorem d_Prog_lookAtElement_78 : decode b_Prog_lookAtElement 78 = .ok (.invokevirtual 80, 3) := by decide +kernel
theorem d_Prog_lookAtElement_81 : decode b_Prog_lookAtElement 81 = .ok (.return_, 1) := by decide +kernel
theorem d_Prog_isTooDeep_0 : decode b_Prog_isTooDeep 0 = .ok (.iconst 0, 1) := by decide +kernel
theorem d_Prog_isTooDeep_1 : decode b_Prog_isTooDeep 1 = .ok (.istore_n 2, 1) := by decide +kernel
theorem d_Prog_isTooDeep_2 : decode b_Prog_isTooDeep 2 = .ok (.iconst 0, 1) := by decide +kernel
theorem d_Prog_isTooDeep_3 : decode b_Prog_isTooDeep 3 = .ok (.istore_n 3, 1) := by decide +kernel
theorem d_Prog_isTooDeep_4 : decode b_Prog_isTooDeep 4 = .ok (.iload_n 3, 1) := by decide +kernel
theorem d_Prog_isTooDeep_5 : decode b_Prog_isTooDeep 5 = .ok (.aload_n 0, 1) := by decide +kernel
theorem d_Prog_isTooDeep_6 : decode b_Prog_isTooDeep 6 = .ok (.getfield 52, 3) := by decide +kernel
theorem d_Prog_isTooDeep_9 : decode b_Prog_isTooDeep 9 = .ok (.if_icmp .ge 34, 3) := by decide +kernel
theorem d_Prog_isTooDeep_12 : decode b_Prog_isTooDeep 12 = .ok (.aload_n 0, 1) := by decide +kernel
theorem d_Prog_isTooDeep_13 : decode b_Prog_isTooDeep 13 = .ok (.getfield 29, 3) := by decide +kernel
theorem d_Prog_isTooDeep_16 : decode b_Prog_isTooDeep 16 = .ok (.iload_n 3, 1) := by decide +kernel
theorem d_Prog_isTooDeep_17 : decode b_Prog_isTooDeep 17 = .ok (.iaload, 1) := by decide +kernel
theorem d_Prog_isTooDeep_18 : decode b_Prog_isTooDeep 18 = .ok (.iload_n 1, 1) := by decide +kernel
theorem d_Prog_isTooDeep_19 : decode b_Prog_isTooDeep 19 = .ok (.if_icmp .ne 5, 3) := by decide +kernel
theorem d_Prog_isTooDeep_22 : decode b_Prog_isTooDeep 22 = .ok (.iconst 1, 1) := by decide +kernel
theorem d_Prog_isTooDeep_23 : decode b_Prog_isTooDeep 23 = .ok (.ireturn, 1) := by decide +kernel
theorem d_Prog_isTooDeep_24 : decode b_Prog_isTooDeep 24 = .ok (.aload_n 0, 1) := by decide +kernel
theorem d_Prog_isTooDeep_25 : decode b_Prog_isTooDeep 25 = .ok (.getfield 29, 3) := by decide +kernel
theorem d_Prog_isTooDeep_28 : decode b_Prog_isTooDeep 28 = .ok (.iload_n 3, 1) := by decide +kernel
theorem d_Prog_isTooDeep_29 : decode b_Prog_isTooDeep 29 = .ok (.iaload, 1) := by decide +kernel
theorem d_Prog_isTooDeep_30 : decode b_Prog_isTooDeep 30 = .ok (.iconst (-1), 1) := by decide +kernel
theorem d_Prog_isTooDeep_31 : decode b_Prog_isTooDeep 31 = .ok (.if_icmp .eq 6, 3) := by decide +kernel
theorem d_Prog_isTooDeep_34 : decode b_Prog_isTooDeep 34 = .ok (.iinc 2 1, 3) := by decide +kernel
theorem d_Prog_isTooDeep_37 : decode b_Prog_isTooDeep 37 = .ok (.iinc 3 1, 3) := by decide +kernel
theorem d_Prog_isTooDeep_40 : decode b_Prog_isTooDeep 40 = .ok (.goto (-36), 3) := by decide +kernel
theorem d_Prog_isTooDeep_43 : decode b_Prog_isTooDeep 43 = .ok (.iload_n 2, 1) := by decide +kernel
theorem d_Prog_isTooDeep_44 : decode b_Prog_isTooDeep 44 = .ok (.bipush 6, 2) := by decide +kernel
theorem d_Prog_isTooDeep_46 : decode b_Prog_isTooDeep 46 = .ok (.if_icmp .lt 7, 3) := by decide +kernel
theorem d_Prog_isTooDeep_49 : decode b_Prog_isTooDeep 49 = .ok (.iconst 1, 1) := by decide +kernel
theorem d_Prog_isTooDeep_50 : decode b_Prog_isTooDeep 50 = .ok (.goto 4, 3) := by decide +kernel
theorem d_Prog_isTooDeep_53 : decode b_Prog_isTooDeep 53 = .ok (.iconst 0, 1) := by decide +kernel
theorem d_Prog_isTooDeep_54 : decode b_Prog_isTooDeep 54 = .ok (.ireturn, 1) := by decide +kernel
theorem d_Prog_lookAtSequence_0 : decode b_Prog_lookAtSequence 0 = .ok (.aload_n 0, 1) := by decide +kernel
theorem d_Prog_lookAtSequence_1 : decode b_Prog_lookAtSequence 1 = .ok (.getfield 38, 3) := by decide +kernel
theorem d_Prog_lookAtSequence_4 : decode b_Prog_lookAtSequence 4 = .ok (.getfield 149, 3) := by decide +kernel
theorem d_Prog_lookAtSequence_7 : decode b_Prog_lookAtSequence 7 = .ok (.iload_n 1, 1) := by decide +kernel
theorem d_Prog_lookAtSequence_8 : decode b_Prog_lookAtSequence 8 = .ok (.iaload, 1) := by decide +kernel
theorem d_Prog_lookAtSequence_9 : decode b_Prog_lookAtSequence 9 = .ok (.ifCond .ne 11, 3) := by decide +kernel
theorem d_Prog_lookAtSequence_12 : decode b_Prog_lookAtSequence 12 = .ok (.aload_n 0, 1) := by decide +kernel
theorem d_Prog_lookAtSequence_13 : decode b_Prog_lookAtSequence 13 = .ok (.iconst 1, 1) := by decide +kernel
theorem d_Prog_lookAtSequence_14 : decode b_Prog_lookAtSequence 14 = .ok (.invokevirtual 80, 3) := by decide +kernel
theorem d_Prog_lookAtSequence_17 : decode b_Prog_lookAtSequence 17 = .ok (.goto 37, 3) := by decide +kernel
theorem d_Prog_lookAtSequence_20 : decode b_Prog_lookAtSequence 20 = .ok (.aload_n 0, 1) := by decide +kernel
theorem d_Prog_lookAtSequence_21 : decode b_Prog_lookAtSequence 21 = .ok (.iload_n 1, 1) := by decide +kernel
theorem d_Prog_lookAtSequence_22 : decode b_Prog_lookAtSequence 22 = .ok (.invokevirtual 152, 3) := by decide +kernel
theorem d_Prog_lookAtSequence_25 : decode b_Prog_lookAtSequence 25 = .ok (.ifCond .eq 11, 3) := by decide +kernel
theorem d_Prog_lookAtSequence_28 : decode b_Prog_lookAtSequence 28 = .ok (.aload_n 0, 1) := by decide +kernel
theorem d_Prog_lookAtSequence_29 : decode b_Prog_lookAtSequence 29 = .ok (.iconst 2, 1) := by decide +kernel
theorem d_Prog_lookAtSequence_30 : decode b_Prog_lookAtSequence 30 = .ok (.invokevirtual 80, 3) := by decide +kernel
theorem d_Prog_lookAtSequence_33 : decode b_Prog_lookAtSequence 33 = .ok (.goto 21, 3) := by decide +kernel
theorem d_Prog_lookAtSequence_36 : decode b_Prog_lookAtSequence 36 = .ok (.aload_n 0, 1) := by decide +kernel
theorem d_Prog_lookAtSequence_37 : decode b_Prog_lookAtSequence 37 = .ok (.iload_n 1, 1) := by decide +kernel
theorem d_Prog_lookAtSequence_38 : decode b_Prog_lookAtSequence 38 = .ok (.invokestatic 155, 3) := by decide +kernel
theorem d_Prog_lookAtSequence_41 : decode b_Prog_lookAtSequence 41 = .ok (.aload_n 0, 1) := by decide +kernel
theorem d_Prog_lookAtSequence_42 : decode b_Prog_lookAtSequence 42 = .ok (.getfield 38, 3) := by decide +kernel
theorem d_Prog_lookAtSequence_45 : decode b_Prog_lookAtSequence 45 = .ok (.iload_n 1, 1) := by decide +kernel
theorem d_Prog_lookAtSequence_46 : decode b_Prog_lookAtSequence 46 = .ok (.invokevirtual 66, 3) := by decide +kernel
theorem d_Prog_lookAtSequence_49 : decode b_Prog_lookAtSequence 49 = .ok (.iload_n 1, 1) := by decide +kernel
theorem d_Prog_lookAtSequence_50 : decode b_Prog_lookAtSequence 50 = .ok (.iconst (-1), 1) := by decide +kernel
theorem d_Prog_lookAtSequence_51 : decode b_Prog_lookAtSequence 51 = .ok (.invokevirtual 70, 3) := by decide +kernel
theorem d_Prog_lookAtSequence_54 : decode b_Prog_lookAtSequence 54 = .ok (.return_, 1) := by decide +kernel
theorem d_Prog_lookAtRepeat_0 : decode b_Prog_lookAtRepeat 0 = .ok (.iload_n 1, 1) := by decide +kernel
theorem d_Prog_lookAtRepeat_1 : decode b_Prog_lookAtRepeat 1 = .ok (.invokestatic 158, 3) := by decide +kernel
theorem d_Prog_lookAtRepeat_4 : decode b_Prog_lookAtRepeat 4 = .ok (.ifCond .ne 7, 3) := by decide +kernel
theorem d_Prog_lookAtRepeat_7 : decode b_Prog_lookAtRepeat 7 = .ok (.iconst 1, 1) := by decide +kernel
theorem d_Prog_lookAtRepeat_8 : decode b_Prog_lookAtRepeat 8 = .ok (.goto 4, 3) := by decide +kernel
theorem d_Prog_lookAtRepeat_11 : decode b_Prog_lookAtRepeat 11 = .ok (.iconst 0, 1) := by decide +kernel
theorem d_Prog_lookAtRepeat_12 : decode b_Prog_lookAtRepeat 12 = .ok (.istore 4, 2) := by decide +kernel
theorem d_Prog_lookAtRepeat_14 : decode b_Prog_lookAtRepeat 14 = .ok (.iload 4, 2) := by decide +kernel
theorem d_Prog_lookAtRepeat_16 : decode b_Prog_lookAtRepeat 16 = .ok (.ifCond .eq 9, 3) := by decide +kernel
theorem d_Prog_lookAtRepeat_19 : decode b_Prog_lookAtRepeat 19 = .ok (.iload_n 2, 1) := by decide +kernel
theorem d_Prog_lookAtRepeat_20 : decode b_Prog_lookAtRepeat 20 = .ok (.iconst 2, 1) := by decide +kernel
theorem d_Prog_lookAtRepeat_21 : decode b_Prog_lookAtRepeat 21 = .ok (.iadd, 1) := by decide +kernel
theorem d_Prog_lookAtRepeat_22 : decode b_Prog_lookAtRepeat 22 = .ok (.goto 6, 3) := by decide +kernel
theorem d_Prog_lookAtRepeat_25 : decode b_Prog_lookAtRepeat 25 = .ok (.iload_n 2, 1) := by decide +kernel
theorem d_Prog_lookAtRepeat_26 : decode b_Prog_lookAtRepeat 26 = .ok (.iconst 1, 1) := by decide +kernel
theorem d_Prog_lookAtRepeat_27 : decode b_Prog_lookAtRepeat 27 = .ok (.iadd, 1) := by decide +kernel
theorem d_Prog_lookAtRepeat_28 : decode b_Prog_lookAtRepeat 28 = .ok (.istore 5, 2) := by decide +kernel
theorem d_Prog_lookAtRepeat_30 : decode b_Prog_lookAtRepeat 30 = .ok (.iload 5, 2) := by decide +kernel
theorem d_Prog_lookAtRepeat_32 : decode b_Prog_lookAtRepeat 32 = .ok (.iload_n 1, 1) := by decide +kernel
theorem d_Prog_lookAtRepeat_33 : decode b_Prog_lookAtRepeat 33 = .ok (.invokestatic 161, 3) := by decide +kernel
theorem d_Prog_lookAtRepeat_36 : decode b_Prog_lookAtRepeat 36 = .ok (.iadd, 1) := by decide +kernel
theorem d_Prog_lookAtRepeat_37 : decode b_Prog_lookAtRepeat 37 = .ok (.istore 6, 2) := by decide +kernel
theorem d_Prog_lookAtRepeat_39 : decode b_Prog_lookAtRepeat 39 = .ok (.iload 6, 2) := by decide +kernel
theorem d_Prog_lookAtRepeat_41 : decode b_Prog_lookAtRepeat 41 = .ok (.aload_n 0, 1) := by decide +kernel
theorem d_Prog_lookAtRepeat_42 : decode b_Prog_lookAtRepeat 42 = .ok (.getfield 26, 3) := by decide +kernel
theorem d_Prog_lookAtRepeat_45 : decode b_Prog_lookAtRepeat 45 = .ok (.iload_n 3, 1) := by decide +kernel
theorem d_Prog_lookAtRepeat_46 : decode b_Prog_lookAtRepeat 46 = .ok (.iaload, 1) := by decide +kernel
theorem d_Prog_lookAtRepeat_47 : decode b_Prog_lookAtRepeat 47 = .ok (.if_icmp .gt 25, 3) := by decide +kernel
theorem d_Prog_lookAtRepeat_50 : decode b_Prog_lookAtRepeat 50 = .ok (.iload 4, 2) := by decide +kernel
theorem d_Prog_lookAtRepeat_52 : decode b_Prog_lookAtRepeat 52 = .ok (.ifCond .eq 26, 3) := by decide +kernel
theorem d_Prog_lookAtRepeat_55 : decode b_Prog_lookAtRepeat 55 = .ok (.aload_n 0, 1) := by decide +kernel
theorem d_Prog_lookAtRepeat_56 : decode b_Prog_lookAtRepeat 56 = .ok (.getfield 38, 3) := by decide +kernel
theorem d_Prog_lookAtRepeat_59 : decode b_Prog_lookAtRepeat 59 = .ok (.getfield 90, 3) := by decide +kernel
theorem d_Prog_lookAtRepeat_62 : decode b_Prog_lookAtRepeat 62 = .ok (.iload_n 2, 1) := by decide +kernel
theorem d_Prog_lookAtRepeat_63 : decode b_Prog_lookAtRepeat 63 = .ok (.iconst 1, 1) := by decide +kernel
theorem d_Prog_lookAtRepeat_64 : decode b_Prog_lookAtRepeat 64 = .ok (.iadd, 1) := by decide +kernel
theorem d_Prog_lookAtRepeat_65 : decode b_Prog_lookAtRepeat 65 = .ok (.iaload, 1) := by decide +kernel
theorem d_Prog_lookAtRepeat_66 : decode b_Prog_lookAtRepeat 66 = .ok (.invokestatic 100, 3) := by decide +kernel
theorem d_Prog_lookAtRepeat_69 : decode b_Prog_lookAtRepeat 69 = .ok (.ifCond .ne 9, 3) := by decide +kernel
theorem d_Prog_lookAtRepeat_72 : decode b_Prog_lookAtRepeat 72 = .ok (.aload_n 0, 1) := by decide +kernel
theorem d_Prog_lookAtRepeat_73 : decode b_Prog_lookAtRepeat 73 = .ok (.iconst 3, 1) := by decide +kernel
theorem d_Prog_lookAtRepeat_74 : decode b_Prog_lookAtRepeat 74 = .ok (.invokevirtual 80, 3) := by decide +kernel
theorem d_Prog_lookAtRepeat_77 : decode b_Prog_lookAtRepeat 77 = .ok (.return_, 1) := by decide +kernel
theorem d_Prog_lookAtRepeat_78 : decode b_Prog_lookAtRepeat 78 = .ok (.aload_n 0, 1) := by decide +kernel
theorem d_Prog_lookAtRepeat_79 : decode b_Prog_lookAtRepeat 79 = .ok (.getfield 42, 3) := by decide +kernel
theorem d_Prog_lookAtRepeat_82 : decode b_Prog_lookAtRepeat 82 = .ok (.iconst 1, 1) := by decide +kernel
theorem d_Prog_lookAtRepeat_83 : decode b_Prog_lookAtRepeat 83 = .ok (.isub, 1) := by decide +kernel
theorem d_Prog_lookAtRepeat_84 : decode b_Prog_lookAtRepeat 84 = .ok (.istore 7, 2) := by decide +kernel
theorem d_Prog_lookAtRepeat_86 : decode b_Prog_lookAtRepeat 86 = .ok (.iload 4, 2) := by decide +kernel
theorem d_Prog_lookAtRepeat_88 : decode b_Prog_lookAtRepeat 88 = .ok (.ifCond .eq 51, 3) := by decide +kernel
theorem d_Prog_lookAtRepeat_91 : decode b_Prog_lookAtRepeat 91 = .ok (.aload_n 0, 1) := by decide +kernel
theorem d_Prog_lookAtRepeat_92 : decode b_Prog_lookAtRepeat 92 = .ok (.iload_n 2, 1) := by decide +kernel
theorem d_Prog_lookAtRepeat_93 : decode b_Prog_lookAtRepeat 93 = .ok (.iconst 1, 1) := by decide +kernel
theorem d_Prog_lookAtRepeat_94 : decode b_Prog_lookAtRepeat 94 = .ok (.iadd, 1) := by decide +kernel
theorem d_Prog_lookAtRepeat_95 : decode b_Prog_lookAtRepeat 95 = .ok (.aload_n 0, 1) := by decide +kernel
theorem d_Prog_lookAtRepeat_96 : decode b_Prog_lookAtRepeat 96 = .ok (.getfield 38, 3) := by decide +kernel
theorem d_Prog_lookAtRepeat_99 : decode b_Prog_lookAtRepeat 99 = .ok (.getfield 90, 3) := by decide +kernel
theorem d_Prog_lookAtRepeat_102 : decode b_Prog_lookAtRepeat 102 = .ok (.iload_n 2, 1) := by decide +kernel
theorem d_Prog_lookAtRepeat_103 : decode b_Prog_lookAtRepeat 103 = .ok (.iconst 1, 1) := by decide +kernel
theorem d_Prog_lookAtRepeat_104 : decode b_Prog_lookAtRepeat 104 = .ok (.iadd, 1) := by decide +kernel
theorem d_Prog_lookAtRepeat_105 : decode b_Prog_lookAtRepeat 105 = .ok (.iaload, 1) := by decide +kernel
theorem d_Prog_lookAtRepeat_106 : decode b_Prog_lookAtRepeat 106 = .ok (.invokevirtual 93, 3) := by decide +kernel
theorem d_Prog_lookAtRepeat_109 : decode b_Prog_lookAtRepeat 109 = .ok (.ifCond .eq 30, 3) := by decide +kernel
theorem d_Prog_lookAtRepeat_112 : decode b_Prog_lookAtRepeat 112 = .ok (.aload_n 0, 1) := by decide +kernel
theorem d_Prog_lookAtRepeat_113 : decode b_Prog_lookAtRepeat 113 = .ok (.getfield 38, 3) := by decide +kernel
theorem d_Prog_lookAtRepeat_116 : decode b_Prog_lookAtRepeat 116 = .ok (.aload_n 0, 1) := by decide +kernel
theorem d_Prog_lookAtRepeat_117 : decode b_Prog_lookAtRepeat 117 = .ok (.getfield 38, 3) := by decide +kernel
theorem d_Prog_lookAtRepeat_120 : decode b_Prog_lookAtRepeat 120 = .ok (.getfield 90, 3) := by decide +kernel
theorem d_Prog_lookAtRepeat_123 : decode b_Prog_lookAtRepeat 123 = .ok (.iload_n 2, 1) := by decide +kernel
theorem d_Prog_lookAtRepeat_124 : decode b_Prog_lookAtRepeat 124 = .ok (.iconst 1, 1) := by decide +kernel
theorem d_Prog_lookAtRepeat_125 : decode b_Prog_lookAtRepeat 125 = .ok (.iadd, 1) := by decide +kernel
theorem d_Prog_lookAtRepeat_126 : decode b_Prog_lookAtRepeat 126 = .ok (.iaload, 1) := by decide +kernel
theorem d_Prog_lookAtRepeat_127 : decode b_Prog_lookAtRepeat 127 = .ok (.invokevirtual 128, 3) := by decide +kernel
theorem d_Prog_lookAtRepeat_130 : decode b_Prog_lookAtRepeat 130 = .ok (.iconst (-1), 1) := by decide +kernel
theorem d_Prog_lookAtRepeat_131 : decode b_Prog_lookAtRepeat 131 = .ok (.if_icmp .ne 8, 3) := by decide +kernel
theorem d_Prog_lookAtRepeat_134 : decode b_Prog_lookAtRepeat 134 = .ok (.aload_n 0, 1) := by decide +kernel
theorem d_Prog_lookAtRepeat_135 : decode b_Prog_lookAtRepeat 135 = .ok (.iconst 1, 1) := by decide +kernel
theorem d_Prog_lookAtRepeat_136 : decode b_Prog_lookAtRepeat 136 = .ok (.invokevirtual 80, 3) := by decide +kernel
theorem d_Prog_lookAtRepeat_139 : decode b_Prog_lookAtRepeat 139 = .ok (.aload_n 0, 1) := by decide +kernel
theorem d_Prog_lookAtRepeat_140 : decode b_Prog_lookAtRepeat 140 = .ok (.getfield 46, 3) := by decide +kernel
theorem d_Prog_lookAtRepeat_143 : decode b_Prog_lookAtRepeat 143 = .ok (.ifCond .ne 22, 3) := by decide +kernel
theorem d_Prog_lookAtRepeat_146 : decode b_Prog_lookAtRepeat 146 = .ok (.aload_n 0, 1) := by decide +kernel
theorem d_Prog_lookAtRepeat_147 : decode b_Prog_lookAtRepeat 147 = .ok (.getfield 23, 3) := by decide +kernel
theorem d_Prog_lookAtRepeat_150 : decode b_Prog_lookAtRepeat 150 = .ok (.iload_n 3, 1) := by decide +kernel
theorem d_Prog_lookAtRepeat_151 : decode b_Prog_lookAtRepeat 151 = .ok (.iload 6, 2) := by decide +kernel
theorem d_Prog_lookAtRepeat_153 : decode b_Prog_lookAtRepeat 153 = .ok (.iastore, 1) := by decide +kernel
theorem d_Prog_lookAtRepeat_154 : decode b_Prog_lookAtRepeat 154 = .ok (.aload_n 0, 1) := by decide +kernel
theorem d_Prog_lookAtRepeat_155 : decode b_Prog_lookAtRepeat 155 = .ok (.iload 5, 2) := by decide +kernel
theorem d_Prog_lookAtRepeat_157 : decode b_Prog_lookAtRepeat 157 = .ok (.iload 6, 2) := by decide +kernel
theorem d_Prog_lookAtRepeat_159 : decode b_Prog_lookAtRepeat 159 = .ok (.iconst (-1), 1) := by decide +kernel
theorem d_Prog_lookAtRepeat_160 : decode b_Prog_lookAtRepeat 160 = .ok (.iload 7, 2) := by decide +kernel
theorem d_Prog_lookAtRepeat_162 : decode b_Prog_lookAtRepeat 162 = .ok (.invokevirtual 70, 3) := by decide +kernel
theorem d_Prog_lookAtRepeat_165 : decode b_Prog_lookAtRepeat 165 = .ok (.return_, 1) := by decide +kernel
theorem d_Prog_lookAtOperator_0 : decode b_Prog_lookAtOperator 0 = .ok (.aload_n 0, 1) := by decide +kernel
theorem d_Prog_lookAtOperator_1 : decode b_Prog_lookAtOperator 1 = .ok (.getfield 20, 3) := by decide +kernel
theorem d_Prog_lookAtOperator_4 : decode b_Prog_lookAtOperator 4 = .ok (.iload_n 1, 1) := by decide +kernel
theorem d_Prog_lookAtOperator_5 : decode b_Prog_lookAtOperator 5 = .ok (.iaload, 1) := by decide +kernel
theorem d_Prog_lookAtOperator_6 : decode b_Prog_lookAtOperator 6 = .ok (.ifCond .eq 7, 3) := by decide +kernel
theorem d_Prog_lookAtOperator_9 : decode b_Prog_lookAtOperator 9 = .ok (.iconst 1, 1) := by decide +kernel
theorem d_Prog_lookAtOperator_10 : decode b_Prog_lookAtOperator 10 = .ok (.goto 4, 3) := by decide +kernel
theorem d_Prog_lookAtOperator_13 : decode b_Prog_lookAtOperator 13 = .ok (.iconst 0, 1) := by decide +kernel
theorem d_Prog_lookAtOperator_14 : decode b_Prog_lookAtOperator 14 = .ok (.istore_n 3, 1) := by decide +kernel
theorem d_Prog_lookAtOperator_15 : decode b_Prog_lookAtOperator 15 = .ok (.iload_n 2, 1) := by decide +kernel
theorem d_Prog_lookAtOperator_16 : decode b_Prog_lookAtOperator 16 = .ok (.ifCond .eq 7, 3) := by decide +kernel
theorem d_Prog_lookAtOperator_19 : decode b_Prog_lookAtOperator 19 = .ok (.iconst 1, 1) := by decide +kernel
theorem d_Prog_lookAtOperator_20 : decode b_Prog_lookAtOperator 20 = .ok (.goto 4, 3) := by decide +kernel
theorem d_Prog_lookAtOperator_23 : decode b_Prog_lookAtOperator 23 = .ok (.iconst 0, 1) := by decide +kernel
theorem d_Prog_lookAtOperator_24 : decode b_Prog_lookAtOperator 24 = .ok (.istore 4, 2) := by decide +kernel
theorem d_Prog_lookAtOperator_26 : decode b_Prog_lookAtOperator 26 = .ok (.iload_n 3, 1) := by decide +kernel
theorem d_Prog_lookAtOperator_27 : decode b_Prog_lookAtOperator 27 = .ok (.iload 4, 2) := by decide +kernel
theorem d_Prog_lookAtOperator_29 : decode b_Prog_lookAtOperator 29 = .ok (.if_icmp .ne 9, 3) := by decide +kernel
theorem d_Prog_lookAtOperator_32 : decode b_Prog_lookAtOperator 32 = .ok (.aload_n 0, 1) := by decide +kernel
theorem d_Prog_lookAtOperator_33 : decode b_Prog_lookAtOperator 33 = .ok (.iconst 4, 1) := by decide +kernel
theorem d_Prog_lookAtOperator_34 : decode b_Prog_lookAtOperator 34 = .ok (.invokevirtual 80, 3) := by decide +kernel
theorem d_Prog_lookAtOperator_37 : decode b_Prog_lookAtOperator 37 = .ok (.return_, 1) := by decide +kernel
theorem d_Prog_lookAtOperator_38 : decode b_Prog_lookAtOperator 38 = .ok (.aload_n 0, 1) := by decide +kernel
theorem d_Prog_lookAtOperator_39 : decode b_Prog_lookAtOperator 39 = .ok (.getfield 20, 3) := by decide +kernel
theorem d_Prog_lookAtOperator_42 : decode b_Prog_lookAtOperator 42 = .ok (.iload_n 1, 1) := by decide +kernel
theorem d_Prog_lookAtOperator_43 : decode b_Prog_lookAtOperator 43 = .ok (.iload_n 2, 1) := by decide +kernel
theorem d_Prog_lookAtOperator_44 : decode b_Prog_lookAtOperator 44 = .ok (.iastore, 1) := by decide +kernel
theorem d_Prog_lookAtOperator_45 : decode b_Prog_lookAtOperator 45 = .ok (.return_, 1) := by decide +kernel
theorem d_Prog_lookAtNext_0 : decode b_Prog_lookAtNext 0 = .ok (.aload_n 0, 1) := by decide +kernel
theorem d_Prog_lookAtNext_1 : decode b_Prog_lookAtNext 1 = .ok (.getfield 52, 3) := by decide +kernel
theorem d_Prog_lookAtNext_4 : decode b_Prog_lookAtNext 4 = .ok (.iconst 1, 1) := by decide +kernel
theorem d_Prog_lookAtNext_5 : decode b_Prog_lookAtNext 5 = .ok (.isub, 1) := by decide +kernel
theorem d_Prog_lookAtNext_6 : decode b_Prog_lookAtNext 6 = .ok (.istore_n 1, 1) := by decide +kernel
theorem d_Prog_lookAtNext_7 : decode b_Prog_lookAtNext 7 = .ok (.aload_n 0, 1) := by decide +kernel
theorem d_Prog_lookAtNext_8 : decode b_Prog_lookAtNext 8 = .ok (.getfield 23, 3) := by decide +kernel
theorem d_Prog_lookAtNext_11 : decode b_Prog_lookAtNext 11 = .ok (.iload_n 1, 1) := by decide +kernel
theorem d_Prog_lookAtNext_12 : decode b_Prog_lookAtNext 12 = .ok (.iaload, 1) := by decide +kernel
theorem d_Prog_lookAtNext_13 : decode b_Prog_lookAtNext 13 = .ok (.istore_n 2, 1) := by decide +kernel
theorem d_Prog_lookAtNext_14 : decode b_Prog_lookAtNext 14 = .ok (.aload_n 0, 1) := by decide +kernel
theorem d_Prog_lookAtNext_15 : decode b_Prog_lookAtNext 15 = .ok (.getfield 23, 3) := by decide +kernel
theorem d_Prog_lookAtNext_18 : decode b_Prog_lookAtNext 18 = .ok (.iload_n 1, 1) := by decide +kernel
theorem d_Prog_lookAtNext_19 : decode b_Prog_lookAtNext 19 = .ok (.iload_n 2, 1) := by decide +kernel
theorem d_Prog_lookAtNext_20 : decode b_Prog_lookAtNext 20 = .ok (.iconst 1, 1) := by decide +kernel
theorem d_Prog_lookAtNext_21 : decode b_Prog_lookAtNext 21 = .ok (.iadd, 1) := by decide +kernel
theorem d_Prog_lookAtNext_22 : decode b_Prog_lookAtNext 22 = .ok (.iastore, 1) := by decide +kernel
theorem d_Prog_lookAtNext_23 : decode b_Prog_lookAtNext 23 = .ok (.aload_n 0, 1) := by decide +kernel
theorem d_Prog_lookAtNext_24 : decode b_Prog_lookAtNext 24 = .ok (.getfield 38, 3) := by decide +kernel
theorem d_Prog_lookAtNext_27 : decode b_Prog_lookAtNext 27 = .ok (.getfield 90, 3) := by decide +kernel
theorem d_Prog_lookAtNext_30 : decode b_Prog_lookAtNext 30 = .ok (.iload_n 2, 1) := by decide +kernel
theorem d_Prog_lookAtNext_31 : decode b_Prog_lookAtNext 31 = .ok (.iaload, 1) := by decide +kernel
theorem d_Prog_lookAtNext_32 : decode b_Prog_lookAtNext 32 = .ok (.istore_n 3, 1) := by decide +kernel
theorem d_Prog_lookAtNext_33 : decode b_Prog_lookAtNext 33 = .ok (.aload_n 0, 1) := by decide +kernel
theorem d_Prog_lookAtNext_34 : decode b_Prog_lookAtNext 34 = .ok (.iload_n 2, 1) := by decide +kernel
theorem d_Prog_lookAtNext_35 : decode b_Prog_lookAtNext 35 = .ok (.iload_n 3, 1) := by decide +kernel
theorem d_Prog_lookAtNext_36 : decode b_Prog_lookAtNext 36 = .ok (.invokevirtual 93, 3) := by decide +kernel
theorem d_Prog_lookAtNext_39 : decode b_Prog_lookAtNext 39 = .ok (.ifCond .ne 4, 3) := by decide +kernel
theorem d_Prog_lookAtNext_42 : decode b_Prog_lookAtNext 42 = .ok (.return_, 1) := by decide +kernel
theorem d_Prog_lookAtNext_43 : decode b_Prog_lookAtNext 43 = .ok (.iload_n 3, 1) := by decide +kernel
theorem d_Prog_lookAtNext_44 : decode b_Prog_lookAtNext 44 = .ok (.invokestatic 97, 3) := by decide +kernel
theorem d_Prog_lookAtNext_47 : decode b_Prog_lookAtNext 47 = .ok (.istore 4, 2) := by decide +kernel
theorem d_Prog_lookAtNext_49 : decode b_Prog_lookAtNext 49 = .ok (.iload_n 3, 1) := by decide +kernel
theorem d_Prog_lookAtNext_50 : decode b_Prog_lookAtNext 50 = .ok (.invokestatic 100, 3) := by decide +kernel
theorem d_Prog_lookAtNext_53 : decode b_Prog_lookAtNext 53 = .ok (.ifCond .eq 11, 3) := by decide +kernel
theorem d_Prog_lookAtNext_56 : decode b_Prog_lookAtNext 56 = .ok (.aload_n 0, 1) := by decide +kernel
theorem d_Prog_lookAtNext_57 : decode b_Prog_lookAtNext 57 = .ok (.iload_n 3, 1) := by decide +kernel
theorem d_Prog_lookAtNext_58 : decode b_Prog_lookAtNext 58 = .ok (.invokevirtual 104, 3) := by decide +kernel
theorem d_Prog_lookAtNext_61 : decode b_Prog_lookAtNext 61 = .ok (.goto 57, 3) := by decide +kernel
theorem d_Prog_lookAtNext_64 : decode b_Prog_lookAtNext 64 = .ok (.iload_n 3, 1) := by decide +kernel
theorem d_Prog_lookAtNext_65 : decode b_Prog_lookAtNext 65 = .ok (.invokestatic 107, 3) := by decide +kernel
theorem d_Prog_lookAtNext_68 : decode b_Prog_lookAtNext 68 = .ok (.iconst (-1), 1) := by decide +kernel
theorem d_Prog_lookAtNext_69 : decode b_Prog_lookAtNext 69 = .ok (.if_icmp .eq 14, 3) := by decide +kernel
theorem d_Prog_lookAtNext_72 : decode b_Prog_lookAtNext 72 = .ok (.aload_n 0, 1) := by decide +kernel
theorem d_Prog_lookAtNext_73 : decode b_Prog_lookAtNext 73 = .ok (.iload_n 3, 1) := by decide +kernel
theorem d_Prog_lookAtNext_74 : decode b_Prog_lookAtNext 74 = .ok (.invokestatic 107, 3) := by decide +kernel
theorem d_Prog_lookAtNext_77 : decode b_Prog_lookAtNext 77 = .ok (.invokevirtual 110, 3) := by decide +kernel
theorem d_Prog_lookAtNext_80 : decode b_Prog_lookAtNext 80 = .ok (.goto 38, 3) := by decide +kernel
theorem d_Prog_lookAtNext_83 : decode b_Prog_lookAtNext 83 = .ok (.iload_n 3, 1) := by decide +kernel
theorem d_Prog_lookAtNext_84 : decode b_Prog_lookAtNext 84 = .ok (.invokestatic 113, 3) := by decide +kernel
theorem d_Prog_lookAtNext_87 : decode b_Prog_lookAtNext 87 = .ok (.ifCond .eq 13, 3) := by decide +kernel
theorem d_Prog_lookAtNext_90 : decode b_Prog_lookAtNext 90 = .ok (.aload_n 0, 1) := by decide +kernel
theorem d_Prog_lookAtNext_91 : decode b_Prog_lookAtNext 91 = .ok (.iload_n 3, 1) := by decide +kernel
theorem d_Prog_lookAtNext_92 : decode b_Prog_lookAtNext 92 = .ok (.iload_n 2, 1) := by decide +kernel
theorem d_Prog_lookAtNext_93 : decode b_Prog_lookAtNext 93 = .ok (.iload_n 1, 1) := by decide +kernel
theorem d_Prog_lookAtNext_94 : decode b_Prog_lookAtNext 94 = .ok (.invokevirtual 116, 3) := by decide +kernel
theorem d_Prog_lookAtNext_97 : decode b_Prog_lookAtNext 97 = .ok (.goto 21, 3) := by decide +kernel
theorem d_Prog_lookAtNext_100 : decode b_Prog_lookAtNext 100 = .ok (.iload 4, 2) := by decide +kernel
theorem d_Prog_lookAtNext_102 : decode b_Prog_lookAtNext 102 = .ok (.iconst (-1), 1) := by decide +kernel
theorem d_Prog_lookAtNext_103 : decode b_Prog_lookAtNext 103 = .ok (.if_icmp .eq 15, 3) := by decide +kernel
theorem d_Prog_lookAtNext_106 : decode b_Prog_lookAtNext 106 = .ok (.aload_n 0, 1) := by decide +kernel
theorem d_Prog_lookAtNext_107 : decode b_Prog_lookAtNext 107 = .ok (.iload 4, 2) := by decide +kernel
theorem d_Prog_lookAtNext_109 : decode b_Prog_lookAtNext 109 = .ok (.iload_n 3, 1) := by decide +kernel
theorem d_Prog_lookAtNext_110 : decode b_Prog_lookAtNext 110 = .ok (.iload 4, 2) := by decide +kernel
theorem d_Prog_lookAtNext_112 : decode b_Prog_lookAtNext 112 = .ok (.invokestatic 120, 3) := by decide +kernel
