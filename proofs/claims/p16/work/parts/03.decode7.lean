theorem d_Mod_append_107 : decode b_Mod_append 107 = .ok (.getfield 30, 3) := by decide +kernel
theorem d_Mod_append_110 : decode b_Mod_append 110 = .ok (.iload_n 3, 1) := by decide +kernel
theorem d_Mod_append_111 : decode b_Mod_append 111 = .ok (.iaload, 1) := by decide +kernel
theorem d_Mod_append_112 : decode b_Mod_append 112 = .ok (.ireturn, 1) := by decide +kernel
theorem d_Mod_clear_0 : decode b_Mod_clear 0 = .ok (.aload_n 0, 1) := by decide +kernel
theorem d_Mod_clear_1 : decode b_Mod_clear 1 = .ok (.iload_n 1, 1) := by decide +kernel
theorem d_Mod_clear_2 : decode b_Mod_clear 2 = .ok (.iconst (-1), 1) := by decide +kernel
theorem d_Mod_clear_3 : decode b_Mod_clear 3 = .ok (.if_icmp .lt 9, 3) := by decide +kernel
theorem d_Mod_clear_6 : decode b_Mod_clear 6 = .ok (.iload_n 1, 1) := by decide +kernel
theorem d_Mod_clear_7 : decode b_Mod_clear 7 = .ok (.bipush 15, 2) := by decide +kernel
theorem d_Mod_clear_9 : decode b_Mod_clear 9 = .ok (.if_icmp .le 7, 3) := by decide +kernel
theorem d_Mod_clear_12 : decode b_Mod_clear 12 = .ok (.iconst 1, 1) := by decide +kernel
theorem d_Mod_clear_13 : decode b_Mod_clear 13 = .ok (.goto 4, 3) := by decide +kernel
theorem d_Mod_clear_16 : decode b_Mod_clear 16 = .ok (.iconst 0, 1) := by decide +kernel
theorem d_Mod_clear_17 : decode b_Mod_clear 17 = .ok (.putfield 139, 3) := by decide +kernel
theorem d_Mod_clear_20 : decode b_Mod_clear 20 = .ok (.aload_n 0, 1) := by decide +kernel
theorem d_Mod_clear_21 : decode b_Mod_clear 21 = .ok (.getfield 139, 3) := by decide +kernel
theorem d_Mod_clear_24 : decode b_Mod_clear 24 = .ok (.ifCond .ne 19, 3) := by decide +kernel
theorem d_Mod_clear_27 : decode b_Mod_clear 27 = .ok (.aload_n 0, 1) := by decide +kernel
theorem d_Mod_clear_28 : decode b_Mod_clear 28 = .ok (.getfield 30, 3) := by decide +kernel
theorem d_Mod_clear_31 : decode b_Mod_clear 31 = .ok (.iload_n 1, 1) := by decide +kernel
theorem d_Mod_clear_32 : decode b_Mod_clear 32 = .ok (.ifCond .ge 8, 3) := by decide +kernel
theorem d_Mod_clear_35 : decode b_Mod_clear 35 = .ok (.bipush 16, 2) := by decide +kernel
theorem d_Mod_clear_37 : decode b_Mod_clear 37 = .ok (.goto 4, 3) := by decide +kernel
theorem d_Mod_clear_40 : decode b_Mod_clear 40 = .ok (.iload_n 1, 1) := by decide +kernel
theorem d_Mod_clear_41 : decode b_Mod_clear 41 = .ok (.iconst 0, 1) := by decide +kernel
theorem d_Mod_clear_42 : decode b_Mod_clear 42 = .ok (.iastore, 1) := by decide +kernel
theorem d_Mod_clear_43 : decode b_Mod_clear 43 = .ok (.return_, 1) := by decide +kernel
theorem d_Mod_enter_0 : decode b_Mod_enter 0 = .ok (.aload_n 0, 1) := by decide +kernel
theorem d_Mod_enter_1 : decode b_Mod_enter 1 = .ok (.getfield 43, 3) := by decide +kernel
theorem d_Mod_enter_4 : decode b_Mod_enter 4 = .ok (.aload_n 0, 1) := by decide +kernel
theorem d_Mod_enter_5 : decode b_Mod_enter 5 = .ok (.getfield 163, 3) := by decide +kernel
theorem d_Mod_enter_8 : decode b_Mod_enter 8 = .ok (.iload_n 1, 1) := by decide +kernel
theorem d_Mod_enter_9 : decode b_Mod_enter 9 = .ok (.iastore, 1) := by decide +kernel
theorem d_Mod_enter_10 : decode b_Mod_enter 10 = .ok (.aload_n 0, 1) := by decide +kernel
theorem d_Mod_enter_11 : decode b_Mod_enter 11 = .ok (.getfield 52, 3) := by decide +kernel
theorem d_Mod_enter_14 : decode b_Mod_enter 14 = .ok (.aload_n 0, 1) := by decide +kernel
theorem d_Mod_enter_15 : decode b_Mod_enter 15 = .ok (.getfield 163, 3) := by decide +kernel
theorem d_Mod_enter_18 : decode b_Mod_enter 18 = .ok (.iload_n 2, 1) := by decide +kernel
theorem d_Mod_enter_19 : decode b_Mod_enter 19 = .ok (.iastore, 1) := by decide +kernel
theorem d_Mod_enter_20 : decode b_Mod_enter 20 = .ok (.aload_n 0, 1) := by decide +kernel
theorem d_Mod_enter_21 : decode b_Mod_enter 21 = .ok (.getfield 46, 3) := by decide +kernel
theorem d_Mod_enter_24 : decode b_Mod_enter 24 = .ok (.aload_n 0, 1) := by decide +kernel
theorem d_Mod_enter_25 : decode b_Mod_enter 25 = .ok (.getfield 163, 3) := by decide +kernel
theorem d_Mod_enter_28 : decode b_Mod_enter 28 = .ok (.iload_n 2, 1) := by decide +kernel
theorem d_Mod_enter_29 : decode b_Mod_enter 29 = .ok (.iastore, 1) := by decide +kernel
theorem d_Mod_enter_30 : decode b_Mod_enter 30 = .ok (.aload_n 0, 1) := by decide +kernel
theorem d_Mod_enter_31 : decode b_Mod_enter 31 = .ok (.getfield 49, 3) := by decide +kernel
theorem d_Mod_enter_34 : decode b_Mod_enter 34 = .ok (.aload_n 0, 1) := by decide +kernel
theorem d_Mod_enter_35 : decode b_Mod_enter 35 = .ok (.getfield 163, 3) := by decide +kernel
theorem d_Mod_enter_38 : decode b_Mod_enter 38 = .ok (.iload_n 3, 1) := by decide +kernel
theorem d_Mod_enter_39 : decode b_Mod_enter 39 = .ok (.iastore, 1) := by decide +kernel
theorem d_Mod_enter_40 : decode b_Mod_enter 40 = .ok (.aload_n 0, 1) := by decide +kernel
theorem d_Mod_enter_41 : decode b_Mod_enter 41 = .ok (.getfield 55, 3) := by decide +kernel
theorem d_Mod_enter_44 : decode b_Mod_enter 44 = .ok (.aload_n 0, 1) := by decide +kernel
theorem d_Mod_enter_45 : decode b_Mod_enter 45 = .ok (.getfield 163, 3) := by decide +kernel
theorem d_Mod_enter_48 : decode b_Mod_enter 48 = .ok (.iload 4, 2) := by decide +kernel
theorem d_Mod_enter_50 : decode b_Mod_enter 50 = .ok (.iastore, 1) := by decide +kernel
theorem d_Mod_enter_51 : decode b_Mod_enter 51 = .ok (.aload_n 0, 1) := by decide +kernel
theorem d_Mod_enter_52 : decode b_Mod_enter 52 = .ok (.getfield 58, 3) := by decide +kernel
theorem d_Mod_enter_55 : decode b_Mod_enter 55 = .ok (.aload_n 0, 1) := by decide +kernel
theorem d_Mod_enter_56 : decode b_Mod_enter 56 = .ok (.getfield 163, 3) := by decide +kernel
theorem d_Mod_enter_59 : decode b_Mod_enter 59 = .ok (.iload 5, 2) := by decide +kernel
theorem d_Mod_enter_61 : decode b_Mod_enter 61 = .ok (.iastore, 1) := by decide +kernel
theorem d_Mod_enter_62 : decode b_Mod_enter 62 = .ok (.iconst 0, 1) := by decide +kernel
theorem d_Mod_enter_63 : decode b_Mod_enter 63 = .ok (.istore 6, 2) := by decide +kernel
theorem d_Mod_enter_65 : decode b_Mod_enter 65 = .ok (.iload 6, 2) := by decide +kernel
theorem d_Mod_enter_67 : decode b_Mod_enter 67 = .ok (.iconst 4, 1) := by decide +kernel
theorem d_Mod_enter_68 : decode b_Mod_enter 68 = .ok (.if_icmp .ge 30, 3) := by decide +kernel
theorem d_Mod_enter_71 : decode b_Mod_enter 71 = .ok (.aload_n 0, 1) := by decide +kernel
theorem d_Mod_enter_72 : decode b_Mod_enter 72 = .ok (.getfield 61, 3) := by decide +kernel
theorem d_Mod_enter_75 : decode b_Mod_enter 75 = .ok (.iconst 4, 1) := by decide +kernel
theorem d_Mod_enter_76 : decode b_Mod_enter 76 = .ok (.aload_n 0, 1) := by decide +kernel
theorem d_Mod_enter_77 : decode b_Mod_enter 77 = .ok (.getfield 163, 3) := by decide +kernel
theorem d_Mod_enter_80 : decode b_Mod_enter 80 = .ok (.imul, 1) := by decide +kernel
theorem d_Mod_enter_81 : decode b_Mod_enter 81 = .ok (.iload 6, 2) := by decide +kernel
theorem d_Mod_enter_83 : decode b_Mod_enter 83 = .ok (.iadd, 1) := by decide +kernel
theorem d_Mod_enter_84 : decode b_Mod_enter 84 = .ok (.aload_n 0, 1) := by decide +kernel
theorem d_Mod_enter_85 : decode b_Mod_enter 85 = .ok (.getfield 64, 3) := by decide +kernel
theorem d_Mod_enter_88 : decode b_Mod_enter 88 = .ok (.iload 6, 2) := by decide +kernel
theorem d_Mod_enter_90 : decode b_Mod_enter 90 = .ok (.iaload, 1) := by decide +kernel
theorem d_Mod_enter_91 : decode b_Mod_enter 91 = .ok (.iastore, 1) := by decide +kernel
theorem d_Mod_enter_92 : decode b_Mod_enter 92 = .ok (.iinc 6 1, 3) := by decide +kernel
theorem d_Mod_enter_95 : decode b_Mod_enter 95 = .ok (.goto (-30), 3) := by decide +kernel
theorem d_Mod_enter_98 : decode b_Mod_enter 98 = .ok (.aload_n 0, 1) := by decide +kernel
theorem d_Mod_enter_99 : decode b_Mod_enter 99 = .ok (.dup, 1) := by decide +kernel
theorem d_Mod_enter_100 : decode b_Mod_enter 100 = .ok (.getfield 163, 3) := by decide +kernel
theorem d_Mod_enter_103 : decode b_Mod_enter 103 = .ok (.iconst 1, 1) := by decide +kernel
theorem d_Mod_enter_104 : decode b_Mod_enter 104 = .ok (.iadd, 1) := by decide +kernel
theorem d_Mod_enter_105 : decode b_Mod_enter 105 = .ok (.putfield 163, 3) := by decide +kernel
theorem d_Mod_enter_108 : decode b_Mod_enter 108 = .ok (.return_, 1) := by decide +kernel
theorem d_Mod_start_0 : decode b_Mod_start 0 = .ok (.aload_n 0, 1) := by decide +kernel
theorem d_Mod_start_1 : decode b_Mod_start 1 = .ok (.iconst 0, 1) := by decide +kernel
theorem d_Mod_start_2 : decode b_Mod_start 2 = .ok (.putfield 163, 3) := by decide +kernel
theorem d_Mod_start_5 : decode b_Mod_start 5 = .ok (.aload_n 0, 1) := by decide +kernel
theorem d_Mod_start_6 : decode b_Mod_start 6 = .ok (.iconst 0, 1) := by decide +kernel
theorem d_Mod_start_7 : decode b_Mod_start 7 = .ok (.putfield 166, 3) := by decide +kernel
theorem d_Mod_start_10 : decode b_Mod_start 10 = .ok (.iconst 0, 1) := by decide +kernel
theorem d_Mod_start_11 : decode b_Mod_start 11 = .ok (.istore_n 1, 1) := by decide +kernel
theorem d_Mod_start_12 : decode b_Mod_start 12 = .ok (.iload_n 1, 1) := by decide +kernel
theorem d_Mod_start_13 : decode b_Mod_start 13 = .ok (.iconst 4, 1) := by decide +kernel
theorem d_Mod_start_14 : decode b_Mod_start 14 = .ok (.if_icmp .ge 17, 3) := by decide +kernel
theorem d_Mod_start_17 : decode b_Mod_start 17 = .ok (.aload_n 0, 1) := by decide +kernel
theorem d_Mod_start_18 : decode b_Mod_start 18 = .ok (.getfield 64, 3) := by decide +kernel
theorem d_Mod_start_21 : decode b_Mod_start 21 = .ok (.iload_n 1, 1) := by decide +kernel
theorem d_Mod_start_22 : decode b_Mod_start 22 = .ok (.bipush (-100), 2) := by decide +kernel
theorem d_Mod_start_24 : decode b_Mod_start 24 = .ok (.iastore, 1) := by decide +kernel
theorem d_Mod_start_25 : decode b_Mod_start 25 = .ok (.iinc 1 1, 3) := by decide +kernel
theorem d_Mod_start_28 : decode b_Mod_start 28 = .ok (.goto (-16), 3) := by decide +kernel
theorem d_Mod_start_31 : decode b_Mod_start 31 = .ok (.aload_n 0, 1) := by decide +kernel
theorem d_Mod_start_32 : decode b_Mod_start 32 = .ok (.bipush 16, 2) := by decide +kernel
theorem d_Mod_start_34 : decode b_Mod_start 34 = .ok (.iconst 0, 1) := by decide +kernel
theorem d_Mod_start_35 : decode b_Mod_start 35 = .ok (.aload_n 0, 1) := by decide +kernel
theorem d_Mod_start_36 : decode b_Mod_start 36 = .ok (.getfield 30, 3) := by decide +kernel
theorem d_Mod_start_39 : decode b_Mod_start 39 = .ok (.bipush 16, 2) := by decide +kernel
theorem d_Mod_start_41 : decode b_Mod_start 41 = .ok (.iaload, 1) := by decide +kernel
theorem d_Mod_start_42 : decode b_Mod_start 42 = .ok (.iconst 1, 1) := by decide +kernel
theorem d_Mod_start_43 : decode b_Mod_start 43 = .ok (.iconst (-1), 1) := by decide +kernel
theorem d_Mod_start_44 : decode b_Mod_start 44 = .ok (.invokevirtual 169, 3) := by decide +kernel
theorem d_Mod_start_47 : decode b_Mod_start 47 = .ok (.return_, 1) := by decide +kernel
theorem d_Mod_wrong_0 : decode b_Mod_wrong 0 = .ok (.aload_n 0, 1) := by decide +kernel
theorem d_Mod_wrong_1 : decode b_Mod_wrong 1 = .ok (.getfield 173, 3) := by decide +kernel
theorem d_Mod_wrong_4 : decode b_Mod_wrong 4 = .ok (.ifCond .le 4, 3) := by decide +kernel
theorem d_Mod_wrong_7 : decode b_Mod_wrong 7 = .ok (.return_, 1) := by decide +kernel
theorem d_Mod_wrong_8 : decode b_Mod_wrong 8 = .ok (.aload_n 0, 1) := by decide +kernel
theorem d_Mod_wrong_9 : decode b_Mod_wrong 9 = .ok (.iload_n 1, 1) := by decide +kernel
theorem d_Mod_wrong_10 : decode b_Mod_wrong 10 = .ok (.putfield 173, 3) := by decide +kernel
theorem d_Mod_wrong_13 : decode b_Mod_wrong 13 = .ok (.aload_n 0, 1) := by decide +kernel
theorem d_Mod_wrong_14 : decode b_Mod_wrong 14 = .ok (.iload_n 2, 1) := by decide +kernel
theorem d_Mod_wrong_15 : decode b_Mod_wrong 15 = .ok (.putfield 33, 3) := by decide +kernel
theorem d_Mod_wrong_18 : decode b_Mod_wrong 18 = .ok (.return_, 1) := by decide +kernel
theorem d_Mod_fresh_0 : decode b_Mod_fresh 0 = .ok (.aload_n 0, 1) := by decide +kernel
theorem d_Mod_fresh_1 : decode b_Mod_fresh 1 = .ok (.iconst 0, 1) := by decide +kernel
theorem d_Mod_fresh_2 : decode b_Mod_fresh 2 = .ok (.putfield 173, 3) := by decide +kernel
theorem d_Mod_fresh_5 : decode b_Mod_fresh 5 = .ok (.aload_n 0, 1) := by decide +kernel
theorem d_Mod_fresh_6 : decode b_Mod_fresh 6 = .ok (.iconst (-1), 1) := by decide +kernel
theorem d_Mod_fresh_7 : decode b_Mod_fresh 7 = .ok (.putfield 33, 3) := by decide +kernel
theorem d_Mod_fresh_10 : decode b_Mod_fresh 10 = .ok (.return_, 1) := by decide +kernel
theorem d_Mod_leavesOther_0 : decode b_Mod_leavesOther 0 = .ok (.iconst 0, 1) := by decide +kernel
theorem d_Mod_leavesOther_1 : decode b_Mod_leavesOther 1 = .ok (.istore_n 2, 1) := by decide +kernel
theorem d_Mod_leavesOther_2 : decode b_Mod_leavesOther 2 = .ok (.iconst 0, 1) := by decide +kernel
theorem d_Mod_leavesOther_3 : decode b_Mod_leavesOther 3 = .ok (.istore_n 3, 1) := by decide +kernel
theorem d_Mod_leavesOther_4 : decode b_Mod_leavesOther 4 = .ok (.iload_n 3, 1) := by decide +kernel
theorem d_Mod_leavesOther_5 : decode b_Mod_leavesOther 5 = .ok (.iconst 4, 1) := by decide +kernel
theorem d_Mod_leavesOther_6 : decode b_Mod_leavesOther 6 = .ok (.if_icmp .ge 38, 3) := by decide +kernel
theorem d_Mod_leavesOther_9 : decode b_Mod_leavesOther 9 = .ok (.iload_n 2, 1) := by decide +kernel
theorem d_Mod_leavesOther_10 : decode b_Mod_leavesOther 10 = .ok (.ifCond .ne 22, 3) := by decide +kernel
theorem d_Mod_leavesOther_13 : decode b_Mod_leavesOther 13 = .ok (.aload_n 0, 1) := by decide +kernel
theorem d_Mod_leavesOther_14 : decode b_Mod_leavesOther 14 = .ok (.getfield 64, 3) := by decide +kernel
theorem d_Mod_leavesOther_17 : decode b_Mod_leavesOther 17 = .ok (.iload_n 3, 1) := by decide +kernel
theorem d_Mod_leavesOther_18 : decode b_Mod_leavesOther 18 = .ok (.iaload, 1) := by decide +kernel
theorem d_Mod_leavesOther_19 : decode b_Mod_leavesOther 19 = .ok (.aload_n 0, 1) := by decide +kernel
theorem d_Mod_leavesOther_20 : decode b_Mod_leavesOther 20 = .ok (.getfield 61, 3) := by decide +kernel
theorem d_Mod_leavesOther_23 : decode b_Mod_leavesOther 23 = .ok (.iconst 4, 1) := by decide +kernel
theorem d_Mod_leavesOther_24 : decode b_Mod_leavesOther 24 = .ok (.iload_n 1, 1) := by decide +kernel
theorem d_Mod_leavesOther_25 : decode b_Mod_leavesOther 25 = .ok (.imul, 1) := by decide +kernel
theorem d_Mod_leavesOther_26 : decode b_Mod_leavesOther 26 = .ok (.iload_n 3, 1) := by decide +kernel
theorem d_Mod_leavesOther_27 : decode b_Mod_leavesOther 27 = .ok (.iadd, 1) := by decide +kernel
theorem d_Mod_leavesOther_28 : decode b_Mod_leavesOther 28 = .ok (.iaload, 1) := by decide +kernel
theorem d_Mod_leavesOther_29 : decode b_Mod_leavesOther 29 = .ok (.if_icmp .eq 7, 3) := by decide +kernel
theorem d_Mod_leavesOther_32 : decode b_Mod_leavesOther 32 = .ok (.iconst 1, 1) := by decide +kernel
theorem d_Mod_leavesOther_33 : decode b_Mod_leavesOther 33 = .ok (.goto 4, 3) := by decide +kernel
theorem d_Mod_leavesOther_36 : decode b_Mod_leavesOther 36 = .ok (.iconst 0, 1) := by decide +kernel
theorem d_Mod_leavesOther_37 : decode b_Mod_leavesOther 37 = .ok (.istore_n 2, 1) := by decide +kernel
theorem d_Mod_leavesOther_38 : decode b_Mod_leavesOther 38 = .ok (.iinc 3 1, 3) := by decide +kernel
theorem d_Mod_leavesOther_41 : decode b_Mod_leavesOther 41 = .ok (.goto (-37), 3) := by decide +kernel
theorem d_Mod_leavesOther_44 : decode b_Mod_leavesOther 44 = .ok (.iload_n 2, 1) := by decide +kernel
theorem d_Mod_leavesOther_45 : decode b_Mod_leavesOther 45 = .ok (.ireturn, 1) := by decide +kernel
theorem d_Mod_sequences_0 : decode b_Mod_sequences 0 = .ok (.iconst 0, 1) := by decide +kernel
theorem d_Mod_sequences_1 : decode b_Mod_sequences 1 = .ok (.istore_n 2, 1) := by decide +kernel
theorem d_Mod_sequences_2 : decode b_Mod_sequences 2 = .ok (.iconst 1, 1) := by decide +kernel
theorem d_Mod_sequences_3 : decode b_Mod_sequences 3 = .ok (.istore_n 3, 1) := by decide +kernel
theorem d_Mod_sequences_4 : decode b_Mod_sequences 4 = .ok (.iload_n 3, 1) := by decide +kernel
theorem d_Mod_sequences_5 : decode b_Mod_sequences 5 = .ok (.aload_n 0, 1) := by decide +kernel
theorem d_Mod_sequences_6 : decode b_Mod_sequences 6 = .ok (.getfield 163, 3) := by decide +kernel
theorem d_Mod_sequences_9 : decode b_Mod_sequences 9 = .ok (.if_icmp .ge 37, 3) := by decide +kernel
theorem d_Mod_sequences_12 : decode b_Mod_sequences 12 = .ok (.aload_n 0, 1) := by decide +kernel
theorem d_Mod_sequences_13 : decode b_Mod_sequences 13 = .ok (.getfield 58, 3) := by decide +kernel
theorem d_Mod_sequences_16 : decode b_Mod_sequences 16 = .ok (.iload_n 3, 1) := by decide +kernel
theorem d_Mod_sequences_17 : decode b_Mod_sequences 17 = .ok (.iaload, 1) := by decide +kernel
theorem d_Mod_sequences_18 : decode b_Mod_sequences 18 = .ok (.ifCond .lt 6, 3) := by decide +kernel
theorem d_Mod_sequences_21 : decode b_Mod_sequences 21 = .ok (.goto 19, 3) := by decide +kernel
theorem d_Mod_sequences_24 : decode b_Mod_sequences 24 = .ok (.iinc 2 1, 3) := by decide +kernel
theorem d_Mod_sequences_27 : decode b_Mod_sequences 27 = .ok (.aload_n 0, 1) := by decide +kernel
theorem d_Mod_sequences_28 : decode b_Mod_sequences 28 = .ok (.getfield 43, 3) := by decide +kernel
theorem d_Mod_sequences_31 : decode b_Mod_sequences 31 = .ok (.iload_n 3, 1) := by decide +kernel
theorem d_Mod_sequences_32 : decode b_Mod_sequences 32 = .ok (.iaload, 1) := by decide +kernel
theorem d_Mod_sequences_33 : decode b_Mod_sequences 33 = .ok (.iload_n 1, 1) := by decide +kernel
theorem d_Mod_sequences_34 : decode b_Mod_sequences 34 = .ok (.if_icmp .ne 6, 3) := by decide +kernel
theorem d_Mod_sequences_37 : decode b_Mod_sequences 37 = .ok (.bipush 100, 2) := by decide +kernel
theorem d_Mod_sequences_39 : decode b_Mod_sequences 39 = .ok (.ireturn, 1) := by decide +kernel
theorem d_Mod_sequences_40 : decode b_Mod_sequences 40 = .ok (.iinc 3 1, 3) := by decide +kernel
theorem d_Mod_sequences_43 : decode b_Mod_sequences 43 = .ok (.goto (-39), 3) := by decide +kernel
theorem d_Mod_sequences_46 : decode b_Mod_sequences 46 = .ok (.iload_n 2, 1) := by decide +kernel
theorem d_Mod_sequences_47 : decode b_Mod_sequences 47 = .ok (.ireturn, 1) := by decide +kernel
theorem d_Mod_where_0 : decode b_Mod_where 0 = .ok (.aload_n 0, 1) := by decide +kernel
theorem d_Mod_where_1 : decode b_Mod_where 1 = .ok (.getfield 163, 3) := by decide +kernel
theorem d_Mod_where_4 : decode b_Mod_where 4 = .ok (.iconst 1, 1) := by decide +kernel
theorem d_Mod_where_5 : decode b_Mod_where 5 = .ok (.isub, 1) := by decide +kernel
theorem d_Mod_where_6 : decode b_Mod_where 6 = .ok (.istore_n 1, 1) := by decide +kernel
theorem d_Mod_where_7 : decode b_Mod_where 7 = .ok (.iload_n 1, 1) := by decide +kernel
theorem d_Mod_where_8 : decode b_Mod_where 8 = .ok (.ifCond .le 20, 3) := by decide +kernel
theorem d_Mod_where_11 : decode b_Mod_where 11 = .ok (.aload_n 0, 1) := by decide +kernel
theorem d_Mod_where_12 : decode b_Mod_where 12 = .ok (.getfield 43, 3) := by decide +kernel
theorem d_Mod_where_15 : decode b_Mod_where 15 = .ok (.iload_n 1, 1) := by decide +kernel
theorem d_Mod_where_16 : decode b_Mod_where 16 = .ok (.iaload, 1) := by decide +kernel
theorem d_Mod_where_17 : decode b_Mod_where 17 = .ok (.bipush 16, 2) := by decide +kernel
theorem d_Mod_where_19 : decode b_Mod_where 19 = .ok (.if_icmp .eq 9, 3) := by decide +kernel
theorem d_Mod_where_22 : decode b_Mod_where 22 = .ok (.iinc 1 (-1), 3) := by decide +kernel
theorem d_Mod_where_25 : decode b_Mod_where 25 = .ok (.goto (-18), 3) := by decide +kernel
theorem d_Mod_where_28 : decode b_Mod_where 28 = .ok (.aload_n 0, 1) := by decide +kernel
theorem d_Mod_where_29 : decode b_Mod_where 29 = .ok (.getfield 46, 3) := by decide +kernel
theorem d_Mod_where_32 : decode b_Mod_where 32 = .ok (.iload_n 1, 1) := by decide +kernel
theorem d_Mod_where_33 : decode b_Mod_where 33 = .ok (.iaload, 1) := by decide +kernel
theorem d_Mod_where_34 : decode b_Mod_where 34 = .ok (.iconst 1, 1) := by decide +kernel
theorem d_Mod_where_35 : decode b_Mod_where 35 = .ok (.isub, 1) := by decide +kernel
theorem d_Mod_where_36 : decode b_Mod_where 36 = .ok (.ireturn, 1) := by decide +kernel
theorem d_Mod_added_0 : decode b_Mod_added 0 = .ok (.aload_n 0, 1) := by decide +kernel
theorem d_Mod_added_1 : decode b_Mod_added 1 = .ok (.getfield 64, 3) := by decide +kernel
theorem d_Mod_added_4 : decode b_Mod_added 4 = .ok (.iload_n 1, 1) := by decide +kernel
theorem d_Mod_added_5 : decode b_Mod_added 5 = .ok (.iaload, 1) := by decide +kernel
theorem d_Mod_added_6 : decode b_Mod_added 6 = .ok (.bipush (-100), 2) := by decide +kernel
theorem d_Mod_added_8 : decode b_Mod_added 8 = .ok (.if_icmp .ne 7, 3) := by decide +kernel
theorem d_Mod_added_11 : decode b_Mod_added 11 = .ok (.iconst 0, 1) := by decide +kernel
theorem d_Mod_added_12 : decode b_Mod_added 12 = .ok (.goto 9, 3) := by decide +kernel
theorem d_Mod_added_15 : decode b_Mod_added 15 = .ok (.aload_n 0, 1) := by decide +kernel
theorem d_Mod_added_16 : decode b_Mod_added 16 = .ok (.getfield 64, 3) := by decide +kernel
theorem d_Mod_added_19 : decode b_Mod_added 19 = .ok (.iload_n 1, 1) := by decide +kernel
theorem d_Mod_added_20 : decode b_Mod_added 20 = .ok (.iaload, 1) := by decide +kernel
theorem d_Mod_added_21 : decode b_Mod_added 21 = .ok (.ireturn, 1) := by decide +kernel
theorem d_Mod_isIn_0 : decode b_Mod_isIn 0 = .ok (.iload_n 0, 1) := by decide +kernel
theorem d_Mod_isIn_1 : decode b_Mod_isIn 1 = .ok (.iload_n 1, 1) := by decide +kernel
theorem d_Mod_isIn_2 : decode b_Mod_isIn 2 = .ok (.if_icmp .lt 12, 3) := by decide +kernel
theorem d_Mod_isIn_5 : decode b_Mod_isIn 5 = .ok (.iload_n 0, 1) := by decide +kernel
theorem d_Mod_isIn_6 : decode b_Mod_isIn 6 = .ok (.iload_n 2, 1) := by decide +kernel
theorem d_Mod_isIn_7 : decode b_Mod_isIn 7 = .ok (.if_icmp .gt 7, 3) := by decide +kernel
theorem d_Mod_isIn_10 : decode b_Mod_isIn 10 = .ok (.iconst 1, 1) := by decide +kernel
theorem d_Mod_isIn_11 : decode b_Mod_isIn 11 = .ok (.goto 4, 3) := by decide +kernel
theorem d_Mod_isIn_14 : decode b_Mod_isIn 14 = .ok (.iconst 0, 1) := by decide +kernel
theorem d_Mod_isIn_15 : decode b_Mod_isIn 15 = .ok (.ireturn, 1) := by decide +kernel
theorem d_Mod_count_0 : decode b_Mod_count 0 = .ok (.aload_n 0, 1) := by decide +kernel
theorem d_Mod_count_1 : decode b_Mod_count 1 = .ok (.dup, 1) := by decide +kernel
theorem d_Mod_count_2 : decode b_Mod_count 2 = .ok (.getfield 166, 3) := by decide +kernel
theorem d_Mod_count_5 : decode b_Mod_count 5 = .ok (.iconst 1, 1) := by decide +kernel
theorem d_Mod_count_6 : decode b_Mod_count 6 = .ok (.iadd, 1) := by decide +kernel
theorem d_Mod_count_7 : decode b_Mod_count 7 = .ok (.putfield 166, 3) := by decide +kernel
theorem d_Mod_count_10 : decode b_Mod_count 10 = .ok (.aload_n 0, 1) := by decide +kernel
theorem d_Mod_count_11 : decode b_Mod_count 11 = .ok (.getfield 166, 3) := by decide +kernel
theorem d_Mod_count_14 : decode b_Mod_count 14 = .ok (.sipush 1000, 3) := by decide +kernel
theorem d_Mod_count_17 : decode b_Mod_count 17 = .ok (.if_icmp .le 9, 3) := by decide +kernel
theorem d_Mod_count_20 : decode b_Mod_count 20 = .ok (.aload_n 0, 1) := by decide +kernel
theorem d_Mod_count_21 : decode b_Mod_count 21 = .ok (.iconst 2, 1) := by decide +kernel
theorem d_Mod_count_22 : decode b_Mod_count 22 = .ok (.iload_n 1, 1) := by decide +kernel
theorem d_Mod_count_23 : decode b_Mod_count 23 = .ok (.invokevirtual 184, 3) := by decide +kernel
theorem d_Mod_count_26 : decode b_Mod_count 26 = .ok (.aload_n 0, 1) := by decide +kernel
theorem d_Mod_count_27 : decode b_Mod_count 27 = .ok (.getfield 166, 3) := by decide +kernel
theorem d_Mod_count_30 : decode b_Mod_count 30 = .ok (.sipush 1000, 3) := by decide +kernel
theorem d_Mod_count_33 : decode b_Mod_count 33 = .ok (.if_icmp .gt 7, 3) := by decide +kernel
theorem d_Mod_count_36 : decode b_Mod_count 36 = .ok (.iconst 1, 1) := by decide +kernel
theorem d_Mod_count_37 : decode b_Mod_count 37 = .ok (.goto 4, 3) := by decide +kernel
theorem d_Mod_count_40 : decode b_Mod_count 40 = .ok (.iconst 0, 1) := by decide +kernel
theorem d_Mod_count_41 : decode b_Mod_count 41 = .ok (.ireturn, 1) := by decide +kernel
theorem d_Mod_fault_0 : decode b_Mod_fault 0 = .ok (.aload_n 0, 1) := by decide +kernel
theorem d_Mod_fault_1 : decode b_Mod_fault 1 = .ok (.iconst 0, 1) := by decide +kernel
theorem d_Mod_fault_2 : decode b_Mod_fault 2 = .ok (.putfield 139, 3) := by decide +kernel
theorem d_Mod_fault_5 : decode b_Mod_fault 5 = .ok (.iload_n 1, 1) := by decide +kernel
theorem d_Mod_fault_6 : decode b_Mod_fault 6 = .ok (.ifCond .ne 10, 3) := by decide +kernel
theorem d_Mod_fault_9 : decode b_Mod_fault 9 = .ok (.aload_n 0, 1) := by decide +kernel
theorem d_Mod_fault_10 : decode b_Mod_fault 10 = .ok (.getfield 173, 3) := by decide +kernel
theorem d_Mod_fault_13 : decode b_Mod_fault 13 = .ok (.goto 16, 3) := by decide +kernel
theorem d_Mod_fault_16 : decode b_Mod_fault 16 = .ok (.iload_n 1, 1) := by decide +kernel
theorem d_Mod_fault_17 : decode b_Mod_fault 17 = .ok (.iconst 1, 1) := by decide +kernel
theorem d_Mod_fault_18 : decode b_Mod_fault 18 = .ok (.if_icmp .ne 10, 3) := by decide +kernel
theorem d_Mod_fault_21 : decode b_Mod_fault 21 = .ok (.aload_n 0, 1) := by decide +kernel
theorem d_Mod_fault_22 : decode b_Mod_fault 22 = .ok (.getfield 33, 3) := by decide +kernel
theorem d_Mod_fault_25 : decode b_Mod_fault 25 = .ok (.goto 4, 3) := by decide +kernel
theorem d_Mod_fault_28 : decode b_Mod_fault 28 = .ok (.iconst (-1), 1) := by decide +kernel
theorem d_Mod_fault_29 : decode b_Mod_fault 29 = .ok (.ireturn, 1) := by decide +kernel
theorem d_Mod_wrongAt_0 : decode b_Mod_wrongAt 0 = .ok (.aload_n 0, 1) := by decide +kernel
theorem d_Mod_wrongAt_1 : decode b_Mod_wrongAt 1 = .ok (.iload_n 1, 1) := by decide +kernel
theorem d_Mod_wrongAt_2 : decode b_Mod_wrongAt 2 = .ok (.bipush 100, 2) := by decide +kernel
theorem d_Mod_wrongAt_4 : decode b_Mod_wrongAt 4 = .ok (.aload_n 0, 1) := by decide +kernel
theorem d_Mod_wrongAt_5 : decode b_Mod_wrongAt 5 = .ok (.getfield 223, 3) := by decide +kernel
theorem d_Mod_wrongAt_8 : decode b_Mod_wrongAt 8 = .ok (.iconst 3, 1) := by decide +kernel
theorem d_Mod_wrongAt_9 : decode b_Mod_wrongAt 9 = .ok (.if_icmp .ne 7, 3) := by decide +kernel
theorem d_Mod_wrongAt_12 : decode b_Mod_wrongAt 12 = .ok (.iconst 0, 1) := by decide +kernel
theorem d_Mod_wrongAt_13 : decode b_Mod_wrongAt 13 = .ok (.goto 7, 3) := by decide +kernel
theorem d_Mod_wrongAt_16 : decode b_Mod_wrongAt 16 = .ok (.aload_n 0, 1) := by decide +kernel
theorem d_Mod_wrongAt_17 : decode b_Mod_wrongAt 17 = .ok (.getfield 226, 3) := by decide +kernel
theorem d_Mod_wrongAt_20 : decode b_Mod_wrongAt 20 = .ok (.imul, 1) := by decide +kernel
theorem d_Mod_wrongAt_21 : decode b_Mod_wrongAt 21 = .ok (.iload_n 2, 1) := by decide +kernel
theorem d_Mod_wrongAt_22 : decode b_Mod_wrongAt 22 = .ok (.iadd, 1) := by decide +kernel
theorem d_Mod_wrongAt_23 : decode b_Mod_wrongAt 23 = .ok (.invokevirtual 184, 3) := by decide +kernel
theorem d_Mod_wrongAt_26 : decode b_Mod_wrongAt 26 = .ok (.return_, 1) := by decide +kernel
theorem d_Mod_most_0 : decode b_Mod_most 0 = .ok (.lconst 1, 1) := by decide +kernel
theorem d_Mod_most_1 : decode b_Mod_most 1 = .ok (.iload_n 0, 1) := by decide +kernel
theorem d_Mod_most_2 : decode b_Mod_most 2 = .ok (.lshl, 1) := by decide +kernel
theorem d_Mod_most_3 : decode b_Mod_most 3 = .ok (.lconst 1, 1) := by decide +kernel
theorem d_Mod_most_4 : decode b_Mod_most 4 = .ok (.lsub, 1) := by decide +kernel
theorem d_Mod_most_5 : decode b_Mod_most 5 = .ok (.lreturn, 1) := by decide +kernel
theorem d_Mod_take_0 : decode b_Mod_take 0 = .ok (.lconst 0, 1) := by decide +kernel
theorem d_Mod_take_1 : decode b_Mod_take 1 = .ok (.lstore_n 3, 1) := by decide +kernel
theorem d_Mod_take_2 : decode b_Mod_take 2 = .ok (.aload_n 0, 1) := by decide +kernel
theorem d_Mod_take_3 : decode b_Mod_take 3 = .ok (.getfield 229, 3) := by decide +kernel
theorem d_Mod_take_6 : decode b_Mod_take 6 = .ok (.iload_n 1, 1) := by decide +kernel
theorem d_Mod_take_7 : decode b_Mod_take 7 = .ok (.iadd, 1) := by decide +kernel
theorem d_Mod_take_8 : decode b_Mod_take 8 = .ok (.aload_n 0, 1) := by decide +kernel
theorem d_Mod_take_9 : decode b_Mod_take 9 = .ok (.getfield 232, 3) := by decide +kernel
theorem d_Mod_take_12 : decode b_Mod_take 12 = .ok (.if_icmp .le 12, 3) := by decide +kernel
theorem d_Mod_take_15 : decode b_Mod_take 15 = .ok (.aload_n 0, 1) := by decide +kernel
theorem d_Mod_take_16 : decode b_Mod_take 16 = .ok (.bipush 12, 2) := by decide +kernel
theorem d_Mod_take_18 : decode b_Mod_take 18 = .ok (.iload_n 2, 1) := by decide +kernel
theorem d_Mod_take_19 : decode b_Mod_take 19 = .ok (.invokevirtual 235, 3) := by decide +kernel
theorem d_Mod_take_22 : decode b_Mod_take 22 = .ok (.lconst 0, 1) := by decide +kernel
theorem d_Mod_take_23 : decode b_Mod_take 23 = .ok (.lreturn, 1) := by decide +kernel
theorem d_Mod_take_24 : decode b_Mod_take 24 = .ok (.iconst 0, 1) := by decide +kernel
theorem d_Mod_take_25 : decode b_Mod_take 25 = .ok (.istore 5, 2) := by decide +kernel
theorem d_Mod_take_27 : decode b_Mod_take 27 = .ok (.iload 5, 2) := by decide +kernel
theorem d_Mod_take_29 : decode b_Mod_take 29 = .ok (.iload_n 1, 1) := by decide +kernel
theorem d_Mod_take_30 : decode b_Mod_take 30 = .ok (.if_icmp .ge 43, 3) := by decide +kernel
theorem d_Mod_take_33 : decode b_Mod_take 33 = .ok (.ldc2_w 238, 3) := by decide +kernel
theorem d_Mod_take_36 : decode b_Mod_take 36 = .ok (.lload_n 3, 1) := by decide +kernel
theorem d_Mod_take_37 : decode b_Mod_take 37 = .ok (.lmul, 1) := by decide +kernel
theorem d_Mod_take_38 : decode b_Mod_take 38 = .ok (.aload_n 0, 1) := by decide +kernel
theorem d_Mod_take_39 : decode b_Mod_take 39 = .ok (.getfield 95, 3) := by decide +kernel
theorem d_Mod_take_42 : decode b_Mod_take 42 = .ok (.aload_n 0, 1) := by decide +kernel
theorem d_Mod_take_43 : decode b_Mod_take 43 = .ok (.getfield 229, 3) := by decide +kernel
theorem d_Mod_take_46 : decode b_Mod_take 46 = .ok (.baload, 1) := by decide +kernel
theorem d_Mod_take_47 : decode b_Mod_take 47 = .ok (.ifCond .eq 7, 3) := by decide +kernel
theorem d_Mod_take_50 : decode b_Mod_take 50 = .ok (.lconst 1, 1) := by decide +kernel
theorem d_Mod_take_51 : decode b_Mod_take 51 = .ok (.goto 4, 3) := by decide +kernel
theorem d_Mod_take_54 : decode b_Mod_take 54 = .ok (.lconst 0, 1) := by decide +kernel
theorem d_Mod_take_55 : decode b_Mod_take 55 = .ok (.ladd, 1) := by decide +kernel
theorem d_Mod_take_56 : decode b_Mod_take 56 = .ok (.lstore_n 3, 1) := by decide +kernel
theorem d_Mod_take_57 : decode b_Mod_take 57 = .ok (.aload_n 0, 1) := by decide +kernel
theorem d_Mod_take_58 : decode b_Mod_take 58 = .ok (.dup, 1) := by decide +kernel
theorem d_Mod_take_59 : decode b_Mod_take 59 = .ok (.getfield 229, 3) := by decide +kernel
theorem d_Mod_take_62 : decode b_Mod_take 62 = .ok (.iconst 1, 1) := by decide +kernel
theorem d_Mod_take_63 : decode b_Mod_take 63 = .ok (.iadd, 1) := by decide +kernel
theorem d_Mod_take_64 : decode b_Mod_take 64 = .ok (.putfield 229, 3) := by decide +kernel
theorem d_Mod_take_67 : decode b_Mod_take 67 = .ok (.iinc 5 1, 3) := by decide +kernel
theorem d_Mod_take_70 : decode b_Mod_take 70 = .ok (.goto (-43), 3) := by decide +kernel
theorem d_Mod_take_73 : decode b_Mod_take 73 = .ok (.lload_n 3, 1) := by decide +kernel
theorem d_Mod_take_74 : decode b_Mod_take 74 = .ok (.lreturn, 1) := by decide +kernel
theorem d_Mod_meant_0 : decode b_Mod_meant 0 = .ok (.aload_n 0, 1) := by decide +kernel
theorem d_Mod_meant_1 : decode b_Mod_meant 1 = .ok (.getfield 67, 3) := by decide +kernel
theorem d_Mod_meant_4 : decode b_Mod_meant 4 = .ok (.iload_n 1, 1) := by decide +kernel
theorem d_Mod_meant_5 : decode b_Mod_meant 5 = .ok (.iaload, 1) := by decide +kernel
theorem d_Mod_meant_6 : decode b_Mod_meant 6 = .ok (.iconst 3, 1) := by decide +kernel
theorem d_Mod_meant_7 : decode b_Mod_meant 7 = .ok (.if_icmp .ne 7, 3) := by decide +kernel
theorem d_Mod_meant_10 : decode b_Mod_meant 10 = .ok (.lload_n 2, 1) := by decide +kernel
theorem d_Mod_meant_11 : decode b_Mod_meant 11 = .ok (.goto 31, 3) := by decide +kernel
theorem d_Mod_meant_14 : decode b_Mod_meant 14 = .ok (.lload_n 2, 1) := by decide +kernel
theorem d_Mod_meant_15 : decode b_Mod_meant 15 = .ok (.aload_n 0, 1) := by decide +kernel
theorem d_Mod_meant_16 : decode b_Mod_meant 16 = .ok (.getfield 73, 3) := by decide +kernel
theorem d_Mod_meant_19 : decode b_Mod_meant 19 = .ok (.iload_n 1, 1) := by decide +kernel
theorem d_Mod_meant_20 : decode b_Mod_meant 20 = .ok (.iaload, 1) := by decide +kernel
theorem d_Mod_meant_21 : decode b_Mod_meant 21 = .ok (.invokestatic 240, 3) := by decide +kernel
theorem d_Mod_meant_24 : decode b_Mod_meant 24 = .ok (.lcmp, 1) := by decide +kernel
theorem d_Mod_meant_25 : decode b_Mod_meant 25 = .ok (.ifCond .ne 9, 3) := by decide +kernel
theorem d_Mod_meant_28 : decode b_Mod_meant 28 = .ok (.ldc2_w 137, 3) := by decide +kernel
theorem d_Mod_meant_31 : decode b_Mod_meant 31 = .ok (.goto 11, 3) := by decide +kernel
theorem d_Mod_meant_34 : decode b_Mod_meant 34 = .ok (.lload_n 2, 1) := by decide +kernel
theorem d_Mod_meant_35 : decode b_Mod_meant 35 = .ok (.aload_n 0, 1) := by decide +kernel
theorem d_Mod_meant_36 : decode b_Mod_meant 36 = .ok (.getfield 85, 3) := by decide +kernel
theorem d_Mod_meant_39 : decode b_Mod_meant 39 = .ok (.iload_n 1, 1) := by decide +kernel
theorem d_Mod_meant_40 : decode b_Mod_meant 40 = .ok (.laload, 1) := by decide +kernel
theorem d_Mod_meant_41 : decode b_Mod_meant 41 = .ok (.ladd, 1) := by decide +kernel
theorem d_Mod_meant_42 : decode b_Mod_meant 42 = .ok (.lreturn, 1) := by decide +kernel
theorem d_Mod_raw_0 : decode b_Mod_raw 0 = .ok (.aload_n 0, 1) := by decide +kernel
theorem d_Mod_raw_1 : decode b_Mod_raw 1 = .ok (.getfield 67, 3) := by decide +kernel
theorem d_Mod_raw_4 : decode b_Mod_raw 4 = .ok (.iload_n 1, 1) := by decide +kernel
theorem d_Mod_raw_5 : decode b_Mod_raw 5 = .ok (.iaload, 1) := by decide +kernel
theorem d_Mod_raw_6 : decode b_Mod_raw 6 = .ok (.iconst 3, 1) := by decide +kernel
theorem d_Mod_raw_7 : decode b_Mod_raw 7 = .ok (.if_icmp .ne 7, 3) := by decide +kernel
theorem d_Mod_raw_10 : decode b_Mod_raw 10 = .ok (.lload_n 2, 1) := by decide +kernel
theorem d_Mod_raw_11 : decode b_Mod_raw 11 = .ok (.goto 31, 3) := by decide +kernel
theorem d_Mod_raw_14 : decode b_Mod_raw 14 = .ok (.lload_n 2, 1) := by decide +kernel
theorem d_Mod_raw_15 : decode b_Mod_raw 15 = .ok (.ldc2_w 137, 3) := by decide +kernel
theorem d_Mod_raw_18 : decode b_Mod_raw 18 = .ok (.lcmp, 1) := by decide +kernel
theorem d_Mod_raw_19 : decode b_Mod_raw 19 = .ok (.ifCond .ne 15, 3) := by decide +kernel
theorem d_Mod_raw_22 : decode b_Mod_raw 22 = .ok (.aload_n 0, 1) := by decide +kernel
theorem d_Mod_raw_23 : decode b_Mod_raw 23 = .ok (.getfield 73, 3) := by decide +kernel
theorem d_Mod_raw_26 : decode b_Mod_raw 26 = .ok (.iload_n 1, 1) := by decide +kernel
theorem d_Mod_raw_27 : decode b_Mod_raw 27 = .ok (.iaload, 1) := by decide +kernel
theorem d_Mod_raw_28 : decode b_Mod_raw 28 = .ok (.invokestatic 240, 3) := by decide +kernel
theorem d_Mod_raw_31 : decode b_Mod_raw 31 = .ok (.goto 11, 3) := by decide +kernel
theorem d_Mod_raw_34 : decode b_Mod_raw 34 = .ok (.lload_n 2, 1) := by decide +kernel
theorem d_Mod_raw_35 : decode b_Mod_raw 35 = .ok (.aload_n 0, 1) := by decide +kernel
theorem d_Mod_raw_36 : decode b_Mod_raw 36 = .ok (.getfield 85, 3) := by decide +kernel
theorem d_Mod_raw_39 : decode b_Mod_raw 39 = .ok (.iload_n 1, 1) := by decide +kernel
theorem d_Mod_raw_40 : decode b_Mod_raw 40 = .ok (.laload, 1) := by decide +kernel
theorem d_Mod_raw_41 : decode b_Mod_raw 41 = .ok (.lsub, 1) := by decide +kernel
theorem d_Mod_raw_42 : decode b_Mod_raw 42 = .ok (.lreturn, 1) := by decide +kernel
theorem d_Mod_takeAll_0 : decode b_Mod_takeAll 0 = .ok (.aload_n 0, 1) := by decide +kernel
theorem d_Mod_takeAll_1 : decode b_Mod_takeAll 1 = .ok (.aload_n 0, 1) := by decide +kernel
theorem d_Mod_takeAll_2 : decode b_Mod_takeAll 2 = .ok (.getfield 73, 3) := by decide +kernel
theorem d_Mod_takeAll_5 : decode b_Mod_takeAll 5 = .ok (.iload_n 1, 1) := by decide +kernel
theorem d_Mod_takeAll_6 : decode b_Mod_takeAll 6 = .ok (.iaload, 1) := by decide +kernel
theorem d_Mod_takeAll_7 : decode b_Mod_takeAll 7 = .ok (.iload_n 1, 1) := by decide +kernel
theorem d_Mod_takeAll_8 : decode b_Mod_takeAll 8 = .ok (.invokevirtual 244, 3) := by decide +kernel
theorem d_Mod_takeAll_11 : decode b_Mod_takeAll 11 = .ok (.lstore_n 2, 1) := by decide +kernel
theorem d_Mod_takeAll_12 : decode b_Mod_takeAll 12 = .ok (.aload_n 0, 1) := by decide +kernel
theorem d_Mod_takeAll_13 : decode b_Mod_takeAll 13 = .ok (.bipush 6, 2) := by decide +kernel
theorem d_Mod_takeAll_15 : decode b_Mod_takeAll 15 = .ok (.iload_n 1, 1) := by decide +kernel
theorem d_Mod_takeAll_16 : decode b_Mod_takeAll 16 = .ok (.invokevirtual 244, 3) := by decide +kernel
theorem d_Mod_takeAll_19 : decode b_Mod_takeAll 19 = .ok (.l2i, 1) := by decide +kernel
theorem d_Mod_takeAll_20 : decode b_Mod_takeAll 20 = .ok (.istore 4, 2) := by decide +kernel
theorem d_Mod_takeAll_22 : decode b_Mod_takeAll 22 = .ok (.aload_n 0, 1) := by decide +kernel
theorem d_Mod_takeAll_23 : decode b_Mod_takeAll 23 = .ok (.getfield 67, 3) := by decide +kernel
theorem d_Mod_takeAll_26 : decode b_Mod_takeAll 26 = .ok (.iload_n 1, 1) := by decide +kernel
theorem d_Mod_takeAll_27 : decode b_Mod_takeAll 27 = .ok (.iaload, 1) := by decide +kernel
theorem d_Mod_takeAll_28 : decode b_Mod_takeAll 28 = .ok (.iconst 2, 1) := by decide +kernel
theorem d_Mod_takeAll_29 : decode b_Mod_takeAll 29 = .ok (.if_icmp .eq 13, 3) := by decide +kernel
theorem d_Mod_takeAll_32 : decode b_Mod_takeAll 32 = .ok (.aload_n 0, 1) := by decide +kernel
theorem d_Mod_takeAll_33 : decode b_Mod_takeAll 33 = .ok (.getfield 67, 3) := by decide +kernel
theorem d_Mod_takeAll_36 : decode b_Mod_takeAll 36 = .ok (.iload_n 1, 1) := by decide +kernel
theorem d_Mod_takeAll_37 : decode b_Mod_takeAll 37 = .ok (.iaload, 1) := by decide +kernel
theorem d_Mod_takeAll_38 : decode b_Mod_takeAll 38 = .ok (.iconst 3, 1) := by decide +kernel
theorem d_Mod_takeAll_39 : decode b_Mod_takeAll 39 = .ok (.if_icmp .ne 7, 3) := by decide +kernel
theorem d_Mod_takeAll_42 : decode b_Mod_takeAll 42 = .ok (.iconst 1, 1) := by decide +kernel
theorem d_Mod_takeAll_43 : decode b_Mod_takeAll 43 = .ok (.goto 4, 3) := by decide +kernel
theorem d_Mod_takeAll_46 : decode b_Mod_takeAll 46 = .ok (.iconst 0, 1) := by decide +kernel
theorem d_Mod_takeAll_47 : decode b_Mod_takeAll 47 = .ok (.istore 5, 2) := by decide +kernel
theorem d_Mod_takeAll_49 : decode b_Mod_takeAll 49 = .ok (.aload_n 0, 1) := by decide +kernel
theorem d_Mod_takeAll_50 : decode b_Mod_takeAll 50 = .ok (.getfield 173, 3) := by decide +kernel
theorem d_Mod_takeAll_53 : decode b_Mod_takeAll 53 = .ok (.ifCond .ne 51, 3) := by decide +kernel
theorem d_Mod_takeAll_56 : decode b_Mod_takeAll 56 = .ok (.iload 4, 2) := by decide +kernel
theorem d_Mod_takeAll_58 : decode b_Mod_takeAll 58 = .ok (.bipush 33, 2) := by decide +kernel
theorem d_Mod_takeAll_60 : decode b_Mod_takeAll 60 = .ok (.if_icmp .gt 37, 3) := by decide +kernel
theorem d_Mod_takeAll_63 : decode b_Mod_takeAll 63 = .ok (.iload 5, 2) := by decide +kernel
theorem d_Mod_takeAll_65 : decode b_Mod_takeAll 65 = .ok (.ifCond .eq 8, 3) := by decide +kernel
theorem d_Mod_takeAll_68 : decode b_Mod_takeAll 68 = .ok (.iload 4, 2) := by decide +kernel
theorem d_Mod_takeAll_70 : decode b_Mod_takeAll 70 = .ok (.ifCond .gt 27, 3) := by decide +kernel
theorem d_Mod_takeAll_73 : decode b_Mod_takeAll 73 = .ok (.aload_n 0, 1) := by decide +kernel
theorem d_Mod_takeAll_74 : decode b_Mod_takeAll 74 = .ok (.getfield 67, 3) := by decide +kernel
theorem d_Mod_takeAll_77 : decode b_Mod_takeAll 77 = .ok (.iload_n 1, 1) := by decide +kernel
theorem d_Mod_takeAll_78 : decode b_Mod_takeAll 78 = .ok (.iaload, 1) := by decide +kernel
theorem d_Mod_takeAll_79 : decode b_Mod_takeAll 79 = .ok (.iconst 2, 1) := by decide +kernel
theorem d_Mod_takeAll_80 : decode b_Mod_takeAll 80 = .ok (.if_icmp .ne 24, 3) := by decide +kernel
theorem d_Mod_takeAll_83 : decode b_Mod_takeAll 83 = .ok (.lload_n 2, 1) := by decide +kernel
theorem d_Mod_takeAll_84 : decode b_Mod_takeAll 84 = .ok (.aload_n 0, 1) := by decide +kernel
theorem d_Mod_takeAll_85 : decode b_Mod_takeAll 85 = .ok (.getfield 73, 3) := by decide +kernel
theorem d_Mod_takeAll_88 : decode b_Mod_takeAll 88 = .ok (.iload_n 1, 1) := by decide +kernel
theorem d_Mod_takeAll_89 : decode b_Mod_takeAll 89 = .ok (.iaload, 1) := by decide +kernel
theorem d_Mod_takeAll_90 : decode b_Mod_takeAll 90 = .ok (.invokestatic 240, 3) := by decide +kernel
theorem d_Mod_takeAll_93 : decode b_Mod_takeAll 93 = .ok (.lcmp, 1) := by decide +kernel
theorem d_Mod_takeAll_94 : decode b_Mod_takeAll 94 = .ok (.ifCond .ne 10, 3) := by decide +kernel
theorem d_Mod_takeAll_97 : decode b_Mod_takeAll 97 = .ok (.aload_n 0, 1) := by decide +kernel
theorem d_Mod_takeAll_98 : decode b_Mod_takeAll 98 = .ok (.bipush 12, 2) := by decide +kernel
theorem d_Mod_takeAll_100 : decode b_Mod_takeAll 100 = .ok (.iload_n 1, 1) := by decide +kernel
theorem d_Mod_takeAll_101 : decode b_Mod_takeAll 101 = .ok (.invokevirtual 235, 3) := by decide +kernel
theorem d_Mod_takeAll_104 : decode b_Mod_takeAll 104 = .ok (.iconst 0, 1) := by decide +kernel
theorem d_Mod_takeAll_105 : decode b_Mod_takeAll 105 = .ok (.istore 6, 2) := by decide +kernel
theorem d_Mod_takeAll_107 : decode b_Mod_takeAll 107 = .ok (.iload 6, 2) := by decide +kernel
theorem d_Mod_takeAll_109 : decode b_Mod_takeAll 109 = .ok (.aload_n 0, 1) := by decide +kernel
theorem d_Mod_takeAll_110 : decode b_Mod_takeAll 110 = .ok (.getfield 248, 3) := by decide +kernel
theorem d_Mod_takeAll_113 : decode b_Mod_takeAll 113 = .ok (.if_icmp .ge 132, 3) := by decide +kernel
theorem d_Mod_takeAll_116 : decode b_Mod_takeAll 116 = .ok (.aload_n 0, 1) := by decide +kernel
theorem d_Mod_takeAll_117 : decode b_Mod_takeAll 117 = .ok (.getfield 173, 3) := by decide +kernel
theorem d_Mod_takeAll_120 : decode b_Mod_takeAll 120 = .ok (.ifCond .ne 125, 3) := by decide +kernel
theorem d_Mod_takeAll_123 : decode b_Mod_takeAll 123 = .ok (.iload 4, 2) := by decide +kernel
theorem d_Mod_takeAll_125 : decode b_Mod_takeAll 125 = .ok (.ifCond .ne 7, 3) := by decide +kernel
theorem d_Mod_takeAll_128 : decode b_Mod_takeAll 128 = .ok (.lconst 0, 1) := by decide +kernel
theorem d_Mod_takeAll_129 : decode b_Mod_takeAll 129 = .ok (.goto 10, 3) := by decide +kernel
theorem d_Mod_takeAll_132 : decode b_Mod_takeAll 132 = .ok (.aload_n 0, 1) := by decide +kernel
theorem d_Mod_takeAll_133 : decode b_Mod_takeAll 133 = .ok (.iload 4, 2) := by decide +kernel
theorem d_Mod_takeAll_135 : decode b_Mod_takeAll 135 = .ok (.iload_n 1, 1) := by decide +kernel
theorem d_Mod_takeAll_136 : decode b_Mod_takeAll 136 = .ok (.invokevirtual 244, 3) := by decide +kernel
theorem d_Mod_takeAll_139 : decode b_Mod_takeAll 139 = .ok (.lstore 7, 2) := by decide +kernel
theorem d_Mod_takeAll_141 : decode b_Mod_takeAll 141 = .ok (.iload 4, 2) := by decide +kernel
theorem d_Mod_takeAll_143 : decode b_Mod_takeAll 143 = .ok (.ifCond .le 18, 3) := by decide +kernel
theorem d_Mod_takeAll_146 : decode b_Mod_takeAll 146 = .ok (.lload 7, 2) := by decide +kernel
theorem d_Mod_takeAll_148 : decode b_Mod_takeAll 148 = .ok (.iload 4, 2) := by decide +kernel
theorem d_Mod_takeAll_150 : decode b_Mod_takeAll 150 = .ok (.invokestatic 240, 3) := by decide +kernel
theorem d_Mod_takeAll_153 : decode b_Mod_takeAll 153 = .ok (.lcmp, 1) := by decide +kernel
theorem d_Mod_takeAll_154 : decode b_Mod_takeAll 154 = .ok (.ifCond .ne 7, 3) := by decide +kernel
theorem d_Mod_takeAll_157 : decode b_Mod_takeAll 157 = .ok (.iconst 1, 1) := by decide +kernel
theorem d_Mod_takeAll_158 : decode b_Mod_takeAll 158 = .ok (.goto 4, 3) := by decide +kernel
theorem d_Mod_takeAll_161 : decode b_Mod_takeAll 161 = .ok (.iconst 0, 1) := by decide +kernel
theorem d_Mod_takeAll_162 : decode b_Mod_takeAll 162 = .ok (.istore 9, 2) := by decide +kernel
theorem d_Mod_takeAll_164 : decode b_Mod_takeAll 164 = .ok (.iload 4, 2) := by decide +kernel
theorem d_Mod_takeAll_166 : decode b_Mod_takeAll 166 = .ok (.ifCond .le 41, 3) := by decide +kernel
theorem d_Mod_takeAll_169 : decode b_Mod_takeAll 169 = .ok (.iload 9, 2) := by decide +kernel
theorem d_Mod_takeAll_171 : decode b_Mod_takeAll 171 = .ok (.ifCond .ne 36, 3) := by decide +kernel
theorem d_Mod_takeAll_174 : decode b_Mod_takeAll 174 = .ok (.aload_n 0, 1) := by decide +kernel
theorem d_Mod_takeAll_175 : decode b_Mod_takeAll 175 = .ok (.getfield 173, 3) := by decide +kernel
theorem d_Mod_takeAll_178 : decode b_Mod_takeAll 178 = .ok (.ifCond .ne 29, 3) := by decide +kernel
theorem d_Mod_takeAll_181 : decode b_Mod_takeAll 181 = .ok (.lload_n 2, 1) := by decide +kernel
theorem d_Mod_takeAll_182 : decode b_Mod_takeAll 182 = .ok (.lload 7, 2) := by decide +kernel
theorem d_Mod_takeAll_184 : decode b_Mod_takeAll 184 = .ok (.ladd, 1) := by decide +kernel
theorem d_Mod_takeAll_185 : decode b_Mod_takeAll 185 = .ok (.aload_n 0, 1) := by decide +kernel
theorem d_Mod_takeAll_186 : decode b_Mod_takeAll 186 = .ok (.getfield 73, 3) := by decide +kernel
theorem d_Mod_takeAll_189 : decode b_Mod_takeAll 189 = .ok (.iload_n 1, 1) := by decide +kernel
theorem d_Mod_takeAll_190 : decode b_Mod_takeAll 190 = .ok (.iaload, 1) := by decide +kernel
theorem d_Mod_takeAll_191 : decode b_Mod_takeAll 191 = .ok (.invokestatic 240, 3) := by decide +kernel
theorem d_Mod_takeAll_194 : decode b_Mod_takeAll 194 = .ok (.lconst 1, 1) := by decide +kernel
theorem d_Mod_takeAll_195 : decode b_Mod_takeAll 195 = .ok (.lsub, 1) := by decide +kernel
theorem d_Mod_takeAll_196 : decode b_Mod_takeAll 196 = .ok (.lcmp, 1) := by decide +kernel
theorem d_Mod_takeAll_197 : decode b_Mod_takeAll 197 = .ok (.ifCond .le 10, 3) := by decide +kernel
