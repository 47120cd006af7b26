theorem d_Tab_isScale_0 : decode b_Tab_isScale 0 = .ok (.iload_n 0, 1) := by decide +kernel
theorem d_Tab_isScale_1 : decode b_Tab_isScale 1 = .ok (.bipush (-8), 2) := by decide +kernel
theorem d_Tab_isScale_3 : decode b_Tab_isScale 3 = .ok (.if_icmp .lt 13, 3) := by decide +kernel
theorem d_Tab_isScale_6 : decode b_Tab_isScale 6 = .ok (.iload_n 0, 1) := by decide +kernel
theorem d_Tab_isScale_7 : decode b_Tab_isScale 7 = .ok (.bipush 8, 2) := by decide +kernel
theorem d_Tab_isScale_9 : decode b_Tab_isScale 9 = .ok (.if_icmp .gt 7, 3) := by decide +kernel
theorem d_Tab_isScale_12 : decode b_Tab_isScale 12 = .ok (.iconst 1, 1) := by decide +kernel
theorem d_Tab_isScale_13 : decode b_Tab_isScale 13 = .ok (.goto 4, 3) := by decide +kernel
theorem d_Tab_isScale_16 : decode b_Tab_isScale 16 = .ok (.iconst 0, 1) := by decide +kernel
theorem d_Tab_isScale_17 : decode b_Tab_isScale 17 = .ok (.ireturn, 1) := by decide +kernel
theorem d_Tab_isWidth_0 : decode b_Tab_isWidth 0 = .ok (.iload_n 0, 1) := by decide +kernel
theorem d_Tab_isWidth_1 : decode b_Tab_isWidth 1 = .ok (.iconst 1, 1) := by decide +kernel
theorem d_Tab_isWidth_2 : decode b_Tab_isWidth 2 = .ok (.if_icmp .lt 13, 3) := by decide +kernel
theorem d_Tab_isWidth_5 : decode b_Tab_isWidth 5 = .ok (.iload_n 0, 1) := by decide +kernel
theorem d_Tab_isWidth_6 : decode b_Tab_isWidth 6 = .ok (.bipush 32, 2) := by decide +kernel
theorem d_Tab_isWidth_8 : decode b_Tab_isWidth 8 = .ok (.if_icmp .gt 7, 3) := by decide +kernel
theorem d_Tab_isWidth_11 : decode b_Tab_isWidth 11 = .ok (.iconst 1, 1) := by decide +kernel
theorem d_Tab_isWidth_12 : decode b_Tab_isWidth 12 = .ok (.goto 4, 3) := by decide +kernel
theorem d_Tab_isWidth_15 : decode b_Tab_isWidth 15 = .ok (.iconst 0, 1) := by decide +kernel
theorem d_Tab_isWidth_16 : decode b_Tab_isWidth 16 = .ok (.ireturn, 1) := by decide +kernel
theorem d_Tab_isEntry_0 : decode b_Tab_isEntry 0 = .ok (.iload_n 0, 1) := by decide +kernel
theorem d_Tab_isEntry_1 : decode b_Tab_isEntry 1 = .ok (.invokestatic 41, 3) := by decide +kernel
theorem d_Tab_isEntry_4 : decode b_Tab_isEntry 4 = .ok (.ifCond .eq 26, 3) := by decide +kernel
theorem d_Tab_isEntry_7 : decode b_Tab_isEntry 7 = .ok (.iload_n 2, 1) := by decide +kernel
theorem d_Tab_isEntry_8 : decode b_Tab_isEntry 8 = .ok (.invokestatic 44, 3) := by decide +kernel
theorem d_Tab_isEntry_11 : decode b_Tab_isEntry 11 = .ok (.ifCond .eq 19, 3) := by decide +kernel
theorem d_Tab_isEntry_14 : decode b_Tab_isEntry 14 = .ok (.iload_n 1, 1) := by decide +kernel
theorem d_Tab_isEntry_15 : decode b_Tab_isEntry 15 = .ok (.ldc 47, 2) := by decide +kernel
theorem d_Tab_isEntry_17 : decode b_Tab_isEntry 17 = .ok (.if_icmp .lt 13, 3) := by decide +kernel
theorem d_Tab_isEntry_20 : decode b_Tab_isEntry 20 = .ok (.iload_n 1, 1) := by decide +kernel
theorem d_Tab_isEntry_21 : decode b_Tab_isEntry 21 = .ok (.ldc 48, 2) := by decide +kernel
theorem d_Tab_isEntry_23 : decode b_Tab_isEntry 23 = .ok (.if_icmp .gt 7, 3) := by decide +kernel
theorem d_Tab_isEntry_26 : decode b_Tab_isEntry 26 = .ok (.iconst 1, 1) := by decide +kernel
theorem d_Tab_isEntry_27 : decode b_Tab_isEntry 27 = .ok (.goto 4, 3) := by decide +kernel
theorem d_Tab_isEntry_30 : decode b_Tab_isEntry 30 = .ok (.iconst 0, 1) := by decide +kernel
theorem d_Tab_isEntry_31 : decode b_Tab_isEntry 31 = .ok (.ireturn, 1) := by decide +kernel
theorem d_Tab_startOf_0 : decode b_Tab_startOf 0 = .ok (.iload_n 0, 1) := by decide +kernel
theorem d_Tab_startOf_1 : decode b_Tab_startOf 1 = .ok (.bipush 8, 2) := by decide +kernel
theorem d_Tab_startOf_3 : decode b_Tab_startOf 3 = .ok (.imul, 1) := by decide +kernel
theorem d_Tab_startOf_4 : decode b_Tab_startOf 4 = .ok (.ireturn, 1) := by decide +kernel
theorem d_Tab_entryAt_0 : decode b_Tab_entryAt 0 = .ok (.iload_n 0, 1) := by decide +kernel
theorem d_Tab_entryAt_1 : decode b_Tab_entryAt 1 = .ok (.bipush 64, 2) := by decide +kernel
theorem d_Tab_entryAt_3 : decode b_Tab_entryAt 3 = .ok (.imul, 1) := by decide +kernel
theorem d_Tab_entryAt_4 : decode b_Tab_entryAt 4 = .ok (.iload_n 1, 1) := by decide +kernel
theorem d_Tab_entryAt_5 : decode b_Tab_entryAt 5 = .ok (.iadd, 1) := by decide +kernel
theorem d_Tab_entryAt_6 : decode b_Tab_entryAt 6 = .ok (.ireturn, 1) := by decide +kernel
theorem d_Tab_listOf_0 : decode b_Tab_listOf 0 = .ok (.iload_n 0, 1) := by decide +kernel
theorem d_Tab_listOf_1 : decode b_Tab_listOf 1 = .ok (.iconst (-1), 1) := by decide +kernel
theorem d_Tab_listOf_2 : decode b_Tab_listOf 2 = .ok (.if_icmp .ne 6, 3) := by decide +kernel
theorem d_Tab_listOf_5 : decode b_Tab_listOf 5 = .ok (.bipush 16, 2) := by decide +kernel
theorem d_Tab_listOf_7 : decode b_Tab_listOf 7 = .ok (.ireturn, 1) := by decide +kernel
theorem d_Tab_listOf_8 : decode b_Tab_listOf 8 = .ok (.iload_n 0, 1) := by decide +kernel
theorem d_Tab_listOf_9 : decode b_Tab_listOf 9 = .ok (.ifCond .lt 13, 3) := by decide +kernel
theorem d_Tab_listOf_12 : decode b_Tab_listOf 12 = .ok (.iload_n 0, 1) := by decide +kernel
theorem d_Tab_listOf_13 : decode b_Tab_listOf 13 = .ok (.bipush 16, 2) := by decide +kernel
theorem d_Tab_listOf_15 : decode b_Tab_listOf 15 = .ok (.if_icmp .ge 7, 3) := by decide +kernel
theorem d_Tab_listOf_18 : decode b_Tab_listOf 18 = .ok (.iload_n 0, 1) := by decide +kernel
theorem d_Tab_listOf_19 : decode b_Tab_listOf 19 = .ok (.goto 4, 3) := by decide +kernel
theorem d_Tab_listOf_22 : decode b_Tab_listOf 22 = .ok (.iconst (-1), 1) := by decide +kernel
theorem d_Tab_listOf_23 : decode b_Tab_listOf 23 = .ok (.ireturn, 1) := by decide +kernel
theorem d_Tab_endOf_0 : decode b_Tab_endOf 0 = .ok (.iload_n 1, 1) := by decide +kernel
theorem d_Tab_endOf_1 : decode b_Tab_endOf 1 = .ok (.invokestatic 49, 3) := by decide +kernel
theorem d_Tab_endOf_4 : decode b_Tab_endOf 4 = .ok (.aload_n 0, 1) := by decide +kernel
theorem d_Tab_endOf_5 : decode b_Tab_endOf 5 = .ok (.getfield 26, 3) := by decide +kernel
theorem d_Tab_endOf_8 : decode b_Tab_endOf 8 = .ok (.iload_n 1, 1) := by decide +kernel
theorem d_Tab_endOf_9 : decode b_Tab_endOf 9 = .ok (.iaload, 1) := by decide +kernel
theorem d_Tab_endOf_10 : decode b_Tab_endOf 10 = .ok (.iadd, 1) := by decide +kernel
theorem d_Tab_endOf_11 : decode b_Tab_endOf 11 = .ok (.ireturn, 1) := by decide +kernel
theorem d_Tab_isFull_0 : decode b_Tab_isFull 0 = .ok (.aload_n 0, 1) := by decide +kernel
theorem d_Tab_isFull_1 : decode b_Tab_isFull 1 = .ok (.getfield 26, 3) := by decide +kernel
theorem d_Tab_isFull_4 : decode b_Tab_isFull 4 = .ok (.iload_n 1, 1) := by decide +kernel
theorem d_Tab_isFull_5 : decode b_Tab_isFull 5 = .ok (.iaload, 1) := by decide +kernel
theorem d_Tab_isFull_6 : decode b_Tab_isFull 6 = .ok (.iload_n 1, 1) := by decide +kernel
theorem d_Tab_isFull_7 : decode b_Tab_isFull 7 = .ok (.bipush 16, 2) := by decide +kernel
theorem d_Tab_isFull_9 : decode b_Tab_isFull 9 = .ok (.if_icmp .ne 8, 3) := by decide +kernel
theorem d_Tab_isFull_12 : decode b_Tab_isFull 12 = .ok (.bipush 24, 2) := by decide +kernel
theorem d_Tab_isFull_14 : decode b_Tab_isFull 14 = .ok (.goto 5, 3) := by decide +kernel
theorem d_Tab_isFull_17 : decode b_Tab_isFull 17 = .ok (.bipush 8, 2) := by decide +kernel
theorem d_Tab_isFull_19 : decode b_Tab_isFull 19 = .ok (.if_icmp .lt 7, 3) := by decide +kernel
theorem d_Tab_isFull_22 : decode b_Tab_isFull 22 = .ok (.iconst 1, 1) := by decide +kernel
theorem d_Tab_isFull_23 : decode b_Tab_isFull 23 = .ok (.goto 4, 3) := by decide +kernel
theorem d_Tab_isFull_26 : decode b_Tab_isFull 26 = .ok (.iconst 0, 1) := by decide +kernel
theorem d_Tab_isFull_27 : decode b_Tab_isFull 27 = .ok (.ireturn, 1) := by decide +kernel
theorem d_Tab_extend_0 : decode b_Tab_extend 0 = .ok (.aload_n 0, 1) := by decide +kernel
theorem d_Tab_extend_1 : decode b_Tab_extend 1 = .ok (.getfield 23, 3) := by decide +kernel
theorem d_Tab_extend_4 : decode b_Tab_extend 4 = .ok (.aload_n 0, 1) := by decide +kernel
theorem d_Tab_extend_5 : decode b_Tab_extend 5 = .ok (.iload_n 1, 1) := by decide +kernel
theorem d_Tab_extend_6 : decode b_Tab_extend 6 = .ok (.invokevirtual 53, 3) := by decide +kernel
theorem d_Tab_extend_9 : decode b_Tab_extend 9 = .ok (.iload_n 2, 1) := by decide +kernel
theorem d_Tab_extend_10 : decode b_Tab_extend 10 = .ok (.iastore, 1) := by decide +kernel
theorem d_Tab_extend_11 : decode b_Tab_extend 11 = .ok (.aload_n 0, 1) := by decide +kernel
theorem d_Tab_extend_12 : decode b_Tab_extend 12 = .ok (.getfield 26, 3) := by decide +kernel
theorem d_Tab_extend_15 : decode b_Tab_extend 15 = .ok (.iload_n 1, 1) := by decide +kernel
theorem d_Tab_extend_16 : decode b_Tab_extend 16 = .ok (.dup2, 1) := by decide +kernel
theorem d_Tab_extend_17 : decode b_Tab_extend 17 = .ok (.iaload, 1) := by decide +kernel
theorem d_Tab_extend_18 : decode b_Tab_extend 18 = .ok (.iconst 1, 1) := by decide +kernel
theorem d_Tab_extend_19 : decode b_Tab_extend 19 = .ok (.iadd, 1) := by decide +kernel
theorem d_Tab_extend_20 : decode b_Tab_extend 20 = .ok (.iastore, 1) := by decide +kernel
theorem d_Tab_extend_21 : decode b_Tab_extend 21 = .ok (.aload_n 0, 1) := by decide +kernel
theorem d_Tab_extend_22 : decode b_Tab_extend 22 = .ok (.getfield 26, 3) := by decide +kernel
theorem d_Tab_extend_25 : decode b_Tab_extend 25 = .ok (.iload_n 1, 1) := by decide +kernel
theorem d_Tab_extend_26 : decode b_Tab_extend 26 = .ok (.iaload, 1) := by decide +kernel
theorem d_Tab_extend_27 : decode b_Tab_extend 27 = .ok (.ireturn, 1) := by decide +kernel
theorem d_Tab_inForce_0 : decode b_Tab_inForce 0 = .ok (.aload_n 0, 1) := by decide +kernel
theorem d_Tab_inForce_1 : decode b_Tab_inForce 1 = .ok (.getfield 20, 3) := by decide +kernel
theorem d_Tab_inForce_4 : decode b_Tab_inForce 4 = .ok (.iconst 4, 1) := by decide +kernel
theorem d_Tab_inForce_5 : decode b_Tab_inForce 5 = .ok (.iload_n 1, 1) := by decide +kernel
theorem d_Tab_inForce_6 : decode b_Tab_inForce 6 = .ok (.invokestatic 37, 3) := by decide +kernel
theorem d_Tab_inForce_9 : decode b_Tab_inForce 9 = .ok (.iaload, 1) := by decide +kernel
theorem d_Tab_inForce_10 : decode b_Tab_inForce 10 = .ok (.ifCond .le 9, 3) := by decide +kernel
theorem d_Tab_inForce_13 : decode b_Tab_inForce 13 = .ok (.iconst 4, 1) := by decide +kernel
theorem d_Tab_inForce_14 : decode b_Tab_inForce 14 = .ok (.iload_n 1, 1) := by decide +kernel
theorem d_Tab_inForce_15 : decode b_Tab_inForce 15 = .ok (.invokestatic 37, 3) := by decide +kernel
theorem d_Tab_inForce_18 : decode b_Tab_inForce 18 = .ok (.ireturn, 1) := by decide +kernel
theorem d_Tab_inForce_19 : decode b_Tab_inForce 19 = .ok (.aload_n 0, 1) := by decide +kernel
theorem d_Tab_inForce_20 : decode b_Tab_inForce 20 = .ok (.getfield 29, 3) := by decide +kernel
theorem d_Tab_inForce_23 : decode b_Tab_inForce 23 = .ok (.istore_n 2, 1) := by decide +kernel
theorem d_Tab_inForce_24 : decode b_Tab_inForce 24 = .ok (.iload_n 2, 1) := by decide +kernel
theorem d_Tab_inForce_25 : decode b_Tab_inForce 25 = .ok (.ifCond .lt 28, 3) := by decide +kernel
theorem d_Tab_inForce_28 : decode b_Tab_inForce 28 = .ok (.aload_n 0, 1) := by decide +kernel
theorem d_Tab_inForce_29 : decode b_Tab_inForce 29 = .ok (.getfield 20, 3) := by decide +kernel
theorem d_Tab_inForce_32 : decode b_Tab_inForce 32 = .ok (.iload_n 2, 1) := by decide +kernel
theorem d_Tab_inForce_33 : decode b_Tab_inForce 33 = .ok (.iload_n 1, 1) := by decide +kernel
theorem d_Tab_inForce_34 : decode b_Tab_inForce 34 = .ok (.invokestatic 37, 3) := by decide +kernel
theorem d_Tab_inForce_37 : decode b_Tab_inForce 37 = .ok (.iaload, 1) := by decide +kernel
theorem d_Tab_inForce_38 : decode b_Tab_inForce 38 = .ok (.ifCond .le 9, 3) := by decide +kernel
theorem d_Tab_inForce_41 : decode b_Tab_inForce 41 = .ok (.iload_n 2, 1) := by decide +kernel
theorem d_Tab_inForce_42 : decode b_Tab_inForce 42 = .ok (.iload_n 1, 1) := by decide +kernel
theorem d_Tab_inForce_43 : decode b_Tab_inForce 43 = .ok (.invokestatic 37, 3) := by decide +kernel
theorem d_Tab_inForce_46 : decode b_Tab_inForce 46 = .ok (.ireturn, 1) := by decide +kernel
theorem d_Tab_inForce_47 : decode b_Tab_inForce 47 = .ok (.iinc 2 (-1), 3) := by decide +kernel
theorem d_Tab_inForce_50 : decode b_Tab_inForce 50 = .ok (.goto (-26), 3) := by decide +kernel
theorem d_Tab_inForce_53 : decode b_Tab_inForce 53 = .ok (.iconst (-1), 1) := by decide +kernel
theorem d_Tab_inForce_54 : decode b_Tab_inForce 54 = .ok (.ireturn, 1) := by decide +kernel
theorem d_Lps_leaveAll_0 : decode b_Lps_leaveAll 0 = .ok (.aload_n 0, 1) := by decide +kernel
theorem d_Lps_leaveAll_1 : decode b_Lps_leaveAll 1 = .ok (.iconst 0, 1) := by decide +kernel
theorem d_Lps_leaveAll_2 : decode b_Lps_leaveAll 2 = .ok (.putfield 26, 3) := by decide +kernel
theorem d_Lps_leaveAll_5 : decode b_Lps_leaveAll 5 = .ok (.return_, 1) := by decide +kernel
theorem d_Lps_enter_0 : decode b_Lps_enter 0 = .ok (.aload_n 0, 1) := by decide +kernel
theorem d_Lps_enter_1 : decode b_Lps_enter 1 = .ok (.getfield 26, 3) := by decide +kernel
theorem d_Lps_enter_4 : decode b_Lps_enter 4 = .ok (.bipush 64, 2) := by decide +kernel
theorem d_Lps_enter_6 : decode b_Lps_enter 6 = .ok (.if_icmp .ge 53, 3) := by decide +kernel
theorem d_Lps_enter_9 : decode b_Lps_enter 9 = .ok (.aload_n 0, 1) := by decide +kernel
theorem d_Lps_enter_10 : decode b_Lps_enter 10 = .ok (.getfield 11, 3) := by decide +kernel
theorem d_Lps_enter_13 : decode b_Lps_enter 13 = .ok (.aload_n 0, 1) := by decide +kernel
theorem d_Lps_enter_14 : decode b_Lps_enter 14 = .ok (.getfield 26, 3) := by decide +kernel
theorem d_Lps_enter_17 : decode b_Lps_enter 17 = .ok (.iload_n 1, 1) := by decide +kernel
theorem d_Lps_enter_18 : decode b_Lps_enter 18 = .ok (.iastore, 1) := by decide +kernel
theorem d_Lps_enter_19 : decode b_Lps_enter 19 = .ok (.aload_n 0, 1) := by decide +kernel
theorem d_Lps_enter_20 : decode b_Lps_enter 20 = .ok (.getfield 17, 3) := by decide +kernel
theorem d_Lps_enter_23 : decode b_Lps_enter 23 = .ok (.aload_n 0, 1) := by decide +kernel
theorem d_Lps_enter_24 : decode b_Lps_enter 24 = .ok (.getfield 26, 3) := by decide +kernel
theorem d_Lps_enter_27 : decode b_Lps_enter 27 = .ok (.iload_n 2, 1) := by decide +kernel
theorem d_Lps_enter_28 : decode b_Lps_enter 28 = .ok (.iastore, 1) := by decide +kernel
theorem d_Lps_enter_29 : decode b_Lps_enter 29 = .ok (.aload_n 0, 1) := by decide +kernel
theorem d_Lps_enter_30 : decode b_Lps_enter 30 = .ok (.getfield 20, 3) := by decide +kernel
theorem d_Lps_enter_33 : decode b_Lps_enter 33 = .ok (.aload_n 0, 1) := by decide +kernel
theorem d_Lps_enter_34 : decode b_Lps_enter 34 = .ok (.getfield 26, 3) := by decide +kernel
theorem d_Lps_enter_37 : decode b_Lps_enter 37 = .ok (.iload_n 3, 1) := by decide +kernel
theorem d_Lps_enter_38 : decode b_Lps_enter 38 = .ok (.iastore, 1) := by decide +kernel
theorem d_Lps_enter_39 : decode b_Lps_enter 39 = .ok (.aload_n 0, 1) := by decide +kernel
theorem d_Lps_enter_40 : decode b_Lps_enter 40 = .ok (.getfield 23, 3) := by decide +kernel
theorem d_Lps_enter_43 : decode b_Lps_enter 43 = .ok (.aload_n 0, 1) := by decide +kernel
theorem d_Lps_enter_44 : decode b_Lps_enter 44 = .ok (.getfield 26, 3) := by decide +kernel
theorem d_Lps_enter_47 : decode b_Lps_enter 47 = .ok (.iconst 0, 1) := by decide +kernel
theorem d_Lps_enter_48 : decode b_Lps_enter 48 = .ok (.iastore, 1) := by decide +kernel
theorem d_Lps_enter_49 : decode b_Lps_enter 49 = .ok (.aload_n 0, 1) := by decide +kernel
theorem d_Lps_enter_50 : decode b_Lps_enter 50 = .ok (.dup, 1) := by decide +kernel
theorem d_Lps_enter_51 : decode b_Lps_enter 51 = .ok (.getfield 26, 3) := by decide +kernel
theorem d_Lps_enter_54 : decode b_Lps_enter 54 = .ok (.iconst 1, 1) := by decide +kernel
theorem d_Lps_enter_55 : decode b_Lps_enter 55 = .ok (.iadd, 1) := by decide +kernel
theorem d_Lps_enter_56 : decode b_Lps_enter 56 = .ok (.putfield 26, 3) := by decide +kernel
theorem d_Lps_enter_59 : decode b_Lps_enter 59 = .ok (.return_, 1) := by decide +kernel
theorem d_Lps_repetition_0 : decode b_Lps_repetition 0 = .ok (.aload_n 0, 1) := by decide +kernel
theorem d_Lps_repetition_1 : decode b_Lps_repetition 1 = .ok (.getfield 26, 3) := by decide +kernel
theorem d_Lps_repetition_4 : decode b_Lps_repetition 4 = .ok (.ifCond .ne 7, 3) := by decide +kernel
theorem d_Lps_repetition_7 : decode b_Lps_repetition 7 = .ok (.iconst (-1), 1) := by decide +kernel
theorem d_Lps_repetition_8 : decode b_Lps_repetition 8 = .ok (.goto 14, 3) := by decide +kernel
theorem d_Lps_repetition_11 : decode b_Lps_repetition 11 = .ok (.aload_n 0, 1) := by decide +kernel
theorem d_Lps_repetition_12 : decode b_Lps_repetition 12 = .ok (.getfield 23, 3) := by decide +kernel
theorem d_Lps_repetition_15 : decode b_Lps_repetition 15 = .ok (.aload_n 0, 1) := by decide +kernel
theorem d_Lps_repetition_16 : decode b_Lps_repetition 16 = .ok (.getfield 26, 3) := by decide +kernel
theorem d_Lps_repetition_19 : decode b_Lps_repetition 19 = .ok (.iconst 1, 1) := by decide +kernel
theorem d_Lps_repetition_20 : decode b_Lps_repetition 20 = .ok (.isub, 1) := by decide +kernel
theorem d_Lps_repetition_21 : decode b_Lps_repetition 21 = .ok (.iaload, 1) := by decide +kernel
theorem d_Lps_repetition_22 : decode b_Lps_repetition 22 = .ok (.ireturn, 1) := by decide +kernel
theorem d_Lps_onFrom_0 : decode b_Lps_onFrom 0 = .ok (.aload_n 0, 1) := by decide +kernel
theorem d_Lps_onFrom_1 : decode b_Lps_onFrom 1 = .ok (.getfield 26, 3) := by decide +kernel
theorem d_Lps_onFrom_4 : decode b_Lps_onFrom 4 = .ok (.ifCond .le 70, 3) := by decide +kernel
theorem d_Lps_onFrom_7 : decode b_Lps_onFrom 7 = .ok (.iload_n 1, 1) := by decide +kernel
theorem d_Lps_onFrom_8 : decode b_Lps_onFrom 8 = .ok (.aload_n 0, 1) := by decide +kernel
theorem d_Lps_onFrom_9 : decode b_Lps_onFrom 9 = .ok (.getfield 17, 3) := by decide +kernel
theorem d_Lps_onFrom_12 : decode b_Lps_onFrom 12 = .ok (.aload_n 0, 1) := by decide +kernel
theorem d_Lps_onFrom_13 : decode b_Lps_onFrom 13 = .ok (.getfield 26, 3) := by decide +kernel
theorem d_Lps_onFrom_16 : decode b_Lps_onFrom 16 = .ok (.iconst 1, 1) := by decide +kernel
theorem d_Lps_onFrom_17 : decode b_Lps_onFrom 17 = .ok (.isub, 1) := by decide +kernel
theorem d_Lps_onFrom_18 : decode b_Lps_onFrom 18 = .ok (.iaload, 1) := by decide +kernel
theorem d_Lps_onFrom_19 : decode b_Lps_onFrom 19 = .ok (.if_icmp .ne 55, 3) := by decide +kernel
theorem d_Lps_onFrom_22 : decode b_Lps_onFrom 22 = .ok (.aload_n 0, 1) := by decide +kernel
theorem d_Lps_onFrom_23 : decode b_Lps_onFrom 23 = .ok (.getfield 26, 3) := by decide +kernel
theorem d_Lps_onFrom_26 : decode b_Lps_onFrom 26 = .ok (.iconst 1, 1) := by decide +kernel
theorem d_Lps_onFrom_27 : decode b_Lps_onFrom 27 = .ok (.isub, 1) := by decide +kernel
theorem d_Lps_onFrom_28 : decode b_Lps_onFrom 28 = .ok (.istore_n 2, 1) := by decide +kernel
theorem d_Lps_onFrom_29 : decode b_Lps_onFrom 29 = .ok (.aload_n 0, 1) := by decide +kernel
theorem d_Lps_onFrom_30 : decode b_Lps_onFrom 30 = .ok (.getfield 23, 3) := by decide +kernel
theorem d_Lps_onFrom_33 : decode b_Lps_onFrom 33 = .ok (.iload_n 2, 1) := by decide +kernel
theorem d_Lps_onFrom_34 : decode b_Lps_onFrom 34 = .ok (.dup2, 1) := by decide +kernel
theorem d_Lps_onFrom_35 : decode b_Lps_onFrom 35 = .ok (.iaload, 1) := by decide +kernel
theorem d_Lps_onFrom_36 : decode b_Lps_onFrom 36 = .ok (.iconst 1, 1) := by decide +kernel
theorem d_Lps_onFrom_37 : decode b_Lps_onFrom 37 = .ok (.iadd, 1) := by decide +kernel
theorem d_Lps_onFrom_38 : decode b_Lps_onFrom 38 = .ok (.iastore, 1) := by decide +kernel
theorem d_Lps_onFrom_39 : decode b_Lps_onFrom 39 = .ok (.aload_n 0, 1) := by decide +kernel
theorem d_Lps_onFrom_40 : decode b_Lps_onFrom 40 = .ok (.getfield 23, 3) := by decide +kernel
theorem d_Lps_onFrom_43 : decode b_Lps_onFrom 43 = .ok (.iload_n 2, 1) := by decide +kernel
theorem d_Lps_onFrom_44 : decode b_Lps_onFrom 44 = .ok (.iaload, 1) := by decide +kernel
theorem d_Lps_onFrom_45 : decode b_Lps_onFrom 45 = .ok (.aload_n 0, 1) := by decide +kernel
theorem d_Lps_onFrom_46 : decode b_Lps_onFrom 46 = .ok (.getfield 20, 3) := by decide +kernel
theorem d_Lps_onFrom_49 : decode b_Lps_onFrom 49 = .ok (.iload_n 2, 1) := by decide +kernel
theorem d_Lps_onFrom_50 : decode b_Lps_onFrom 50 = .ok (.iaload, 1) := by decide +kernel
theorem d_Lps_onFrom_51 : decode b_Lps_onFrom 51 = .ok (.if_icmp .ge 10, 3) := by decide +kernel
theorem d_Lps_onFrom_54 : decode b_Lps_onFrom 54 = .ok (.aload_n 0, 1) := by decide +kernel
theorem d_Lps_onFrom_55 : decode b_Lps_onFrom 55 = .ok (.getfield 11, 3) := by decide +kernel
theorem d_Lps_onFrom_58 : decode b_Lps_onFrom 58 = .ok (.iload_n 2, 1) := by decide +kernel
theorem d_Lps_onFrom_59 : decode b_Lps_onFrom 59 = .ok (.iaload, 1) := by decide +kernel
theorem d_Lps_onFrom_60 : decode b_Lps_onFrom 60 = .ok (.ireturn, 1) := by decide +kernel
theorem d_Lps_onFrom_61 : decode b_Lps_onFrom 61 = .ok (.aload_n 0, 1) := by decide +kernel
theorem d_Lps_onFrom_62 : decode b_Lps_onFrom 62 = .ok (.dup, 1) := by decide +kernel
theorem d_Lps_onFrom_63 : decode b_Lps_onFrom 63 = .ok (.getfield 26, 3) := by decide +kernel
theorem d_Lps_onFrom_66 : decode b_Lps_onFrom 66 = .ok (.iconst 1, 1) := by decide +kernel
theorem d_Lps_onFrom_67 : decode b_Lps_onFrom 67 = .ok (.isub, 1) := by decide +kernel
theorem d_Lps_onFrom_68 : decode b_Lps_onFrom 68 = .ok (.putfield 26, 3) := by decide +kernel
theorem d_Lps_onFrom_71 : decode b_Lps_onFrom 71 = .ok (.goto (-71), 3) := by decide +kernel
theorem d_Lps_onFrom_74 : decode b_Lps_onFrom 74 = .ok (.iload_n 1, 1) := by decide +kernel
theorem d_Lps_onFrom_75 : decode b_Lps_onFrom 75 = .ok (.ireturn, 1) := by decide +kernel
theorem d_Bits_byteCount_0 : decode b_Bits_byteCount 0 = .ok (.aload_n 0, 1) := by decide +kernel
theorem d_Bits_byteCount_1 : decode b_Bits_byteCount 1 = .ok (.getfield 19, 3) := by decide +kernel
theorem d_Bits_byteCount_4 : decode b_Bits_byteCount 4 = .ok (.bipush 7, 2) := by decide +kernel
theorem d_Bits_byteCount_6 : decode b_Bits_byteCount 6 = .ok (.iadd, 1) := by decide +kernel
theorem d_Bits_byteCount_7 : decode b_Bits_byteCount 7 = .ok (.bipush 8, 2) := by decide +kernel
theorem d_Bits_byteCount_9 : decode b_Bits_byteCount 9 = .ok (.idiv, 1) := by decide +kernel
theorem d_Bits_byteCount_10 : decode b_Bits_byteCount 10 = .ok (.ireturn, 1) := by decide +kernel
theorem d_Bits_bitAt_0 : decode b_Bits_bitAt 0 = .ok (.iload_n 1, 1) := by decide +kernel
theorem d_Bits_bitAt_1 : decode b_Bits_bitAt 1 = .ok (.ifCond .lt 33, 3) := by decide +kernel
theorem d_Bits_bitAt_4 : decode b_Bits_bitAt 4 = .ok (.iload_n 1, 1) := by decide +kernel
theorem d_Bits_bitAt_5 : decode b_Bits_bitAt 5 = .ok (.aload_n 0, 1) := by decide +kernel
theorem d_Bits_bitAt_6 : decode b_Bits_bitAt 6 = .ok (.getfield 19, 3) := by decide +kernel
theorem d_Bits_bitAt_9 : decode b_Bits_bitAt 9 = .ok (.if_icmp .ge 25, 3) := by decide +kernel
theorem d_Bits_bitAt_12 : decode b_Bits_bitAt 12 = .ok (.aload_n 0, 1) := by decide +kernel
theorem d_Bits_bitAt_13 : decode b_Bits_bitAt 13 = .ok (.getfield 7, 3) := by decide +kernel
theorem d_Bits_bitAt_16 : decode b_Bits_bitAt 16 = .ok (.iload_n 1, 1) := by decide +kernel
theorem d_Bits_bitAt_17 : decode b_Bits_bitAt 17 = .ok (.bipush 8, 2) := by decide +kernel
theorem d_Bits_bitAt_19 : decode b_Bits_bitAt 19 = .ok (.idiv, 1) := by decide +kernel
theorem d_Bits_bitAt_20 : decode b_Bits_bitAt 20 = .ok (.iaload, 1) := by decide +kernel
theorem d_Bits_bitAt_21 : decode b_Bits_bitAt 21 = .ok (.bipush 7, 2) := by decide +kernel
theorem d_Bits_bitAt_23 : decode b_Bits_bitAt 23 = .ok (.iload_n 1, 1) := by decide +kernel
theorem d_Bits_bitAt_24 : decode b_Bits_bitAt 24 = .ok (.bipush 8, 2) := by decide +kernel
theorem d_Bits_bitAt_26 : decode b_Bits_bitAt 26 = .ok (.irem, 1) := by decide +kernel
theorem d_Bits_bitAt_27 : decode b_Bits_bitAt 27 = .ok (.isub, 1) := by decide +kernel
theorem d_Bits_bitAt_28 : decode b_Bits_bitAt 28 = .ok (.ishr, 1) := by decide +kernel
theorem d_Bits_bitAt_29 : decode b_Bits_bitAt 29 = .ok (.iconst 1, 1) := by decide +kernel
theorem d_Bits_bitAt_30 : decode b_Bits_bitAt 30 = .ok (.iand, 1) := by decide +kernel
theorem d_Bits_bitAt_31 : decode b_Bits_bitAt 31 = .ok (.goto 4, 3) := by decide +kernel
theorem d_Bits_bitAt_34 : decode b_Bits_bitAt 34 = .ok (.iconst 0, 1) := by decide +kernel
theorem d_Bits_bitAt_35 : decode b_Bits_bitAt 35 = .ok (.ireturn, 1) := by decide +kernel
theorem d_Bits_numberAt_0 : decode b_Bits_numberAt 0 = .ok (.lconst 0, 1) := by decide +kernel
theorem d_Bits_numberAt_1 : decode b_Bits_numberAt 1 = .ok (.lstore_n 3, 1) := by decide +kernel
theorem d_Bits_numberAt_2 : decode b_Bits_numberAt 2 = .ok (.iload_n 1, 1) := by decide +kernel
theorem d_Bits_numberAt_3 : decode b_Bits_numberAt 3 = .ok (.istore 5, 2) := by decide +kernel
theorem d_Bits_numberAt_5 : decode b_Bits_numberAt 5 = .ok (.iload 5, 2) := by decide +kernel
theorem d_Bits_numberAt_7 : decode b_Bits_numberAt 7 = .ok (.iload_n 1, 1) := by decide +kernel
theorem d_Bits_numberAt_8 : decode b_Bits_numberAt 8 = .ok (.iload_n 2, 1) := by decide +kernel
theorem d_Bits_numberAt_9 : decode b_Bits_numberAt 9 = .ok (.iadd, 1) := by decide +kernel
theorem d_Bits_numberAt_10 : decode b_Bits_numberAt 10 = .ok (.if_icmp .ge 21, 3) := by decide +kernel
theorem d_Bits_numberAt_13 : decode b_Bits_numberAt 13 = .ok (.lload_n 3, 1) := by decide +kernel
theorem d_Bits_numberAt_14 : decode b_Bits_numberAt 14 = .ok (.iconst 1, 1) := by decide +kernel
theorem d_Bits_numberAt_15 : decode b_Bits_numberAt 15 = .ok (.lshl, 1) := by decide +kernel
theorem d_Bits_numberAt_16 : decode b_Bits_numberAt 16 = .ok (.aload_n 0, 1) := by decide +kernel
theorem d_Bits_numberAt_17 : decode b_Bits_numberAt 17 = .ok (.iload 5, 2) := by decide +kernel
theorem d_Bits_numberAt_19 : decode b_Bits_numberAt 19 = .ok (.invokevirtual 23, 3) := by decide +kernel
theorem d_Bits_numberAt_22 : decode b_Bits_numberAt 22 = .ok (.i2l, 1) := by decide +kernel
theorem d_Bits_numberAt_23 : decode b_Bits_numberAt 23 = .ok (.lor, 1) := by decide +kernel
theorem d_Bits_numberAt_24 : decode b_Bits_numberAt 24 = .ok (.lstore_n 3, 1) := by decide +kernel
theorem d_Bits_numberAt_25 : decode b_Bits_numberAt 25 = .ok (.iinc 5 1, 3) := by decide +kernel
theorem d_Bits_numberAt_28 : decode b_Bits_numberAt 28 = .ok (.goto (-23), 3) := by decide +kernel
theorem d_Bits_numberAt_31 : decode b_Bits_numberAt 31 = .ok (.lload_n 3, 1) := by decide +kernel
theorem d_Bits_numberAt_32 : decode b_Bits_numberAt 32 = .ok (.lreturn, 1) := by decide +kernel
theorem d_Bits_add_0 : decode b_Bits_add 0 = .ok (.iload_n 3, 1) := by decide +kernel
theorem d_Bits_add_1 : decode b_Bits_add 1 = .ok (.iconst 1, 1) := by decide +kernel
theorem d_Bits_add_2 : decode b_Bits_add 2 = .ok (.isub, 1) := by decide +kernel
theorem d_Bits_add_3 : decode b_Bits_add 3 = .ok (.istore 4, 2) := by decide +kernel
theorem d_Bits_add_5 : decode b_Bits_add 5 = .ok (.iload 4, 2) := by decide +kernel
theorem d_Bits_add_7 : decode b_Bits_add 7 = .ok (.ifCond .lt 71, 3) := by decide +kernel
theorem d_Bits_add_10 : decode b_Bits_add 10 = .ok (.aload_n 0, 1) := by decide +kernel
theorem d_Bits_add_11 : decode b_Bits_add 11 = .ok (.getfield 19, 3) := by decide +kernel
theorem d_Bits_add_14 : decode b_Bits_add 14 = .ok (.bipush 8, 2) := by decide +kernel
theorem d_Bits_add_16 : decode b_Bits_add 16 = .ok (.idiv, 1) := by decide +kernel
theorem d_Bits_add_17 : decode b_Bits_add 17 = .ok (.aload_n 0, 1) := by decide +kernel
theorem d_Bits_add_18 : decode b_Bits_add 18 = .ok (.getfield 7, 3) := by decide +kernel
theorem d_Bits_add_21 : decode b_Bits_add 21 = .ok (.arraylength, 1) := by decide +kernel
theorem d_Bits_add_22 : decode b_Bits_add 22 = .ok (.if_icmp .ge 56, 3) := by decide +kernel
theorem d_Bits_add_25 : decode b_Bits_add 25 = .ok (.lload_n 1, 1) := by decide +kernel
theorem d_Bits_add_26 : decode b_Bits_add 26 = .ok (.iload 4, 2) := by decide +kernel
theorem d_Bits_add_28 : decode b_Bits_add 28 = .ok (.lshr, 1) := by decide +kernel
theorem d_Bits_add_29 : decode b_Bits_add 29 = .ok (.lconst 1, 1) := by decide +kernel
theorem d_Bits_add_30 : decode b_Bits_add 30 = .ok (.land, 1) := by decide +kernel
theorem d_Bits_add_31 : decode b_Bits_add 31 = .ok (.lconst 0, 1) := by decide +kernel
theorem d_Bits_add_32 : decode b_Bits_add 32 = .ok (.lcmp, 1) := by decide +kernel
theorem d_Bits_add_33 : decode b_Bits_add 33 = .ok (.ifCond .eq 29, 3) := by decide +kernel
theorem d_Bits_add_36 : decode b_Bits_add 36 = .ok (.aload_n 0, 1) := by decide +kernel
theorem d_Bits_add_37 : decode b_Bits_add 37 = .ok (.getfield 7, 3) := by decide +kernel
theorem d_Bits_add_40 : decode b_Bits_add 40 = .ok (.aload_n 0, 1) := by decide +kernel
theorem d_Bits_add_41 : decode b_Bits_add 41 = .ok (.getfield 19, 3) := by decide +kernel
theorem d_Bits_add_44 : decode b_Bits_add 44 = .ok (.bipush 8, 2) := by decide +kernel
theorem d_Bits_add_46 : decode b_Bits_add 46 = .ok (.idiv, 1) := by decide +kernel
theorem d_Bits_add_47 : decode b_Bits_add 47 = .ok (.dup2, 1) := by decide +kernel
theorem d_Bits_add_48 : decode b_Bits_add 48 = .ok (.iaload, 1) := by decide +kernel
theorem d_Bits_add_49 : decode b_Bits_add 49 = .ok (.sipush 128, 3) := by decide +kernel
theorem d_Bits_add_52 : decode b_Bits_add 52 = .ok (.aload_n 0, 1) := by decide +kernel
theorem d_Bits_add_53 : decode b_Bits_add 53 = .ok (.getfield 19, 3) := by decide +kernel
theorem d_Bits_add_56 : decode b_Bits_add 56 = .ok (.bipush 8, 2) := by decide +kernel
theorem d_Bits_add_58 : decode b_Bits_add 58 = .ok (.irem, 1) := by decide +kernel
theorem d_Bits_add_59 : decode b_Bits_add 59 = .ok (.ishr, 1) := by decide +kernel
theorem d_Bits_add_60 : decode b_Bits_add 60 = .ok (.ior, 1) := by decide +kernel
theorem d_Bits_add_61 : decode b_Bits_add 61 = .ok (.iastore, 1) := by decide +kernel
theorem d_Bits_add_62 : decode b_Bits_add 62 = .ok (.aload_n 0, 1) := by decide +kernel
theorem d_Bits_add_63 : decode b_Bits_add 63 = .ok (.dup, 1) := by decide +kernel
theorem d_Bits_add_64 : decode b_Bits_add 64 = .ok (.getfield 19, 3) := by decide +kernel
theorem d_Bits_add_67 : decode b_Bits_add 67 = .ok (.iconst 1, 1) := by decide +kernel
theorem d_Bits_add_68 : decode b_Bits_add 68 = .ok (.iadd, 1) := by decide +kernel
theorem d_Bits_add_69 : decode b_Bits_add 69 = .ok (.putfield 19, 3) := by decide +kernel
theorem d_Bits_add_72 : decode b_Bits_add 72 = .ok (.iinc 4 (-1), 3) := by decide +kernel
theorem d_Bits_add_75 : decode b_Bits_add 75 = .ok (.goto (-70), 3) := by decide +kernel
theorem d_Bits_add_78 : decode b_Bits_add 78 = .ok (.return_, 1) := by decide +kernel
theorem d_Desc_isElement_0 : decode b_Desc_isElement 0 = .ok (.iload_n 0, 1) := by decide +kernel
theorem d_Desc_isElement_1 : decode b_Desc_isElement 1 = .ok (.ifCond .lt 13, 3) := by decide +kernel
theorem d_Desc_isElement_4 : decode b_Desc_isElement 4 = .ok (.iload_n 0, 1) := by decide +kernel
theorem d_Desc_isElement_5 : decode b_Desc_isElement 5 = .ok (.bipush 64, 2) := by decide +kernel
theorem d_Desc_isElement_7 : decode b_Desc_isElement 7 = .ok (.if_icmp .ge 7, 3) := by decide +kernel
theorem d_Desc_isElement_10 : decode b_Desc_isElement 10 = .ok (.iconst 1, 1) := by decide +kernel
theorem d_Desc_isElement_11 : decode b_Desc_isElement 11 = .ok (.goto 4, 3) := by decide +kernel
theorem d_Desc_isElement_14 : decode b_Desc_isElement 14 = .ok (.iconst 0, 1) := by decide +kernel
theorem d_Desc_isElement_15 : decode b_Desc_isElement 15 = .ok (.ireturn, 1) := by decide +kernel
theorem d_Desc_sequenceOf_0 : decode b_Desc_sequenceOf 0 = .ok (.iload_n 0, 1) := by decide +kernel
theorem d_Desc_sequenceOf_1 : decode b_Desc_sequenceOf 1 = .ok (.bipush 100, 2) := by decide +kernel
theorem d_Desc_sequenceOf_3 : decode b_Desc_sequenceOf 3 = .ok (.if_icmp .lt 16, 3) := by decide +kernel
theorem d_Desc_sequenceOf_6 : decode b_Desc_sequenceOf 6 = .ok (.iload_n 0, 1) := by decide +kernel
theorem d_Desc_sequenceOf_7 : decode b_Desc_sequenceOf 7 = .ok (.bipush 116, 2) := by decide +kernel
theorem d_Desc_sequenceOf_9 : decode b_Desc_sequenceOf 9 = .ok (.if_icmp .ge 10, 3) := by decide +kernel
theorem d_Desc_sequenceOf_12 : decode b_Desc_sequenceOf 12 = .ok (.iload_n 0, 1) := by decide +kernel
theorem d_Desc_sequenceOf_13 : decode b_Desc_sequenceOf 13 = .ok (.bipush 100, 2) := by decide +kernel
theorem d_Desc_sequenceOf_15 : decode b_Desc_sequenceOf 15 = .ok (.isub, 1) := by decide +kernel
theorem d_Desc_sequenceOf_16 : decode b_Desc_sequenceOf 16 = .ok (.goto 4, 3) := by decide +kernel
theorem d_Desc_sequenceOf_19 : decode b_Desc_sequenceOf 19 = .ok (.iconst (-1), 1) := by decide +kernel
theorem d_Desc_sequenceOf_20 : decode b_Desc_sequenceOf 20 = .ok (.ireturn, 1) := by decide +kernel
theorem d_Desc_isRepeat_0 : decode b_Desc_isRepeat 0 = .ok (.iload_n 0, 1) := by decide +kernel
theorem d_Desc_isRepeat_1 : decode b_Desc_isRepeat 1 = .ok (.sipush 216, 3) := by decide +kernel
theorem d_Desc_isRepeat_4 : decode b_Desc_isRepeat 4 = .ok (.if_icmp .lt 14, 3) := by decide +kernel
theorem d_Desc_isRepeat_7 : decode b_Desc_isRepeat 7 = .ok (.iload_n 0, 1) := by decide +kernel
theorem d_Desc_isRepeat_8 : decode b_Desc_isRepeat 8 = .ok (.sipush 343, 3) := by decide +kernel
theorem d_Desc_isRepeat_11 : decode b_Desc_isRepeat 11 = .ok (.if_icmp .gt 7, 3) := by decide +kernel
theorem d_Desc_isRepeat_14 : decode b_Desc_isRepeat 14 = .ok (.iconst 1, 1) := by decide +kernel
theorem d_Desc_isRepeat_15 : decode b_Desc_isRepeat 15 = .ok (.goto 4, 3) := by decide +kernel
theorem d_Desc_isRepeat_18 : decode b_Desc_isRepeat 18 = .ok (.iconst 0, 1) := by decide +kernel
theorem d_Desc_isRepeat_19 : decode b_Desc_isRepeat 19 = .ok (.ireturn, 1) := by decide +kernel
theorem d_Desc_lengthOf_0 : decode b_Desc_lengthOf 0 = .ok (.iload_n 0, 1) := by decide +kernel
theorem d_Desc_lengthOf_1 : decode b_Desc_lengthOf 1 = .ok (.sipush 200, 3) := by decide +kernel
theorem d_Desc_lengthOf_4 : decode b_Desc_lengthOf 4 = .ok (.isub, 1) := by decide +kernel
theorem d_Desc_lengthOf_5 : decode b_Desc_lengthOf 5 = .ok (.bipush 16, 2) := by decide +kernel
theorem d_Desc_lengthOf_7 : decode b_Desc_lengthOf 7 = .ok (.idiv, 1) := by decide +kernel
theorem d_Desc_lengthOf_8 : decode b_Desc_lengthOf 8 = .ok (.ireturn, 1) := by decide +kernel
theorem d_Desc_timesOf_0 : decode b_Desc_timesOf 0 = .ok (.iload_n 0, 1) := by decide +kernel
theorem d_Desc_timesOf_1 : decode b_Desc_timesOf 1 = .ok (.sipush 200, 3) := by decide +kernel
theorem d_Desc_timesOf_4 : decode b_Desc_timesOf 4 = .ok (.isub, 1) := by decide +kernel
theorem d_Desc_timesOf_5 : decode b_Desc_timesOf 5 = .ok (.bipush 16, 2) := by decide +kernel
theorem d_Desc_timesOf_7 : decode b_Desc_timesOf 7 = .ok (.irem, 1) := by decide +kernel
theorem d_Desc_timesOf_8 : decode b_Desc_timesOf 8 = .ok (.ireturn, 1) := by decide +kernel
theorem d_Desc_operatorOf_0 : decode b_Desc_operatorOf 0 = .ok (.iconst 0, 1) := by decide +kernel
theorem d_Desc_operatorOf_1 : decode b_Desc_operatorOf 1 = .ok (.istore_n 1, 1) := by decide +kernel
theorem d_Desc_operatorOf_2 : decode b_Desc_operatorOf 2 = .ok (.iload_n 1, 1) := by decide +kernel
theorem d_Desc_operatorOf_3 : decode b_Desc_operatorOf 3 = .ok (.iconst 4, 1) := by decide +kernel
theorem d_Desc_operatorOf_4 : decode b_Desc_operatorOf 4 = .ok (.if_icmp .ge 29, 3) := by decide +kernel
theorem d_Desc_operatorOf_7 : decode b_Desc_operatorOf 7 = .ok (.iload_n 0, 1) := by decide +kernel
theorem d_Desc_operatorOf_8 : decode b_Desc_operatorOf 8 = .ok (.getstatic 31, 3) := by decide +kernel
theorem d_Desc_operatorOf_11 : decode b_Desc_operatorOf 11 = .ok (.iload_n 1, 1) := by decide +kernel
theorem d_Desc_operatorOf_12 : decode b_Desc_operatorOf 12 = .ok (.iaload, 1) := by decide +kernel
theorem d_Desc_operatorOf_13 : decode b_Desc_operatorOf 13 = .ok (.if_icmp .lt 14, 3) := by decide +kernel
theorem d_Desc_operatorOf_16 : decode b_Desc_operatorOf 16 = .ok (.iload_n 0, 1) := by decide +kernel
theorem d_Desc_operatorOf_17 : decode b_Desc_operatorOf 17 = .ok (.getstatic 35, 3) := by decide +kernel
theorem d_Desc_operatorOf_20 : decode b_Desc_operatorOf 20 = .ok (.iload_n 1, 1) := by decide +kernel
theorem d_Desc_operatorOf_21 : decode b_Desc_operatorOf 21 = .ok (.iaload, 1) := by decide +kernel
theorem d_Desc_operatorOf_22 : decode b_Desc_operatorOf 22 = .ok (.if_icmp .gt 5, 3) := by decide +kernel
theorem d_Desc_operatorOf_25 : decode b_Desc_operatorOf 25 = .ok (.iload_n 1, 1) := by decide +kernel
theorem d_Desc_operatorOf_26 : decode b_Desc_operatorOf 26 = .ok (.ireturn, 1) := by decide +kernel
theorem d_Desc_operatorOf_27 : decode b_Desc_operatorOf 27 = .ok (.iinc 1 1, 3) := by decide +kernel
theorem d_Desc_operatorOf_30 : decode b_Desc_operatorOf 30 = .ok (.goto (-28), 3) := by decide +kernel
theorem d_Desc_operatorOf_33 : decode b_Desc_operatorOf 33 = .ok (.iconst (-1), 1) := by decide +kernel
theorem d_Desc_operatorOf_34 : decode b_Desc_operatorOf 34 = .ok (.ireturn, 1) := by decide +kernel
theorem d_Desc_settingOf_0 : decode b_Desc_settingOf 0 = .ok (.iload_n 0, 1) := by decide +kernel
theorem d_Desc_settingOf_1 : decode b_Desc_settingOf 1 = .ok (.getstatic 31, 3) := by decide +kernel
theorem d_Desc_settingOf_4 : decode b_Desc_settingOf 4 = .ok (.iload_n 1, 1) := by decide +kernel
theorem d_Desc_settingOf_5 : decode b_Desc_settingOf 5 = .ok (.iaload, 1) := by decide +kernel
theorem d_Desc_settingOf_6 : decode b_Desc_settingOf 6 = .ok (.isub, 1) := by decide +kernel
theorem d_Desc_settingOf_7 : decode b_Desc_settingOf 7 = .ok (.ireturn, 1) := by decide +kernel
theorem d_Desc_addedWidth_0 : decode b_Desc_addedWidth 0 = .ok (.iload_n 0, 1) := by decide +kernel
theorem d_Desc_addedWidth_1 : decode b_Desc_addedWidth 1 = .ok (.ifCond .ne 7, 3) := by decide +kernel
theorem d_Desc_addedWidth_4 : decode b_Desc_addedWidth 4 = .ok (.iconst 0, 1) := by decide +kernel
theorem d_Desc_addedWidth_5 : decode b_Desc_addedWidth 5 = .ok (.goto 7, 3) := by decide +kernel
theorem d_Desc_addedWidth_8 : decode b_Desc_addedWidth 8 = .ok (.iload_n 0, 1) := by decide +kernel
theorem d_Desc_addedWidth_9 : decode b_Desc_addedWidth 9 = .ok (.bipush 16, 2) := by decide +kernel
theorem d_Desc_addedWidth_11 : decode b_Desc_addedWidth 11 = .ok (.isub, 1) := by decide +kernel
theorem d_Desc_addedWidth_12 : decode b_Desc_addedWidth 12 = .ok (.ireturn, 1) := by decide +kernel
theorem d_Desc_addedScale_0 : decode b_Desc_addedScale 0 = .ok (.iload_n 0, 1) := by decide +kernel
theorem d_Desc_addedScale_1 : decode b_Desc_addedScale 1 = .ok (.ifCond .ne 7, 3) := by decide +kernel
theorem d_Desc_addedScale_4 : decode b_Desc_addedScale 4 = .ok (.iconst 0, 1) := by decide +kernel
theorem d_Desc_addedScale_5 : decode b_Desc_addedScale 5 = .ok (.goto 7, 3) := by decide +kernel
theorem d_Desc_addedScale_8 : decode b_Desc_addedScale 8 = .ok (.iload_n 0, 1) := by decide +kernel
theorem d_Desc_addedScale_9 : decode b_Desc_addedScale 9 = .ok (.bipush 8, 2) := by decide +kernel
theorem d_Desc_addedScale_11 : decode b_Desc_addedScale 11 = .ok (.isub, 1) := by decide +kernel
theorem d_Desc_addedScale_12 : decode b_Desc_addedScale 12 = .ok (.ireturn, 1) := by decide +kernel
theorem d_Desc_bitsOf_0 : decode b_Desc_bitsOf 0 = .ok (.iload_n 0, 1) := by decide +kernel
theorem d_Desc_bitsOf_1 : decode b_Desc_bitsOf 1 = .ok (.sipush 500, 3) := by decide +kernel
theorem d_Desc_bitsOf_4 : decode b_Desc_bitsOf 4 = .ok (.if_icmp .le 18, 3) := by decide +kernel
theorem d_Desc_bitsOf_7 : decode b_Desc_bitsOf 7 = .ok (.iload_n 0, 1) := by decide +kernel
theorem d_Desc_bitsOf_8 : decode b_Desc_bitsOf 8 = .ok (.sipush 516, 3) := by decide +kernel
theorem d_Desc_bitsOf_11 : decode b_Desc_bitsOf 11 = .ok (.if_icmp .gt 11, 3) := by decide +kernel
theorem d_Desc_bitsOf_14 : decode b_Desc_bitsOf 14 = .ok (.iload_n 0, 1) := by decide +kernel
theorem d_Desc_bitsOf_15 : decode b_Desc_bitsOf 15 = .ok (.sipush 500, 3) := by decide +kernel
theorem d_Desc_bitsOf_18 : decode b_Desc_bitsOf 18 = .ok (.isub, 1) := by decide +kernel
theorem d_Desc_bitsOf_19 : decode b_Desc_bitsOf 19 = .ok (.goto 4, 3) := by decide +kernel
theorem d_Desc_bitsOf_22 : decode b_Desc_bitsOf 22 = .ok (.iconst (-1), 1) := by decide +kernel
theorem d_Desc_bitsOf_23 : decode b_Desc_bitsOf 23 = .ok (.ireturn, 1) := by decide +kernel
theorem d_Desc_isMark_0 : decode b_Desc_isMark 0 = .ok (.iload_n 0, 1) := by decide +kernel
theorem d_Desc_isMark_1 : decode b_Desc_isMark 1 = .ok (.sipush 520, 3) := by decide +kernel
theorem d_Desc_isMark_4 : decode b_Desc_isMark 4 = .ok (.if_icmp .ne 7, 3) := by decide +kernel
theorem d_Desc_isMark_7 : decode b_Desc_isMark 7 = .ok (.iconst 1, 1) := by decide +kernel
theorem d_Desc_isMark_8 : decode b_Desc_isMark 8 = .ok (.goto 4, 3) := by decide +kernel
theorem d_Desc_isMark_11 : decode b_Desc_isMark 11 = .ok (.iconst 0, 1) := by decide +kernel
theorem d_Desc_isMark_12 : decode b_Desc_isMark 12 = .ok (.ireturn, 1) := by decide +kernel
theorem d_Desc_isKnown_0 : decode b_Desc_isKnown 0 = .ok (.iload_n 0, 1) := by decide +kernel
theorem d_Desc_isKnown_1 : decode b_Desc_isKnown 1 = .ok (.invokestatic 9, 3) := by decide +kernel
theorem d_Desc_isKnown_4 : decode b_Desc_isKnown 4 = .ok (.ifCond .ne 41, 3) := by decide +kernel
theorem d_Desc_isKnown_7 : decode b_Desc_isKnown 7 = .ok (.iload_n 0, 1) := by decide +kernel
theorem d_Desc_isKnown_8 : decode b_Desc_isKnown 8 = .ok (.invokestatic 15, 3) := by decide +kernel
theorem d_Desc_isKnown_11 : decode b_Desc_isKnown 11 = .ok (.iconst (-1), 1) := by decide +kernel
theorem d_Desc_isKnown_12 : decode b_Desc_isKnown 12 = .ok (.if_icmp .ne 33, 3) := by decide +kernel
theorem d_Desc_isKnown_15 : decode b_Desc_isKnown 15 = .ok (.iload_n 0, 1) := by decide +kernel
theorem d_Desc_isKnown_16 : decode b_Desc_isKnown 16 = .ok (.invokestatic 19, 3) := by decide +kernel
theorem d_Desc_isKnown_19 : decode b_Desc_isKnown 19 = .ok (.ifCond .ne 26, 3) := by decide +kernel
theorem d_Desc_isKnown_22 : decode b_Desc_isKnown 22 = .ok (.iload_n 0, 1) := by decide +kernel
theorem d_Desc_isKnown_23 : decode b_Desc_isKnown 23 = .ok (.invokestatic 22, 3) := by decide +kernel
theorem d_Desc_isKnown_26 : decode b_Desc_isKnown 26 = .ok (.iconst (-1), 1) := by decide +kernel
theorem d_Desc_isKnown_27 : decode b_Desc_isKnown 27 = .ok (.if_icmp .ne 18, 3) := by decide +kernel
theorem d_Desc_isKnown_30 : decode b_Desc_isKnown 30 = .ok (.iload_n 0, 1) := by decide +kernel
theorem d_Desc_isKnown_31 : decode b_Desc_isKnown 31 = .ok (.invokestatic 25, 3) := by decide +kernel
theorem d_Desc_isKnown_34 : decode b_Desc_isKnown 34 = .ok (.iconst (-1), 1) := by decide +kernel
theorem d_Desc_isKnown_35 : decode b_Desc_isKnown 35 = .ok (.if_icmp .ne 10, 3) := by decide +kernel
theorem d_Desc_isKnown_38 : decode b_Desc_isKnown 38 = .ok (.iload_n 0, 1) := by decide +kernel
theorem d_Desc_isKnown_39 : decode b_Desc_isKnown 39 = .ok (.invokestatic 28, 3) := by decide +kernel
theorem d_Desc_isKnown_42 : decode b_Desc_isKnown 42 = .ok (.ifCond .eq 7, 3) := by decide +kernel
theorem d_Desc_isKnown_45 : decode b_Desc_isKnown 45 = .ok (.iconst 1, 1) := by decide +kernel
theorem d_Desc_isKnown_46 : decode b_Desc_isKnown 46 = .ok (.goto 4, 3) := by decide +kernel
theorem d_Desc_isKnown_49 : decode b_Desc_isKnown 49 = .ok (.iconst 0, 1) := by decide +kernel
theorem d_Desc_isKnown_50 : decode b_Desc_isKnown 50 = .ok (.ireturn, 1) := by decide +kernel
theorem d_Tab_entryOf_0 : decode b_Tab_entryOf 0 = .ok (.iload_n 0, 1) := by decide +kernel
theorem d_Tab_entryOf_1 : decode b_Tab_entryOf 1 = .ok (.iconst (-1), 1) := by decide +kernel
theorem d_Tab_entryOf_2 : decode b_Tab_entryOf 2 = .ok (.if_icmp .lt 15, 3) := by decide +kernel
theorem d_Tab_entryOf_5 : decode b_Tab_entryOf 5 = .ok (.iload_n 0, 1) := by decide +kernel
theorem d_Tab_entryOf_6 : decode b_Tab_entryOf 6 = .ok (.iconst 4, 1) := by decide +kernel
theorem d_Tab_entryOf_7 : decode b_Tab_entryOf 7 = .ok (.if_icmp .ge 10, 3) := by decide +kernel
theorem d_Tab_entryOf_10 : decode b_Tab_entryOf 10 = .ok (.iload_n 1, 1) := by decide +kernel
theorem d_Tab_entryOf_11 : decode b_Tab_entryOf 11 = .ok (.invokestatic 33, 3) := by decide +kernel
theorem d_Tab_entryOf_14 : decode b_Tab_entryOf 14 = .ok (.ifCond .ne 5, 3) := by decide +kernel
theorem d_Tab_entryOf_17 : decode b_Tab_entryOf 17 = .ok (.iconst (-1), 1) := by decide +kernel
theorem d_Tab_entryOf_18 : decode b_Tab_entryOf 18 = .ok (.ireturn, 1) := by decide +kernel
theorem d_Tab_entryOf_19 : decode b_Tab_entryOf 19 = .ok (.iload_n 0, 1) := by decide +kernel
theorem d_Tab_entryOf_20 : decode b_Tab_entryOf 20 = .ok (.iconst (-1), 1) := by decide +kernel
theorem d_Tab_entryOf_21 : decode b_Tab_entryOf 21 = .ok (.if_icmp .ne 7, 3) := by decide +kernel
theorem d_Tab_entryOf_24 : decode b_Tab_entryOf 24 = .ok (.iconst 4, 1) := by decide +kernel
theorem d_Tab_entryOf_25 : decode b_Tab_entryOf 25 = .ok (.goto 4, 3) := by decide +kernel
theorem d_Tab_entryOf_28 : decode b_Tab_entryOf 28 = .ok (.iload_n 0, 1) := by decide +kernel
theorem d_Tab_entryOf_29 : decode b_Tab_entryOf 29 = .ok (.iload_n 1, 1) := by decide +kernel
theorem d_Tab_entryOf_30 : decode b_Tab_entryOf 30 = .ok (.invokestatic 37, 3) := by decide +kernel
theorem d_Tab_entryOf_33 : decode b_Tab_entryOf 33 = .ok (.ireturn, 1) := by decide +kernel
theorem d_Arr_fill_aII_0 : decode b_Arr_fill_aII 0 = .ok (.iconst 0, 1) := by decide +kernel
theorem d_Arr_fill_aII_1 : decode b_Arr_fill_aII 1 = .ok (.istore_n 2, 1) := by decide +kernel
theorem d_Arr_fill_aII_2 : decode b_Arr_fill_aII 2 = .ok (.aload_n 0, 1) := by decide +kernel
theorem d_Arr_fill_aII_3 : decode b_Arr_fill_aII 3 = .ok (.arraylength, 1) := by decide +kernel
theorem d_Arr_fill_aII_4 : decode b_Arr_fill_aII 4 = .ok (.istore_n 3, 1) := by decide +kernel
theorem d_Arr_fill_aII_5 : decode b_Arr_fill_aII 5 = .ok (.iload_n 2, 1) := by decide +kernel
theorem d_Arr_fill_aII_6 : decode b_Arr_fill_aII 6 = .ok (.iload_n 3, 1) := by decide +kernel
theorem d_Arr_fill_aII_7 : decode b_Arr_fill_aII 7 = .ok (.if_icmp .ge 13, 3) := by decide +kernel
theorem d_Arr_fill_aII_10 : decode b_Arr_fill_aII 10 = .ok (.aload_n 0, 1) := by decide +kernel
theorem d_Arr_fill_aII_11 : decode b_Arr_fill_aII 11 = .ok (.iload_n 2, 1) := by decide +kernel
theorem d_Arr_fill_aII_12 : decode b_Arr_fill_aII 12 = .ok (.iload_n 1, 1) := by decide +kernel
theorem d_Arr_fill_aII_13 : decode b_Arr_fill_aII 13 = .ok (.iastore, 1) := by decide +kernel
theorem d_Arr_fill_aII_14 : decode b_Arr_fill_aII 14 = .ok (.iinc 2 1, 3) := by decide +kernel
theorem d_Arr_fill_aII_17 : decode b_Arr_fill_aII 17 = .ok (.goto (-12), 3) := by decide +kernel
theorem d_Arr_fill_aII_20 : decode b_Arr_fill_aII 20 = .ok (.return_, 1) := by decide +kernel
theorem d_Arr_fill_aJJ_0 : decode b_Arr_fill_aJJ 0 = .ok (.iconst 0, 1) := by decide +kernel
theorem d_Arr_fill_aJJ_1 : decode b_Arr_fill_aJJ 1 = .ok (.istore_n 3, 1) := by decide +kernel
