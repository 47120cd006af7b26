theorem d_X_field_136 : decode b_X_field 136 = .ok (.getfield 212, 3) := by decide +kernel
theorem d_X_field_139 : decode b_X_field 139 = .ok (.iload_n 2, 1) := by decide +kernel
theorem d_X_field_140 : decode b_X_field 140 = .ok (.iaload, 1) := by decide +kernel
theorem d_X_field_141 : decode b_X_field 141 = .ok (.ireturn, 1) := by decide +kernel
theorem d_X_field_142 : decode b_X_field 142 = .ok (.iconst (-1), 1) := by decide +kernel
theorem d_X_field_143 : decode b_X_field 143 = .ok (.ireturn, 1) := by decide +kernel
theorem d_X_reference_0 : decode b_X_reference 0 = .ok (.aload_n 0, 1) := by decide +kernel
theorem d_X_reference_1 : decode b_X_reference 1 = .ok (.iload_n 1, 1) := by decide +kernel
theorem d_X_reference_2 : decode b_X_reference 2 = .ok (.invokevirtual 195, 3) := by decide +kernel
theorem d_X_reference_5 : decode b_X_reference 5 = .ok (.ifCond .eq 32, 3) := by decide +kernel
theorem d_X_reference_8 : decode b_X_reference 8 = .ok (.aload_n 0, 1) := by decide +kernel
theorem d_X_reference_9 : decode b_X_reference 9 = .ok (.getfield 30, 3) := by decide +kernel
theorem d_X_reference_12 : decode b_X_reference 12 = .ok (.getfield 186, 3) := by decide +kernel
theorem d_X_reference_15 : decode b_X_reference 15 = .ok (.iload_n 2, 1) := by decide +kernel
theorem d_X_reference_16 : decode b_X_reference 16 = .ok (.invokevirtual 198, 3) := by decide +kernel
theorem d_X_reference_19 : decode b_X_reference 19 = .ok (.ifCond .eq 18, 3) := by decide +kernel
theorem d_X_reference_22 : decode b_X_reference 22 = .ok (.aload_n 0, 1) := by decide +kernel
theorem d_X_reference_23 : decode b_X_reference 23 = .ok (.getfield 30, 3) := by decide +kernel
theorem d_X_reference_26 : decode b_X_reference 26 = .ok (.getfield 186, 3) := by decide +kernel
theorem d_X_reference_29 : decode b_X_reference 29 = .ok (.getfield 215, 3) := by decide +kernel
theorem d_X_reference_32 : decode b_X_reference 32 = .ok (.iload_n 2, 1) := by decide +kernel
theorem d_X_reference_33 : decode b_X_reference 33 = .ok (.laload, 1) := by decide +kernel
theorem d_X_reference_34 : decode b_X_reference 34 = .ok (.goto 4, 3) := by decide +kernel
theorem d_X_reference_37 : decode b_X_reference 37 = .ok (.lconst 0, 1) := by decide +kernel
theorem d_X_reference_38 : decode b_X_reference 38 = .ok (.lreturn, 1) := by decide +kernel
theorem d_X_find_0 : decode b_X_find 0 = .ok (.aload_n 0, 1) := by decide +kernel
theorem d_X_find_1 : decode b_X_find 1 = .ok (.iload_n 1, 1) := by decide +kernel
theorem d_X_find_2 : decode b_X_find 2 = .ok (.invokevirtual 195, 3) := by decide +kernel
theorem d_X_find_5 : decode b_X_find 5 = .ok (.ifCond .ne 5, 3) := by decide +kernel
theorem d_X_find_8 : decode b_X_find 8 = .ok (.iconst (-1), 1) := by decide +kernel
theorem d_X_find_9 : decode b_X_find 9 = .ok (.ireturn, 1) := by decide +kernel
theorem d_X_find_10 : decode b_X_find 10 = .ok (.iconst 0, 1) := by decide +kernel
theorem d_X_find_11 : decode b_X_find 11 = .ok (.istore 5, 2) := by decide +kernel
theorem d_X_find_13 : decode b_X_find 13 = .ok (.iconst 0, 1) := by decide +kernel
theorem d_X_find_14 : decode b_X_find 14 = .ok (.istore 6, 2) := by decide +kernel
theorem d_X_find_16 : decode b_X_find 16 = .ok (.iload 6, 2) := by decide +kernel
theorem d_X_find_18 : decode b_X_find 18 = .ok (.aload_n 0, 1) := by decide +kernel
theorem d_X_find_19 : decode b_X_find 19 = .ok (.getfield 30, 3) := by decide +kernel
theorem d_X_find_22 : decode b_X_find 22 = .ok (.getfield 186, 3) := by decide +kernel
theorem d_X_find_25 : decode b_X_find 25 = .ok (.getfield 190, 3) := by decide +kernel
theorem d_X_find_28 : decode b_X_find 28 = .ok (.if_icmp .ge 39, 3) := by decide +kernel
theorem d_X_find_31 : decode b_X_find 31 = .ok (.aload_n 0, 1) := by decide +kernel
theorem d_X_find_32 : decode b_X_find 32 = .ok (.getfield 30, 3) := by decide +kernel
theorem d_X_find_35 : decode b_X_find 35 = .ok (.getfield 186, 3) := by decide +kernel
theorem d_X_find_38 : decode b_X_find 38 = .ok (.iload 6, 2) := by decide +kernel
theorem d_X_find_40 : decode b_X_find 40 = .ok (.iload_n 2, 1) := by decide +kernel
theorem d_X_find_41 : decode b_X_find 41 = .ok (.iload_n 3, 1) := by decide +kernel
theorem d_X_find_42 : decode b_X_find 42 = .ok (.invokevirtual 218, 3) := by decide +kernel
theorem d_X_find_45 : decode b_X_find 45 = .ok (.ifCond .eq 16, 3) := by decide +kernel
theorem d_X_find_48 : decode b_X_find 48 = .ok (.iload 5, 2) := by decide +kernel
theorem d_X_find_50 : decode b_X_find 50 = .ok (.iload 4, 2) := by decide +kernel
theorem d_X_find_52 : decode b_X_find 52 = .ok (.if_icmp .ne 6, 3) := by decide +kernel
theorem d_X_find_55 : decode b_X_find 55 = .ok (.iload 6, 2) := by decide +kernel
theorem d_X_find_57 : decode b_X_find 57 = .ok (.ireturn, 1) := by decide +kernel
theorem d_X_find_58 : decode b_X_find 58 = .ok (.iinc 5 1, 3) := by decide +kernel
theorem d_X_find_61 : decode b_X_find 61 = .ok (.iinc 6 1, 3) := by decide +kernel
theorem d_X_find_64 : decode b_X_find 64 = .ok (.goto (-48), 3) := by decide +kernel
theorem d_X_find_67 : decode b_X_find 67 = .ok (.iconst (-1), 1) := by decide +kernel
theorem d_X_find_68 : decode b_X_find 68 = .ok (.ireturn, 1) := by decide +kernel
theorem d_X_byteAt_0 : decode b_X_byteAt 0 = .ok (.iload_n 1, 1) := by decide +kernel
theorem d_X_byteAt_1 : decode b_X_byteAt 1 = .ok (.ifCond .lt 32, 3) := by decide +kernel
theorem d_X_byteAt_4 : decode b_X_byteAt 4 = .ok (.iload_n 1, 1) := by decide +kernel
theorem d_X_byteAt_5 : decode b_X_byteAt 5 = .ok (.aload_n 0, 1) := by decide +kernel
theorem d_X_byteAt_6 : decode b_X_byteAt 6 = .ok (.getfield 37, 3) := by decide +kernel
theorem d_X_byteAt_9 : decode b_X_byteAt 9 = .ok (.getfield 238, 3) := by decide +kernel
theorem d_X_byteAt_12 : decode b_X_byteAt 12 = .ok (.invokevirtual 241, 3) := by decide +kernel
theorem d_X_byteAt_15 : decode b_X_byteAt 15 = .ok (.if_icmp .ge 18, 3) := by decide +kernel
theorem d_X_byteAt_18 : decode b_X_byteAt 18 = .ok (.aload_n 0, 1) := by decide +kernel
theorem d_X_byteAt_19 : decode b_X_byteAt 19 = .ok (.getfield 37, 3) := by decide +kernel
theorem d_X_byteAt_22 : decode b_X_byteAt 22 = .ok (.getfield 238, 3) := by decide +kernel
theorem d_X_byteAt_25 : decode b_X_byteAt 25 = .ok (.getfield 245, 3) := by decide +kernel
theorem d_X_byteAt_28 : decode b_X_byteAt 28 = .ok (.iload_n 1, 1) := by decide +kernel
theorem d_X_byteAt_29 : decode b_X_byteAt 29 = .ok (.iaload, 1) := by decide +kernel
theorem d_X_byteAt_30 : decode b_X_byteAt 30 = .ok (.goto 4, 3) := by decide +kernel
theorem d_X_byteAt_33 : decode b_X_byteAt 33 = .ok (.iconst (-1), 1) := by decide +kernel
theorem d_X_byteAt_34 : decode b_X_byteAt 34 = .ok (.ireturn, 1) := by decide +kernel
theorem d_X_feed_0 : decode b_X_feed 0 = .ok (.iload_n 2, 1) := by decide +kernel
theorem d_X_feed_1 : decode b_X_feed 1 = .ok (.iconst 1, 1) := by decide +kernel
theorem d_X_feed_2 : decode b_X_feed 2 = .ok (.if_icmp .lt 23, 3) := by decide +kernel
theorem d_X_feed_5 : decode b_X_feed 5 = .ok (.iload_n 2, 1) := by decide +kernel
theorem d_X_feed_6 : decode b_X_feed 6 = .ok (.iconst 4, 1) := by decide +kernel
theorem d_X_feed_7 : decode b_X_feed 7 = .ok (.if_icmp .gt 18, 3) := by decide +kernel
theorem d_X_feed_10 : decode b_X_feed 10 = .ok (.aload_n 0, 1) := by decide +kernel
theorem d_X_feed_11 : decode b_X_feed 11 = .ok (.getfield 46, 3) := by decide +kernel
theorem d_X_feed_14 : decode b_X_feed 14 = .ok (.invokevirtual 241, 3) := by decide +kernel
theorem d_X_feed_17 : decode b_X_feed 17 = .ok (.iload_n 2, 1) := by decide +kernel
theorem d_X_feed_18 : decode b_X_feed 18 = .ok (.iadd, 1) := by decide +kernel
theorem d_X_feed_19 : decode b_X_feed 19 = .ok (.sipush 1000, 3) := by decide +kernel
theorem d_X_feed_22 : decode b_X_feed 22 = .ok (.if_icmp .le 5, 3) := by decide +kernel
theorem d_X_feed_25 : decode b_X_feed 25 = .ok (.iconst (-1), 1) := by decide +kernel
theorem d_X_feed_26 : decode b_X_feed 26 = .ok (.ireturn, 1) := by decide +kernel
theorem d_X_feed_27 : decode b_X_feed 27 = .ok (.aload_n 0, 1) := by decide +kernel
theorem d_X_feed_28 : decode b_X_feed 28 = .ok (.getfield 46, 3) := by decide +kernel
theorem d_X_feed_31 : decode b_X_feed 31 = .ok (.iload_n 1, 1) := by decide +kernel
theorem d_X_feed_32 : decode b_X_feed 32 = .ok (.i2l, 1) := by decide +kernel
theorem d_X_feed_33 : decode b_X_feed 33 = .ok (.bipush 8, 2) := by decide +kernel
theorem d_X_feed_35 : decode b_X_feed 35 = .ok (.iload_n 2, 1) := by decide +kernel
theorem d_X_feed_36 : decode b_X_feed 36 = .ok (.imul, 1) := by decide +kernel
theorem d_X_feed_37 : decode b_X_feed 37 = .ok (.invokevirtual 248, 3) := by decide +kernel
theorem d_X_feed_40 : decode b_X_feed 40 = .ok (.aload_n 0, 1) := by decide +kernel
theorem d_X_feed_41 : decode b_X_feed 41 = .ok (.getfield 46, 3) := by decide +kernel
theorem d_X_feed_44 : decode b_X_feed 44 = .ok (.invokevirtual 241, 3) := by decide +kernel
theorem d_X_feed_47 : decode b_X_feed 47 = .ok (.ireturn, 1) := by decide +kernel
theorem d_X_packedAt_0 : decode b_X_packedAt 0 = .ok (.iload_n 1, 1) := by decide +kernel
theorem d_X_packedAt_1 : decode b_X_packedAt 1 = .ok (.ifCond .lt 21, 3) := by decide +kernel
theorem d_X_packedAt_4 : decode b_X_packedAt 4 = .ok (.iload_n 1, 1) := by decide +kernel
theorem d_X_packedAt_5 : decode b_X_packedAt 5 = .ok (.bipush 64, 2) := by decide +kernel
theorem d_X_packedAt_7 : decode b_X_packedAt 7 = .ok (.if_icmp .ge 15, 3) := by decide +kernel
theorem d_X_packedAt_10 : decode b_X_packedAt 10 = .ok (.aload_n 0, 1) := by decide +kernel
theorem d_X_packedAt_11 : decode b_X_packedAt 11 = .ok (.getfield 62, 3) := by decide +kernel
theorem d_X_packedAt_14 : decode b_X_packedAt 14 = .ok (.getfield 305, 3) := by decide +kernel
theorem d_X_packedAt_17 : decode b_X_packedAt 17 = .ok (.iload_n 1, 1) := by decide +kernel
theorem d_X_packedAt_18 : decode b_X_packedAt 18 = .ok (.laload, 1) := by decide +kernel
theorem d_X_packedAt_19 : decode b_X_packedAt 19 = .ok (.goto 6, 3) := by decide +kernel
theorem d_X_packedAt_22 : decode b_X_packedAt 22 = .ok (.ldc2_w 71, 3) := by decide +kernel
theorem d_X_packedAt_25 : decode b_X_packedAt 25 = .ok (.lreturn, 1) := by decide +kernel
theorem d_X_group_0 : decode b_X_group 0 = .ok (.iload_n 1, 1) := by decide +kernel
theorem d_X_group_1 : decode b_X_group 1 = .ok (.iconst (-1), 1) := by decide +kernel
theorem d_X_group_2 : decode b_X_group 2 = .ok (.if_icmp .ne 11, 3) := by decide +kernel
theorem d_X_group_5 : decode b_X_group 5 = .ok (.aload_n 0, 1) := by decide +kernel
theorem d_X_group_6 : decode b_X_group 6 = .ok (.getfield 62, 3) := by decide +kernel
theorem d_X_group_9 : decode b_X_group 9 = .ok (.getfield 307, 3) := by decide +kernel
theorem d_X_group_12 : decode b_X_group 12 = .ok (.ireturn, 1) := by decide +kernel
theorem d_X_group_13 : decode b_X_group 13 = .ok (.iload_n 1, 1) := by decide +kernel
theorem d_X_group_14 : decode b_X_group 14 = .ok (.bipush (-2), 2) := by decide +kernel
theorem d_X_group_16 : decode b_X_group 16 = .ok (.if_icmp .ne 11, 3) := by decide +kernel
theorem d_X_group_19 : decode b_X_group 19 = .ok (.aload_n 0, 1) := by decide +kernel
theorem d_X_group_20 : decode b_X_group 20 = .ok (.getfield 62, 3) := by decide +kernel
theorem d_X_group_23 : decode b_X_group 23 = .ok (.getfield 310, 3) := by decide +kernel
theorem d_X_group_26 : decode b_X_group 26 = .ok (.ireturn, 1) := by decide +kernel
theorem d_X_group_27 : decode b_X_group 27 = .ok (.iload_n 1, 1) := by decide +kernel
theorem d_X_group_28 : decode b_X_group 28 = .ok (.ifCond .lt 26, 3) := by decide +kernel
theorem d_X_group_31 : decode b_X_group 31 = .ok (.iload_n 1, 1) := by decide +kernel
theorem d_X_group_32 : decode b_X_group 32 = .ok (.aload_n 0, 1) := by decide +kernel
theorem d_X_group_33 : decode b_X_group 33 = .ok (.getfield 62, 3) := by decide +kernel
theorem d_X_group_36 : decode b_X_group 36 = .ok (.getfield 313, 3) := by decide +kernel
theorem d_X_group_39 : decode b_X_group 39 = .ok (.if_icmp .ge 15, 3) := by decide +kernel
theorem d_X_group_42 : decode b_X_group 42 = .ok (.aload_n 0, 1) := by decide +kernel
theorem d_X_group_43 : decode b_X_group 43 = .ok (.getfield 62, 3) := by decide +kernel
theorem d_X_group_46 : decode b_X_group 46 = .ok (.getfield 316, 3) := by decide +kernel
theorem d_X_group_49 : decode b_X_group 49 = .ok (.iload_n 1, 1) := by decide +kernel
theorem d_X_group_50 : decode b_X_group 50 = .ok (.iaload, 1) := by decide +kernel
theorem d_X_group_51 : decode b_X_group 51 = .ok (.goto 4, 3) := by decide +kernel
theorem d_X_group_54 : decode b_X_group 54 = .ok (.iconst (-1), 1) := by decide +kernel
theorem d_X_group_55 : decode b_X_group 55 = .ok (.ireturn, 1) := by decide +kernel
theorem d_Mod_entry_0 : decode b_Mod_entry 0 = .ok (.bipush 64, 2) := by decide +kernel
theorem d_Mod_entry_2 : decode b_Mod_entry 2 = .ok (.iload_n 0, 1) := by decide +kernel
theorem d_Mod_entry_3 : decode b_Mod_entry 3 = .ok (.ifCond .ge 7, 3) := by decide +kernel
theorem d_Mod_entry_6 : decode b_Mod_entry 6 = .ok (.iconst 4, 1) := by decide +kernel
theorem d_Mod_entry_7 : decode b_Mod_entry 7 = .ok (.goto 4, 3) := by decide +kernel
theorem d_Mod_entry_10 : decode b_Mod_entry 10 = .ok (.iload_n 0, 1) := by decide +kernel
theorem d_Mod_entry_11 : decode b_Mod_entry 11 = .ok (.imul, 1) := by decide +kernel
theorem d_Mod_entry_12 : decode b_Mod_entry 12 = .ok (.iload_n 1, 1) := by decide +kernel
theorem d_Mod_entry_13 : decode b_Mod_entry 13 = .ok (.iadd, 1) := by decide +kernel
theorem d_Mod_entry_14 : decode b_Mod_entry 14 = .ok (.ireturn, 1) := by decide +kernel
theorem d_Mod_isEntry_0 : decode b_Mod_isEntry 0 = .ok (.iload_n 0, 1) := by decide +kernel
theorem d_Mod_isEntry_1 : decode b_Mod_isEntry 1 = .ok (.iconst (-1), 1) := by decide +kernel
theorem d_Mod_isEntry_2 : decode b_Mod_isEntry 2 = .ok (.if_icmp .lt 22, 3) := by decide +kernel
theorem d_Mod_isEntry_5 : decode b_Mod_isEntry 5 = .ok (.iload_n 0, 1) := by decide +kernel
theorem d_Mod_isEntry_6 : decode b_Mod_isEntry 6 = .ok (.iconst 3, 1) := by decide +kernel
theorem d_Mod_isEntry_7 : decode b_Mod_isEntry 7 = .ok (.if_icmp .gt 17, 3) := by decide +kernel
theorem d_Mod_isEntry_10 : decode b_Mod_isEntry 10 = .ok (.iload_n 1, 1) := by decide +kernel
theorem d_Mod_isEntry_11 : decode b_Mod_isEntry 11 = .ok (.ifCond .lt 13, 3) := by decide +kernel
theorem d_Mod_isEntry_14 : decode b_Mod_isEntry 14 = .ok (.iload_n 1, 1) := by decide +kernel
theorem d_Mod_isEntry_15 : decode b_Mod_isEntry 15 = .ok (.bipush 63, 2) := by decide +kernel
theorem d_Mod_isEntry_17 : decode b_Mod_isEntry 17 = .ok (.if_icmp .gt 7, 3) := by decide +kernel
theorem d_Mod_isEntry_20 : decode b_Mod_isEntry 20 = .ok (.iconst 1, 1) := by decide +kernel
theorem d_Mod_isEntry_21 : decode b_Mod_isEntry 21 = .ok (.goto 4, 3) := by decide +kernel
theorem d_Mod_isEntry_24 : decode b_Mod_isEntry 24 = .ok (.iconst 0, 1) := by decide +kernel
theorem d_Mod_isEntry_25 : decode b_Mod_isEntry 25 = .ok (.ireturn, 1) := by decide +kernel
theorem d_Mod_element_0 : decode b_Mod_element 0 = .ok (.iload_n 1, 1) := by decide +kernel
theorem d_Mod_element_1 : decode b_Mod_element 1 = .ok (.iload_n 2, 1) := by decide +kernel
theorem d_Mod_element_2 : decode b_Mod_element 2 = .ok (.invokestatic 142, 3) := by decide +kernel
theorem d_Mod_element_5 : decode b_Mod_element 5 = .ok (.ifCond .eq 46, 3) := by decide +kernel
theorem d_Mod_element_8 : decode b_Mod_element 8 = .ok (.iload_n 3, 1) := by decide +kernel
theorem d_Mod_element_9 : decode b_Mod_element 9 = .ok (.bipush (-8), 2) := by decide +kernel
theorem d_Mod_element_11 : decode b_Mod_element 11 = .ok (.if_icmp .lt 40, 3) := by decide +kernel
theorem d_Mod_element_14 : decode b_Mod_element 14 = .ok (.iload_n 3, 1) := by decide +kernel
theorem d_Mod_element_15 : decode b_Mod_element 15 = .ok (.bipush 8, 2) := by decide +kernel
theorem d_Mod_element_17 : decode b_Mod_element 17 = .ok (.if_icmp .gt 34, 3) := by decide +kernel
theorem d_Mod_element_20 : decode b_Mod_element 20 = .ok (.iload 4, 2) := by decide +kernel
theorem d_Mod_element_22 : decode b_Mod_element 22 = .ok (.ldc 146, 2) := by decide +kernel
theorem d_Mod_element_24 : decode b_Mod_element 24 = .ok (.if_icmp .lt 27, 3) := by decide +kernel
theorem d_Mod_element_27 : decode b_Mod_element 27 = .ok (.iload 4, 2) := by decide +kernel
theorem d_Mod_element_29 : decode b_Mod_element 29 = .ok (.ldc 147, 2) := by decide +kernel
theorem d_Mod_element_31 : decode b_Mod_element 31 = .ok (.if_icmp .gt 20, 3) := by decide +kernel
theorem d_Mod_element_34 : decode b_Mod_element 34 = .ok (.iload 5, 2) := by decide +kernel
theorem d_Mod_element_36 : decode b_Mod_element 36 = .ok (.iconst 1, 1) := by decide +kernel
theorem d_Mod_element_37 : decode b_Mod_element 37 = .ok (.if_icmp .lt 14, 3) := by decide +kernel
theorem d_Mod_element_40 : decode b_Mod_element 40 = .ok (.iload 5, 2) := by decide +kernel
theorem d_Mod_element_42 : decode b_Mod_element 42 = .ok (.bipush 32, 2) := by decide +kernel
theorem d_Mod_element_44 : decode b_Mod_element 44 = .ok (.if_icmp .gt 7, 3) := by decide +kernel
theorem d_Mod_element_47 : decode b_Mod_element 47 = .ok (.iconst 1, 1) := by decide +kernel
theorem d_Mod_element_48 : decode b_Mod_element 48 = .ok (.goto 4, 3) := by decide +kernel
theorem d_Mod_element_51 : decode b_Mod_element 51 = .ok (.iconst 0, 1) := by decide +kernel
theorem d_Mod_element_52 : decode b_Mod_element 52 = .ok (.istore 6, 2) := by decide +kernel
theorem d_Mod_element_54 : decode b_Mod_element 54 = .ok (.aload_n 0, 1) := by decide +kernel
theorem d_Mod_element_55 : decode b_Mod_element 55 = .ok (.iload 6, 2) := by decide +kernel
theorem d_Mod_element_57 : decode b_Mod_element 57 = .ok (.ifCond .eq 7, 3) := by decide +kernel
theorem d_Mod_element_60 : decode b_Mod_element 60 = .ok (.iconst 0, 1) := by decide +kernel
theorem d_Mod_element_61 : decode b_Mod_element 61 = .ok (.goto 4, 3) := by decide +kernel
theorem d_Mod_element_64 : decode b_Mod_element 64 = .ok (.iconst 1, 1) := by decide +kernel
theorem d_Mod_element_65 : decode b_Mod_element 65 = .ok (.putfield 139, 3) := by decide +kernel
theorem d_Mod_element_68 : decode b_Mod_element 68 = .ok (.iload 6, 2) := by decide +kernel
theorem d_Mod_element_70 : decode b_Mod_element 70 = .ok (.ifCond .ne 4, 3) := by decide +kernel
theorem d_Mod_element_73 : decode b_Mod_element 73 = .ok (.return_, 1) := by decide +kernel
theorem d_Mod_element_74 : decode b_Mod_element 74 = .ok (.iload_n 1, 1) := by decide +kernel
theorem d_Mod_element_75 : decode b_Mod_element 75 = .ok (.iload_n 2, 1) := by decide +kernel
theorem d_Mod_element_76 : decode b_Mod_element 76 = .ok (.invokestatic 148, 3) := by decide +kernel
theorem d_Mod_element_79 : decode b_Mod_element 79 = .ok (.istore 7, 2) := by decide +kernel
theorem d_Mod_element_81 : decode b_Mod_element 81 = .ok (.aload_n 0, 1) := by decide +kernel
theorem d_Mod_element_82 : decode b_Mod_element 82 = .ok (.getfield 7, 3) := by decide +kernel
theorem d_Mod_element_85 : decode b_Mod_element 85 = .ok (.iload 7, 2) := by decide +kernel
theorem d_Mod_element_87 : decode b_Mod_element 87 = .ok (.iconst 1, 1) := by decide +kernel
theorem d_Mod_element_88 : decode b_Mod_element 88 = .ok (.bastore, 1) := by decide +kernel
theorem d_Mod_element_89 : decode b_Mod_element 89 = .ok (.aload_n 0, 1) := by decide +kernel
theorem d_Mod_element_90 : decode b_Mod_element 90 = .ok (.getfield 13, 3) := by decide +kernel
theorem d_Mod_element_93 : decode b_Mod_element 93 = .ok (.iload 7, 2) := by decide +kernel
theorem d_Mod_element_95 : decode b_Mod_element 95 = .ok (.iload_n 3, 1) := by decide +kernel
theorem d_Mod_element_96 : decode b_Mod_element 96 = .ok (.iastore, 1) := by decide +kernel
theorem d_Mod_element_97 : decode b_Mod_element 97 = .ok (.aload_n 0, 1) := by decide +kernel
theorem d_Mod_element_98 : decode b_Mod_element 98 = .ok (.getfield 17, 3) := by decide +kernel
theorem d_Mod_element_101 : decode b_Mod_element 101 = .ok (.iload 7, 2) := by decide +kernel
theorem d_Mod_element_103 : decode b_Mod_element 103 = .ok (.iload 4, 2) := by decide +kernel
theorem d_Mod_element_105 : decode b_Mod_element 105 = .ok (.iastore, 1) := by decide +kernel
theorem d_Mod_element_106 : decode b_Mod_element 106 = .ok (.aload_n 0, 1) := by decide +kernel
theorem d_Mod_element_107 : decode b_Mod_element 107 = .ok (.getfield 20, 3) := by decide +kernel
theorem d_Mod_element_110 : decode b_Mod_element 110 = .ok (.iload 7, 2) := by decide +kernel
theorem d_Mod_element_112 : decode b_Mod_element 112 = .ok (.iload 5, 2) := by decide +kernel
theorem d_Mod_element_114 : decode b_Mod_element 114 = .ok (.iastore, 1) := by decide +kernel
theorem d_Mod_element_115 : decode b_Mod_element 115 = .ok (.return_, 1) := by decide +kernel
theorem d_Mod_drop_0 : decode b_Mod_drop 0 = .ok (.aload_n 0, 1) := by decide +kernel
theorem d_Mod_drop_1 : decode b_Mod_drop 1 = .ok (.iconst 0, 1) := by decide +kernel
theorem d_Mod_drop_2 : decode b_Mod_drop 2 = .ok (.putfield 139, 3) := by decide +kernel
theorem d_Mod_drop_5 : decode b_Mod_drop 5 = .ok (.iload_n 1, 1) := by decide +kernel
theorem d_Mod_drop_6 : decode b_Mod_drop 6 = .ok (.iload_n 2, 1) := by decide +kernel
theorem d_Mod_drop_7 : decode b_Mod_drop 7 = .ok (.invokestatic 142, 3) := by decide +kernel
theorem d_Mod_drop_10 : decode b_Mod_drop 10 = .ok (.ifCond .ne 5, 3) := by decide +kernel
theorem d_Mod_drop_13 : decode b_Mod_drop 13 = .ok (.iconst 0, 1) := by decide +kernel
theorem d_Mod_drop_14 : decode b_Mod_drop 14 = .ok (.ireturn, 1) := by decide +kernel
theorem d_Mod_drop_15 : decode b_Mod_drop 15 = .ok (.aload_n 0, 1) := by decide +kernel
theorem d_Mod_drop_16 : decode b_Mod_drop 16 = .ok (.getfield 7, 3) := by decide +kernel
theorem d_Mod_drop_19 : decode b_Mod_drop 19 = .ok (.iload_n 1, 1) := by decide +kernel
theorem d_Mod_drop_20 : decode b_Mod_drop 20 = .ok (.iload_n 2, 1) := by decide +kernel
theorem d_Mod_drop_21 : decode b_Mod_drop 21 = .ok (.invokestatic 148, 3) := by decide +kernel
theorem d_Mod_drop_24 : decode b_Mod_drop 24 = .ok (.baload, 1) := by decide +kernel
theorem d_Mod_drop_25 : decode b_Mod_drop 25 = .ok (.istore_n 3, 1) := by decide +kernel
theorem d_Mod_drop_26 : decode b_Mod_drop 26 = .ok (.aload_n 0, 1) := by decide +kernel
theorem d_Mod_drop_27 : decode b_Mod_drop 27 = .ok (.getfield 7, 3) := by decide +kernel
theorem d_Mod_drop_30 : decode b_Mod_drop 30 = .ok (.iload_n 1, 1) := by decide +kernel
theorem d_Mod_drop_31 : decode b_Mod_drop 31 = .ok (.iload_n 2, 1) := by decide +kernel
theorem d_Mod_drop_32 : decode b_Mod_drop 32 = .ok (.invokestatic 148, 3) := by decide +kernel
theorem d_Mod_drop_35 : decode b_Mod_drop 35 = .ok (.iconst 0, 1) := by decide +kernel
theorem d_Mod_drop_36 : decode b_Mod_drop 36 = .ok (.bastore, 1) := by decide +kernel
theorem d_Mod_drop_37 : decode b_Mod_drop 37 = .ok (.iload_n 3, 1) := by decide +kernel
theorem d_Mod_drop_38 : decode b_Mod_drop 38 = .ok (.ireturn, 1) := by decide +kernel
theorem d_Mod_version_0 : decode b_Mod_version 0 = .ok (.aload_n 0, 1) := by decide +kernel
theorem d_Mod_version_1 : decode b_Mod_version 1 = .ok (.iload_n 1, 1) := by decide +kernel
theorem d_Mod_version_2 : decode b_Mod_version 2 = .ok (.ifCond .lt 8, 3) := by decide +kernel
theorem d_Mod_version_5 : decode b_Mod_version 5 = .ok (.iload_n 1, 1) := by decide +kernel
theorem d_Mod_version_6 : decode b_Mod_version 6 = .ok (.iconst 3, 1) := by decide +kernel
theorem d_Mod_version_7 : decode b_Mod_version 7 = .ok (.if_icmp .le 7, 3) := by decide +kernel
theorem d_Mod_version_10 : decode b_Mod_version 10 = .ok (.iconst 1, 1) := by decide +kernel
theorem d_Mod_version_11 : decode b_Mod_version 11 = .ok (.goto 4, 3) := by decide +kernel
theorem d_Mod_version_14 : decode b_Mod_version 14 = .ok (.iconst 0, 1) := by decide +kernel
theorem d_Mod_version_15 : decode b_Mod_version 15 = .ok (.putfield 139, 3) := by decide +kernel
theorem d_Mod_version_18 : decode b_Mod_version 18 = .ok (.aload_n 0, 1) := by decide +kernel
theorem d_Mod_version_19 : decode b_Mod_version 19 = .ok (.getfield 139, 3) := by decide +kernel
theorem d_Mod_version_22 : decode b_Mod_version 22 = .ok (.ifCond .ne 8, 3) := by decide +kernel
theorem d_Mod_version_25 : decode b_Mod_version 25 = .ok (.aload_n 0, 1) := by decide +kernel
theorem d_Mod_version_26 : decode b_Mod_version 26 = .ok (.iload_n 1, 1) := by decide +kernel
theorem d_Mod_version_27 : decode b_Mod_version 27 = .ok (.putfield 23, 3) := by decide +kernel
theorem d_Mod_version_30 : decode b_Mod_version 30 = .ok (.return_, 1) := by decide +kernel
theorem d_Mod_force_0 : decode b_Mod_force 0 = .ok (.aload_n 0, 1) := by decide +kernel
theorem d_Mod_force_1 : decode b_Mod_force 1 = .ok (.getfield 7, 3) := by decide +kernel
theorem d_Mod_force_4 : decode b_Mod_force 4 = .ok (.iconst (-1), 1) := by decide +kernel
theorem d_Mod_force_5 : decode b_Mod_force 5 = .ok (.iload_n 1, 1) := by decide +kernel
theorem d_Mod_force_6 : decode b_Mod_force 6 = .ok (.invokestatic 148, 3) := by decide +kernel
theorem d_Mod_force_9 : decode b_Mod_force 9 = .ok (.baload, 1) := by decide +kernel
theorem d_Mod_force_10 : decode b_Mod_force 10 = .ok (.ifCond .eq 9, 3) := by decide +kernel
theorem d_Mod_force_13 : decode b_Mod_force 13 = .ok (.iconst (-1), 1) := by decide +kernel
theorem d_Mod_force_14 : decode b_Mod_force 14 = .ok (.iload_n 1, 1) := by decide +kernel
theorem d_Mod_force_15 : decode b_Mod_force 15 = .ok (.invokestatic 148, 3) := by decide +kernel
theorem d_Mod_force_18 : decode b_Mod_force 18 = .ok (.ireturn, 1) := by decide +kernel
theorem d_Mod_force_19 : decode b_Mod_force 19 = .ok (.aload_n 0, 1) := by decide +kernel
theorem d_Mod_force_20 : decode b_Mod_force 20 = .ok (.getfield 23, 3) := by decide +kernel
theorem d_Mod_force_23 : decode b_Mod_force 23 = .ok (.istore_n 2, 1) := by decide +kernel
theorem d_Mod_force_24 : decode b_Mod_force 24 = .ok (.iload_n 2, 1) := by decide +kernel
theorem d_Mod_force_25 : decode b_Mod_force 25 = .ok (.ifCond .lt 22, 3) := by decide +kernel
theorem d_Mod_force_28 : decode b_Mod_force 28 = .ok (.aload_n 0, 1) := by decide +kernel
theorem d_Mod_force_29 : decode b_Mod_force 29 = .ok (.getfield 7, 3) := by decide +kernel
theorem d_Mod_force_32 : decode b_Mod_force 32 = .ok (.iload_n 2, 1) := by decide +kernel
theorem d_Mod_force_33 : decode b_Mod_force 33 = .ok (.iload_n 1, 1) := by decide +kernel
theorem d_Mod_force_34 : decode b_Mod_force 34 = .ok (.invokestatic 148, 3) := by decide +kernel
theorem d_Mod_force_37 : decode b_Mod_force 37 = .ok (.baload, 1) := by decide +kernel
theorem d_Mod_force_38 : decode b_Mod_force 38 = .ok (.ifCond .ne 9, 3) := by decide +kernel
theorem d_Mod_force_41 : decode b_Mod_force 41 = .ok (.iinc 2 (-1), 3) := by decide +kernel
theorem d_Mod_force_44 : decode b_Mod_force 44 = .ok (.goto (-20), 3) := by decide +kernel
theorem d_Mod_force_47 : decode b_Mod_force 47 = .ok (.iload_n 2, 1) := by decide +kernel
theorem d_Mod_force_48 : decode b_Mod_force 48 = .ok (.ifCond .ge 7, 3) := by decide +kernel
theorem d_Mod_force_51 : decode b_Mod_force 51 = .ok (.iconst (-1), 1) := by decide +kernel
theorem d_Mod_force_52 : decode b_Mod_force 52 = .ok (.goto 8, 3) := by decide +kernel
theorem d_Mod_force_55 : decode b_Mod_force 55 = .ok (.iload_n 2, 1) := by decide +kernel
theorem d_Mod_force_56 : decode b_Mod_force 56 = .ok (.iload_n 1, 1) := by decide +kernel
theorem d_Mod_force_57 : decode b_Mod_force 57 = .ok (.invokestatic 148, 3) := by decide +kernel
theorem d_Mod_force_60 : decode b_Mod_force 60 = .ok (.ireturn, 1) := by decide +kernel
theorem d_Mod_isRepeat_0 : decode b_Mod_isRepeat 0 = .ok (.iload_n 0, 1) := by decide +kernel
theorem d_Mod_isRepeat_1 : decode b_Mod_isRepeat 1 = .ok (.sipush 216, 3) := by decide +kernel
theorem d_Mod_isRepeat_4 : decode b_Mod_isRepeat 4 = .ok (.if_icmp .lt 14, 3) := by decide +kernel
theorem d_Mod_isRepeat_7 : decode b_Mod_isRepeat 7 = .ok (.iload_n 0, 1) := by decide +kernel
theorem d_Mod_isRepeat_8 : decode b_Mod_isRepeat 8 = .ok (.sipush 343, 3) := by decide +kernel
theorem d_Mod_isRepeat_11 : decode b_Mod_isRepeat 11 = .ok (.if_icmp .gt 7, 3) := by decide +kernel
theorem d_Mod_isRepeat_14 : decode b_Mod_isRepeat 14 = .ok (.iconst 1, 1) := by decide +kernel
theorem d_Mod_isRepeat_15 : decode b_Mod_isRepeat 15 = .ok (.goto 4, 3) := by decide +kernel
theorem d_Mod_isRepeat_18 : decode b_Mod_isRepeat 18 = .ok (.iconst 0, 1) := by decide +kernel
theorem d_Mod_isRepeat_19 : decode b_Mod_isRepeat 19 = .ok (.ireturn, 1) := by decide +kernel
theorem d_Mod_isDescriptor_0 : decode b_Mod_isDescriptor 0 = .ok (.iload_n 0, 1) := by decide +kernel
theorem d_Mod_isDescriptor_1 : decode b_Mod_isDescriptor 1 = .ok (.sipush 400, 3) := by decide +kernel
theorem d_Mod_isDescriptor_4 : decode b_Mod_isDescriptor 4 = .ok (.if_icmp .lt 10, 3) := by decide +kernel
theorem d_Mod_isDescriptor_7 : decode b_Mod_isDescriptor 7 = .ok (.iload_n 0, 1) := by decide +kernel
theorem d_Mod_isDescriptor_8 : decode b_Mod_isDescriptor 8 = .ok (.sipush 431, 3) := by decide +kernel
theorem d_Mod_isDescriptor_11 : decode b_Mod_isDescriptor 11 = .ok (.if_icmp .le 45, 3) := by decide +kernel
theorem d_Mod_isDescriptor_14 : decode b_Mod_isDescriptor 14 = .ok (.iload_n 0, 1) := by decide +kernel
theorem d_Mod_isDescriptor_15 : decode b_Mod_isDescriptor 15 = .ok (.sipush 440, 3) := by decide +kernel
theorem d_Mod_isDescriptor_18 : decode b_Mod_isDescriptor 18 = .ok (.if_icmp .lt 10, 3) := by decide +kernel
theorem d_Mod_isDescriptor_21 : decode b_Mod_isDescriptor 21 = .ok (.iload_n 0, 1) := by decide +kernel
theorem d_Mod_isDescriptor_22 : decode b_Mod_isDescriptor 22 = .ok (.sipush 455, 3) := by decide +kernel
theorem d_Mod_isDescriptor_25 : decode b_Mod_isDescriptor 25 = .ok (.if_icmp .le 31, 3) := by decide +kernel
theorem d_Mod_isDescriptor_28 : decode b_Mod_isDescriptor 28 = .ok (.iload_n 0, 1) := by decide +kernel
theorem d_Mod_isDescriptor_29 : decode b_Mod_isDescriptor 29 = .ok (.sipush 460, 3) := by decide +kernel
theorem d_Mod_isDescriptor_32 : decode b_Mod_isDescriptor 32 = .ok (.if_icmp .lt 10, 3) := by decide +kernel
theorem d_Mod_isDescriptor_35 : decode b_Mod_isDescriptor 35 = .ok (.iload_n 0, 1) := by decide +kernel
theorem d_Mod_isDescriptor_36 : decode b_Mod_isDescriptor 36 = .ok (.sipush 468, 3) := by decide +kernel
theorem d_Mod_isDescriptor_39 : decode b_Mod_isDescriptor 39 = .ok (.if_icmp .le 17, 3) := by decide +kernel
theorem d_Mod_isDescriptor_42 : decode b_Mod_isDescriptor 42 = .ok (.iload_n 0, 1) := by decide +kernel
theorem d_Mod_isDescriptor_43 : decode b_Mod_isDescriptor 43 = .ok (.sipush 480, 3) := by decide +kernel
theorem d_Mod_isDescriptor_46 : decode b_Mod_isDescriptor 46 = .ok (.if_icmp .lt 14, 3) := by decide +kernel
theorem d_Mod_isDescriptor_49 : decode b_Mod_isDescriptor 49 = .ok (.iload_n 0, 1) := by decide +kernel
theorem d_Mod_isDescriptor_50 : decode b_Mod_isDescriptor 50 = .ok (.sipush 487, 3) := by decide +kernel
theorem d_Mod_isDescriptor_53 : decode b_Mod_isDescriptor 53 = .ok (.if_icmp .gt 7, 3) := by decide +kernel
theorem d_Mod_isDescriptor_56 : decode b_Mod_isDescriptor 56 = .ok (.iconst 1, 1) := by decide +kernel
theorem d_Mod_isDescriptor_57 : decode b_Mod_isDescriptor 57 = .ok (.goto 4, 3) := by decide +kernel
theorem d_Mod_isDescriptor_60 : decode b_Mod_isDescriptor 60 = .ok (.iconst 0, 1) := by decide +kernel
theorem d_Mod_isDescriptor_61 : decode b_Mod_isDescriptor 61 = .ok (.istore_n 1, 1) := by decide +kernel
theorem d_Mod_isDescriptor_62 : decode b_Mod_isDescriptor 62 = .ok (.iload_n 0, 1) := by decide +kernel
theorem d_Mod_isDescriptor_63 : decode b_Mod_isDescriptor 63 = .ok (.ifCond .lt 9, 3) := by decide +kernel
theorem d_Mod_isDescriptor_66 : decode b_Mod_isDescriptor 66 = .ok (.iload_n 0, 1) := by decide +kernel
theorem d_Mod_isDescriptor_67 : decode b_Mod_isDescriptor 67 = .ok (.bipush 63, 2) := by decide +kernel
theorem d_Mod_isDescriptor_69 : decode b_Mod_isDescriptor 69 = .ok (.if_icmp .le 47, 3) := by decide +kernel
theorem d_Mod_isDescriptor_72 : decode b_Mod_isDescriptor 72 = .ok (.iload_n 0, 1) := by decide +kernel
theorem d_Mod_isDescriptor_73 : decode b_Mod_isDescriptor 73 = .ok (.bipush 100, 2) := by decide +kernel
theorem d_Mod_isDescriptor_75 : decode b_Mod_isDescriptor 75 = .ok (.if_icmp .lt 9, 3) := by decide +kernel
theorem d_Mod_isDescriptor_78 : decode b_Mod_isDescriptor 78 = .ok (.iload_n 0, 1) := by decide +kernel
theorem d_Mod_isDescriptor_79 : decode b_Mod_isDescriptor 79 = .ok (.bipush 115, 2) := by decide +kernel
theorem d_Mod_isDescriptor_81 : decode b_Mod_isDescriptor 81 = .ok (.if_icmp .le 35, 3) := by decide +kernel
theorem d_Mod_isDescriptor_84 : decode b_Mod_isDescriptor 84 = .ok (.iload_n 0, 1) := by decide +kernel
theorem d_Mod_isDescriptor_85 : decode b_Mod_isDescriptor 85 = .ok (.invokestatic 152, 3) := by decide +kernel
theorem d_Mod_isDescriptor_88 : decode b_Mod_isDescriptor 88 = .ok (.ifCond .ne 28, 3) := by decide +kernel
theorem d_Mod_isDescriptor_91 : decode b_Mod_isDescriptor 91 = .ok (.iload_n 1, 1) := by decide +kernel
theorem d_Mod_isDescriptor_92 : decode b_Mod_isDescriptor 92 = .ok (.ifCond .ne 24, 3) := by decide +kernel
theorem d_Mod_isDescriptor_95 : decode b_Mod_isDescriptor 95 = .ok (.iload_n 0, 1) := by decide +kernel
theorem d_Mod_isDescriptor_96 : decode b_Mod_isDescriptor 96 = .ok (.sipush 501, 3) := by decide +kernel
theorem d_Mod_isDescriptor_99 : decode b_Mod_isDescriptor 99 = .ok (.if_icmp .lt 10, 3) := by decide +kernel
theorem d_Mod_isDescriptor_102 : decode b_Mod_isDescriptor 102 = .ok (.iload_n 0, 1) := by decide +kernel
theorem d_Mod_isDescriptor_103 : decode b_Mod_isDescriptor 103 = .ok (.sipush 516, 3) := by decide +kernel
theorem d_Mod_isDescriptor_106 : decode b_Mod_isDescriptor 106 = .ok (.if_icmp .le 10, 3) := by decide +kernel
theorem d_Mod_isDescriptor_109 : decode b_Mod_isDescriptor 109 = .ok (.iload_n 0, 1) := by decide +kernel
theorem d_Mod_isDescriptor_110 : decode b_Mod_isDescriptor 110 = .ok (.sipush 520, 3) := by decide +kernel
theorem d_Mod_isDescriptor_113 : decode b_Mod_isDescriptor 113 = .ok (.if_icmp .ne 7, 3) := by decide +kernel
theorem d_Mod_isDescriptor_116 : decode b_Mod_isDescriptor 116 = .ok (.iconst 1, 1) := by decide +kernel
theorem d_Mod_isDescriptor_117 : decode b_Mod_isDescriptor 117 = .ok (.goto 4, 3) := by decide +kernel
theorem d_Mod_isDescriptor_120 : decode b_Mod_isDescriptor 120 = .ok (.iconst 0, 1) := by decide +kernel
theorem d_Mod_isDescriptor_121 : decode b_Mod_isDescriptor 121 = .ok (.ireturn, 1) := by decide +kernel
theorem d_Mod_operator_0 : decode b_Mod_operator 0 = .ok (.iload_n 0, 1) := by decide +kernel
theorem d_Mod_operator_1 : decode b_Mod_operator 1 = .ok (.sipush 400, 3) := by decide +kernel
theorem d_Mod_operator_4 : decode b_Mod_operator 4 = .ok (.if_icmp .lt 10, 3) := by decide +kernel
theorem d_Mod_operator_7 : decode b_Mod_operator 7 = .ok (.iload_n 0, 1) := by decide +kernel
theorem d_Mod_operator_8 : decode b_Mod_operator 8 = .ok (.sipush 487, 3) := by decide +kernel
theorem d_Mod_operator_11 : decode b_Mod_operator 11 = .ok (.if_icmp .le 7, 3) := by decide +kernel
theorem d_Mod_operator_14 : decode b_Mod_operator 14 = .ok (.iconst (-1), 1) := by decide +kernel
theorem d_Mod_operator_15 : decode b_Mod_operator 15 = .ok (.goto 37, 3) := by decide +kernel
theorem d_Mod_operator_18 : decode b_Mod_operator 18 = .ok (.iload_n 0, 1) := by decide +kernel
theorem d_Mod_operator_19 : decode b_Mod_operator 19 = .ok (.sipush 440, 3) := by decide +kernel
theorem d_Mod_operator_22 : decode b_Mod_operator 22 = .ok (.if_icmp .ge 7, 3) := by decide +kernel
theorem d_Mod_operator_25 : decode b_Mod_operator 25 = .ok (.iconst 0, 1) := by decide +kernel
theorem d_Mod_operator_26 : decode b_Mod_operator 26 = .ok (.goto 26, 3) := by decide +kernel
theorem d_Mod_operator_29 : decode b_Mod_operator 29 = .ok (.iload_n 0, 1) := by decide +kernel
theorem d_Mod_operator_30 : decode b_Mod_operator 30 = .ok (.sipush 460, 3) := by decide +kernel
theorem d_Mod_operator_33 : decode b_Mod_operator 33 = .ok (.if_icmp .ge 7, 3) := by decide +kernel
theorem d_Mod_operator_36 : decode b_Mod_operator 36 = .ok (.iconst 1, 1) := by decide +kernel
theorem d_Mod_operator_37 : decode b_Mod_operator 37 = .ok (.goto 15, 3) := by decide +kernel
theorem d_Mod_operator_40 : decode b_Mod_operator 40 = .ok (.iload_n 0, 1) := by decide +kernel
theorem d_Mod_operator_41 : decode b_Mod_operator 41 = .ok (.sipush 480, 3) := by decide +kernel
theorem d_Mod_operator_44 : decode b_Mod_operator 44 = .ok (.if_icmp .ge 7, 3) := by decide +kernel
theorem d_Mod_operator_47 : decode b_Mod_operator 47 = .ok (.iconst 2, 1) := by decide +kernel
theorem d_Mod_operator_48 : decode b_Mod_operator 48 = .ok (.goto 4, 3) := by decide +kernel
theorem d_Mod_operator_51 : decode b_Mod_operator 51 = .ok (.iconst 3, 1) := by decide +kernel
theorem d_Mod_operator_52 : decode b_Mod_operator 52 = .ok (.ireturn, 1) := by decide +kernel
theorem d_Mod_begins_0 : decode b_Mod_begins 0 = .ok (.iload_n 0, 1) := by decide +kernel
theorem d_Mod_begins_1 : decode b_Mod_begins 1 = .ok (.invokestatic 156, 3) := by decide +kernel
theorem d_Mod_begins_4 : decode b_Mod_begins 4 = .ok (.istore_n 1, 1) := by decide +kernel
theorem d_Mod_begins_5 : decode b_Mod_begins 5 = .ok (.iload_n 0, 1) := by decide +kernel
theorem d_Mod_begins_6 : decode b_Mod_begins 6 = .ok (.iload_n 1, 1) := by decide +kernel
theorem d_Mod_begins_7 : decode b_Mod_begins 7 = .ok (.ifCond .ne 9, 3) := by decide +kernel
theorem d_Mod_begins_10 : decode b_Mod_begins 10 = .ok (.sipush 400, 3) := by decide +kernel
theorem d_Mod_begins_13 : decode b_Mod_begins 13 = .ok (.goto 28, 3) := by decide +kernel
theorem d_Mod_begins_16 : decode b_Mod_begins 16 = .ok (.iload_n 1, 1) := by decide +kernel
theorem d_Mod_begins_17 : decode b_Mod_begins 17 = .ok (.iconst 1, 1) := by decide +kernel
theorem d_Mod_begins_18 : decode b_Mod_begins 18 = .ok (.if_icmp .ne 9, 3) := by decide +kernel
theorem d_Mod_begins_21 : decode b_Mod_begins 21 = .ok (.sipush 440, 3) := by decide +kernel
theorem d_Mod_begins_24 : decode b_Mod_begins 24 = .ok (.goto 17, 3) := by decide +kernel
theorem d_Mod_begins_27 : decode b_Mod_begins 27 = .ok (.iload_n 1, 1) := by decide +kernel
theorem d_Mod_begins_28 : decode b_Mod_begins 28 = .ok (.iconst 2, 1) := by decide +kernel
theorem d_Mod_begins_29 : decode b_Mod_begins 29 = .ok (.if_icmp .ne 9, 3) := by decide +kernel
theorem d_Mod_begins_32 : decode b_Mod_begins 32 = .ok (.sipush 460, 3) := by decide +kernel
theorem d_Mod_begins_35 : decode b_Mod_begins 35 = .ok (.goto 6, 3) := by decide +kernel
theorem d_Mod_begins_38 : decode b_Mod_begins 38 = .ok (.sipush 480, 3) := by decide +kernel
theorem d_Mod_begins_41 : decode b_Mod_begins 41 = .ok (.isub, 1) := by decide +kernel
theorem d_Mod_begins_42 : decode b_Mod_begins 42 = .ok (.istore_n 2, 1) := by decide +kernel
theorem d_Mod_begins_43 : decode b_Mod_begins 43 = .ok (.iload_n 2, 1) := by decide +kernel
theorem d_Mod_begins_44 : decode b_Mod_begins 44 = .ok (.ifCond .ne 8, 3) := by decide +kernel
theorem d_Mod_begins_47 : decode b_Mod_begins 47 = .ok (.bipush (-100), 2) := by decide +kernel
theorem d_Mod_begins_49 : decode b_Mod_begins 49 = .ok (.goto 27, 3) := by decide +kernel
theorem d_Mod_begins_52 : decode b_Mod_begins 52 = .ok (.iload_n 1, 1) := by decide +kernel
theorem d_Mod_begins_53 : decode b_Mod_begins 53 = .ok (.ifCond .ne 10, 3) := by decide +kernel
theorem d_Mod_begins_56 : decode b_Mod_begins 56 = .ok (.iload_n 2, 1) := by decide +kernel
theorem d_Mod_begins_57 : decode b_Mod_begins 57 = .ok (.bipush 16, 2) := by decide +kernel
theorem d_Mod_begins_59 : decode b_Mod_begins 59 = .ok (.isub, 1) := by decide +kernel
theorem d_Mod_begins_60 : decode b_Mod_begins 60 = .ok (.goto 16, 3) := by decide +kernel
theorem d_Mod_begins_63 : decode b_Mod_begins 63 = .ok (.iload_n 1, 1) := by decide +kernel
theorem d_Mod_begins_64 : decode b_Mod_begins 64 = .ok (.iconst 1, 1) := by decide +kernel
theorem d_Mod_begins_65 : decode b_Mod_begins 65 = .ok (.if_icmp .ne 10, 3) := by decide +kernel
theorem d_Mod_begins_68 : decode b_Mod_begins 68 = .ok (.iload_n 2, 1) := by decide +kernel
theorem d_Mod_begins_69 : decode b_Mod_begins 69 = .ok (.bipush 8, 2) := by decide +kernel
theorem d_Mod_begins_71 : decode b_Mod_begins 71 = .ok (.isub, 1) := by decide +kernel
theorem d_Mod_begins_72 : decode b_Mod_begins 72 = .ok (.goto 4, 3) := by decide +kernel
theorem d_Mod_begins_75 : decode b_Mod_begins 75 = .ok (.iload_n 2, 1) := by decide +kernel
theorem d_Mod_begins_76 : decode b_Mod_begins 76 = .ok (.ireturn, 1) := by decide +kernel
theorem d_Mod_append_0 : decode b_Mod_append 0 = .ok (.aload_n 0, 1) := by decide +kernel
theorem d_Mod_append_1 : decode b_Mod_append 1 = .ok (.iload_n 1, 1) := by decide +kernel
theorem d_Mod_append_2 : decode b_Mod_append 2 = .ok (.iconst (-1), 1) := by decide +kernel
theorem d_Mod_append_3 : decode b_Mod_append 3 = .ok (.if_icmp .lt 16, 3) := by decide +kernel
theorem d_Mod_append_6 : decode b_Mod_append 6 = .ok (.iload_n 1, 1) := by decide +kernel
theorem d_Mod_append_7 : decode b_Mod_append 7 = .ok (.bipush 15, 2) := by decide +kernel
theorem d_Mod_append_9 : decode b_Mod_append 9 = .ok (.if_icmp .gt 10, 3) := by decide +kernel
theorem d_Mod_append_12 : decode b_Mod_append 12 = .ok (.iload_n 2, 1) := by decide +kernel
theorem d_Mod_append_13 : decode b_Mod_append 13 = .ok (.invokestatic 160, 3) := by decide +kernel
theorem d_Mod_append_16 : decode b_Mod_append 16 = .ok (.ifCond .ne 7, 3) := by decide +kernel
theorem d_Mod_append_19 : decode b_Mod_append 19 = .ok (.iconst 1, 1) := by decide +kernel
theorem d_Mod_append_20 : decode b_Mod_append 20 = .ok (.goto 4, 3) := by decide +kernel
theorem d_Mod_append_23 : decode b_Mod_append 23 = .ok (.iconst 0, 1) := by decide +kernel
theorem d_Mod_append_24 : decode b_Mod_append 24 = .ok (.putfield 139, 3) := by decide +kernel
theorem d_Mod_append_27 : decode b_Mod_append 27 = .ok (.iload_n 1, 1) := by decide +kernel
theorem d_Mod_append_28 : decode b_Mod_append 28 = .ok (.ifCond .ge 8, 3) := by decide +kernel
theorem d_Mod_append_31 : decode b_Mod_append 31 = .ok (.bipush 16, 2) := by decide +kernel
theorem d_Mod_append_33 : decode b_Mod_append 33 = .ok (.goto 4, 3) := by decide +kernel
theorem d_Mod_append_36 : decode b_Mod_append 36 = .ok (.iload_n 1, 1) := by decide +kernel
theorem d_Mod_append_37 : decode b_Mod_append 37 = .ok (.istore_n 3, 1) := by decide +kernel
theorem d_Mod_append_38 : decode b_Mod_append 38 = .ok (.aload_n 0, 1) := by decide +kernel
theorem d_Mod_append_39 : decode b_Mod_append 39 = .ok (.getfield 139, 3) := by decide +kernel
theorem d_Mod_append_42 : decode b_Mod_append 42 = .ok (.ifCond .ne 28, 3) := by decide +kernel
theorem d_Mod_append_45 : decode b_Mod_append 45 = .ok (.aload_n 0, 1) := by decide +kernel
theorem d_Mod_append_46 : decode b_Mod_append 46 = .ok (.getfield 30, 3) := by decide +kernel
theorem d_Mod_append_49 : decode b_Mod_append 49 = .ok (.iload_n 3, 1) := by decide +kernel
theorem d_Mod_append_50 : decode b_Mod_append 50 = .ok (.iaload, 1) := by decide +kernel
theorem d_Mod_append_51 : decode b_Mod_append 51 = .ok (.iload_n 1, 1) := by decide +kernel
theorem d_Mod_append_52 : decode b_Mod_append 52 = .ok (.ifCond .ge 8, 3) := by decide +kernel
theorem d_Mod_append_55 : decode b_Mod_append 55 = .ok (.bipush 24, 2) := by decide +kernel
theorem d_Mod_append_57 : decode b_Mod_append 57 = .ok (.goto 5, 3) := by decide +kernel
theorem d_Mod_append_60 : decode b_Mod_append 60 = .ok (.bipush 8, 2) := by decide +kernel
theorem d_Mod_append_62 : decode b_Mod_append 62 = .ok (.if_icmp .ne 8, 3) := by decide +kernel
theorem d_Mod_append_65 : decode b_Mod_append 65 = .ok (.aload_n 0, 1) := by decide +kernel
theorem d_Mod_append_66 : decode b_Mod_append 66 = .ok (.iconst 2, 1) := by decide +kernel
theorem d_Mod_append_67 : decode b_Mod_append 67 = .ok (.putfield 139, 3) := by decide +kernel
theorem d_Mod_append_70 : decode b_Mod_append 70 = .ok (.aload_n 0, 1) := by decide +kernel
theorem d_Mod_append_71 : decode b_Mod_append 71 = .ok (.getfield 139, 3) := by decide +kernel
theorem d_Mod_append_74 : decode b_Mod_append 74 = .ok (.ifCond .le 5, 3) := by decide +kernel
theorem d_Mod_append_77 : decode b_Mod_append 77 = .ok (.iconst 0, 1) := by decide +kernel
theorem d_Mod_append_78 : decode b_Mod_append 78 = .ok (.ireturn, 1) := by decide +kernel
theorem d_Mod_append_79 : decode b_Mod_append 79 = .ok (.aload_n 0, 1) := by decide +kernel
theorem d_Mod_append_80 : decode b_Mod_append 80 = .ok (.getfield 27, 3) := by decide +kernel
theorem d_Mod_append_83 : decode b_Mod_append 83 = .ok (.bipush 24, 2) := by decide +kernel
theorem d_Mod_append_85 : decode b_Mod_append 85 = .ok (.iload_n 3, 1) := by decide +kernel
theorem d_Mod_append_86 : decode b_Mod_append 86 = .ok (.imul, 1) := by decide +kernel
theorem d_Mod_append_87 : decode b_Mod_append 87 = .ok (.aload_n 0, 1) := by decide +kernel
theorem d_Mod_append_88 : decode b_Mod_append 88 = .ok (.getfield 30, 3) := by decide +kernel
theorem d_Mod_append_91 : decode b_Mod_append 91 = .ok (.iload_n 3, 1) := by decide +kernel
theorem d_Mod_append_92 : decode b_Mod_append 92 = .ok (.iaload, 1) := by decide +kernel
theorem d_Mod_append_93 : decode b_Mod_append 93 = .ok (.iadd, 1) := by decide +kernel
theorem d_Mod_append_94 : decode b_Mod_append 94 = .ok (.iload_n 2, 1) := by decide +kernel
theorem d_Mod_append_95 : decode b_Mod_append 95 = .ok (.iastore, 1) := by decide +kernel
theorem d_Mod_append_96 : decode b_Mod_append 96 = .ok (.aload_n 0, 1) := by decide +kernel
theorem d_Mod_append_97 : decode b_Mod_append 97 = .ok (.getfield 30, 3) := by decide +kernel
theorem d_Mod_append_100 : decode b_Mod_append 100 = .ok (.iload_n 3, 1) := by decide +kernel
theorem d_Mod_append_101 : decode b_Mod_append 101 = .ok (.dup2, 1) := by decide +kernel
theorem d_Mod_append_102 : decode b_Mod_append 102 = .ok (.iaload, 1) := by decide +kernel
theorem d_Mod_append_103 : decode b_Mod_append 103 = .ok (.iconst 1, 1) := by decide +kernel
theorem d_Mod_append_104 : decode b_Mod_append 104 = .ok (.iadd, 1) := by decide +kernel
theorem d_Mod_append_105 : decode b_Mod_append 105 = .ok (.iastore, 1) := by decide +kernel
theorem d_Mod_append_106 : decode b_Mod_append 106 = .ok (.aload_n 0, 1) := by decide +kernel
