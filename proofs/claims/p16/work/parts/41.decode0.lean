theorem d_X_checkAlike_0 : decode b_X_checkAlike 0 = .ok (.aload_n 0, 1) := by decide +kernel
theorem d_X_checkAlike_1 : decode b_X_checkAlike 1 = .ok (.getfield 30, 3) := by decide +kernel
theorem d_X_checkAlike_4 : decode b_X_checkAlike 4 = .ok (.aload_n 0, 1) := by decide +kernel
theorem d_X_checkAlike_5 : decode b_X_checkAlike 5 = .ok (.getfield 68, 3) := by decide +kernel
theorem d_X_checkAlike_8 : decode b_X_checkAlike 8 = .ok (.iconst 0, 1) := by decide +kernel
theorem d_X_checkAlike_9 : decode b_X_checkAlike 9 = .ok (.aaload, 1) := by decide +kernel
theorem d_X_checkAlike_10 : decode b_X_checkAlike 10 = .ok (.invokevirtual 171, 3) := by decide +kernel
theorem d_X_checkAlike_13 : decode b_X_checkAlike 13 = .ok (.iconst 1, 1) := by decide +kernel
theorem d_X_checkAlike_14 : decode b_X_checkAlike 14 = .ok (.istore_n 2, 1) := by decide +kernel
theorem d_X_checkAlike_15 : decode b_X_checkAlike 15 = .ok (.iload_n 2, 1) := by decide +kernel
theorem d_X_checkAlike_16 : decode b_X_checkAlike 16 = .ok (.iload_n 1, 1) := by decide +kernel
theorem d_X_checkAlike_17 : decode b_X_checkAlike 17 = .ok (.if_icmp .ge 50, 3) := by decide +kernel
theorem d_X_checkAlike_20 : decode b_X_checkAlike 20 = .ok (.aload_n 0, 1) := by decide +kernel
theorem d_X_checkAlike_21 : decode b_X_checkAlike 21 = .ok (.getfield 30, 3) := by decide +kernel
theorem d_X_checkAlike_24 : decode b_X_checkAlike 24 = .ok (.getfield 186, 3) := by decide +kernel
theorem d_X_checkAlike_27 : decode b_X_checkAlike 27 = .ok (.aload_n 0, 1) := by decide +kernel
theorem d_X_checkAlike_28 : decode b_X_checkAlike 28 = .ok (.getfield 68, 3) := by decide +kernel
theorem d_X_checkAlike_31 : decode b_X_checkAlike 31 = .ok (.iconst 0, 1) := by decide +kernel
theorem d_X_checkAlike_32 : decode b_X_checkAlike 32 = .ok (.aaload, 1) := by decide +kernel
theorem d_X_checkAlike_33 : decode b_X_checkAlike 33 = .ok (.aload_n 0, 1) := by decide +kernel
theorem d_X_checkAlike_34 : decode b_X_checkAlike 34 = .ok (.getfield 68, 3) := by decide +kernel
theorem d_X_checkAlike_37 : decode b_X_checkAlike 37 = .ok (.iload_n 2, 1) := by decide +kernel
theorem d_X_checkAlike_38 : decode b_X_checkAlike 38 = .ok (.aaload, 1) := by decide +kernel
theorem d_X_checkAlike_39 : decode b_X_checkAlike 39 = .ok (.invokevirtual 327, 3) := by decide +kernel
theorem d_X_checkAlike_42 : decode b_X_checkAlike 42 = .ok (.istore_n 3, 1) := by decide +kernel
theorem d_X_checkAlike_43 : decode b_X_checkAlike 43 = .ok (.iload_n 3, 1) := by decide +kernel
theorem d_X_checkAlike_44 : decode b_X_checkAlike 44 = .ok (.iconst (-1), 1) := by decide +kernel
theorem d_X_checkAlike_45 : decode b_X_checkAlike 45 = .ok (.if_icmp .eq 16, 3) := by decide +kernel
theorem d_X_checkAlike_48 : decode b_X_checkAlike 48 = .ok (.aload_n 0, 1) := by decide +kernel
theorem d_X_checkAlike_49 : decode b_X_checkAlike 49 = .ok (.bipush 10, 2) := by decide +kernel
theorem d_X_checkAlike_51 : decode b_X_checkAlike 51 = .ok (.iload_n 2, 1) := by decide +kernel
theorem d_X_checkAlike_52 : decode b_X_checkAlike 52 = .ok (.iload_n 3, 1) := by decide +kernel
theorem d_X_checkAlike_53 : decode b_X_checkAlike 53 = .ok (.invokestatic 181, 3) := by decide +kernel
theorem d_X_checkAlike_56 : decode b_X_checkAlike 56 = .ok (.invokevirtual 162, 3) := by decide +kernel
theorem d_X_checkAlike_59 : decode b_X_checkAlike 59 = .ok (.iconst 0, 1) := by decide +kernel
theorem d_X_checkAlike_60 : decode b_X_checkAlike 60 = .ok (.ireturn, 1) := by decide +kernel
theorem d_X_checkAlike_61 : decode b_X_checkAlike 61 = .ok (.iinc 2 1, 3) := by decide +kernel
theorem d_X_checkAlike_64 : decode b_X_checkAlike 64 = .ok (.goto (-49), 3) := by decide +kernel
theorem d_X_checkAlike_67 : decode b_X_checkAlike 67 = .ok (.iconst 1, 1) := by decide +kernel
theorem d_X_checkAlike_68 : decode b_X_checkAlike 68 = .ok (.ireturn, 1) := by decide +kernel
theorem d_X_element_0 : decode b_X_element 0 = .ok (.iload_n 1, 1) := by decide +kernel
theorem d_X_element_1 : decode b_X_element 1 = .ok (.iload_n 2, 1) := by decide +kernel
theorem d_X_element_2 : decode b_X_element 2 = .ok (.invokestatic 86, 3) := by decide +kernel
theorem d_X_element_5 : decode b_X_element 5 = .ok (.istore 6, 2) := by decide +kernel
theorem d_X_element_7 : decode b_X_element 7 = .ok (.iload 6, 2) := by decide +kernel
theorem d_X_element_9 : decode b_X_element 9 = .ok (.iconst (-1), 1) := by decide +kernel
theorem d_X_element_10 : decode b_X_element 10 = .ok (.if_icmp .eq 14, 3) := by decide +kernel
theorem d_X_element_13 : decode b_X_element 13 = .ok (.iload_n 3, 1) := by decide +kernel
theorem d_X_element_14 : decode b_X_element 14 = .ok (.iload 4, 2) := by decide +kernel
theorem d_X_element_16 : decode b_X_element 16 = .ok (.iload 5, 2) := by decide +kernel
theorem d_X_element_18 : decode b_X_element 18 = .ok (.invokestatic 90, 3) := by decide +kernel
theorem d_X_element_21 : decode b_X_element 21 = .ok (.ifCond .ne 13, 3) := by decide +kernel
theorem d_X_element_24 : decode b_X_element 24 = .ok (.new 94, 3) := by decide +kernel
theorem d_X_element_27 : decode b_X_element 27 = .ok (.dup, 1) := by decide +kernel
theorem d_X_element_28 : decode b_X_element 28 = .ok (.ldc 96, 2) := by decide +kernel
theorem d_X_element_30 : decode b_X_element 30 = .ok (.invokespecial 98, 3) := by decide +kernel
theorem d_X_element_33 : decode b_X_element 33 = .ok (.athrow, 1) := by decide +kernel
theorem d_X_element_34 : decode b_X_element 34 = .ok (.aload_n 0, 1) := by decide +kernel
theorem d_X_element_35 : decode b_X_element 35 = .ok (.getfield 10, 3) := by decide +kernel
theorem d_X_element_38 : decode b_X_element 38 = .ok (.getfield 101, 3) := by decide +kernel
theorem d_X_element_41 : decode b_X_element 41 = .ok (.iload 6, 2) := by decide +kernel
theorem d_X_element_43 : decode b_X_element 43 = .ok (.iload_n 3, 1) := by decide +kernel
theorem d_X_element_44 : decode b_X_element 44 = .ok (.iastore, 1) := by decide +kernel
theorem d_X_element_45 : decode b_X_element 45 = .ok (.aload_n 0, 1) := by decide +kernel
theorem d_X_element_46 : decode b_X_element 46 = .ok (.getfield 10, 3) := by decide +kernel
theorem d_X_element_49 : decode b_X_element 49 = .ok (.getfield 105, 3) := by decide +kernel
theorem d_X_element_52 : decode b_X_element 52 = .ok (.iload 6, 2) := by decide +kernel
theorem d_X_element_54 : decode b_X_element 54 = .ok (.iload 4, 2) := by decide +kernel
theorem d_X_element_56 : decode b_X_element 56 = .ok (.iastore, 1) := by decide +kernel
theorem d_X_element_57 : decode b_X_element 57 = .ok (.aload_n 0, 1) := by decide +kernel
theorem d_X_element_58 : decode b_X_element 58 = .ok (.getfield 10, 3) := by decide +kernel
theorem d_X_element_61 : decode b_X_element 61 = .ok (.getfield 108, 3) := by decide +kernel
theorem d_X_element_64 : decode b_X_element 64 = .ok (.iload 6, 2) := by decide +kernel
theorem d_X_element_66 : decode b_X_element 66 = .ok (.iload 5, 2) := by decide +kernel
theorem d_X_element_68 : decode b_X_element 68 = .ok (.iastore, 1) := by decide +kernel
theorem d_X_element_69 : decode b_X_element 69 = .ok (.return_, 1) := by decide +kernel
theorem d_X_version_0 : decode b_X_version 0 = .ok (.iload_n 1, 1) := by decide +kernel
theorem d_X_version_1 : decode b_X_version 1 = .ok (.ifCond .lt 8, 3) := by decide +kernel
theorem d_X_version_4 : decode b_X_version 4 = .ok (.iload_n 1, 1) := by decide +kernel
theorem d_X_version_5 : decode b_X_version 5 = .ok (.iconst 4, 1) := by decide +kernel
theorem d_X_version_6 : decode b_X_version 6 = .ok (.if_icmp .lt 13, 3) := by decide +kernel
theorem d_X_version_9 : decode b_X_version 9 = .ok (.new 94, 3) := by decide +kernel
theorem d_X_version_12 : decode b_X_version 12 = .ok (.dup, 1) := by decide +kernel
theorem d_X_version_13 : decode b_X_version 13 = .ok (.ldc 111, 2) := by decide +kernel
theorem d_X_version_15 : decode b_X_version 15 = .ok (.invokespecial 98, 3) := by decide +kernel
theorem d_X_version_18 : decode b_X_version 18 = .ok (.athrow, 1) := by decide +kernel
theorem d_X_version_19 : decode b_X_version 19 = .ok (.aload_n 0, 1) := by decide +kernel
theorem d_X_version_20 : decode b_X_version 20 = .ok (.getfield 10, 3) := by decide +kernel
theorem d_X_version_23 : decode b_X_version 23 = .ok (.iload_n 1, 1) := by decide +kernel
theorem d_X_version_24 : decode b_X_version 24 = .ok (.putfield 113, 3) := by decide +kernel
theorem d_X_version_27 : decode b_X_version 27 = .ok (.return_, 1) := by decide +kernel
theorem d_X_append_0 : decode b_X_append 0 = .ok (.iload_n 1, 1) := by decide +kernel
theorem d_X_append_1 : decode b_X_append 1 = .ok (.invokestatic 116, 3) := by decide +kernel
theorem d_X_append_4 : decode b_X_append 4 = .ok (.istore_n 3, 1) := by decide +kernel
theorem d_X_append_5 : decode b_X_append 5 = .ok (.iload_n 3, 1) := by decide +kernel
theorem d_X_append_6 : decode b_X_append 6 = .ok (.iconst (-1), 1) := by decide +kernel
theorem d_X_append_7 : decode b_X_append 7 = .ok (.if_icmp .eq 10, 3) := by decide +kernel
theorem d_X_append_10 : decode b_X_append 10 = .ok (.iload_n 2, 1) := by decide +kernel
theorem d_X_append_11 : decode b_X_append 11 = .ok (.invokestatic 120, 3) := by decide +kernel
theorem d_X_append_14 : decode b_X_append 14 = .ok (.ifCond .ne 13, 3) := by decide +kernel
theorem d_X_append_17 : decode b_X_append 17 = .ok (.new 94, 3) := by decide +kernel
theorem d_X_append_20 : decode b_X_append 20 = .ok (.dup, 1) := by decide +kernel
theorem d_X_append_21 : decode b_X_append 21 = .ok (.ldc 126, 2) := by decide +kernel
theorem d_X_append_23 : decode b_X_append 23 = .ok (.invokespecial 98, 3) := by decide +kernel
theorem d_X_append_26 : decode b_X_append 26 = .ok (.athrow, 1) := by decide +kernel
theorem d_X_append_27 : decode b_X_append 27 = .ok (.aload_n 0, 1) := by decide +kernel
theorem d_X_append_28 : decode b_X_append 28 = .ok (.getfield 10, 3) := by decide +kernel
theorem d_X_append_31 : decode b_X_append 31 = .ok (.iload_n 3, 1) := by decide +kernel
theorem d_X_append_32 : decode b_X_append 32 = .ok (.invokevirtual 128, 3) := by decide +kernel
theorem d_X_append_35 : decode b_X_append 35 = .ok (.ifCond .eq 13, 3) := by decide +kernel
theorem d_X_append_38 : decode b_X_append 38 = .ok (.new 131, 3) := by decide +kernel
theorem d_X_append_41 : decode b_X_append 41 = .ok (.dup, 1) := by decide +kernel
theorem d_X_append_42 : decode b_X_append 42 = .ok (.ldc 133, 2) := by decide +kernel
theorem d_X_append_44 : decode b_X_append 44 = .ok (.invokespecial 135, 3) := by decide +kernel
theorem d_X_append_47 : decode b_X_append 47 = .ok (.athrow, 1) := by decide +kernel
theorem d_X_append_48 : decode b_X_append 48 = .ok (.aload_n 0, 1) := by decide +kernel
theorem d_X_append_49 : decode b_X_append 49 = .ok (.getfield 10, 3) := by decide +kernel
theorem d_X_append_52 : decode b_X_append 52 = .ok (.iload_n 3, 1) := by decide +kernel
theorem d_X_append_53 : decode b_X_append 53 = .ok (.iload_n 2, 1) := by decide +kernel
theorem d_X_append_54 : decode b_X_append 54 = .ok (.invokevirtual 136, 3) := by decide +kernel
theorem d_X_append_57 : decode b_X_append 57 = .ok (.ireturn, 1) := by decide +kernel
theorem d_X_clear_0 : decode b_X_clear 0 = .ok (.iload_n 1, 1) := by decide +kernel
theorem d_X_clear_1 : decode b_X_clear 1 = .ok (.invokestatic 116, 3) := by decide +kernel
theorem d_X_clear_4 : decode b_X_clear 4 = .ok (.istore_n 2, 1) := by decide +kernel
theorem d_X_clear_5 : decode b_X_clear 5 = .ok (.iload_n 2, 1) := by decide +kernel
theorem d_X_clear_6 : decode b_X_clear 6 = .ok (.iconst (-1), 1) := by decide +kernel
theorem d_X_clear_7 : decode b_X_clear 7 = .ok (.if_icmp .ne 13, 3) := by decide +kernel
theorem d_X_clear_10 : decode b_X_clear 10 = .ok (.new 94, 3) := by decide +kernel
theorem d_X_clear_13 : decode b_X_clear 13 = .ok (.dup, 1) := by decide +kernel
theorem d_X_clear_14 : decode b_X_clear 14 = .ok (.ldc 139, 2) := by decide +kernel
theorem d_X_clear_16 : decode b_X_clear 16 = .ok (.invokespecial 98, 3) := by decide +kernel
theorem d_X_clear_19 : decode b_X_clear 19 = .ok (.athrow, 1) := by decide +kernel
theorem d_X_clear_20 : decode b_X_clear 20 = .ok (.aload_n 0, 1) := by decide +kernel
theorem d_X_clear_21 : decode b_X_clear 21 = .ok (.getfield 10, 3) := by decide +kernel
theorem d_X_clear_24 : decode b_X_clear 24 = .ok (.getfield 141, 3) := by decide +kernel
theorem d_X_clear_27 : decode b_X_clear 27 = .ok (.iload_n 2, 1) := by decide +kernel
theorem d_X_clear_28 : decode b_X_clear 28 = .ok (.iconst 0, 1) := by decide +kernel
theorem d_X_clear_29 : decode b_X_clear 29 = .ok (.iastore, 1) := by decide +kernel
theorem d_X_clear_30 : decode b_X_clear 30 = .ok (.return_, 1) := by decide +kernel
theorem d_X_compile_0 : decode b_X_compile 0 = .ok (.aload_n 0, 1) := by decide +kernel
theorem d_X_compile_1 : decode b_X_compile 1 = .ok (.invokevirtual 144, 3) := by decide +kernel
theorem d_X_compile_4 : decode b_X_compile 4 = .ok (.ifCond .ne 13, 3) := by decide +kernel
theorem d_X_compile_7 : decode b_X_compile 7 = .ok (.new 94, 3) := by decide +kernel
theorem d_X_compile_10 : decode b_X_compile 10 = .ok (.dup, 1) := by decide +kernel
theorem d_X_compile_11 : decode b_X_compile 11 = .ok (.ldc 148, 2) := by decide +kernel
theorem d_X_compile_13 : decode b_X_compile 13 = .ok (.invokespecial 98, 3) := by decide +kernel
theorem d_X_compile_16 : decode b_X_compile 16 = .ok (.athrow, 1) := by decide +kernel
theorem d_X_compile_17 : decode b_X_compile 17 = .ok (.aload_n 0, 1) := by decide +kernel
theorem d_X_compile_18 : decode b_X_compile 18 = .ok (.getfield 21, 3) := by decide +kernel
theorem d_X_compile_21 : decode b_X_compile 21 = .ok (.getfield 150, 3) := by decide +kernel
theorem d_X_compile_24 : decode b_X_compile 24 = .ok (.ireturn, 1) := by decide +kernel
theorem d_X_put_0 : decode b_X_put 0 = .ok (.iload_n 1, 1) := by decide +kernel
theorem d_X_put_1 : decode b_X_put 1 = .ok (.iload_n 2, 1) := by decide +kernel
theorem d_X_put_2 : decode b_X_put 2 = .ok (.invokestatic 153, 3) := by decide +kernel
theorem d_X_put_5 : decode b_X_put 5 = .ok (.ifCond .ne 13, 3) := by decide +kernel
theorem d_X_put_8 : decode b_X_put 8 = .ok (.new 157, 3) := by decide +kernel
theorem d_X_put_11 : decode b_X_put 11 = .ok (.dup, 1) := by decide +kernel
theorem d_X_put_12 : decode b_X_put 12 = .ok (.ldc 159, 2) := by decide +kernel
theorem d_X_put_14 : decode b_X_put 14 = .ok (.invokespecial 161, 3) := by decide +kernel
theorem d_X_put_17 : decode b_X_put 17 = .ok (.athrow, 1) := by decide +kernel
theorem d_X_put_18 : decode b_X_put 18 = .ok (.aload_n 0, 1) := by decide +kernel
theorem d_X_put_19 : decode b_X_put 19 = .ok (.getfield 68, 3) := by decide +kernel
theorem d_X_put_22 : decode b_X_put 22 = .ok (.iload_n 1, 1) := by decide +kernel
theorem d_X_put_23 : decode b_X_put 23 = .ok (.aaload, 1) := by decide +kernel
theorem d_X_put_24 : decode b_X_put 24 = .ok (.iload_n 2, 1) := by decide +kernel
theorem d_X_put_25 : decode b_X_put 25 = .ok (.lload_n 3, 1) := by decide +kernel
theorem d_X_put_26 : decode b_X_put 26 = .ok (.lastore, 1) := by decide +kernel
theorem d_X_put_27 : decode b_X_put 27 = .ok (.return_, 1) := by decide +kernel
theorem d_X_get_0 : decode b_X_get 0 = .ok (.iload_n 1, 1) := by decide +kernel
theorem d_X_get_1 : decode b_X_get 1 = .ok (.iload_n 2, 1) := by decide +kernel
theorem d_X_get_2 : decode b_X_get 2 = .ok (.invokestatic 153, 3) := by decide +kernel
theorem d_X_get_5 : decode b_X_get 5 = .ok (.ifCond .ne 13, 3) := by decide +kernel
theorem d_X_get_8 : decode b_X_get 8 = .ok (.new 157, 3) := by decide +kernel
theorem d_X_get_11 : decode b_X_get 11 = .ok (.dup, 1) := by decide +kernel
theorem d_X_get_12 : decode b_X_get 12 = .ok (.ldc 159, 2) := by decide +kernel
theorem d_X_get_14 : decode b_X_get 14 = .ok (.invokespecial 161, 3) := by decide +kernel
theorem d_X_get_17 : decode b_X_get 17 = .ok (.athrow, 1) := by decide +kernel
theorem d_X_get_18 : decode b_X_get 18 = .ok (.aload_n 0, 1) := by decide +kernel
theorem d_X_get_19 : decode b_X_get 19 = .ok (.getfield 68, 3) := by decide +kernel
theorem d_X_get_22 : decode b_X_get 22 = .ok (.iload_n 1, 1) := by decide +kernel
theorem d_X_get_23 : decode b_X_get 23 = .ok (.aaload, 1) := by decide +kernel
theorem d_X_get_24 : decode b_X_get 24 = .ok (.iload_n 2, 1) := by decide +kernel
theorem d_X_get_25 : decode b_X_get 25 = .ok (.laload, 1) := by decide +kernel
theorem d_X_get_26 : decode b_X_get 26 = .ok (.lreturn, 1) := by decide +kernel
theorem d_X_fields_0 : decode b_X_fields 0 = .ok (.aload_n 0, 1) := by decide +kernel
theorem d_X_fields_1 : decode b_X_fields 1 = .ok (.iconst 0, 1) := by decide +kernel
theorem d_X_fields_2 : decode b_X_fields 2 = .ok (.iconst (-1), 1) := by decide +kernel
theorem d_X_fields_3 : decode b_X_fields 3 = .ok (.invokevirtual 162, 3) := by decide +kernel
theorem d_X_fields_6 : decode b_X_fields 6 = .ok (.iload_n 1, 1) := by decide +kernel
theorem d_X_fields_7 : decode b_X_fields 7 = .ok (.invokestatic 166, 3) := by decide +kernel
theorem d_X_fields_10 : decode b_X_fields 10 = .ok (.ifCond .ne 13, 3) := by decide +kernel
theorem d_X_fields_13 : decode b_X_fields 13 = .ok (.new 157, 3) := by decide +kernel
theorem d_X_fields_16 : decode b_X_fields 16 = .ok (.dup, 1) := by decide +kernel
theorem d_X_fields_17 : decode b_X_fields 17 = .ok (.ldc 169, 2) := by decide +kernel
theorem d_X_fields_19 : decode b_X_fields 19 = .ok (.invokespecial 161, 3) := by decide +kernel
theorem d_X_fields_22 : decode b_X_fields 22 = .ok (.athrow, 1) := by decide +kernel
theorem d_X_fields_23 : decode b_X_fields 23 = .ok (.aload_n 0, 1) := by decide +kernel
theorem d_X_fields_24 : decode b_X_fields 24 = .ok (.invokevirtual 144, 3) := by decide +kernel
theorem d_X_fields_27 : decode b_X_fields 27 = .ok (.ifCond .ne 13, 3) := by decide +kernel
theorem d_X_fields_30 : decode b_X_fields 30 = .ok (.new 94, 3) := by decide +kernel
theorem d_X_fields_33 : decode b_X_fields 33 = .ok (.dup, 1) := by decide +kernel
theorem d_X_fields_34 : decode b_X_fields 34 = .ok (.ldc 148, 2) := by decide +kernel
theorem d_X_fields_36 : decode b_X_fields 36 = .ok (.invokespecial 98, 3) := by decide +kernel
theorem d_X_fields_39 : decode b_X_fields 39 = .ok (.athrow, 1) := by decide +kernel
theorem d_X_fields_40 : decode b_X_fields 40 = .ok (.aload_n 0, 1) := by decide +kernel
theorem d_X_fields_41 : decode b_X_fields 41 = .ok (.getfield 30, 3) := by decide +kernel
theorem d_X_fields_44 : decode b_X_fields 44 = .ok (.aload_n 0, 1) := by decide +kernel
theorem d_X_fields_45 : decode b_X_fields 45 = .ok (.getfield 68, 3) := by decide +kernel
theorem d_X_fields_48 : decode b_X_fields 48 = .ok (.iload_n 1, 1) := by decide +kernel
theorem d_X_fields_49 : decode b_X_fields 49 = .ok (.aaload, 1) := by decide +kernel
theorem d_X_fields_50 : decode b_X_fields 50 = .ok (.invokevirtual 171, 3) := by decide +kernel
theorem d_X_fields_53 : decode b_X_fields 53 = .ok (.aload_n 0, 1) := by decide +kernel
theorem d_X_fields_54 : decode b_X_fields 54 = .ok (.getfield 30, 3) := by decide +kernel
theorem d_X_fields_57 : decode b_X_fields 57 = .ok (.getfield 175, 3) := by decide +kernel
theorem d_X_fields_60 : decode b_X_fields 60 = .ok (.ifCond .eq 35, 3) := by decide +kernel
theorem d_X_fields_63 : decode b_X_fields 63 = .ok (.aload_n 0, 1) := by decide +kernel
theorem d_X_fields_64 : decode b_X_fields 64 = .ok (.aload_n 0, 1) := by decide +kernel
theorem d_X_fields_65 : decode b_X_fields 65 = .ok (.getfield 30, 3) := by decide +kernel
theorem d_X_fields_68 : decode b_X_fields 68 = .ok (.getfield 175, 3) := by decide +kernel
theorem d_X_fields_71 : decode b_X_fields 71 = .ok (.iload_n 1, 1) := by decide +kernel
theorem d_X_fields_72 : decode b_X_fields 72 = .ok (.aload_n 0, 1) := by decide +kernel
theorem d_X_fields_73 : decode b_X_fields 73 = .ok (.getfield 30, 3) := by decide +kernel
theorem d_X_fields_76 : decode b_X_fields 76 = .ok (.getfield 178, 3) := by decide +kernel
theorem d_X_fields_79 : decode b_X_fields 79 = .ok (.invokestatic 181, 3) := by decide +kernel
theorem d_X_fields_82 : decode b_X_fields 82 = .ok (.invokevirtual 162, 3) := by decide +kernel
theorem d_X_fields_85 : decode b_X_fields 85 = .ok (.new 94, 3) := by decide +kernel
theorem d_X_fields_88 : decode b_X_fields 88 = .ok (.dup, 1) := by decide +kernel
theorem d_X_fields_89 : decode b_X_fields 89 = .ok (.ldc 184, 2) := by decide +kernel
theorem d_X_fields_91 : decode b_X_fields 91 = .ok (.invokespecial 98, 3) := by decide +kernel
theorem d_X_fields_94 : decode b_X_fields 94 = .ok (.athrow, 1) := by decide +kernel
theorem d_X_fields_95 : decode b_X_fields 95 = .ok (.aload_n 0, 1) := by decide +kernel
theorem d_X_fields_96 : decode b_X_fields 96 = .ok (.getfield 30, 3) := by decide +kernel
theorem d_X_fields_99 : decode b_X_fields 99 = .ok (.getfield 186, 3) := by decide +kernel
theorem d_X_fields_102 : decode b_X_fields 102 = .ok (.getfield 190, 3) := by decide +kernel
theorem d_X_fields_105 : decode b_X_fields 105 = .ok (.ireturn, 1) := by decide +kernel
theorem d_X_write_0 : decode b_X_write 0 = .ok (.aload_n 0, 1) := by decide +kernel
theorem d_X_write_1 : decode b_X_write 1 = .ok (.iconst 0, 1) := by decide +kernel
theorem d_X_write_2 : decode b_X_write 2 = .ok (.iconst (-1), 1) := by decide +kernel
theorem d_X_write_3 : decode b_X_write 3 = .ok (.invokevirtual 162, 3) := by decide +kernel
theorem d_X_write_6 : decode b_X_write 6 = .ok (.iload_n 1, 1) := by decide +kernel
theorem d_X_write_7 : decode b_X_write 7 = .ok (.iconst 1, 1) := by decide +kernel
theorem d_X_write_8 : decode b_X_write 8 = .ok (.if_icmp .lt 9, 3) := by decide +kernel
theorem d_X_write_11 : decode b_X_write 11 = .ok (.iload_n 1, 1) := by decide +kernel
theorem d_X_write_12 : decode b_X_write 12 = .ok (.bipush 8, 2) := by decide +kernel
theorem d_X_write_14 : decode b_X_write 14 = .ok (.if_icmp .le 13, 3) := by decide +kernel
theorem d_X_write_17 : decode b_X_write 17 = .ok (.new 94, 3) := by decide +kernel
theorem d_X_write_20 : decode b_X_write 20 = .ok (.dup, 1) := by decide +kernel
theorem d_X_write_21 : decode b_X_write 21 = .ok (.ldc 221, 2) := by decide +kernel
theorem d_X_write_23 : decode b_X_write 23 = .ok (.invokespecial 98, 3) := by decide +kernel
theorem d_X_write_26 : decode b_X_write 26 = .ok (.athrow, 1) := by decide +kernel
theorem d_X_write_27 : decode b_X_write 27 = .ok (.aload_n 0, 1) := by decide +kernel
theorem d_X_write_28 : decode b_X_write 28 = .ok (.invokevirtual 144, 3) := by decide +kernel
theorem d_X_write_31 : decode b_X_write 31 = .ok (.ifCond .eq 23, 3) := by decide +kernel
theorem d_X_write_34 : decode b_X_write 34 = .ok (.aload_n 0, 1) := by decide +kernel
theorem d_X_write_35 : decode b_X_write 35 = .ok (.iload_n 1, 1) := by decide +kernel
theorem d_X_write_36 : decode b_X_write 36 = .ok (.invokevirtual 223, 3) := by decide +kernel
theorem d_X_write_39 : decode b_X_write 39 = .ok (.ifCond .eq 15, 3) := by decide +kernel
theorem d_X_write_42 : decode b_X_write 42 = .ok (.iload_n 2, 1) := by decide +kernel
theorem d_X_write_43 : decode b_X_write 43 = .ok (.ifCond .eq 21, 3) := by decide +kernel
theorem d_X_write_46 : decode b_X_write 46 = .ok (.aload_n 0, 1) := by decide +kernel
theorem d_X_write_47 : decode b_X_write 47 = .ok (.iload_n 1, 1) := by decide +kernel
theorem d_X_write_48 : decode b_X_write 48 = .ok (.invokevirtual 226, 3) := by decide +kernel
theorem d_X_write_51 : decode b_X_write 51 = .ok (.ifCond .ne 13, 3) := by decide +kernel
theorem d_X_write_54 : decode b_X_write 54 = .ok (.new 94, 3) := by decide +kernel
theorem d_X_write_57 : decode b_X_write 57 = .ok (.dup, 1) := by decide +kernel
theorem d_X_write_58 : decode b_X_write 58 = .ok (.ldc 229, 2) := by decide +kernel
theorem d_X_write_60 : decode b_X_write 60 = .ok (.invokespecial 98, 3) := by decide +kernel
theorem d_X_write_63 : decode b_X_write 63 = .ok (.athrow, 1) := by decide +kernel
theorem d_X_write_64 : decode b_X_write 64 = .ok (.iload_n 2, 1) := by decide +kernel
theorem d_X_write_65 : decode b_X_write 65 = .ok (.ifCond .eq 22, 3) := by decide +kernel
theorem d_X_write_68 : decode b_X_write 68 = .ok (.aload_n 0, 1) := by decide +kernel
theorem d_X_write_69 : decode b_X_write 69 = .ok (.getfield 37, 3) := by decide +kernel
theorem d_X_write_72 : decode b_X_write 72 = .ok (.aload_n 0, 1) := by decide +kernel
theorem d_X_write_73 : decode b_X_write 73 = .ok (.getfield 30, 3) := by decide +kernel
theorem d_X_write_76 : decode b_X_write 76 = .ok (.aload_n 0, 1) := by decide +kernel
theorem d_X_write_77 : decode b_X_write 77 = .ok (.getfield 68, 3) := by decide +kernel
theorem d_X_write_80 : decode b_X_write 80 = .ok (.iload_n 1, 1) := by decide +kernel
theorem d_X_write_81 : decode b_X_write 81 = .ok (.invokevirtual 231, 3) := by decide +kernel
theorem d_X_write_84 : decode b_X_write 84 = .ok (.goto 19, 3) := by decide +kernel
theorem d_X_write_87 : decode b_X_write 87 = .ok (.aload_n 0, 1) := by decide +kernel
theorem d_X_write_88 : decode b_X_write 88 = .ok (.getfield 37, 3) := by decide +kernel
theorem d_X_write_91 : decode b_X_write 91 = .ok (.aload_n 0, 1) := by decide +kernel
theorem d_X_write_92 : decode b_X_write 92 = .ok (.getfield 30, 3) := by decide +kernel
theorem d_X_write_95 : decode b_X_write 95 = .ok (.aload_n 0, 1) := by decide +kernel
theorem d_X_write_96 : decode b_X_write 96 = .ok (.getfield 68, 3) := by decide +kernel
theorem d_X_write_99 : decode b_X_write 99 = .ok (.iload_n 1, 1) := by decide +kernel
theorem d_X_write_100 : decode b_X_write 100 = .ok (.invokevirtual 235, 3) := by decide +kernel
theorem d_X_write_103 : decode b_X_write 103 = .ok (.aload_n 0, 1) := by decide +kernel
theorem d_X_write_104 : decode b_X_write 104 = .ok (.getfield 37, 3) := by decide +kernel
theorem d_X_write_107 : decode b_X_write 107 = .ok (.getfield 238, 3) := by decide +kernel
theorem d_X_write_110 : decode b_X_write 110 = .ok (.invokevirtual 241, 3) := by decide +kernel
theorem d_X_write_113 : decode b_X_write 113 = .ok (.ireturn, 1) := by decide +kernel
theorem d_X_read_0 : decode b_X_read 0 = .ok (.aload_n 0, 1) := by decide +kernel
theorem d_X_read_1 : decode b_X_read 1 = .ok (.invokevirtual 144, 3) := by decide +kernel
theorem d_X_read_4 : decode b_X_read 4 = .ok (.ifCond .eq 63, 3) := by decide +kernel
theorem d_X_read_7 : decode b_X_read 7 = .ok (.aload_n 0, 1) := by decide +kernel
theorem d_X_read_8 : decode b_X_read 8 = .ok (.invokevirtual 252, 3) := by decide +kernel
theorem d_X_read_11 : decode b_X_read 11 = .ok (.ifCond .eq 56, 3) := by decide +kernel
theorem d_X_read_14 : decode b_X_read 14 = .ok (.aload_n 0, 1) := by decide +kernel
theorem d_X_read_15 : decode b_X_read 15 = .ok (.getfield 55, 3) := by decide +kernel
theorem d_X_read_18 : decode b_X_read 18 = .ok (.getfield 255, 3) := by decide +kernel
theorem d_X_read_21 : decode b_X_read 21 = .ok (.ifCond .eq 17, 3) := by decide +kernel
theorem d_X_read_24 : decode b_X_read 24 = .ok (.aload_n 0, 1) := by decide +kernel
theorem d_X_read_25 : decode b_X_read 25 = .ok (.getfield 55, 3) := by decide +kernel
theorem d_X_read_28 : decode b_X_read 28 = .ok (.aload_n 0, 1) := by decide +kernel
theorem d_X_read_29 : decode b_X_read 29 = .ok (.getfield 30, 3) := by decide +kernel
theorem d_X_read_32 : decode b_X_read 32 = .ok (.invokevirtual 259, 3) := by decide +kernel
theorem d_X_read_35 : decode b_X_read 35 = .ok (.goto 14, 3) := by decide +kernel
theorem d_X_read_38 : decode b_X_read 38 = .ok (.aload_n 0, 1) := by decide +kernel
theorem d_X_read_39 : decode b_X_read 39 = .ok (.getfield 55, 3) := by decide +kernel
theorem d_X_read_42 : decode b_X_read 42 = .ok (.aload_n 0, 1) := by decide +kernel
theorem d_X_read_43 : decode b_X_read 43 = .ok (.getfield 30, 3) := by decide +kernel
theorem d_X_read_46 : decode b_X_read 46 = .ok (.invokevirtual 262, 3) := by decide +kernel
theorem d_X_read_49 : decode b_X_read 49 = .ok (.aload_n 0, 1) := by decide +kernel
theorem d_X_read_50 : decode b_X_read 50 = .ok (.aload_n 0, 1) := by decide +kernel
theorem d_X_read_51 : decode b_X_read 51 = .ok (.getfield 55, 3) := by decide +kernel
theorem d_X_read_54 : decode b_X_read 54 = .ok (.getfield 264, 3) := by decide +kernel
theorem d_X_read_57 : decode b_X_read 57 = .ok (.aload_n 0, 1) := by decide +kernel
theorem d_X_read_58 : decode b_X_read 58 = .ok (.getfield 55, 3) := by decide +kernel
theorem d_X_read_61 : decode b_X_read 61 = .ok (.getfield 265, 3) := by decide +kernel
theorem d_X_read_64 : decode b_X_read 64 = .ok (.invokevirtual 162, 3) := by decide +kernel
theorem d_X_read_67 : decode b_X_read 67 = .ok (.aload_n 0, 1) := by decide +kernel
theorem d_X_read_68 : decode b_X_read 68 = .ok (.getfield 46, 3) := by decide +kernel
theorem d_X_read_71 : decode b_X_read 71 = .ok (.invokevirtual 266, 3) := by decide +kernel
theorem d_X_read_74 : decode b_X_read 74 = .ok (.aload_n 0, 1) := by decide +kernel
theorem d_X_read_75 : decode b_X_read 75 = .ok (.getfield 79, 3) := by decide +kernel
theorem d_X_read_78 : decode b_X_read 78 = .ok (.ifCond .eq 13, 3) := by decide +kernel
theorem d_X_read_81 : decode b_X_read 81 = .ok (.new 94, 3) := by decide +kernel
theorem d_X_read_84 : decode b_X_read 84 = .ok (.dup, 1) := by decide +kernel
theorem d_X_read_85 : decode b_X_read 85 = .ok (.ldc 229, 2) := by decide +kernel
theorem d_X_read_87 : decode b_X_read 87 = .ok (.invokespecial 98, 3) := by decide +kernel
theorem d_X_read_90 : decode b_X_read 90 = .ok (.athrow, 1) := by decide +kernel
theorem d_X_read_91 : decode b_X_read 91 = .ok (.iconst 0, 1) := by decide +kernel
theorem d_X_read_92 : decode b_X_read 92 = .ok (.istore_n 1, 1) := by decide +kernel
theorem d_X_read_93 : decode b_X_read 93 = .ok (.iload_n 1, 1) := by decide +kernel
theorem d_X_read_94 : decode b_X_read 94 = .ok (.bipush 8, 2) := by decide +kernel
theorem d_X_read_96 : decode b_X_read 96 = .ok (.if_icmp .ge 31, 3) := by decide +kernel
theorem d_X_read_99 : decode b_X_read 99 = .ok (.aload_n 0, 1) := by decide +kernel
theorem d_X_read_100 : decode b_X_read 100 = .ok (.getfield 55, 3) := by decide +kernel
theorem d_X_read_103 : decode b_X_read 103 = .ok (.getfield 269, 3) := by decide +kernel
theorem d_X_read_106 : decode b_X_read 106 = .ok (.iload_n 1, 1) := by decide +kernel
theorem d_X_read_107 : decode b_X_read 107 = .ok (.aaload, 1) := by decide +kernel
theorem d_X_read_108 : decode b_X_read 108 = .ok (.iconst 0, 1) := by decide +kernel
theorem d_X_read_109 : decode b_X_read 109 = .ok (.aload_n 0, 1) := by decide +kernel
theorem d_X_read_110 : decode b_X_read 110 = .ok (.getfield 68, 3) := by decide +kernel
theorem d_X_read_113 : decode b_X_read 113 = .ok (.iload_n 1, 1) := by decide +kernel
theorem d_X_read_114 : decode b_X_read 114 = .ok (.aaload, 1) := by decide +kernel
theorem d_X_read_115 : decode b_X_read 115 = .ok (.iconst 0, 1) := by decide +kernel
theorem d_X_read_116 : decode b_X_read 116 = .ok (.bipush 100, 2) := by decide +kernel
theorem d_X_read_118 : decode b_X_read 118 = .ok (.invokestatic 272, 3) := by decide +kernel
theorem d_X_read_121 : decode b_X_read 121 = .ok (.iinc 1 1, 3) := by decide +kernel
theorem d_X_read_124 : decode b_X_read 124 = .ok (.goto (-31), 3) := by decide +kernel
theorem d_X_read_127 : decode b_X_read 127 = .ok (.aload_n 0, 1) := by decide +kernel
theorem d_X_read_128 : decode b_X_read 128 = .ok (.getfield 55, 3) := by decide +kernel
theorem d_X_read_131 : decode b_X_read 131 = .ok (.getfield 278, 3) := by decide +kernel
theorem d_X_read_134 : decode b_X_read 134 = .ok (.ireturn, 1) := by decide +kernel
theorem d_X_point_0 : decode b_X_point 0 = .ok (.iload_n 1, 1) := by decide +kernel
theorem d_X_point_1 : decode b_X_point 1 = .ok (.ifCond .lt 9, 3) := by decide +kernel
theorem d_X_point_4 : decode b_X_point 4 = .ok (.iload_n 1, 1) := by decide +kernel
theorem d_X_point_5 : decode b_X_point 5 = .ok (.bipush 64, 2) := by decide +kernel
theorem d_X_point_7 : decode b_X_point 7 = .ok (.if_icmp .lt 14, 3) := by decide +kernel
theorem d_X_point_10 : decode b_X_point 10 = .ok (.new 157, 3) := by decide +kernel
theorem d_X_point_13 : decode b_X_point 13 = .ok (.dup, 1) := by decide +kernel
theorem d_X_point_14 : decode b_X_point 14 = .ok (.ldc_w 281, 3) := by decide +kernel
theorem d_X_point_17 : decode b_X_point 17 = .ok (.invokespecial 161, 3) := by decide +kernel
theorem d_X_point_20 : decode b_X_point 20 = .ok (.athrow, 1) := by decide +kernel
theorem d_X_point_21 : decode b_X_point 21 = .ok (.lload_n 2, 1) := by decide +kernel
theorem d_X_point_22 : decode b_X_point 22 = .ok (.ldc2_w 71, 3) := by decide +kernel
theorem d_X_point_25 : decode b_X_point 25 = .ok (.lcmp, 1) := by decide +kernel
theorem d_X_point_26 : decode b_X_point 26 = .ok (.ifCond .eq 30, 3) := by decide +kernel
theorem d_X_point_29 : decode b_X_point 29 = .ok (.lload_n 2, 1) := by decide +kernel
theorem d_X_point_30 : decode b_X_point 30 = .ok (.ldc2_w 283, 3) := by decide +kernel
theorem d_X_point_33 : decode b_X_point 33 = .ok (.lcmp, 1) := by decide +kernel
theorem d_X_point_34 : decode b_X_point 34 = .ok (.ifCond .lt 11, 3) := by decide +kernel
theorem d_X_point_37 : decode b_X_point 37 = .ok (.lload_n 2, 1) := by decide +kernel
theorem d_X_point_38 : decode b_X_point 38 = .ok (.ldc2_w 285, 3) := by decide +kernel
theorem d_X_point_41 : decode b_X_point 41 = .ok (.lcmp, 1) := by decide +kernel
theorem d_X_point_42 : decode b_X_point 42 = .ok (.ifCond .le 14, 3) := by decide +kernel
theorem d_X_point_45 : decode b_X_point 45 = .ok (.new 94, 3) := by decide +kernel
theorem d_X_point_48 : decode b_X_point 48 = .ok (.dup, 1) := by decide +kernel
theorem d_X_point_49 : decode b_X_point 49 = .ok (.ldc_w 287, 3) := by decide +kernel
theorem d_X_point_52 : decode b_X_point 52 = .ok (.invokespecial 98, 3) := by decide +kernel
theorem d_X_point_55 : decode b_X_point 55 = .ok (.athrow, 1) := by decide +kernel
theorem d_X_point_56 : decode b_X_point 56 = .ok (.aload_n 0, 1) := by decide +kernel
theorem d_X_point_57 : decode b_X_point 57 = .ok (.getfield 62, 3) := by decide +kernel
theorem d_X_point_60 : decode b_X_point 60 = .ok (.getfield 289, 3) := by decide +kernel
theorem d_X_point_63 : decode b_X_point 63 = .ok (.iload_n 1, 1) := by decide +kernel
theorem d_X_point_64 : decode b_X_point 64 = .ok (.lload_n 2, 1) := by decide +kernel
theorem d_X_point_65 : decode b_X_point 65 = .ok (.lastore, 1) := by decide +kernel
theorem d_X_point_66 : decode b_X_point 66 = .ok (.return_, 1) := by decide +kernel
theorem d_X_pack_0 : decode b_X_pack 0 = .ok (.iload_n 1, 1) := by decide +kernel
theorem d_X_pack_1 : decode b_X_pack 1 = .ok (.iconst 1, 1) := by decide +kernel
theorem d_X_pack_2 : decode b_X_pack 2 = .ok (.if_icmp .lt 9, 3) := by decide +kernel
theorem d_X_pack_5 : decode b_X_pack 5 = .ok (.iload_n 1, 1) := by decide +kernel
theorem d_X_pack_6 : decode b_X_pack 6 = .ok (.bipush 31, 2) := by decide +kernel
theorem d_X_pack_8 : decode b_X_pack 8 = .ok (.if_icmp .le 14, 3) := by decide +kernel
theorem d_X_pack_11 : decode b_X_pack 11 = .ok (.new 94, 3) := by decide +kernel
theorem d_X_pack_14 : decode b_X_pack 14 = .ok (.dup, 1) := by decide +kernel
theorem d_X_pack_15 : decode b_X_pack 15 = .ok (.ldc_w 292, 3) := by decide +kernel
theorem d_X_pack_18 : decode b_X_pack 18 = .ok (.invokespecial 98, 3) := by decide +kernel
theorem d_X_pack_21 : decode b_X_pack 21 = .ok (.athrow, 1) := by decide +kernel
theorem d_X_pack_22 : decode b_X_pack 22 = .ok (.aload_n 0, 1) := by decide +kernel
theorem d_X_pack_23 : decode b_X_pack 23 = .ok (.getfield 62, 3) := by decide +kernel
theorem d_X_pack_26 : decode b_X_pack 26 = .ok (.invokevirtual 294, 3) := by decide +kernel
theorem d_X_pack_29 : decode b_X_pack 29 = .ok (.ifCond .eq 14, 3) := by decide +kernel
theorem d_X_pack_32 : decode b_X_pack 32 = .ok (.new 131, 3) := by decide +kernel
theorem d_X_pack_35 : decode b_X_pack 35 = .ok (.dup, 1) := by decide +kernel
theorem d_X_pack_36 : decode b_X_pack 36 = .ok (.ldc_w 297, 3) := by decide +kernel
theorem d_X_pack_39 : decode b_X_pack 39 = .ok (.invokespecial 135, 3) := by decide +kernel
theorem d_X_pack_42 : decode b_X_pack 42 = .ok (.athrow, 1) := by decide +kernel
theorem d_X_pack_43 : decode b_X_pack 43 = .ok (.aload_n 0, 1) := by decide +kernel
theorem d_X_pack_44 : decode b_X_pack 44 = .ok (.getfield 62, 3) := by decide +kernel
theorem d_X_pack_47 : decode b_X_pack 47 = .ok (.iload_n 1, 1) := by decide +kernel
theorem d_X_pack_48 : decode b_X_pack 48 = .ok (.invokevirtual 299, 3) := by decide +kernel
theorem d_X_pack_51 : decode b_X_pack 51 = .ok (.istore_n 2, 1) := by decide +kernel
theorem d_X_pack_52 : decode b_X_pack 52 = .ok (.aload_n 0, 1) := by decide +kernel
theorem d_X_pack_53 : decode b_X_pack 53 = .ok (.getfield 62, 3) := by decide +kernel
theorem d_X_pack_56 : decode b_X_pack 56 = .ok (.iload_n 1, 1) := by decide +kernel
theorem d_X_pack_57 : decode b_X_pack 57 = .ok (.invokevirtual 302, 3) := by decide +kernel
theorem d_X_pack_60 : decode b_X_pack 60 = .ok (.iload_n 2, 1) := by decide +kernel
theorem d_X_pack_61 : decode b_X_pack 61 = .ok (.ireturn, 1) := by decide +kernel
theorem d_Law_element_0 : decode b_Law_element 0 = .ok (.aload_n 0, 1) := by decide +kernel
theorem d_Law_element_1 : decode b_Law_element 1 = .ok (.iload_n 1, 1) := by decide +kernel
theorem d_Law_element_2 : decode b_Law_element 2 = .ok (.iload_n 2, 1) := by decide +kernel
theorem d_Law_element_3 : decode b_Law_element 3 = .ok (.iload_n 3, 1) := by decide +kernel
theorem d_Law_element_4 : decode b_Law_element 4 = .ok (.iload 4, 2) := by decide +kernel
theorem d_Law_element_6 : decode b_Law_element 6 = .ok (.iload 5, 2) := by decide +kernel
theorem d_Law_element_8 : decode b_Law_element 8 = .ok (.invokevirtual 7, 3) := by decide +kernel
theorem d_Law_element_11 : decode b_Law_element 11 = .ok (.goto 7, 3) := by decide +kernel
theorem d_Law_element_14 : decode b_Law_element 14 = .ok (.astore 6, 2) := by decide +kernel
theorem d_Law_element_16 : decode b_Law_element 16 = .ok (.iconst 1, 1) := by decide +kernel
theorem d_Law_element_17 : decode b_Law_element 17 = .ok (.ireturn, 1) := by decide +kernel
theorem d_Law_element_18 : decode b_Law_element 18 = .ok (.iconst 0, 1) := by decide +kernel
theorem d_Law_element_19 : decode b_Law_element 19 = .ok (.ireturn, 1) := by decide +kernel
theorem d_Law_version_0 : decode b_Law_version 0 = .ok (.aload_n 0, 1) := by decide +kernel
theorem d_Law_version_1 : decode b_Law_version 1 = .ok (.iload_n 1, 1) := by decide +kernel
theorem d_Law_version_2 : decode b_Law_version 2 = .ok (.invokevirtual 15, 3) := by decide +kernel
theorem d_Law_version_5 : decode b_Law_version 5 = .ok (.goto 6, 3) := by decide +kernel
theorem d_Law_version_8 : decode b_Law_version 8 = .ok (.astore_n 2, 1) := by decide +kernel
theorem d_Law_version_9 : decode b_Law_version 9 = .ok (.iconst 1, 1) := by decide +kernel
theorem d_Law_version_10 : decode b_Law_version 10 = .ok (.ireturn, 1) := by decide +kernel
theorem d_Law_version_11 : decode b_Law_version 11 = .ok (.iconst 0, 1) := by decide +kernel
theorem d_Law_version_12 : decode b_Law_version 12 = .ok (.ireturn, 1) := by decide +kernel
theorem d_Law_append_0 : decode b_Law_append 0 = .ok (.aload_n 3, 1) := by decide +kernel
theorem d_Law_append_1 : decode b_Law_append 1 = .ok (.iconst 0, 1) := by decide +kernel
theorem d_Law_append_2 : decode b_Law_append 2 = .ok (.aload_n 0, 1) := by decide +kernel
theorem d_Law_append_3 : decode b_Law_append 3 = .ok (.iload_n 1, 1) := by decide +kernel
theorem d_Law_append_4 : decode b_Law_append 4 = .ok (.iload_n 2, 1) := by decide +kernel
theorem d_Law_append_5 : decode b_Law_append 5 = .ok (.invokevirtual 19, 3) := by decide +kernel
theorem d_Law_append_8 : decode b_Law_append 8 = .ok (.i2l, 1) := by decide +kernel
theorem d_Law_append_9 : decode b_Law_append 9 = .ok (.lastore, 1) := by decide +kernel
theorem d_Law_append_10 : decode b_Law_append 10 = .ok (.goto 11, 3) := by decide +kernel
theorem d_Law_append_13 : decode b_Law_append 13 = .ok (.astore 4, 2) := by decide +kernel
theorem d_Law_append_15 : decode b_Law_append 15 = .ok (.iconst 1, 1) := by decide +kernel
theorem d_Law_append_16 : decode b_Law_append 16 = .ok (.ireturn, 1) := by decide +kernel
theorem d_Law_append_17 : decode b_Law_append 17 = .ok (.astore 4, 2) := by decide +kernel
theorem d_Law_append_19 : decode b_Law_append 19 = .ok (.iconst 2, 1) := by decide +kernel
theorem d_Law_append_20 : decode b_Law_append 20 = .ok (.ireturn, 1) := by decide +kernel
theorem d_Law_append_21 : decode b_Law_append 21 = .ok (.iconst 0, 1) := by decide +kernel
theorem d_Law_append_22 : decode b_Law_append 22 = .ok (.ireturn, 1) := by decide +kernel
theorem d_Law_clear_0 : decode b_Law_clear 0 = .ok (.aload_n 0, 1) := by decide +kernel
theorem d_Law_clear_1 : decode b_Law_clear 1 = .ok (.iload_n 1, 1) := by decide +kernel
theorem d_Law_clear_2 : decode b_Law_clear 2 = .ok (.invokevirtual 25, 3) := by decide +kernel
theorem d_Law_clear_5 : decode b_Law_clear 5 = .ok (.goto 6, 3) := by decide +kernel
theorem d_Law_clear_8 : decode b_Law_clear 8 = .ok (.astore_n 2, 1) := by decide +kernel
theorem d_Law_clear_9 : decode b_Law_clear 9 = .ok (.iconst 1, 1) := by decide +kernel
theorem d_Law_clear_10 : decode b_Law_clear 10 = .ok (.ireturn, 1) := by decide +kernel
theorem d_Law_clear_11 : decode b_Law_clear 11 = .ok (.iconst 0, 1) := by decide +kernel
theorem d_Law_clear_12 : decode b_Law_clear 12 = .ok (.ireturn, 1) := by decide +kernel
theorem d_Law_compile_0 : decode b_Law_compile 0 = .ok (.aload_n 1, 1) := by decide +kernel
theorem d_Law_compile_1 : decode b_Law_compile 1 = .ok (.iconst 0, 1) := by decide +kernel
theorem d_Law_compile_2 : decode b_Law_compile 2 = .ok (.aload_n 0, 1) := by decide +kernel
theorem d_Law_compile_3 : decode b_Law_compile 3 = .ok (.invokevirtual 28, 3) := by decide +kernel
theorem d_Law_compile_6 : decode b_Law_compile 6 = .ok (.i2l, 1) := by decide +kernel
theorem d_Law_compile_7 : decode b_Law_compile 7 = .ok (.lastore, 1) := by decide +kernel
theorem d_Law_compile_8 : decode b_Law_compile 8 = .ok (.goto 6, 3) := by decide +kernel
theorem d_Law_compile_11 : decode b_Law_compile 11 = .ok (.astore_n 2, 1) := by decide +kernel
theorem d_Law_compile_12 : decode b_Law_compile 12 = .ok (.iconst 1, 1) := by decide +kernel
theorem d_Law_compile_13 : decode b_Law_compile 13 = .ok (.ireturn, 1) := by decide +kernel
theorem d_Law_compile_14 : decode b_Law_compile 14 = .ok (.iconst 0, 1) := by decide +kernel
theorem d_Law_compile_15 : decode b_Law_compile 15 = .ok (.ireturn, 1) := by decide +kernel
theorem d_Law_put_0 : decode b_Law_put 0 = .ok (.aload_n 0, 1) := by decide +kernel
theorem d_Law_put_1 : decode b_Law_put 1 = .ok (.iload_n 1, 1) := by decide +kernel
theorem d_Law_put_2 : decode b_Law_put 2 = .ok (.iload_n 2, 1) := by decide +kernel
theorem d_Law_put_3 : decode b_Law_put 3 = .ok (.lload_n 3, 1) := by decide +kernel
theorem d_Law_put_4 : decode b_Law_put 4 = .ok (.invokevirtual 32, 3) := by decide +kernel
theorem d_Law_put_7 : decode b_Law_put 7 = .ok (.goto 7, 3) := by decide +kernel
theorem d_Law_put_10 : decode b_Law_put 10 = .ok (.astore 5, 2) := by decide +kernel
theorem d_Law_put_12 : decode b_Law_put 12 = .ok (.iconst 1, 1) := by decide +kernel
theorem d_Law_put_13 : decode b_Law_put 13 = .ok (.ireturn, 1) := by decide +kernel
theorem d_Law_put_14 : decode b_Law_put 14 = .ok (.iconst 0, 1) := by decide +kernel
theorem d_Law_put_15 : decode b_Law_put 15 = .ok (.ireturn, 1) := by decide +kernel
theorem d_Law_get_0 : decode b_Law_get 0 = .ok (.aload_n 3, 1) := by decide +kernel
theorem d_Law_get_1 : decode b_Law_get 1 = .ok (.iconst 0, 1) := by decide +kernel
theorem d_Law_get_2 : decode b_Law_get 2 = .ok (.aload_n 0, 1) := by decide +kernel
theorem d_Law_get_3 : decode b_Law_get 3 = .ok (.iload_n 1, 1) := by decide +kernel
theorem d_Law_get_4 : decode b_Law_get 4 = .ok (.iload_n 2, 1) := by decide +kernel
theorem d_Law_get_5 : decode b_Law_get 5 = .ok (.invokevirtual 38, 3) := by decide +kernel
theorem d_Law_get_8 : decode b_Law_get 8 = .ok (.lastore, 1) := by decide +kernel
theorem d_Law_get_9 : decode b_Law_get 9 = .ok (.goto 7, 3) := by decide +kernel
