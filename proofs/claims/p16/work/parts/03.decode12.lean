theorem d_Mod_look_374 : decode b_Mod_look 374 = .ok (.iconst 4, 1) := by decide +kernel
theorem d_Mod_look_375 : decode b_Mod_look 375 = .ok (.iload_n 3, 1) := by decide +kernel
theorem d_Mod_look_376 : decode b_Mod_look 376 = .ok (.invokevirtual 184, 3) := by decide +kernel
theorem d_Mod_look_379 : decode b_Mod_look 379 = .ok (.aload_n 0, 1) := by decide +kernel
theorem d_Mod_look_380 : decode b_Mod_look 380 = .ok (.getfield 64, 3) := by decide +kernel
theorem d_Mod_look_383 : decode b_Mod_look 383 = .ok (.iload 4, 2) := by decide +kernel
theorem d_Mod_look_385 : decode b_Mod_look 385 = .ok (.iload 5, 2) := by decide +kernel
theorem d_Mod_look_387 : decode b_Mod_look 387 = .ok (.iastore, 1) := by decide +kernel
theorem d_Mod_look_388 : decode b_Mod_look 388 = .ok (.return_, 1) := by decide +kernel
theorem d_Mod_compileAll_0 : decode b_Mod_compileAll 0 = .ok (.aload_n 0, 1) := by decide +kernel
theorem d_Mod_compileAll_1 : decode b_Mod_compileAll 1 = .ok (.invokevirtual 207, 3) := by decide +kernel
theorem d_Mod_compileAll_4 : decode b_Mod_compileAll 4 = .ok (.aload_n 0, 1) := by decide +kernel
theorem d_Mod_compileAll_5 : decode b_Mod_compileAll 5 = .ok (.invokevirtual 210, 3) := by decide +kernel
theorem d_Mod_compileAll_8 : decode b_Mod_compileAll 8 = .ok (.aload_n 0, 1) := by decide +kernel
theorem d_Mod_compileAll_9 : decode b_Mod_compileAll 9 = .ok (.getfield 163, 3) := by decide +kernel
theorem d_Mod_compileAll_12 : decode b_Mod_compileAll 12 = .ok (.ifCond .le 113, 3) := by decide +kernel
theorem d_Mod_compileAll_15 : decode b_Mod_compileAll 15 = .ok (.aload_n 0, 1) := by decide +kernel
theorem d_Mod_compileAll_16 : decode b_Mod_compileAll 16 = .ok (.getfield 173, 3) := by decide +kernel
theorem d_Mod_compileAll_19 : decode b_Mod_compileAll 19 = .ok (.ifCond .ne 106, 3) := by decide +kernel
theorem d_Mod_compileAll_22 : decode b_Mod_compileAll 22 = .ok (.aload_n 0, 1) := by decide +kernel
theorem d_Mod_compileAll_23 : decode b_Mod_compileAll 23 = .ok (.getfield 163, 3) := by decide +kernel
theorem d_Mod_compileAll_26 : decode b_Mod_compileAll 26 = .ok (.iconst 1, 1) := by decide +kernel
theorem d_Mod_compileAll_27 : decode b_Mod_compileAll 27 = .ok (.isub, 1) := by decide +kernel
theorem d_Mod_compileAll_28 : decode b_Mod_compileAll 28 = .ok (.istore_n 1, 1) := by decide +kernel
theorem d_Mod_compileAll_29 : decode b_Mod_compileAll 29 = .ok (.aload_n 0, 1) := by decide +kernel
theorem d_Mod_compileAll_30 : decode b_Mod_compileAll 30 = .ok (.getfield 46, 3) := by decide +kernel
theorem d_Mod_compileAll_33 : decode b_Mod_compileAll 33 = .ok (.iload_n 1, 1) := by decide +kernel
theorem d_Mod_compileAll_34 : decode b_Mod_compileAll 34 = .ok (.iaload, 1) := by decide +kernel
theorem d_Mod_compileAll_35 : decode b_Mod_compileAll 35 = .ok (.aload_n 0, 1) := by decide +kernel
theorem d_Mod_compileAll_36 : decode b_Mod_compileAll 36 = .ok (.getfield 49, 3) := by decide +kernel
theorem d_Mod_compileAll_39 : decode b_Mod_compileAll 39 = .ok (.iload_n 1, 1) := by decide +kernel
theorem d_Mod_compileAll_40 : decode b_Mod_compileAll 40 = .ok (.iaload, 1) := by decide +kernel
theorem d_Mod_compileAll_41 : decode b_Mod_compileAll 41 = .ok (.if_icmp .ne 33, 3) := by decide +kernel
theorem d_Mod_compileAll_44 : decode b_Mod_compileAll 44 = .ok (.aload_n 0, 1) := by decide +kernel
theorem d_Mod_compileAll_45 : decode b_Mod_compileAll 45 = .ok (.iload_n 1, 1) := by decide +kernel
theorem d_Mod_compileAll_46 : decode b_Mod_compileAll 46 = .ok (.invokevirtual 213, 3) := by decide +kernel
theorem d_Mod_compileAll_49 : decode b_Mod_compileAll 49 = .ok (.ifCond .eq 12, 3) := by decide +kernel
theorem d_Mod_compileAll_52 : decode b_Mod_compileAll 52 = .ok (.aload_n 0, 1) := by decide +kernel
theorem d_Mod_compileAll_53 : decode b_Mod_compileAll 53 = .ok (.iconst 4, 1) := by decide +kernel
theorem d_Mod_compileAll_54 : decode b_Mod_compileAll 54 = .ok (.aload_n 0, 1) := by decide +kernel
theorem d_Mod_compileAll_55 : decode b_Mod_compileAll 55 = .ok (.invokevirtual 176, 3) := by decide +kernel
theorem d_Mod_compileAll_58 : decode b_Mod_compileAll 58 = .ok (.invokevirtual 184, 3) := by decide +kernel
theorem d_Mod_compileAll_61 : decode b_Mod_compileAll 61 = .ok (.aload_n 0, 1) := by decide +kernel
theorem d_Mod_compileAll_62 : decode b_Mod_compileAll 62 = .ok (.dup, 1) := by decide +kernel
theorem d_Mod_compileAll_63 : decode b_Mod_compileAll 63 = .ok (.getfield 163, 3) := by decide +kernel
theorem d_Mod_compileAll_66 : decode b_Mod_compileAll 66 = .ok (.iconst 1, 1) := by decide +kernel
theorem d_Mod_compileAll_67 : decode b_Mod_compileAll 67 = .ok (.isub, 1) := by decide +kernel
theorem d_Mod_compileAll_68 : decode b_Mod_compileAll 68 = .ok (.putfield 163, 3) := by decide +kernel
theorem d_Mod_compileAll_71 : decode b_Mod_compileAll 71 = .ok (.goto 51, 3) := by decide +kernel
theorem d_Mod_compileAll_74 : decode b_Mod_compileAll 74 = .ok (.aload_n 0, 1) := by decide +kernel
theorem d_Mod_compileAll_75 : decode b_Mod_compileAll 75 = .ok (.getfield 46, 3) := by decide +kernel
theorem d_Mod_compileAll_78 : decode b_Mod_compileAll 78 = .ok (.iload_n 1, 1) := by decide +kernel
theorem d_Mod_compileAll_79 : decode b_Mod_compileAll 79 = .ok (.dup2, 1) := by decide +kernel
theorem d_Mod_compileAll_80 : decode b_Mod_compileAll 80 = .ok (.iaload, 1) := by decide +kernel
theorem d_Mod_compileAll_81 : decode b_Mod_compileAll 81 = .ok (.iconst 1, 1) := by decide +kernel
theorem d_Mod_compileAll_82 : decode b_Mod_compileAll 82 = .ok (.iadd, 1) := by decide +kernel
theorem d_Mod_compileAll_83 : decode b_Mod_compileAll 83 = .ok (.iastore, 1) := by decide +kernel
theorem d_Mod_compileAll_84 : decode b_Mod_compileAll 84 = .ok (.aload_n 0, 1) := by decide +kernel
theorem d_Mod_compileAll_85 : decode b_Mod_compileAll 85 = .ok (.aload_n 0, 1) := by decide +kernel
theorem d_Mod_compileAll_86 : decode b_Mod_compileAll 86 = .ok (.invokevirtual 176, 3) := by decide +kernel
theorem d_Mod_compileAll_89 : decode b_Mod_compileAll 89 = .ok (.invokevirtual 191, 3) := by decide +kernel
theorem d_Mod_compileAll_92 : decode b_Mod_compileAll 92 = .ok (.ifCond .eq 30, 3) := by decide +kernel
theorem d_Mod_compileAll_95 : decode b_Mod_compileAll 95 = .ok (.aload_n 0, 1) := by decide +kernel
theorem d_Mod_compileAll_96 : decode b_Mod_compileAll 96 = .ok (.aload_n 0, 1) := by decide +kernel
theorem d_Mod_compileAll_97 : decode b_Mod_compileAll 97 = .ok (.getfield 27, 3) := by decide +kernel
theorem d_Mod_compileAll_100 : decode b_Mod_compileAll 100 = .ok (.bipush 24, 2) := by decide +kernel
theorem d_Mod_compileAll_102 : decode b_Mod_compileAll 102 = .ok (.aload_n 0, 1) := by decide +kernel
theorem d_Mod_compileAll_103 : decode b_Mod_compileAll 103 = .ok (.getfield 43, 3) := by decide +kernel
theorem d_Mod_compileAll_106 : decode b_Mod_compileAll 106 = .ok (.iload_n 1, 1) := by decide +kernel
theorem d_Mod_compileAll_107 : decode b_Mod_compileAll 107 = .ok (.iaload, 1) := by decide +kernel
theorem d_Mod_compileAll_108 : decode b_Mod_compileAll 108 = .ok (.imul, 1) := by decide +kernel
theorem d_Mod_compileAll_109 : decode b_Mod_compileAll 109 = .ok (.aload_n 0, 1) := by decide +kernel
theorem d_Mod_compileAll_110 : decode b_Mod_compileAll 110 = .ok (.getfield 46, 3) := by decide +kernel
theorem d_Mod_compileAll_113 : decode b_Mod_compileAll 113 = .ok (.iload_n 1, 1) := by decide +kernel
theorem d_Mod_compileAll_114 : decode b_Mod_compileAll 114 = .ok (.iaload, 1) := by decide +kernel
theorem d_Mod_compileAll_115 : decode b_Mod_compileAll 115 = .ok (.iadd, 1) := by decide +kernel
theorem d_Mod_compileAll_116 : decode b_Mod_compileAll 116 = .ok (.iconst 1, 1) := by decide +kernel
theorem d_Mod_compileAll_117 : decode b_Mod_compileAll 117 = .ok (.isub, 1) := by decide +kernel
theorem d_Mod_compileAll_118 : decode b_Mod_compileAll 118 = .ok (.iaload, 1) := by decide +kernel
theorem d_Mod_compileAll_119 : decode b_Mod_compileAll 119 = .ok (.invokevirtual 216, 3) := by decide +kernel
theorem d_Mod_compileAll_122 : decode b_Mod_compileAll 122 = .ok (.goto (-114), 3) := by decide +kernel
theorem d_Mod_compileAll_125 : decode b_Mod_compileAll 125 = .ok (.return_, 1) := by decide +kernel
theorem d_Mod_compile_0 : decode b_Mod_compile 0 = .ok (.aload_n 0, 1) := by decide +kernel
theorem d_Mod_compile_1 : decode b_Mod_compile 1 = .ok (.invokevirtual 220, 3) := by decide +kernel
theorem d_Mod_compile_4 : decode b_Mod_compile 4 = .ok (.aload_n 0, 1) := by decide +kernel
theorem d_Mod_compile_5 : decode b_Mod_compile 5 = .ok (.aload_n 0, 1) := by decide +kernel
theorem d_Mod_compile_6 : decode b_Mod_compile 6 = .ok (.getfield 173, 3) := by decide +kernel
theorem d_Mod_compile_9 : decode b_Mod_compile 9 = .ok (.ifCond .le 7, 3) := by decide +kernel
theorem d_Mod_compile_12 : decode b_Mod_compile 12 = .ok (.iconst 1, 1) := by decide +kernel
theorem d_Mod_compile_13 : decode b_Mod_compile 13 = .ok (.goto 4, 3) := by decide +kernel
theorem d_Mod_compile_16 : decode b_Mod_compile 16 = .ok (.iconst 0, 1) := by decide +kernel
theorem d_Mod_compile_17 : decode b_Mod_compile 17 = .ok (.putfield 139, 3) := by decide +kernel
theorem d_Mod_compile_20 : decode b_Mod_compile 20 = .ok (.aload_n 0, 1) := by decide +kernel
theorem d_Mod_compile_21 : decode b_Mod_compile 21 = .ok (.getfield 139, 3) := by decide +kernel
theorem d_Mod_compile_24 : decode b_Mod_compile 24 = .ok (.ifCond .le 7, 3) := by decide +kernel
theorem d_Mod_compile_27 : decode b_Mod_compile 27 = .ok (.iconst 0, 1) := by decide +kernel
theorem d_Mod_compile_28 : decode b_Mod_compile 28 = .ok (.goto 7, 3) := by decide +kernel
theorem d_Mod_compile_31 : decode b_Mod_compile 31 = .ok (.aload_n 0, 1) := by decide +kernel
theorem d_Mod_compile_32 : decode b_Mod_compile 32 = .ok (.getfield 166, 3) := by decide +kernel
theorem d_Mod_compile_35 : decode b_Mod_compile 35 = .ok (.ireturn, 1) := by decide +kernel
theorem d_Mod_fields_0 : decode b_Mod_fields 0 = .ok (.aload_n 0, 1) := by decide +kernel
theorem d_Mod_fields_1 : decode b_Mod_fields 1 = .ok (.iload_n 1, 1) := by decide +kernel
theorem d_Mod_fields_2 : decode b_Mod_fields 2 = .ok (.invokestatic 298, 3) := by decide +kernel
theorem d_Mod_fields_5 : decode b_Mod_fields 5 = .ok (.ifCond .eq 7, 3) := by decide +kernel
theorem d_Mod_fields_8 : decode b_Mod_fields 8 = .ok (.iconst 0, 1) := by decide +kernel
theorem d_Mod_fields_9 : decode b_Mod_fields 9 = .ok (.goto 4, 3) := by decide +kernel
theorem d_Mod_fields_12 : decode b_Mod_fields 12 = .ok (.iconst 1, 1) := by decide +kernel
theorem d_Mod_fields_13 : decode b_Mod_fields 13 = .ok (.putfield 139, 3) := by decide +kernel
theorem d_Mod_fields_16 : decode b_Mod_fields 16 = .ok (.aload_n 0, 1) := by decide +kernel
theorem d_Mod_fields_17 : decode b_Mod_fields 17 = .ok (.getfield 139, 3) := by decide +kernel
theorem d_Mod_fields_20 : decode b_Mod_fields 20 = .ok (.ifCond .le 5, 3) := by decide +kernel
theorem d_Mod_fields_23 : decode b_Mod_fields 23 = .ok (.iconst 0, 1) := by decide +kernel
theorem d_Mod_fields_24 : decode b_Mod_fields 24 = .ok (.ireturn, 1) := by decide +kernel
theorem d_Mod_fields_25 : decode b_Mod_fields 25 = .ok (.aload_n 0, 1) := by decide +kernel
theorem d_Mod_fields_26 : decode b_Mod_fields 26 = .ok (.invokevirtual 220, 3) := by decide +kernel
theorem d_Mod_fields_29 : decode b_Mod_fields 29 = .ok (.aload_n 0, 1) := by decide +kernel
theorem d_Mod_fields_30 : decode b_Mod_fields 30 = .ok (.getfield 173, 3) := by decide +kernel
theorem d_Mod_fields_33 : decode b_Mod_fields 33 = .ok (.ifCond .ne 9, 3) := by decide +kernel
theorem d_Mod_fields_36 : decode b_Mod_fields 36 = .ok (.aload_n 0, 1) := by decide +kernel
theorem d_Mod_fields_37 : decode b_Mod_fields 37 = .ok (.iload_n 1, 1) := by decide +kernel
theorem d_Mod_fields_38 : decode b_Mod_fields 38 = .ok (.iconst 0, 1) := by decide +kernel
theorem d_Mod_fields_39 : decode b_Mod_fields 39 = .ok (.invokevirtual 301, 3) := by decide +kernel
theorem d_Mod_fields_42 : decode b_Mod_fields 42 = .ok (.aload_n 0, 1) := by decide +kernel
theorem d_Mod_fields_43 : decode b_Mod_fields 43 = .ok (.aload_n 0, 1) := by decide +kernel
theorem d_Mod_fields_44 : decode b_Mod_fields 44 = .ok (.getfield 173, 3) := by decide +kernel
theorem d_Mod_fields_47 : decode b_Mod_fields 47 = .ok (.ifCond .le 7, 3) := by decide +kernel
theorem d_Mod_fields_50 : decode b_Mod_fields 50 = .ok (.iconst 2, 1) := by decide +kernel
theorem d_Mod_fields_51 : decode b_Mod_fields 51 = .ok (.goto 4, 3) := by decide +kernel
theorem d_Mod_fields_54 : decode b_Mod_fields 54 = .ok (.iconst 0, 1) := by decide +kernel
theorem d_Mod_fields_55 : decode b_Mod_fields 55 = .ok (.putfield 139, 3) := by decide +kernel
theorem d_Mod_fields_58 : decode b_Mod_fields 58 = .ok (.aload_n 0, 1) := by decide +kernel
theorem d_Mod_fields_59 : decode b_Mod_fields 59 = .ok (.getfield 139, 3) := by decide +kernel
theorem d_Mod_fields_62 : decode b_Mod_fields 62 = .ok (.ifCond .le 7, 3) := by decide +kernel
theorem d_Mod_fields_65 : decode b_Mod_fields 65 = .ok (.iconst 0, 1) := by decide +kernel
theorem d_Mod_fields_66 : decode b_Mod_fields 66 = .ok (.goto 7, 3) := by decide +kernel
theorem d_Mod_fields_69 : decode b_Mod_fields 69 = .ok (.aload_n 0, 1) := by decide +kernel
theorem d_Mod_fields_70 : decode b_Mod_fields 70 = .ok (.getfield 258, 3) := by decide +kernel
theorem d_Mod_fields_73 : decode b_Mod_fields 73 = .ok (.ireturn, 1) := by decide +kernel
theorem d_Mod_ask_0 : decode b_Mod_ask 0 = .ok (.aload_n 0, 1) := by decide +kernel
theorem d_Mod_ask_1 : decode b_Mod_ask 1 = .ok (.getfield 173, 3) := by decide +kernel
theorem d_Mod_ask_4 : decode b_Mod_ask 4 = .ok (.istore_n 2, 1) := by decide +kernel
theorem d_Mod_ask_5 : decode b_Mod_ask 5 = .ok (.aload_n 0, 1) := by decide +kernel
theorem d_Mod_ask_6 : decode b_Mod_ask 6 = .ok (.getfield 33, 3) := by decide +kernel
theorem d_Mod_ask_9 : decode b_Mod_ask 9 = .ok (.istore_n 3, 1) := by decide +kernel
theorem d_Mod_ask_10 : decode b_Mod_ask 10 = .ok (.aload_n 0, 1) := by decide +kernel
theorem d_Mod_ask_11 : decode b_Mod_ask 11 = .ok (.invokevirtual 220, 3) := by decide +kernel
theorem d_Mod_ask_14 : decode b_Mod_ask 14 = .ok (.aload_n 0, 1) := by decide +kernel
theorem d_Mod_ask_15 : decode b_Mod_ask 15 = .ok (.iconst 0, 1) := by decide +kernel
theorem d_Mod_ask_16 : decode b_Mod_ask 16 = .ok (.putfield 258, 3) := by decide +kernel
theorem d_Mod_ask_19 : decode b_Mod_ask 19 = .ok (.aload_n 0, 1) := by decide +kernel
theorem d_Mod_ask_20 : decode b_Mod_ask 20 = .ok (.getfield 173, 3) := by decide +kernel
theorem d_Mod_ask_23 : decode b_Mod_ask 23 = .ok (.ifCond .ne 14, 3) := by decide +kernel
theorem d_Mod_ask_26 : decode b_Mod_ask 26 = .ok (.iload_n 1, 1) := by decide +kernel
theorem d_Mod_ask_27 : decode b_Mod_ask 27 = .ok (.invokestatic 298, 3) := by decide +kernel
theorem d_Mod_ask_30 : decode b_Mod_ask 30 = .ok (.ifCond .eq 7, 3) := by decide +kernel
theorem d_Mod_ask_33 : decode b_Mod_ask 33 = .ok (.iconst 1, 1) := by decide +kernel
theorem d_Mod_ask_34 : decode b_Mod_ask 34 = .ok (.goto 4, 3) := by decide +kernel
theorem d_Mod_ask_37 : decode b_Mod_ask 37 = .ok (.iconst 0, 1) := by decide +kernel
theorem d_Mod_ask_38 : decode b_Mod_ask 38 = .ok (.istore 4, 2) := by decide +kernel
theorem d_Mod_ask_40 : decode b_Mod_ask 40 = .ok (.iload 4, 2) := by decide +kernel
theorem d_Mod_ask_42 : decode b_Mod_ask 42 = .ok (.ifCond .eq 9, 3) := by decide +kernel
theorem d_Mod_ask_45 : decode b_Mod_ask 45 = .ok (.aload_n 0, 1) := by decide +kernel
theorem d_Mod_ask_46 : decode b_Mod_ask 46 = .ok (.iload_n 1, 1) := by decide +kernel
theorem d_Mod_ask_47 : decode b_Mod_ask 47 = .ok (.iconst 0, 1) := by decide +kernel
theorem d_Mod_ask_48 : decode b_Mod_ask 48 = .ok (.invokevirtual 301, 3) := by decide +kernel
theorem d_Mod_ask_51 : decode b_Mod_ask 51 = .ok (.aload_n 0, 1) := by decide +kernel
theorem d_Mod_ask_52 : decode b_Mod_ask 52 = .ok (.iload_n 2, 1) := by decide +kernel
theorem d_Mod_ask_53 : decode b_Mod_ask 53 = .ok (.putfield 173, 3) := by decide +kernel
theorem d_Mod_ask_56 : decode b_Mod_ask 56 = .ok (.aload_n 0, 1) := by decide +kernel
theorem d_Mod_ask_57 : decode b_Mod_ask 57 = .ok (.iload_n 3, 1) := by decide +kernel
theorem d_Mod_ask_58 : decode b_Mod_ask 58 = .ok (.putfield 33, 3) := by decide +kernel
theorem d_Mod_ask_61 : decode b_Mod_ask 61 = .ok (.iload 4, 2) := by decide +kernel
theorem d_Mod_ask_63 : decode b_Mod_ask 63 = .ok (.ifCond .eq 10, 3) := by decide +kernel
theorem d_Mod_ask_66 : decode b_Mod_ask 66 = .ok (.aload_n 0, 1) := by decide +kernel
theorem d_Mod_ask_67 : decode b_Mod_ask 67 = .ok (.getfield 258, 3) := by decide +kernel
theorem d_Mod_ask_70 : decode b_Mod_ask 70 = .ok (.goto 4, 3) := by decide +kernel
theorem d_Mod_ask_73 : decode b_Mod_ask 73 = .ok (.iconst 0, 1) := by decide +kernel
theorem d_Mod_ask_74 : decode b_Mod_ask 74 = .ok (.ireturn, 1) := by decide +kernel
theorem d_Mod_field_0 : decode b_Mod_field 0 = .ok (.aload_n 0, 1) := by decide +kernel
theorem d_Mod_field_1 : decode b_Mod_field 1 = .ok (.iconst 0, 1) := by decide +kernel
theorem d_Mod_field_2 : decode b_Mod_field 2 = .ok (.putfield 139, 3) := by decide +kernel
theorem d_Mod_field_5 : decode b_Mod_field 5 = .ok (.iload_n 2, 1) := by decide +kernel
theorem d_Mod_field_6 : decode b_Mod_field 6 = .ok (.ifCond .lt 12, 3) := by decide +kernel
theorem d_Mod_field_9 : decode b_Mod_field 9 = .ok (.iload_n 2, 1) := by decide +kernel
theorem d_Mod_field_10 : decode b_Mod_field 10 = .ok (.aload_n 0, 1) := by decide +kernel
theorem d_Mod_field_11 : decode b_Mod_field 11 = .ok (.iload_n 1, 1) := by decide +kernel
theorem d_Mod_field_12 : decode b_Mod_field 12 = .ok (.invokevirtual 304, 3) := by decide +kernel
theorem d_Mod_field_15 : decode b_Mod_field 15 = .ok (.if_icmp .lt 5, 3) := by decide +kernel
theorem d_Mod_field_18 : decode b_Mod_field 18 = .ok (.iconst (-1), 1) := by decide +kernel
theorem d_Mod_field_19 : decode b_Mod_field 19 = .ok (.ireturn, 1) := by decide +kernel
theorem d_Mod_field_20 : decode b_Mod_field 20 = .ok (.iload_n 3, 1) := by decide +kernel
theorem d_Mod_field_21 : decode b_Mod_field 21 = .ok (.tableswitch 81 0 5 #[39, 46, 53, 60, 67, 74], 39) := by decide +kernel
theorem d_Mod_field_60 : decode b_Mod_field 60 = .ok (.aload_n 0, 1) := by decide +kernel
theorem d_Mod_field_61 : decode b_Mod_field 61 = .ok (.getfield 67, 3) := by decide +kernel
theorem d_Mod_field_64 : decode b_Mod_field 64 = .ok (.iload_n 2, 1) := by decide +kernel
theorem d_Mod_field_65 : decode b_Mod_field 65 = .ok (.iaload, 1) := by decide +kernel
theorem d_Mod_field_66 : decode b_Mod_field 66 = .ok (.ireturn, 1) := by decide +kernel
theorem d_Mod_field_67 : decode b_Mod_field 67 = .ok (.aload_n 0, 1) := by decide +kernel
theorem d_Mod_field_68 : decode b_Mod_field 68 = .ok (.getfield 70, 3) := by decide +kernel
theorem d_Mod_field_71 : decode b_Mod_field 71 = .ok (.iload_n 2, 1) := by decide +kernel
theorem d_Mod_field_72 : decode b_Mod_field 72 = .ok (.iaload, 1) := by decide +kernel
theorem d_Mod_field_73 : decode b_Mod_field 73 = .ok (.ireturn, 1) := by decide +kernel
theorem d_Mod_field_74 : decode b_Mod_field 74 = .ok (.aload_n 0, 1) := by decide +kernel
theorem d_Mod_field_75 : decode b_Mod_field 75 = .ok (.getfield 73, 3) := by decide +kernel
theorem d_Mod_field_78 : decode b_Mod_field 78 = .ok (.iload_n 2, 1) := by decide +kernel
theorem d_Mod_field_79 : decode b_Mod_field 79 = .ok (.iaload, 1) := by decide +kernel
theorem d_Mod_field_80 : decode b_Mod_field 80 = .ok (.ireturn, 1) := by decide +kernel
theorem d_Mod_field_81 : decode b_Mod_field 81 = .ok (.aload_n 0, 1) := by decide +kernel
theorem d_Mod_field_82 : decode b_Mod_field 82 = .ok (.getfield 76, 3) := by decide +kernel
theorem d_Mod_field_85 : decode b_Mod_field 85 = .ok (.iload_n 2, 1) := by decide +kernel
theorem d_Mod_field_86 : decode b_Mod_field 86 = .ok (.iaload, 1) := by decide +kernel
theorem d_Mod_field_87 : decode b_Mod_field 87 = .ok (.ireturn, 1) := by decide +kernel
theorem d_Mod_field_88 : decode b_Mod_field 88 = .ok (.aload_n 0, 1) := by decide +kernel
theorem d_Mod_field_89 : decode b_Mod_field 89 = .ok (.getfield 79, 3) := by decide +kernel
theorem d_Mod_field_92 : decode b_Mod_field 92 = .ok (.iload_n 2, 1) := by decide +kernel
theorem d_Mod_field_93 : decode b_Mod_field 93 = .ok (.iaload, 1) := by decide +kernel
theorem d_Mod_field_94 : decode b_Mod_field 94 = .ok (.ireturn, 1) := by decide +kernel
theorem d_Mod_field_95 : decode b_Mod_field 95 = .ok (.aload_n 0, 1) := by decide +kernel
theorem d_Mod_field_96 : decode b_Mod_field 96 = .ok (.getfield 82, 3) := by decide +kernel
theorem d_Mod_field_99 : decode b_Mod_field 99 = .ok (.iload_n 2, 1) := by decide +kernel
theorem d_Mod_field_100 : decode b_Mod_field 100 = .ok (.iaload, 1) := by decide +kernel
theorem d_Mod_field_101 : decode b_Mod_field 101 = .ok (.ireturn, 1) := by decide +kernel
theorem d_Mod_field_102 : decode b_Mod_field 102 = .ok (.iconst (-1), 1) := by decide +kernel
theorem d_Mod_field_103 : decode b_Mod_field 103 = .ok (.ireturn, 1) := by decide +kernel
theorem d_Mod_reference_0 : decode b_Mod_reference 0 = .ok (.aload_n 0, 1) := by decide +kernel
theorem d_Mod_reference_1 : decode b_Mod_reference 1 = .ok (.iconst 0, 1) := by decide +kernel
theorem d_Mod_reference_2 : decode b_Mod_reference 2 = .ok (.putfield 139, 3) := by decide +kernel
theorem d_Mod_reference_5 : decode b_Mod_reference 5 = .ok (.iload_n 2, 1) := by decide +kernel
theorem d_Mod_reference_6 : decode b_Mod_reference 6 = .ok (.ifCond .lt 12, 3) := by decide +kernel
theorem d_Mod_reference_9 : decode b_Mod_reference 9 = .ok (.iload_n 2, 1) := by decide +kernel
theorem d_Mod_reference_10 : decode b_Mod_reference 10 = .ok (.aload_n 0, 1) := by decide +kernel
theorem d_Mod_reference_11 : decode b_Mod_reference 11 = .ok (.iload_n 1, 1) := by decide +kernel
theorem d_Mod_reference_12 : decode b_Mod_reference 12 = .ok (.invokevirtual 304, 3) := by decide +kernel
theorem d_Mod_reference_15 : decode b_Mod_reference 15 = .ok (.if_icmp .lt 7, 3) := by decide +kernel
theorem d_Mod_reference_18 : decode b_Mod_reference 18 = .ok (.lconst 0, 1) := by decide +kernel
theorem d_Mod_reference_19 : decode b_Mod_reference 19 = .ok (.goto 9, 3) := by decide +kernel
theorem d_Mod_reference_22 : decode b_Mod_reference 22 = .ok (.aload_n 0, 1) := by decide +kernel
theorem d_Mod_reference_23 : decode b_Mod_reference 23 = .ok (.getfield 85, 3) := by decide +kernel
theorem d_Mod_reference_26 : decode b_Mod_reference 26 = .ok (.iload_n 2, 1) := by decide +kernel
theorem d_Mod_reference_27 : decode b_Mod_reference 27 = .ok (.laload, 1) := by decide +kernel
theorem d_Mod_reference_28 : decode b_Mod_reference 28 = .ok (.lreturn, 1) := by decide +kernel
theorem d_Mod_find_0 : decode b_Mod_find 0 = .ok (.aload_n 0, 1) := by decide +kernel
theorem d_Mod_find_1 : decode b_Mod_find 1 = .ok (.iconst 0, 1) := by decide +kernel
theorem d_Mod_find_2 : decode b_Mod_find 2 = .ok (.putfield 139, 3) := by decide +kernel
theorem d_Mod_find_5 : decode b_Mod_find 5 = .ok (.aload_n 0, 1) := by decide +kernel
theorem d_Mod_find_6 : decode b_Mod_find 6 = .ok (.iload_n 1, 1) := by decide +kernel
theorem d_Mod_find_7 : decode b_Mod_find 7 = .ok (.invokevirtual 304, 3) := by decide +kernel
theorem d_Mod_find_10 : decode b_Mod_find 10 = .ok (.istore 5, 2) := by decide +kernel
theorem d_Mod_find_12 : decode b_Mod_find 12 = .ok (.iconst 0, 1) := by decide +kernel
theorem d_Mod_find_13 : decode b_Mod_find 13 = .ok (.istore 6, 2) := by decide +kernel
theorem d_Mod_find_15 : decode b_Mod_find 15 = .ok (.iconst 0, 1) := by decide +kernel
theorem d_Mod_find_16 : decode b_Mod_find 16 = .ok (.istore 7, 2) := by decide +kernel
theorem d_Mod_find_18 : decode b_Mod_find 18 = .ok (.iload 7, 2) := by decide +kernel
theorem d_Mod_find_20 : decode b_Mod_find 20 = .ok (.iload 5, 2) := by decide +kernel
theorem d_Mod_find_22 : decode b_Mod_find 22 = .ok (.if_icmp .ge 62, 3) := by decide +kernel
theorem d_Mod_find_25 : decode b_Mod_find 25 = .ok (.aload_n 0, 1) := by decide +kernel
theorem d_Mod_find_26 : decode b_Mod_find 26 = .ok (.getfield 67, 3) := by decide +kernel
theorem d_Mod_find_29 : decode b_Mod_find 29 = .ok (.iload 7, 2) := by decide +kernel
theorem d_Mod_find_31 : decode b_Mod_find 31 = .ok (.iaload, 1) := by decide +kernel
theorem d_Mod_find_32 : decode b_Mod_find 32 = .ok (.ifCond .ne 46, 3) := by decide +kernel
theorem d_Mod_find_35 : decode b_Mod_find 35 = .ok (.aload_n 0, 1) := by decide +kernel
theorem d_Mod_find_36 : decode b_Mod_find 36 = .ok (.getfield 70, 3) := by decide +kernel
theorem d_Mod_find_39 : decode b_Mod_find 39 = .ok (.iload 7, 2) := by decide +kernel
theorem d_Mod_find_41 : decode b_Mod_find 41 = .ok (.iaload, 1) := by decide +kernel
theorem d_Mod_find_42 : decode b_Mod_find 42 = .ok (.iload_n 2, 1) := by decide +kernel
theorem d_Mod_find_43 : decode b_Mod_find 43 = .ok (.if_icmp .ne 35, 3) := by decide +kernel
theorem d_Mod_find_46 : decode b_Mod_find 46 = .ok (.iload_n 3, 1) := by decide +kernel
theorem d_Mod_find_47 : decode b_Mod_find 47 = .ok (.iconst (-1), 1) := by decide +kernel
theorem d_Mod_find_48 : decode b_Mod_find 48 = .ok (.if_icmp .eq 17, 3) := by decide +kernel
theorem d_Mod_find_51 : decode b_Mod_find 51 = .ok (.aload_n 0, 1) := by decide +kernel
theorem d_Mod_find_52 : decode b_Mod_find 52 = .ok (.getfield 82, 3) := by decide +kernel
theorem d_Mod_find_55 : decode b_Mod_find 55 = .ok (.iload 7, 2) := by decide +kernel
theorem d_Mod_find_57 : decode b_Mod_find 57 = .ok (.iaload, 1) := by decide +kernel
theorem d_Mod_find_58 : decode b_Mod_find 58 = .ok (.iload_n 3, 1) := by decide +kernel
theorem d_Mod_find_59 : decode b_Mod_find 59 = .ok (.if_icmp .eq 6, 3) := by decide +kernel
theorem d_Mod_find_62 : decode b_Mod_find 62 = .ok (.goto 16, 3) := by decide +kernel
theorem d_Mod_find_65 : decode b_Mod_find 65 = .ok (.iload 6, 2) := by decide +kernel
theorem d_Mod_find_67 : decode b_Mod_find 67 = .ok (.iload 4, 2) := by decide +kernel
theorem d_Mod_find_69 : decode b_Mod_find 69 = .ok (.if_icmp .ne 6, 3) := by decide +kernel
theorem d_Mod_find_72 : decode b_Mod_find 72 = .ok (.iload 7, 2) := by decide +kernel
theorem d_Mod_find_74 : decode b_Mod_find 74 = .ok (.ireturn, 1) := by decide +kernel
theorem d_Mod_find_75 : decode b_Mod_find 75 = .ok (.iinc 6 1, 3) := by decide +kernel
theorem d_Mod_find_78 : decode b_Mod_find 78 = .ok (.iinc 7 1, 3) := by decide +kernel
theorem d_Mod_find_81 : decode b_Mod_find 81 = .ok (.goto (-63), 3) := by decide +kernel
theorem d_Mod_find_84 : decode b_Mod_find 84 = .ok (.iconst (-1), 1) := by decide +kernel
theorem d_Mod_find_85 : decode b_Mod_find 85 = .ok (.ireturn, 1) := by decide +kernel
theorem d_Mod_write_0 : decode b_Mod_write 0 = .ok (.aload_n 0, 1) := by decide +kernel
theorem d_Mod_write_1 : decode b_Mod_write 1 = .ok (.invokevirtual 207, 3) := by decide +kernel
theorem d_Mod_write_4 : decode b_Mod_write 4 = .ok (.aload_n 0, 1) := by decide +kernel
theorem d_Mod_write_5 : decode b_Mod_write 5 = .ok (.iload_n 1, 1) := by decide +kernel
theorem d_Mod_write_6 : decode b_Mod_write 6 = .ok (.iconst 1, 1) := by decide +kernel
theorem d_Mod_write_7 : decode b_Mod_write 7 = .ok (.if_icmp .lt 9, 3) := by decide +kernel
theorem d_Mod_write_10 : decode b_Mod_write 10 = .ok (.iload_n 1, 1) := by decide +kernel
theorem d_Mod_write_11 : decode b_Mod_write 11 = .ok (.bipush 8, 2) := by decide +kernel
theorem d_Mod_write_13 : decode b_Mod_write 13 = .ok (.if_icmp .le 7, 3) := by decide +kernel
theorem d_Mod_write_16 : decode b_Mod_write 16 = .ok (.iconst 1, 1) := by decide +kernel
theorem d_Mod_write_17 : decode b_Mod_write 17 = .ok (.goto 4, 3) := by decide +kernel
theorem d_Mod_write_20 : decode b_Mod_write 20 = .ok (.iconst 0, 1) := by decide +kernel
theorem d_Mod_write_21 : decode b_Mod_write 21 = .ok (.putfield 139, 3) := by decide +kernel
theorem d_Mod_write_24 : decode b_Mod_write 24 = .ok (.aload_n 0, 1) := by decide +kernel
theorem d_Mod_write_25 : decode b_Mod_write 25 = .ok (.getfield 139, 3) := by decide +kernel
theorem d_Mod_write_28 : decode b_Mod_write 28 = .ok (.ifCond .le 5, 3) := by decide +kernel
theorem d_Mod_write_31 : decode b_Mod_write 31 = .ok (.iconst 0, 1) := by decide +kernel
theorem d_Mod_write_32 : decode b_Mod_write 32 = .ok (.ireturn, 1) := by decide +kernel
theorem d_Mod_write_33 : decode b_Mod_write 33 = .ok (.aload_n 0, 1) := by decide +kernel
theorem d_Mod_write_34 : decode b_Mod_write 34 = .ok (.invokevirtual 220, 3) := by decide +kernel
theorem d_Mod_write_37 : decode b_Mod_write 37 = .ok (.aload_n 0, 1) := by decide +kernel
theorem d_Mod_write_38 : decode b_Mod_write 38 = .ok (.iconst 0, 1) := by decide +kernel
theorem d_Mod_write_39 : decode b_Mod_write 39 = .ok (.putfield 232, 3) := by decide +kernel
theorem d_Mod_write_42 : decode b_Mod_write 42 = .ok (.iconst 0, 1) := by decide +kernel
theorem d_Mod_write_43 : decode b_Mod_write 43 = .ok (.istore_n 3, 1) := by decide +kernel
theorem d_Mod_write_44 : decode b_Mod_write 44 = .ok (.iload_n 3, 1) := by decide +kernel
theorem d_Mod_write_45 : decode b_Mod_write 45 = .ok (.iload_n 1, 1) := by decide +kernel
theorem d_Mod_write_46 : decode b_Mod_write 46 = .ok (.if_icmp .ge 88, 3) := by decide +kernel
theorem d_Mod_write_49 : decode b_Mod_write 49 = .ok (.aload_n 0, 1) := by decide +kernel
theorem d_Mod_write_50 : decode b_Mod_write 50 = .ok (.getfield 173, 3) := by decide +kernel
theorem d_Mod_write_53 : decode b_Mod_write 53 = .ok (.ifCond .ne 81, 3) := by decide +kernel
theorem d_Mod_write_56 : decode b_Mod_write 56 = .ok (.aload_n 0, 1) := by decide +kernel
theorem d_Mod_write_57 : decode b_Mod_write 57 = .ok (.iload_n 3, 1) := by decide +kernel
theorem d_Mod_write_58 : decode b_Mod_write 58 = .ok (.iconst 1, 1) := by decide +kernel
theorem d_Mod_write_59 : decode b_Mod_write 59 = .ok (.invokevirtual 301, 3) := by decide +kernel
theorem d_Mod_write_62 : decode b_Mod_write 62 = .ok (.iload_n 3, 1) := by decide +kernel
theorem d_Mod_write_63 : decode b_Mod_write 63 = .ok (.ifCond .ne 7, 3) := by decide +kernel
theorem d_Mod_write_66 : decode b_Mod_write 66 = .ok (.aload_n 0, 1) := by decide +kernel
theorem d_Mod_write_67 : decode b_Mod_write 67 = .ok (.invokevirtual 320, 3) := by decide +kernel
theorem d_Mod_write_70 : decode b_Mod_write 70 = .ok (.iconst 0, 1) := by decide +kernel
theorem d_Mod_write_71 : decode b_Mod_write 71 = .ok (.istore 4, 2) := by decide +kernel
theorem d_Mod_write_73 : decode b_Mod_write 73 = .ok (.iload 4, 2) := by decide +kernel
theorem d_Mod_write_75 : decode b_Mod_write 75 = .ok (.aload_n 0, 1) := by decide +kernel
theorem d_Mod_write_76 : decode b_Mod_write 76 = .ok (.getfield 258, 3) := by decide +kernel
theorem d_Mod_write_79 : decode b_Mod_write 79 = .ok (.if_icmp .ge 49, 3) := by decide +kernel
theorem d_Mod_write_82 : decode b_Mod_write 82 = .ok (.aload_n 0, 1) := by decide +kernel
theorem d_Mod_write_83 : decode b_Mod_write 83 = .ok (.getfield 173, 3) := by decide +kernel
theorem d_Mod_write_86 : decode b_Mod_write 86 = .ok (.ifCond .ne 42, 3) := by decide +kernel
theorem d_Mod_write_89 : decode b_Mod_write 89 = .ok (.iload_n 2, 1) := by decide +kernel
theorem d_Mod_write_90 : decode b_Mod_write 90 = .ok (.ifCond .ne 38, 3) := by decide +kernel
theorem d_Mod_write_93 : decode b_Mod_write 93 = .ok (.aload_n 0, 1) := by decide +kernel
theorem d_Mod_write_94 : decode b_Mod_write 94 = .ok (.aload_n 0, 1) := by decide +kernel
theorem d_Mod_write_95 : decode b_Mod_write 95 = .ok (.iload 4, 2) := by decide +kernel
theorem d_Mod_write_97 : decode b_Mod_write 97 = .ok (.aload_n 0, 1) := by decide +kernel
theorem d_Mod_write_98 : decode b_Mod_write 98 = .ok (.getfield 36, 3) := by decide +kernel
theorem d_Mod_write_101 : decode b_Mod_write 101 = .ok (.bipush 100, 2) := by decide +kernel
theorem d_Mod_write_103 : decode b_Mod_write 103 = .ok (.iload_n 3, 1) := by decide +kernel
theorem d_Mod_write_104 : decode b_Mod_write 104 = .ok (.imul, 1) := by decide +kernel
theorem d_Mod_write_105 : decode b_Mod_write 105 = .ok (.iload 4, 2) := by decide +kernel
theorem d_Mod_write_107 : decode b_Mod_write 107 = .ok (.iadd, 1) := by decide +kernel
theorem d_Mod_write_108 : decode b_Mod_write 108 = .ok (.laload, 1) := by decide +kernel
theorem d_Mod_write_109 : decode b_Mod_write 109 = .ok (.invokevirtual 313, 3) := by decide +kernel
theorem d_Mod_write_112 : decode b_Mod_write 112 = .ok (.aload_n 0, 1) := by decide +kernel
theorem d_Mod_write_113 : decode b_Mod_write 113 = .ok (.getfield 73, 3) := by decide +kernel
theorem d_Mod_write_116 : decode b_Mod_write 116 = .ok (.iload 4, 2) := by decide +kernel
theorem d_Mod_write_118 : decode b_Mod_write 118 = .ok (.iaload, 1) := by decide +kernel
theorem d_Mod_write_119 : decode b_Mod_write 119 = .ok (.invokevirtual 316, 3) := by decide +kernel
theorem d_Mod_write_122 : decode b_Mod_write 122 = .ok (.iinc 4 1, 3) := by decide +kernel
theorem d_Mod_write_125 : decode b_Mod_write 125 = .ok (.goto (-52), 3) := by decide +kernel
theorem d_Mod_write_128 : decode b_Mod_write 128 = .ok (.iinc 3 1, 3) := by decide +kernel
theorem d_Mod_write_131 : decode b_Mod_write 131 = .ok (.goto (-87), 3) := by decide +kernel
theorem d_Mod_write_134 : decode b_Mod_write 134 = .ok (.iload_n 2, 1) := by decide +kernel
theorem d_Mod_write_135 : decode b_Mod_write 135 = .ok (.ifCond .eq 57, 3) := by decide +kernel
theorem d_Mod_write_138 : decode b_Mod_write 138 = .ok (.aload_n 0, 1) := by decide +kernel
theorem d_Mod_write_139 : decode b_Mod_write 139 = .ok (.getfield 173, 3) := by decide +kernel
theorem d_Mod_write_142 : decode b_Mod_write 142 = .ok (.ifCond .ne 50, 3) := by decide +kernel
theorem d_Mod_write_145 : decode b_Mod_write 145 = .ok (.aload_n 0, 1) := by decide +kernel
theorem d_Mod_write_146 : decode b_Mod_write 146 = .ok (.iload_n 1, 1) := by decide +kernel
theorem d_Mod_write_147 : decode b_Mod_write 147 = .ok (.invokevirtual 323, 3) := by decide +kernel
theorem d_Mod_write_150 : decode b_Mod_write 150 = .ok (.aload_n 0, 1) := by decide +kernel
theorem d_Mod_write_151 : decode b_Mod_write 151 = .ok (.getfield 173, 3) := by decide +kernel
theorem d_Mod_write_154 : decode b_Mod_write 154 = .ok (.ifCond .ne 9, 3) := by decide +kernel
theorem d_Mod_write_157 : decode b_Mod_write 157 = .ok (.aload_n 0, 1) := by decide +kernel
theorem d_Mod_write_158 : decode b_Mod_write 158 = .ok (.iconst 0, 1) := by decide +kernel
theorem d_Mod_write_159 : decode b_Mod_write 159 = .ok (.iconst 1, 1) := by decide +kernel
theorem d_Mod_write_160 : decode b_Mod_write 160 = .ok (.invokevirtual 301, 3) := by decide +kernel
theorem d_Mod_write_163 : decode b_Mod_write 163 = .ok (.iconst 0, 1) := by decide +kernel
theorem d_Mod_write_164 : decode b_Mod_write 164 = .ok (.istore_n 3, 1) := by decide +kernel
theorem d_Mod_write_165 : decode b_Mod_write 165 = .ok (.iload_n 3, 1) := by decide +kernel
theorem d_Mod_write_166 : decode b_Mod_write 166 = .ok (.aload_n 0, 1) := by decide +kernel
theorem d_Mod_write_167 : decode b_Mod_write 167 = .ok (.getfield 258, 3) := by decide +kernel
theorem d_Mod_write_170 : decode b_Mod_write 170 = .ok (.if_icmp .ge 22, 3) := by decide +kernel
theorem d_Mod_write_173 : decode b_Mod_write 173 = .ok (.aload_n 0, 1) := by decide +kernel
theorem d_Mod_write_174 : decode b_Mod_write 174 = .ok (.getfield 173, 3) := by decide +kernel
theorem d_Mod_write_177 : decode b_Mod_write 177 = .ok (.ifCond .ne 15, 3) := by decide +kernel
theorem d_Mod_write_180 : decode b_Mod_write 180 = .ok (.aload_n 0, 1) := by decide +kernel
theorem d_Mod_write_181 : decode b_Mod_write 181 = .ok (.iload_n 3, 1) := by decide +kernel
theorem d_Mod_write_182 : decode b_Mod_write 182 = .ok (.iload_n 1, 1) := by decide +kernel
theorem d_Mod_write_183 : decode b_Mod_write 183 = .ok (.invokevirtual 326, 3) := by decide +kernel
theorem d_Mod_write_186 : decode b_Mod_write 186 = .ok (.iinc 3 1, 3) := by decide +kernel
theorem d_Mod_write_189 : decode b_Mod_write 189 = .ok (.goto (-24), 3) := by decide +kernel
theorem d_Mod_write_192 : decode b_Mod_write 192 = .ok (.aload_n 0, 1) := by decide +kernel
theorem d_Mod_write_193 : decode b_Mod_write 193 = .ok (.aload_n 0, 1) := by decide +kernel
theorem d_Mod_write_194 : decode b_Mod_write 194 = .ok (.getfield 173, 3) := by decide +kernel
theorem d_Mod_write_197 : decode b_Mod_write 197 = .ok (.ifCond .le 7, 3) := by decide +kernel
theorem d_Mod_write_200 : decode b_Mod_write 200 = .ok (.iconst 1, 1) := by decide +kernel
theorem d_Mod_write_201 : decode b_Mod_write 201 = .ok (.goto 4, 3) := by decide +kernel
theorem d_Mod_write_204 : decode b_Mod_write 204 = .ok (.iconst 0, 1) := by decide +kernel
theorem d_Mod_write_205 : decode b_Mod_write 205 = .ok (.putfield 139, 3) := by decide +kernel
theorem d_Mod_write_208 : decode b_Mod_write 208 = .ok (.aload_n 0, 1) := by decide +kernel
theorem d_Mod_write_209 : decode b_Mod_write 209 = .ok (.getfield 139, 3) := by decide +kernel
theorem d_Mod_write_212 : decode b_Mod_write 212 = .ok (.ifCond .le 5, 3) := by decide +kernel
theorem d_Mod_write_215 : decode b_Mod_write 215 = .ok (.iconst 0, 1) := by decide +kernel
theorem d_Mod_write_216 : decode b_Mod_write 216 = .ok (.ireturn, 1) := by decide +kernel
theorem d_Mod_write_217 : decode b_Mod_write 217 = .ok (.iconst 0, 1) := by decide +kernel
theorem d_Mod_write_218 : decode b_Mod_write 218 = .ok (.istore_n 3, 1) := by decide +kernel
theorem d_Mod_write_219 : decode b_Mod_write 219 = .ok (.iload_n 3, 1) := by decide +kernel
theorem d_Mod_write_220 : decode b_Mod_write 220 = .ok (.aload_n 0, 1) := by decide +kernel
theorem d_Mod_write_221 : decode b_Mod_write 221 = .ok (.getfield 232, 3) := by decide +kernel
theorem d_Mod_write_224 : decode b_Mod_write 224 = .ok (.if_icmp .ge 21, 3) := by decide +kernel
theorem d_Mod_write_227 : decode b_Mod_write 227 = .ok (.aload_n 0, 1) := by decide +kernel
theorem d_Mod_write_228 : decode b_Mod_write 228 = .ok (.getfield 98, 3) := by decide +kernel
theorem d_Mod_write_231 : decode b_Mod_write 231 = .ok (.iload_n 3, 1) := by decide +kernel
theorem d_Mod_write_232 : decode b_Mod_write 232 = .ok (.aload_n 0, 1) := by decide +kernel
theorem d_Mod_write_233 : decode b_Mod_write 233 = .ok (.getfield 95, 3) := by decide +kernel
theorem d_Mod_write_236 : decode b_Mod_write 236 = .ok (.iload_n 3, 1) := by decide +kernel
theorem d_Mod_write_237 : decode b_Mod_write 237 = .ok (.baload, 1) := by decide +kernel
theorem d_Mod_write_238 : decode b_Mod_write 238 = .ok (.bastore, 1) := by decide +kernel
theorem d_Mod_write_239 : decode b_Mod_write 239 = .ok (.iinc 3 1, 3) := by decide +kernel
theorem d_Mod_write_242 : decode b_Mod_write 242 = .ok (.goto (-23), 3) := by decide +kernel
theorem d_Mod_write_245 : decode b_Mod_write 245 = .ok (.aload_n 0, 1) := by decide +kernel
theorem d_Mod_write_246 : decode b_Mod_write 246 = .ok (.aload_n 0, 1) := by decide +kernel
theorem d_Mod_write_247 : decode b_Mod_write 247 = .ok (.getfield 232, 3) := by decide +kernel
theorem d_Mod_write_250 : decode b_Mod_write 250 = .ok (.putfield 329, 3) := by decide +kernel
theorem d_Mod_write_253 : decode b_Mod_write 253 = .ok (.aload_n 0, 1) := by decide +kernel
theorem d_Mod_write_254 : decode b_Mod_write 254 = .ok (.iload_n 2, 1) := by decide +kernel
theorem d_Mod_write_255 : decode b_Mod_write 255 = .ok (.ifCond .eq 8, 3) := by decide +kernel
theorem d_Mod_write_258 : decode b_Mod_write 258 = .ok (.bipush 67, 2) := by decide +kernel
theorem d_Mod_write_260 : decode b_Mod_write 260 = .ok (.goto 5, 3) := by decide +kernel
theorem d_Mod_write_263 : decode b_Mod_write 263 = .ok (.bipush 66, 2) := by decide +kernel
theorem d_Mod_write_265 : decode b_Mod_write 265 = .ok (.putfield 332, 3) := by decide +kernel
theorem d_Mod_write_268 : decode b_Mod_write 268 = .ok (.aload_n 0, 1) := by decide +kernel
theorem d_Mod_write_269 : decode b_Mod_write 269 = .ok (.iload_n 1, 1) := by decide +kernel
theorem d_Mod_write_270 : decode b_Mod_write 270 = .ok (.putfield 335, 3) := by decide +kernel
theorem d_Mod_write_273 : decode b_Mod_write 273 = .ok (.aload_n 0, 1) := by decide +kernel
theorem d_Mod_write_274 : decode b_Mod_write 274 = .ok (.iconst 1, 1) := by decide +kernel
theorem d_Mod_write_275 : decode b_Mod_write 275 = .ok (.putfield 338, 3) := by decide +kernel
theorem d_Mod_write_278 : decode b_Mod_write 278 = .ok (.iconst 4, 1) := by decide +kernel
theorem d_Mod_write_279 : decode b_Mod_write 279 = .ok (.aload_n 0, 1) := by decide +kernel
theorem d_Mod_write_280 : decode b_Mod_write 280 = .ok (.getfield 232, 3) := by decide +kernel
theorem d_Mod_write_283 : decode b_Mod_write 283 = .ok (.bipush 7, 2) := by decide +kernel
theorem d_Mod_write_285 : decode b_Mod_write 285 = .ok (.iadd, 1) := by decide +kernel
theorem d_Mod_write_286 : decode b_Mod_write 286 = .ok (.bipush 8, 2) := by decide +kernel
theorem d_Mod_write_288 : decode b_Mod_write 288 = .ok (.idiv, 1) := by decide +kernel
theorem d_Mod_write_289 : decode b_Mod_write 289 = .ok (.iadd, 1) := by decide +kernel
theorem d_Mod_write_290 : decode b_Mod_write 290 = .ok (.ireturn, 1) := by decide +kernel
theorem d_Mod_read_0 : decode b_Mod_read 0 = .ok (.aload_n 0, 1) := by decide +kernel
theorem d_Mod_read_1 : decode b_Mod_read 1 = .ok (.getfield 342, 3) := by decide +kernel
theorem d_Mod_read_4 : decode b_Mod_read 4 = .ok (.istore_n 1, 1) := by decide +kernel
theorem d_Mod_read_5 : decode b_Mod_read 5 = .ok (.aload_n 0, 1) := by decide +kernel
theorem d_Mod_read_6 : decode b_Mod_read 6 = .ok (.iconst 0, 1) := by decide +kernel
theorem d_Mod_read_7 : decode b_Mod_read 7 = .ok (.putfield 342, 3) := by decide +kernel
theorem d_Mod_read_10 : decode b_Mod_read 10 = .ok (.aload_n 0, 1) := by decide +kernel
theorem d_Mod_read_11 : decode b_Mod_read 11 = .ok (.invokevirtual 220, 3) := by decide +kernel
theorem d_Mod_read_14 : decode b_Mod_read 14 = .ok (.aload_n 0, 1) := by decide +kernel
theorem d_Mod_read_15 : decode b_Mod_read 15 = .ok (.iconst 0, 1) := by decide +kernel
theorem d_Mod_read_16 : decode b_Mod_read 16 = .ok (.putfield 229, 3) := by decide +kernel
theorem d_Mod_read_19 : decode b_Mod_read 19 = .ok (.iconst 0, 1) := by decide +kernel
theorem d_Mod_read_20 : decode b_Mod_read 20 = .ok (.istore_n 2, 1) := by decide +kernel
theorem d_Mod_read_21 : decode b_Mod_read 21 = .ok (.iload_n 2, 1) := by decide +kernel
theorem d_Mod_read_22 : decode b_Mod_read 22 = .ok (.sipush 800, 3) := by decide +kernel
theorem d_Mod_read_25 : decode b_Mod_read 25 = .ok (.if_icmp .ge 18, 3) := by decide +kernel
theorem d_Mod_read_28 : decode b_Mod_read 28 = .ok (.aload_n 0, 1) := by decide +kernel
theorem d_Mod_read_29 : decode b_Mod_read 29 = .ok (.getfield 40, 3) := by decide +kernel
theorem d_Mod_read_32 : decode b_Mod_read 32 = .ok (.iload_n 2, 1) := by decide +kernel
theorem d_Mod_read_33 : decode b_Mod_read 33 = .ok (.ldc2_w 137, 3) := by decide +kernel
theorem d_Mod_read_36 : decode b_Mod_read 36 = .ok (.lastore, 1) := by decide +kernel
theorem d_Mod_read_37 : decode b_Mod_read 37 = .ok (.iinc 2 1, 3) := by decide +kernel
theorem d_Mod_read_40 : decode b_Mod_read 40 = .ok (.goto (-19), 3) := by decide +kernel
theorem d_Mod_read_43 : decode b_Mod_read 43 = .ok (.aload_n 0, 1) := by decide +kernel
theorem d_Mod_read_44 : decode b_Mod_read 44 = .ok (.getfield 173, 3) := by decide +kernel
theorem d_Mod_read_47 : decode b_Mod_read 47 = .ok (.ifCond .ne 18, 3) := by decide +kernel
theorem d_Mod_read_50 : decode b_Mod_read 50 = .ok (.aload_n 0, 1) := by decide +kernel
theorem d_Mod_read_51 : decode b_Mod_read 51 = .ok (.iload_n 1, 1) := by decide +kernel
theorem d_Mod_read_52 : decode b_Mod_read 52 = .ok (.invokevirtual 345, 3) := by decide +kernel
theorem d_Mod_read_55 : decode b_Mod_read 55 = .ok (.ifCond .ne 10, 3) := by decide +kernel
theorem d_Mod_read_58 : decode b_Mod_read 58 = .ok (.aload_n 0, 1) := by decide +kernel
theorem d_Mod_read_59 : decode b_Mod_read 59 = .ok (.bipush 11, 2) := by decide +kernel
theorem d_Mod_read_61 : decode b_Mod_read 61 = .ok (.iconst (-1), 1) := by decide +kernel
theorem d_Mod_read_62 : decode b_Mod_read 62 = .ok (.invokevirtual 184, 3) := by decide +kernel
theorem d_Mod_read_65 : decode b_Mod_read 65 = .ok (.aload_n 0, 1) := by decide +kernel
theorem d_Mod_read_66 : decode b_Mod_read 66 = .ok (.iload_n 1, 1) := by decide +kernel
theorem d_Mod_read_67 : decode b_Mod_read 67 = .ok (.iconst 1, 1) := by decide +kernel
theorem d_Mod_read_68 : decode b_Mod_read 68 = .ok (.if_icmp .le 12, 3) := by decide +kernel
theorem d_Mod_read_71 : decode b_Mod_read 71 = .ok (.aload_n 0, 1) := by decide +kernel
theorem d_Mod_read_72 : decode b_Mod_read 72 = .ok (.getfield 101, 3) := by decide +kernel
theorem d_Mod_read_75 : decode b_Mod_read 75 = .ok (.iconst 1, 1) := by decide +kernel
theorem d_Mod_read_76 : decode b_Mod_read 76 = .ok (.iaload, 1) := by decide +kernel
theorem d_Mod_read_77 : decode b_Mod_read 77 = .ok (.goto 4, 3) := by decide +kernel
theorem d_Mod_read_80 : decode b_Mod_read 80 = .ok (.iconst 0, 1) := by decide +kernel
theorem d_Mod_read_81 : decode b_Mod_read 81 = .ok (.putfield 248, 3) := by decide +kernel
theorem d_Mod_read_84 : decode b_Mod_read 84 = .ok (.aload_n 0, 1) := by decide +kernel
theorem d_Mod_read_85 : decode b_Mod_read 85 = .ok (.getfield 101, 3) := by decide +kernel
theorem d_Mod_read_88 : decode b_Mod_read 88 = .ok (.iconst 0, 1) := by decide +kernel
theorem d_Mod_read_89 : decode b_Mod_read 89 = .ok (.iaload, 1) := by decide +kernel
theorem d_Mod_read_90 : decode b_Mod_read 90 = .ok (.bipush 67, 2) := by decide +kernel
theorem d_Mod_read_92 : decode b_Mod_read 92 = .ok (.if_icmp .ne 7, 3) := by decide +kernel
theorem d_Mod_read_95 : decode b_Mod_read 95 = .ok (.iconst 1, 1) := by decide +kernel
theorem d_Mod_read_96 : decode b_Mod_read 96 = .ok (.goto 4, 3) := by decide +kernel
theorem d_Mod_read_99 : decode b_Mod_read 99 = .ok (.iconst 0, 1) := by decide +kernel
theorem d_Mod_read_100 : decode b_Mod_read 100 = .ok (.istore_n 2, 1) := by decide +kernel
theorem d_Mod_read_101 : decode b_Mod_read 101 = .ok (.aload_n 0, 1) := by decide +kernel
theorem d_Mod_read_102 : decode b_Mod_read 102 = .ok (.getfield 173, 3) := by decide +kernel
theorem d_Mod_read_105 : decode b_Mod_read 105 = .ok (.ifCond .ne 13, 3) := by decide +kernel
