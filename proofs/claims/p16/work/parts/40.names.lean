abbrev b_X_checkAlike : ByteArray := prog_1_method_32_code
abbrev y_X_checkAlike : MethodName := ⟨"ObsMessages", "checkAlike", "(I)Z"⟩
abbrev k_X_checkAlike : Cond := .code y_X_checkAlike b_X_checkAlike 4 (some .boolean)
abbrev ws_X_checkAlike : List Cond := k_X_checkAlike :: tb
abbrev b_X_element : ByteArray := prog_1_method_2_code
abbrev y_X_element : MethodName := ⟨"ObsMessages", "element", "(IIIII)V"⟩
abbrev k_X_element : Cond := .code y_X_element b_X_element 7 none
abbrev ws_X_element : List Cond := k_X_element :: tb
abbrev b_X_version : ByteArray := prog_1_method_4_code
abbrev y_X_version : MethodName := ⟨"ObsMessages", "version", "(I)V"⟩
abbrev k_X_version : Cond := .code y_X_version b_X_version 2 none
abbrev ws_X_version : List Cond := k_X_version :: tb
abbrev b_X_append : ByteArray := prog_1_method_5_code
abbrev y_X_append : MethodName := ⟨"ObsMessages", "append", "(II)I"⟩
abbrev k_X_append : Cond := .code y_X_append b_X_append 4 (some .int)
abbrev ws_X_append : List Cond := k_X_append :: tb
abbrev b_X_clear : ByteArray := prog_1_method_6_code
abbrev y_X_clear : MethodName := ⟨"ObsMessages", "clear", "(I)V"⟩
abbrev k_X_clear : Cond := .code y_X_clear b_X_clear 3 none
abbrev ws_X_clear : List Cond := k_X_clear :: tb
abbrev b_X_compile : ByteArray := prog_1_method_7_code
abbrev y_X_compile : MethodName := ⟨"ObsMessages", "compile", "()I"⟩
abbrev k_X_compile : Cond := .code y_X_compile b_X_compile 1 (some .int)
abbrev ws_X_compile : List Cond := k_X_compile :: tb
abbrev b_X_put : ByteArray := prog_1_method_9_code
abbrev y_X_put : MethodName := ⟨"ObsMessages", "put", "(IIJ)V"⟩
abbrev k_X_put : Cond := .code y_X_put b_X_put 5 none
abbrev ws_X_put : List Cond := k_X_put :: tb
abbrev b_X_get : ByteArray := prog_1_method_10_code
abbrev y_X_get : MethodName := ⟨"ObsMessages", "get", "(II)J"⟩
abbrev k_X_get : Cond := .code y_X_get b_X_get 3 (some .long)
abbrev ws_X_get : List Cond := k_X_get :: tb
abbrev b_X_fields : ByteArray := prog_1_method_11_code
abbrev y_X_fields : MethodName := ⟨"ObsMessages", "fields", "(I)I"⟩
abbrev k_X_fields : Cond := .code y_X_fields b_X_fields 2 (some .int)
abbrev ws_X_fields : List Cond := k_X_fields :: tb
abbrev b_X_write : ByteArray := prog_1_method_15_code
abbrev y_X_write : MethodName := ⟨"ObsMessages", "write", "(IZ)I"⟩
abbrev k_X_write : Cond := .code y_X_write b_X_write 3 (some .int)
abbrev ws_X_write : List Cond := k_X_write :: tb
abbrev b_X_read : ByteArray := prog_1_method_18_code
abbrev y_X_read : MethodName := ⟨"ObsMessages", "read", "()I"⟩
abbrev k_X_read : Cond := .code y_X_read b_X_read 2 (some .int)
abbrev ws_X_read : List Cond := k_X_read :: tb
abbrev b_X_point : ByteArray := prog_1_method_19_code
abbrev y_X_point : MethodName := ⟨"ObsMessages", "point", "(IJ)V"⟩
abbrev k_X_point : Cond := .code y_X_point b_X_point 4 none
abbrev ws_X_point : List Cond := k_X_point :: tb
abbrev b_X_pack : ByteArray := prog_1_method_20_code
abbrev y_X_pack : MethodName := ⟨"ObsMessages", "pack", "(I)I"⟩
abbrev k_X_pack : Cond := .code y_X_pack b_X_pack 3 (some .int)
abbrev ws_X_pack : List Cond := k_X_pack :: tb
abbrev b_Law_element : ByteArray := method_3_code
abbrev y_Law_element : MethodName := ⟨"ObsMessagesLaw", "element", "(LObsMessages;IIIII)I"⟩
abbrev k_Law_element : Cond := .codeWith y_Law_element b_Law_element 7 (some .int) [((0), (11), (14), (13))]
abbrev ws_Law_element : List Cond := k_Law_element :: tb
abbrev b_Law_version : ByteArray := method_4_code
abbrev y_Law_version : MethodName := ⟨"ObsMessagesLaw", "version", "(LObsMessages;I)I"⟩
abbrev k_Law_version : Cond := .codeWith y_Law_version b_Law_version 3 (some .int) [((0), (5), (8), (13))]
abbrev ws_Law_version : List Cond := k_Law_version :: tb
abbrev b_Law_append : ByteArray := method_5_code
abbrev y_Law_append : MethodName := ⟨"ObsMessagesLaw", "append", "(LObsMessages;II[J)I"⟩
abbrev k_Law_append : Cond := .codeWith y_Law_append b_Law_append 5 (some .int) [((0), (10), (13), (13)), ((0), (10), (17), (23))]
abbrev ws_Law_append : List Cond := k_Law_append :: tb
abbrev b_Law_clear : ByteArray := method_6_code
abbrev y_Law_clear : MethodName := ⟨"ObsMessagesLaw", "clear", "(LObsMessages;I)I"⟩
abbrev k_Law_clear : Cond := .codeWith y_Law_clear b_Law_clear 3 (some .int) [((0), (5), (8), (13))]
abbrev ws_Law_clear : List Cond := k_Law_clear :: tb
abbrev b_Law_compile : ByteArray := method_7_code
abbrev y_Law_compile : MethodName := ⟨"ObsMessagesLaw", "compile", "(LObsMessages;[J)I"⟩
abbrev k_Law_compile : Cond := .codeWith y_Law_compile b_Law_compile 3 (some .int) [((0), (8), (11), (13))]
abbrev ws_Law_compile : List Cond := k_Law_compile :: tb
abbrev b_Law_put : ByteArray := method_8_code
abbrev y_Law_put : MethodName := ⟨"ObsMessagesLaw", "put", "(LObsMessages;IIJ)I"⟩
abbrev k_Law_put : Cond := .codeWith y_Law_put b_Law_put 6 (some .int) [((0), (7), (10), (36))]
abbrev ws_Law_put : List Cond := k_Law_put :: tb
abbrev b_Law_get : ByteArray := method_9_code
abbrev y_Law_get : MethodName := ⟨"ObsMessagesLaw", "get", "(LObsMessages;II[J)I"⟩
abbrev k_Law_get : Cond := .codeWith y_Law_get b_Law_get 5 (some .int) [((0), (9), (12), (36))]
abbrev ws_Law_get : List Cond := k_Law_get :: tb
abbrev b_Law_fields : ByteArray := method_10_code
abbrev y_Law_fields : MethodName := ⟨"ObsMessagesLaw", "fields", "(LObsMessages;I[J)I"⟩
abbrev k_Law_fields : Cond := .codeWith y_Law_fields b_Law_fields 4 (some .int) [((0), (9), (12), (36)), ((0), (9), (15), (13))]
abbrev ws_Law_fields : List Cond := k_Law_fields :: tb
abbrev b_Law_write : ByteArray := method_11_code
abbrev y_Law_write : MethodName := ⟨"ObsMessagesLaw", "write", "(LObsMessages;IZ[J)I"⟩
abbrev k_Law_write : Cond := .codeWith y_Law_write b_Law_write 5 (some .int) [((0), (10), (13), (13))]
abbrev ws_Law_write : List Cond := k_Law_write :: tb
abbrev b_Law_read : ByteArray := method_12_code
abbrev y_Law_read : MethodName := ⟨"ObsMessagesLaw", "read", "(LObsMessages;[J)I"⟩
abbrev k_Law_read : Cond := .codeWith y_Law_read b_Law_read 3 (some .int) [((0), (8), (11), (13))]
abbrev ws_Law_read : List Cond := k_Law_read :: tb
abbrev b_Law_point : ByteArray := method_13_code
abbrev y_Law_point : MethodName := ⟨"ObsMessagesLaw", "point", "(LObsMessages;IJ)I"⟩
abbrev k_Law_point : Cond := .codeWith y_Law_point b_Law_point 5 (some .int) [((0), (6), (9), (36)), ((0), (6), (13), (13))]
abbrev ws_Law_point : List Cond := k_Law_point :: tb
abbrev b_Law_pack : ByteArray := method_14_code
abbrev y_Law_pack : MethodName := ⟨"ObsMessagesLaw", "pack", "(LObsMessages;I[J)I"⟩
abbrev k_Law_pack : Cond := .codeWith y_Law_pack b_Law_pack 4 (some .int) [((0), (9), (12), (13)), ((0), (9), (15), (23))]
abbrev ws_Law_pack : List Cond := k_Law_pack :: tb
abbrev b_Tab_init : ByteArray := prog_10_method_1_code
abbrev y_Tab_init : MethodName := ⟨"ObsMessages$Tables", "<init>", "()V"⟩
abbrev k_Tab_init : Cond := .code y_Tab_init b_Tab_init 1 none
abbrev ws_Tab_init : List Cond := k_Tab_init :: tb
abbrev b_Prog_init : ByteArray := prog_8_method_1_code
abbrev y_Prog_init : MethodName := ⟨"ObsMessages$Program", "<init>", "(LObsMessages$Tables;)V"⟩
abbrev k_Prog_init : Cond := .code y_Prog_init b_Prog_init 2 none
abbrev ws_Prog_init : List Cond := k_Prog_init :: tb
abbrev b_Fld_init : ByteArray := prog_4_method_1_code
abbrev y_Fld_init : MethodName := ⟨"ObsMessages$Fields", "<init>", "()V"⟩
abbrev k_Fld_init : Cond := .code y_Fld_init b_Fld_init 1 none
abbrev ws_Fld_init : List Cond := k_Fld_init :: tb
abbrev b_Lps_init : ByteArray := prog_7_method_1_code
abbrev y_Lps_init : MethodName := ⟨"ObsMessages$Loops", "<init>", "()V"⟩
abbrev k_Lps_init : Cond := .code y_Lps_init b_Lps_init 1 none
abbrev ws_Lps_init : List Cond := k_Lps_init :: tb
abbrev b_Walk_init : ByteArray := prog_11_method_1_code
abbrev y_Walk_init : MethodName := ⟨"ObsMessages$Walk", "<init>", "(LObsMessages$Tables;LObsMessages$Program;)V"⟩
abbrev k_Walk_init : Cond := .code y_Walk_init b_Walk_init 3 none
abbrev ws_Walk_init : List Cond := k_Walk_init :: tb
abbrev b_Bits_init : ByteArray := prog_2_method_1_code
abbrev y_Bits_init : MethodName := ⟨"ObsMessages$Bits", "<init>", "(I)V"⟩
abbrev k_Bits_init : Cond := .code y_Bits_init b_Bits_init 2 none
abbrev ws_Bits_init : List Cond := k_Bits_init :: tb
abbrev b_Wri_init : ByteArray := prog_12_method_1_code
abbrev y_Wri_init : MethodName := ⟨"ObsMessages$Writer", "<init>", "()V"⟩
abbrev k_Wri_init : Cond := .code y_Wri_init b_Wri_init 1 none
abbrev ws_Wri_init : List Cond := k_Wri_init :: tb
abbrev b_Rea_init : ByteArray := prog_9_method_1_code
abbrev y_Rea_init : MethodName := ⟨"ObsMessages$Reader", "<init>", "(LObsMessages$Bits;)V"⟩
abbrev k_Rea_init : Cond := .code y_Rea_init b_Rea_init 2 none
abbrev ws_Rea_init : List Cond := k_Rea_init :: tb
abbrev b_Grd_init : ByteArray := prog_6_method_1_code
abbrev y_Grd_init : MethodName := ⟨"ObsMessages$Grid", "<init>", "()V"⟩
abbrev k_Grd_init : Cond := .code y_Grd_init b_Grd_init 1 none
abbrev ws_Grd_init : List Cond := k_Grd_init :: tb
abbrev b_X_init : ByteArray := prog_1_method_1_code
abbrev y_X_init : MethodName := ⟨"ObsMessages", "<init>", "()V"⟩
abbrev k_X_init : Cond := .code y_X_init b_X_init 2 none
abbrev ws_X_init : List Cond := k_X_init :: tb
abbrev b_Mod_init : ByteArray := prog_14_method_1_code
abbrev y_Mod_init : MethodName := ⟨"ObsMessagesModel", "<init>", "()V"⟩
abbrev k_Mod_init : Cond := .code y_Mod_init b_Mod_init 2 none
abbrev ws_Mod_init : List Cond := k_Mod_init :: tb
theorem tw_17 : (Cond.initialized "java/lang/IllegalArgumentException") ∈ tb := tb_memk tpc_1 17 rfl rfl
theorem tw_18 : (Cond.initialized "java/lang/IllegalStateException") ∈ tb := tb_memk tpc_1 18 rfl rfl
theorem tw_20 : (Cond.initialized "java/lang/IndexOutOfBoundsException") ∈ tb := tb_memk tpc_1 20 rfl rfl
theorem tw_27 : (Cond.methodLink "ObsMessages" (1 : Nat) ({ cls := "java/lang/Object", name := "<init>", desc := "()V" } : MethodName)) ∈ tb := tb_memk tpc_1 27 rfl rfl
theorem tw_28 : (Cond.instanceMethod ({ cls := "java/lang/Object", name := "<init>", desc := "()V" } : MethodName)) ∈ tb := tb_memk tpc_1 28 rfl rfl
theorem tw_29 : (Cond.code ({ cls := "java/lang/Object", name := "<init>", desc := "()V" } : MethodName) object_method_1_code (1 : Nat) (Option.none : Option FieldType)) ∈ tb := tb_memk tpc_1 29 rfl rfl
theorem tw_30 : (Cond.classLink "ObsMessages" (7 : Nat) "ObsMessages$Tables") ∈ tb := tb_memk tpc_1 30 rfl rfl
theorem tw_31 : (Cond.instantiable "ObsMessages$Tables" (6 : Nat)) ∈ tb := tb_memk tpc_1 31 rfl rfl
theorem tw_33 : (Cond.instanceMethod ({ cls := "ObsMessages$Tables", name := "<init>", desc := "()V" } : MethodName)) ∈ tb := tb_memk tpc_1 33 rfl rfl
theorem tw_34 : (Cond.code ({ cls := "ObsMessages$Tables", name := "<init>", desc := "()V" } : MethodName) prog_10_method_1_code (1 : Nat) (Option.none : Option FieldType)) ∈ tb := tb_memk tpc_1 34 rfl rfl
theorem tw_35 : (Cond.methodLink "ObsMessages$Tables" (7 : Nat) ({ cls := "java/lang/Object", name := "<init>", desc := "()V" } : MethodName)) ∈ tb := tb_memk tpc_1 35 rfl rfl
theorem tw_36 : (Cond.fieldLink "ObsMessages$Tables" (13 : Nat) "ObsMessages$Tables" "scales" "[I") ∈ tb := tb_memk tpc_1 36 rfl rfl
theorem tw_37 : (Cond.fieldLink "ObsMessages" (101 : Nat) "ObsMessages$Tables" "scales" "[I") ∈ tb := tb_memk tpc_1 37 rfl rfl
theorem tw_40 : (Cond.fieldLink "ObsMessages$Tables" (17 : Nat) "ObsMessages$Tables" "references" "[I") ∈ tb := tb_memk tpc_1 40 rfl rfl
theorem tw_41 : (Cond.fieldLink "ObsMessages" (105 : Nat) "ObsMessages$Tables" "references" "[I") ∈ tb := tb_memk tpc_1 41 rfl rfl
theorem tw_50 : (Cond.fieldLink "ObsMessages" (141 : Nat) "ObsMessages$Tables" "sizes" "[I") ∈ tb := tb_memk tpc_1 50 rfl rfl
theorem tw_53 : (Cond.fieldLink "ObsMessages" (113 : Nat) "ObsMessages$Tables" "versionInUse" "I") ∈ tb := tb_memk tpc_1 53 rfl rfl
theorem tw_67 : (Cond.arrayClass FieldType.int) ∈ tb := tb_memk tpc_1 67 rfl rfl
theorem tw_68 : (Cond.classLink "ObsMessages" (16 : Nat) "ObsMessages$Program") ∈ tb := tb_memk tpc_1 68 rfl rfl
theorem tw_69 : (Cond.instantiable "ObsMessages$Program" (14 : Nat)) ∈ tb := tb_memk tpc_1 69 rfl rfl
theorem tw_70 : (Cond.methodLink "ObsMessages" (18 : Nat) ({ cls := "ObsMessages$Program", name := "<init>", desc := "(LObsMessages$Tables;)V" } : MethodName)) ∈ tb := tb_memk tpc_1 70 rfl rfl
theorem tw_71 : (Cond.instanceMethod ({ cls := "ObsMessages$Program", name := "<init>", desc := "(LObsMessages$Tables;)V" } : MethodName)) ∈ tb := tb_memk tpc_1 71 rfl rfl
theorem tw_72 : (Cond.code ({ cls := "ObsMessages$Program", name := "<init>", desc := "(LObsMessages$Tables;)V" } : MethodName) prog_8_method_1_code (2 : Nat) (Option.none : Option FieldType)) ∈ tb := tb_memk tpc_1 72 rfl rfl
theorem tw_73 : (Cond.methodLink "ObsMessages$Program" (3 : Nat) ({ cls := "java/lang/Object", name := "<init>", desc := "()V" } : MethodName)) ∈ tb := tb_memk tpc_1 73 rfl rfl
theorem tw_80 : (Cond.fieldLink "ObsMessages" (150 : Nat) "ObsMessages$Program" "size" "I") ∈ tb := tb_memk tpc_1 80 rfl rfl
theorem tw_123 : (Cond.classLink "ObsMessages" (25 : Nat) "ObsMessages$Walk") ∈ tb := tb_memk tpc_1 123 rfl rfl
theorem tw_124 : (Cond.instantiable "ObsMessages$Walk" (18 : Nat)) ∈ tb := tb_memk tpc_1 124 rfl rfl
theorem tw_125 : (Cond.methodLink "ObsMessages" (27 : Nat) ({ cls := "ObsMessages$Walk", name := "<init>", desc := "(LObsMessages$Tables;LObsMessages$Program;)V" } : MethodName)) ∈ tb := tb_memk tpc_1 125 rfl rfl
theorem tw_126 : (Cond.instanceMethod ({ cls := "ObsMessages$Walk", name := "<init>", desc := "(LObsMessages$Tables;LObsMessages$Program;)V" } : MethodName)) ∈ tb := tb_memk tpc_1 126 rfl rfl
theorem tw_127 : (Cond.code ({ cls := "ObsMessages$Walk", name := "<init>", desc := "(LObsMessages$Tables;LObsMessages$Program;)V" } : MethodName) prog_11_method_1_code (3 : Nat) (Option.none : Option FieldType)) ∈ tb := tb_memk tpc_1 127 rfl rfl
theorem tw_128 : (Cond.methodLink "ObsMessages$Walk" (3 : Nat) ({ cls := "java/lang/Object", name := "<init>", desc := "()V" } : MethodName)) ∈ tb := tb_memk tpc_1 128 rfl rfl
theorem tw_129 : (Cond.classLink "ObsMessages$Walk" (9 : Nat) "ObsMessages$Fields") ∈ tb := tb_memk tpc_1 129 rfl rfl
theorem tw_130 : (Cond.instantiable "ObsMessages$Fields" (8 : Nat)) ∈ tb := tb_memk tpc_1 130 rfl rfl
theorem tw_132 : (Cond.instanceMethod ({ cls := "ObsMessages$Fields", name := "<init>", desc := "()V" } : MethodName)) ∈ tb := tb_memk tpc_1 132 rfl rfl
theorem tw_133 : (Cond.code ({ cls := "ObsMessages$Fields", name := "<init>", desc := "()V" } : MethodName) prog_4_method_1_code (1 : Nat) (Option.none : Option FieldType)) ∈ tb := tb_memk tpc_1 133 rfl rfl
theorem tw_134 : (Cond.methodLink "ObsMessages$Fields" (3 : Nat) ({ cls := "java/lang/Object", name := "<init>", desc := "()V" } : MethodName)) ∈ tb := tb_memk tpc_1 134 rfl rfl
theorem tw_147 : (Cond.fieldLink "ObsMessages$Fields" (21 : Nat) "ObsMessages$Fields" "scales" "[I") ∈ tb := tb_memk tpc_1 147 rfl rfl
theorem tw_154 : (Cond.fieldLink "ObsMessages$Fields" (28 : Nat) "ObsMessages$Fields" "targets" "[I") ∈ tb := tb_memk tpc_1 154 rfl rfl
theorem tw_182 : (Cond.arrayClass FieldType.long) ∈ tb := tb_memk tpc_1 182 rfl rfl
theorem tw_183 : (Cond.classLink "ObsMessages$Walk" (18 : Nat) "ObsMessages$Loops") ∈ tb := tb_memk tpc_1 183 rfl rfl
theorem tw_184 : (Cond.instantiable "ObsMessages$Loops" (5 : Nat)) ∈ tb := tb_memk tpc_1 184 rfl rfl
theorem tw_186 : (Cond.instanceMethod ({ cls := "ObsMessages$Loops", name := "<init>", desc := "()V" } : MethodName)) ∈ tb := tb_memk tpc_1 186 rfl rfl
theorem tw_187 : (Cond.code ({ cls := "ObsMessages$Loops", name := "<init>", desc := "()V" } : MethodName) prog_7_method_1_code (1 : Nat) (Option.none : Option FieldType)) ∈ tb := tb_memk tpc_1 187 rfl rfl
theorem tw_188 : (Cond.methodLink "ObsMessages$Loops" (3 : Nat) ({ cls := "java/lang/Object", name := "<init>", desc := "()V" } : MethodName)) ∈ tb := tb_memk tpc_1 188 rfl rfl
theorem tw_267 : (Cond.classLink "ObsMessages" (34 : Nat) "ObsMessages$Writer") ∈ tb := tb_memk tpc_2 27 rfl rfl
theorem tw_268 : (Cond.instantiable "ObsMessages$Writer" (1 : Nat)) ∈ tb := tb_memk tpc_2 28 rfl rfl
theorem tw_270 : (Cond.instanceMethod ({ cls := "ObsMessages$Writer", name := "<init>", desc := "()V" } : MethodName)) ∈ tb := tb_memk tpc_2 30 rfl rfl
theorem tw_271 : (Cond.code ({ cls := "ObsMessages$Writer", name := "<init>", desc := "()V" } : MethodName) prog_12_method_1_code (1 : Nat) (Option.none : Option FieldType)) ∈ tb := tb_memk tpc_2 31 rfl rfl
theorem tw_272 : (Cond.methodLink "ObsMessages$Writer" (1 : Nat) ({ cls := "java/lang/Object", name := "<init>", desc := "()V" } : MethodName)) ∈ tb := tb_memk tpc_2 32 rfl rfl
theorem tw_273 : (Cond.classLink "ObsMessages$Writer" (7 : Nat) "ObsMessages$Bits") ∈ tb := tb_memk tpc_2 33 rfl rfl
theorem tw_274 : (Cond.instantiable "ObsMessages$Bits" (2 : Nat)) ∈ tb := tb_memk tpc_2 34 rfl rfl
theorem tw_275 : (Cond.methodLink "ObsMessages$Writer" (11 : Nat) ({ cls := "ObsMessages$Bits", name := "<init>", desc := "(I)V" } : MethodName)) ∈ tb := tb_memk tpc_2 35 rfl rfl
theorem tw_276 : (Cond.instanceMethod ({ cls := "ObsMessages$Bits", name := "<init>", desc := "(I)V" } : MethodName)) ∈ tb := tb_memk tpc_2 36 rfl rfl
theorem tw_277 : (Cond.code ({ cls := "ObsMessages$Bits", name := "<init>", desc := "(I)V" } : MethodName) prog_2_method_1_code (2 : Nat) (Option.none : Option FieldType)) ∈ tb := tb_memk tpc_2 37 rfl rfl
theorem tw_278 : (Cond.methodLink "ObsMessages$Bits" (1 : Nat) ({ cls := "java/lang/Object", name := "<init>", desc := "()V" } : MethodName)) ∈ tb := tb_memk tpc_2 38 rfl rfl
theorem tw_296 : (Cond.classLink "ObsMessages" (41 : Nat) "ObsMessages$Bits") ∈ tb := tb_memk tpc_2 56 rfl rfl
theorem tw_297 : (Cond.methodLink "ObsMessages" (43 : Nat) ({ cls := "ObsMessages$Bits", name := "<init>", desc := "(I)V" } : MethodName)) ∈ tb := tb_memk tpc_2 57 rfl rfl
theorem tw_298 : (Cond.classLink "ObsMessages" (50 : Nat) "ObsMessages$Reader") ∈ tb := tb_memk tpc_2 58 rfl rfl
theorem tw_299 : (Cond.instantiable "ObsMessages$Reader" (8 : Nat)) ∈ tb := tb_memk tpc_2 59 rfl rfl
theorem tw_300 : (Cond.methodLink "ObsMessages" (52 : Nat) ({ cls := "ObsMessages$Reader", name := "<init>", desc := "(LObsMessages$Bits;)V" } : MethodName)) ∈ tb := tb_memk tpc_2 60 rfl rfl
theorem tw_301 : (Cond.instanceMethod ({ cls := "ObsMessages$Reader", name := "<init>", desc := "(LObsMessages$Bits;)V" } : MethodName)) ∈ tb := tb_memk tpc_2 61 rfl rfl
theorem tw_302 : (Cond.code ({ cls := "ObsMessages$Reader", name := "<init>", desc := "(LObsMessages$Bits;)V" } : MethodName) prog_9_method_1_code (2 : Nat) (Option.none : Option FieldType)) ∈ tb := tb_memk tpc_2 62 rfl rfl
theorem tw_303 : (Cond.methodLink "ObsMessages$Reader" (3 : Nat) ({ cls := "java/lang/Object", name := "<init>", desc := "()V" } : MethodName)) ∈ tb := tb_memk tpc_2 63 rfl rfl
theorem tw_304 : (Cond.classLink "ObsMessages$Reader" (9 : Nat) "[[J") ∈ tb := tb_memk tpc_2 64 rfl rfl
theorem tw_307 : (Cond.fieldLink "ObsMessages" (269 : Nat) "ObsMessages$Reader" "rows" "[[J") ∈ tb := tb_memk tpc_2 67 rfl rfl
theorem tw_309 : (Cond.fieldLink "ObsMessages" (278 : Nat) "ObsMessages$Reader" "subsets" "I") ∈ tb := tb_memk tpc_2 69 rfl rfl
theorem tw_311 : (Cond.fieldLink "ObsMessages" (255 : Nat) "ObsMessages$Reader" "packed" "Z") ∈ tb := tb_memk tpc_2 71 rfl rfl
theorem tw_313 : (Cond.fieldLink "ObsMessages" (264 : Nat) "ObsMessages$Reader" "fault" "I") ∈ tb := tb_memk tpc_2 73 rfl rfl
theorem tw_315 : (Cond.fieldLink "ObsMessages" (265 : Nat) "ObsMessages$Reader" "place" "I") ∈ tb := tb_memk tpc_2 75 rfl rfl
theorem tw_336 : (Cond.classLink "ObsMessages" (59 : Nat) "ObsMessages$Grid") ∈ tb := tb_memk tpc_2 96 rfl rfl
theorem tw_337 : (Cond.instantiable "ObsMessages$Grid" (9 : Nat)) ∈ tb := tb_memk tpc_2 97 rfl rfl
theorem tw_338 : (Cond.methodLink "ObsMessages" (61 : Nat) ({ cls := "ObsMessages$Grid", name := "<init>", desc := "()V" } : MethodName)) ∈ tb := tb_memk tpc_2 98 rfl rfl
theorem tw_339 : (Cond.instanceMethod ({ cls := "ObsMessages$Grid", name := "<init>", desc := "()V" } : MethodName)) ∈ tb := tb_memk tpc_2 99 rfl rfl
theorem tw_340 : (Cond.code ({ cls := "ObsMessages$Grid", name := "<init>", desc := "()V" } : MethodName) prog_6_method_1_code (1 : Nat) (Option.none : Option FieldType)) ∈ tb := tb_memk tpc_2 100 rfl rfl
theorem tw_341 : (Cond.methodLink "ObsMessages$Grid" (3 : Nat) ({ cls := "java/lang/Object", name := "<init>", desc := "()V" } : MethodName)) ∈ tb := tb_memk tpc_2 101 rfl rfl
theorem tw_343 : (Cond.methodLink "ObsMessages$Grid" (40 : Nat) ({ cls := "java/util/Arrays", name := "fill", desc := "([JJ)V" } : MethodName)) ∈ tb := tb_memk tpc_2 103 rfl rfl
theorem tw_347 : (Cond.fieldLink "ObsMessages" (289 : Nat) "ObsMessages$Grid" "points" "[J") ∈ tb := tb_memk tpc_2 107 rfl rfl
theorem tw_380 : (Cond.classLink "ObsMessages" (66 : Nat) "[[J") ∈ tb := tb_memk tpc_2 140 rfl rfl
theorem tw_382 : (Cond.methodLink "ObsMessages" (73 : Nat) ({ cls := "java/util/Arrays", name := "fill", desc := "([JJ)V" } : MethodName)) ∈ tb := tb_memk tpc_2 142 rfl rfl
theorem tw_674 : (Cond.classLink "ObsMessagesLaw" (13 : Nat) "java/lang/IllegalArgumentException") ∈ tb := tb_memk tpc_3 194 rfl rfl
theorem tw_675 : (Cond.methodLink "ObsMessagesLaw" (7 : Nat) ({ cls := "ObsMessages", name := "element", desc := "(IIIII)V" } : MethodName)) ∈ tb := tb_memk tpc_3 195 rfl rfl
theorem tw_676 : (Cond.instanceMethod ({ cls := "ObsMessages", name := "element", desc := "(IIIII)V" } : MethodName)) ∈ tb := tb_memk tpc_3 196 rfl rfl
theorem tw_677 : (Cond.selects "ObsMessages" ({ cls := "ObsMessages", name := "element", desc := "(IIIII)V" } : MethodName) ({ cls := "ObsMessages", name := "element", desc := "(IIIII)V" } : MethodName)) ∈ tb := tb_memk tpc_3 197 rfl rfl
theorem tw_678 : (Cond.code ({ cls := "ObsMessages", name := "element", desc := "(IIIII)V" } : MethodName) prog_1_method_2_code (7 : Nat) (Option.none : Option FieldType)) ∈ tb := tb_memk tpc_3 198 rfl rfl
theorem tw_679 : (Cond.methodLink "ObsMessages" (90 : Nat) ({ cls := "ObsMessages$Tables", name := "isEntry", desc := "(III)Z" } : MethodName)) ∈ tb := tb_memk tpc_3 199 rfl rfl
theorem tw_680 : (Cond.static ({ cls := "ObsMessages$Tables", name := "isEntry", desc := "(III)Z" } : MethodName)) ∈ tb := tb_memk tpc_3 200 rfl rfl
theorem tw_681 : (Cond.code ({ cls := "ObsMessages$Tables", name := "isEntry", desc := "(III)Z" } : MethodName) prog_10_method_3_code (3 : Nat) (Option.some FieldType.boolean)) ∈ tb := tb_memk tpc_3 201 rfl rfl
theorem tw_686 : (Cond.classLink "ObsMessages" (94 : Nat) "java/lang/IllegalArgumentException") ∈ tb := tb_memk tpc_3 206 rfl rfl
theorem tw_757 : (Cond.methodLink "ObsMessagesLaw" (15 : Nat) ({ cls := "ObsMessages", name := "version", desc := "(I)V" } : MethodName)) ∈ tb := tb_memk tpc_4 37 rfl rfl
theorem tw_758 : (Cond.instanceMethod ({ cls := "ObsMessages", name := "version", desc := "(I)V" } : MethodName)) ∈ tb := tb_memk tpc_4 38 rfl rfl
theorem tw_759 : (Cond.selects "ObsMessages" ({ cls := "ObsMessages", name := "version", desc := "(I)V" } : MethodName) ({ cls := "ObsMessages", name := "version", desc := "(I)V" } : MethodName)) ∈ tb := tb_memk tpc_4 39 rfl rfl
theorem tw_760 : (Cond.code ({ cls := "ObsMessages", name := "version", desc := "(I)V" } : MethodName) prog_1_method_4_code (2 : Nat) (Option.none : Option FieldType)) ∈ tb := tb_memk tpc_4 40 rfl rfl
theorem tw_765 : (Cond.classLink "ObsMessagesLaw" (23 : Nat) "java/lang/IllegalStateException") ∈ tb := tb_memk tpc_4 45 rfl rfl
theorem tw_766 : (Cond.methodLink "ObsMessagesLaw" (19 : Nat) ({ cls := "ObsMessages", name := "append", desc := "(II)I" } : MethodName)) ∈ tb := tb_memk tpc_4 46 rfl rfl
theorem tw_767 : (Cond.instanceMethod ({ cls := "ObsMessages", name := "append", desc := "(II)I" } : MethodName)) ∈ tb := tb_memk tpc_4 47 rfl rfl
theorem tw_768 : (Cond.selects "ObsMessages" ({ cls := "ObsMessages", name := "append", desc := "(II)I" } : MethodName) ({ cls := "ObsMessages", name := "append", desc := "(II)I" } : MethodName)) ∈ tb := tb_memk tpc_4 48 rfl rfl
theorem tw_769 : (Cond.code ({ cls := "ObsMessages", name := "append", desc := "(II)I" } : MethodName) prog_1_method_5_code (4 : Nat) (Option.some FieldType.int)) ∈ tb := tb_memk tpc_4 49 rfl rfl
theorem tw_770 : (Cond.methodLink "ObsMessages" (116 : Nat) ({ cls := "ObsMessages$Tables", name := "listOf", desc := "(I)I" } : MethodName)) ∈ tb := tb_memk tpc_4 50 rfl rfl
theorem tw_771 : (Cond.static ({ cls := "ObsMessages$Tables", name := "listOf", desc := "(I)I" } : MethodName)) ∈ tb := tb_memk tpc_4 51 rfl rfl
theorem tw_772 : (Cond.code ({ cls := "ObsMessages$Tables", name := "listOf", desc := "(I)I" } : MethodName) prog_10_method_6_code (1 : Nat) (Option.some FieldType.int)) ∈ tb := tb_memk tpc_4 52 rfl rfl
theorem tw_773 : (Cond.methodLink "ObsMessages" (120 : Nat) ({ cls := "ObsMessages$Descriptors", name := "isKnown", desc := "(I)Z" } : MethodName)) ∈ tb := tb_memk tpc_4 53 rfl rfl
theorem tw_774 : (Cond.static ({ cls := "ObsMessages$Descriptors", name := "isKnown", desc := "(I)Z" } : MethodName)) ∈ tb := tb_memk tpc_4 54 rfl rfl
theorem tw_775 : (Cond.code ({ cls := "ObsMessages$Descriptors", name := "isKnown", desc := "(I)Z" } : MethodName) prog_3_method_2_code (1 : Nat) (Option.some FieldType.boolean)) ∈ tb := tb_memk tpc_4 55 rfl rfl
theorem tw_783 : (Cond.methodLink "ObsMessages" (128 : Nat) ({ cls := "ObsMessages$Tables", name := "isFull", desc := "(I)Z" } : MethodName)) ∈ tb := tb_memk tpc_4 63 rfl rfl
theorem tw_784 : (Cond.instanceMethod ({ cls := "ObsMessages$Tables", name := "isFull", desc := "(I)Z" } : MethodName)) ∈ tb := tb_memk tpc_4 64 rfl rfl
theorem tw_785 : (Cond.selects "ObsMessages$Tables" ({ cls := "ObsMessages$Tables", name := "isFull", desc := "(I)Z" } : MethodName) ({ cls := "ObsMessages$Tables", name := "isFull", desc := "(I)Z" } : MethodName)) ∈ tb := tb_memk tpc_4 65 rfl rfl
theorem tw_786 : (Cond.code ({ cls := "ObsMessages$Tables", name := "isFull", desc := "(I)Z" } : MethodName) prog_10_method_9_code (2 : Nat) (Option.some FieldType.boolean)) ∈ tb := tb_memk tpc_4 66 rfl rfl
theorem tw_787 : (Cond.classLink "ObsMessages" (131 : Nat) "java/lang/IllegalStateException") ∈ tb := tb_memk tpc_4 67 rfl rfl
theorem tw_803 : (Cond.methodLink "ObsMessages" (136 : Nat) ({ cls := "ObsMessages$Tables", name := "extend", desc := "(II)I" } : MethodName)) ∈ tb := tb_memk tpc_4 83 rfl rfl
theorem tw_804 : (Cond.instanceMethod ({ cls := "ObsMessages$Tables", name := "extend", desc := "(II)I" } : MethodName)) ∈ tb := tb_memk tpc_4 84 rfl rfl
theorem tw_805 : (Cond.selects "ObsMessages$Tables" ({ cls := "ObsMessages$Tables", name := "extend", desc := "(II)I" } : MethodName) ({ cls := "ObsMessages$Tables", name := "extend", desc := "(II)I" } : MethodName)) ∈ tb := tb_memk tpc_4 85 rfl rfl
theorem tw_806 : (Cond.code ({ cls := "ObsMessages$Tables", name := "extend", desc := "(II)I" } : MethodName) prog_10_method_10_code (3 : Nat) (Option.some FieldType.int)) ∈ tb := tb_memk tpc_4 86 rfl rfl
theorem tw_811 : (Cond.methodLink "ObsMessagesLaw" (25 : Nat) ({ cls := "ObsMessages", name := "clear", desc := "(I)V" } : MethodName)) ∈ tb := tb_memk tpc_4 91 rfl rfl
theorem tw_812 : (Cond.instanceMethod ({ cls := "ObsMessages", name := "clear", desc := "(I)V" } : MethodName)) ∈ tb := tb_memk tpc_4 92 rfl rfl
theorem tw_813 : (Cond.selects "ObsMessages" ({ cls := "ObsMessages", name := "clear", desc := "(I)V" } : MethodName) ({ cls := "ObsMessages", name := "clear", desc := "(I)V" } : MethodName)) ∈ tb := tb_memk tpc_4 93 rfl rfl
theorem tw_814 : (Cond.code ({ cls := "ObsMessages", name := "clear", desc := "(I)V" } : MethodName) prog_1_method_6_code (3 : Nat) (Option.none : Option FieldType)) ∈ tb := tb_memk tpc_4 94 rfl rfl
theorem tw_819 : (Cond.methodLink "ObsMessagesLaw" (28 : Nat) ({ cls := "ObsMessages", name := "compile", desc := "()I" } : MethodName)) ∈ tb := tb_memk tpc_4 99 rfl rfl
theorem tw_820 : (Cond.instanceMethod ({ cls := "ObsMessages", name := "compile", desc := "()I" } : MethodName)) ∈ tb := tb_memk tpc_4 100 rfl rfl
theorem tw_821 : (Cond.selects "ObsMessages" ({ cls := "ObsMessages", name := "compile", desc := "()I" } : MethodName) ({ cls := "ObsMessages", name := "compile", desc := "()I" } : MethodName)) ∈ tb := tb_memk tpc_4 101 rfl rfl
theorem tw_822 : (Cond.code ({ cls := "ObsMessages", name := "compile", desc := "()I" } : MethodName) prog_1_method_7_code (1 : Nat) (Option.some FieldType.int)) ∈ tb := tb_memk tpc_4 102 rfl rfl
theorem tw_823 : (Cond.methodLink "ObsMessages" (144 : Nat) ({ cls := "ObsMessages", name := "compileAnew", desc := "()Z" } : MethodName)) ∈ tb := tb_memk tpc_4 103 rfl rfl
theorem tw_825 : (Cond.instanceMethod ({ cls := "ObsMessages", name := "compileAnew", desc := "()Z" } : MethodName)) ∈ tb := tb_memk tpc_4 105 rfl rfl
theorem tw_826 : (Cond.code ({ cls := "ObsMessages", name := "compileAnew", desc := "()Z" } : MethodName) prog_1_method_29_code (1 : Nat) (Option.some FieldType.boolean)) ∈ tb := tb_memk tpc_4 106 rfl rfl
theorem tw_835 : (Cond.classLink "ObsMessagesLaw" (36 : Nat) "java/lang/IndexOutOfBoundsException") ∈ tb := tb_memk tpc_4 115 rfl rfl
theorem tw_836 : (Cond.methodLink "ObsMessagesLaw" (32 : Nat) ({ cls := "ObsMessages", name := "put", desc := "(IIJ)V" } : MethodName)) ∈ tb := tb_memk tpc_4 116 rfl rfl
theorem tw_837 : (Cond.instanceMethod ({ cls := "ObsMessages", name := "put", desc := "(IIJ)V" } : MethodName)) ∈ tb := tb_memk tpc_4 117 rfl rfl
theorem tw_838 : (Cond.selects "ObsMessages" ({ cls := "ObsMessages", name := "put", desc := "(IIJ)V" } : MethodName) ({ cls := "ObsMessages", name := "put", desc := "(IIJ)V" } : MethodName)) ∈ tb := tb_memk tpc_4 118 rfl rfl
theorem tw_839 : (Cond.code ({ cls := "ObsMessages", name := "put", desc := "(IIJ)V" } : MethodName) prog_1_method_9_code (5 : Nat) (Option.none : Option FieldType)) ∈ tb := tb_memk tpc_4 119 rfl rfl
theorem tw_840 : (Cond.methodLink "ObsMessages" (153 : Nat) ({ cls := "ObsMessages", name := "isValue", desc := "(II)Z" } : MethodName)) ∈ tb := tb_memk tpc_4 120 rfl rfl
theorem tw_841 : (Cond.static ({ cls := "ObsMessages", name := "isValue", desc := "(II)Z" } : MethodName)) ∈ tb := tb_memk tpc_4 121 rfl rfl
theorem tw_842 : (Cond.code ({ cls := "ObsMessages", name := "isValue", desc := "(II)Z" } : MethodName) prog_1_method_24_code (2 : Nat) (Option.some FieldType.boolean)) ∈ tb := tb_memk tpc_4 122 rfl rfl
theorem tw_843 : (Cond.classLink "ObsMessages" (157 : Nat) "java/lang/IndexOutOfBoundsException") ∈ tb := tb_memk tpc_4 123 rfl rfl
theorem tw_862 : (Cond.methodLink "ObsMessagesLaw" (38 : Nat) ({ cls := "ObsMessages", name := "get", desc := "(II)J" } : MethodName)) ∈ tb := tb_memk tpc_4 142 rfl rfl
theorem tw_863 : (Cond.instanceMethod ({ cls := "ObsMessages", name := "get", desc := "(II)J" } : MethodName)) ∈ tb := tb_memk tpc_4 143 rfl rfl
theorem tw_864 : (Cond.selects "ObsMessages" ({ cls := "ObsMessages", name := "get", desc := "(II)J" } : MethodName) ({ cls := "ObsMessages", name := "get", desc := "(II)J" } : MethodName)) ∈ tb := tb_memk tpc_4 144 rfl rfl
theorem tw_865 : (Cond.code ({ cls := "ObsMessages", name := "get", desc := "(II)J" } : MethodName) prog_1_method_10_code (3 : Nat) (Option.some FieldType.long)) ∈ tb := tb_memk tpc_4 145 rfl rfl
theorem tw_869 : (Cond.methodLink "ObsMessagesLaw" (42 : Nat) ({ cls := "ObsMessages", name := "fields", desc := "(I)I" } : MethodName)) ∈ tb := tb_memk tpc_4 149 rfl rfl
theorem tw_870 : (Cond.instanceMethod ({ cls := "ObsMessages", name := "fields", desc := "(I)I" } : MethodName)) ∈ tb := tb_memk tpc_4 150 rfl rfl
theorem tw_871 : (Cond.selects "ObsMessages" ({ cls := "ObsMessages", name := "fields", desc := "(I)I" } : MethodName) ({ cls := "ObsMessages", name := "fields", desc := "(I)I" } : MethodName)) ∈ tb := tb_memk tpc_4 151 rfl rfl
theorem tw_872 : (Cond.code ({ cls := "ObsMessages", name := "fields", desc := "(I)I" } : MethodName) prog_1_method_11_code (2 : Nat) (Option.some FieldType.int)) ∈ tb := tb_memk tpc_4 152 rfl rfl
theorem tw_881 : (Cond.methodLink "ObsMessagesLaw" (46 : Nat) ({ cls := "ObsMessages", name := "write", desc := "(IZ)I" } : MethodName)) ∈ tb := tb_memk tpc_4 161 rfl rfl
theorem tw_882 : (Cond.instanceMethod ({ cls := "ObsMessages", name := "write", desc := "(IZ)I" } : MethodName)) ∈ tb := tb_memk tpc_4 162 rfl rfl
theorem tw_883 : (Cond.selects "ObsMessages" ({ cls := "ObsMessages", name := "write", desc := "(IZ)I" } : MethodName) ({ cls := "ObsMessages", name := "write", desc := "(IZ)I" } : MethodName)) ∈ tb := tb_memk tpc_4 163 rfl rfl
theorem tw_884 : (Cond.code ({ cls := "ObsMessages", name := "write", desc := "(IZ)I" } : MethodName) prog_1_method_15_code (3 : Nat) (Option.some FieldType.int)) ∈ tb := tb_memk tpc_4 164 rfl rfl
theorem tw_886 : (Cond.methodLink "ObsMessages" (223 : Nat) ({ cls := "ObsMessages", name := "checkValues", desc := "(I)Z" } : MethodName)) ∈ tb := tb_memk tpc_4 166 rfl rfl
theorem tw_888 : (Cond.instanceMethod ({ cls := "ObsMessages", name := "checkValues", desc := "(I)Z" } : MethodName)) ∈ tb := tb_memk tpc_4 168 rfl rfl
theorem tw_889 : (Cond.code ({ cls := "ObsMessages", name := "checkValues", desc := "(I)Z" } : MethodName) prog_1_method_31_code (3 : Nat) (Option.some FieldType.boolean)) ∈ tb := tb_memk tpc_4 169 rfl rfl
theorem tw_902 : (Cond.methodLink "ObsMessages" (226 : Nat) ({ cls := "ObsMessages", name := "checkAlike", desc := "(I)Z" } : MethodName)) ∈ tb := tb_memk tpc_4 182 rfl rfl
theorem tw_904 : (Cond.instanceMethod ({ cls := "ObsMessages", name := "checkAlike", desc := "(I)Z" } : MethodName)) ∈ tb := tb_memk tpc_4 184 rfl rfl
theorem tw_905 : (Cond.code ({ cls := "ObsMessages", name := "checkAlike", desc := "(I)Z" } : MethodName) prog_1_method_32_code (4 : Nat) (Option.some FieldType.boolean)) ∈ tb := tb_memk tpc_4 185 rfl rfl
theorem tw_906 : (Cond.methodLink "ObsMessages" (327 : Nat) ({ cls := "ObsMessages$Fields", name := "firstOther", desc := "([J[J)I" } : MethodName)) ∈ tb := tb_memk tpc_4 186 rfl rfl
theorem tw_907 : (Cond.instanceMethod ({ cls := "ObsMessages$Fields", name := "firstOther", desc := "([J[J)I" } : MethodName)) ∈ tb := tb_memk tpc_4 187 rfl rfl
theorem tw_908 : (Cond.selects "ObsMessages$Fields" ({ cls := "ObsMessages$Fields", name := "firstOther", desc := "([J[J)I" } : MethodName) ({ cls := "ObsMessages$Fields", name := "firstOther", desc := "([J[J)I" } : MethodName)) ∈ tb := tb_memk tpc_4 188 rfl rfl
theorem tw_909 : (Cond.code ({ cls := "ObsMessages$Fields", name := "firstOther", desc := "([J[J)I" } : MethodName) prog_4_method_5_code (4 : Nat) (Option.some FieldType.int)) ∈ tb := tb_memk tpc_4 189 rfl rfl
theorem tw_912 : (Cond.methodLink "ObsMessages" (231 : Nat) ({ cls := "ObsMessages$Writer", name := "takePacked", desc := "(LObsMessages$Walk;[[JI)V" } : MethodName)) ∈ tb := tb_memk tpc_4 192 rfl rfl
theorem tw_913 : (Cond.instanceMethod ({ cls := "ObsMessages$Writer", name := "takePacked", desc := "(LObsMessages$Walk;[[JI)V" } : MethodName)) ∈ tb := tb_memk tpc_4 193 rfl rfl
theorem tw_914 : (Cond.selects "ObsMessages$Writer" ({ cls := "ObsMessages$Writer", name := "takePacked", desc := "(LObsMessages$Walk;[[JI)V" } : MethodName) ({ cls := "ObsMessages$Writer", name := "takePacked", desc := "(LObsMessages$Walk;[[JI)V" } : MethodName)) ∈ tb := tb_memk tpc_4 194 rfl rfl
theorem tw_915 : (Cond.code ({ cls := "ObsMessages$Writer", name := "takePacked", desc := "(LObsMessages$Walk;[[JI)V" } : MethodName) prog_12_method_3_code (5 : Nat) (Option.none : Option FieldType)) ∈ tb := tb_memk tpc_4 195 rfl rfl
theorem tw_956 : (Cond.methodLink "ObsMessages" (235 : Nat) ({ cls := "ObsMessages$Writer", name := "takePlain", desc := "(LObsMessages$Walk;[[JI)V" } : MethodName)) ∈ tb := tb_memk tpc_4 236 rfl rfl
theorem tw_957 : (Cond.instanceMethod ({ cls := "ObsMessages$Writer", name := "takePlain", desc := "(LObsMessages$Walk;[[JI)V" } : MethodName)) ∈ tb := tb_memk tpc_4 237 rfl rfl
theorem tw_958 : (Cond.selects "ObsMessages$Writer" ({ cls := "ObsMessages$Writer", name := "takePlain", desc := "(LObsMessages$Walk;[[JI)V" } : MethodName) ({ cls := "ObsMessages$Writer", name := "takePlain", desc := "(LObsMessages$Walk;[[JI)V" } : MethodName)) ∈ tb := tb_memk tpc_4 238 rfl rfl
theorem tw_959 : (Cond.code ({ cls := "ObsMessages$Writer", name := "takePlain", desc := "(LObsMessages$Walk;[[JI)V" } : MethodName) prog_12_method_2_code (6 : Nat) (Option.none : Option FieldType)) ∈ tb := tb_memk tpc_4 239 rfl rfl
theorem tw_963 : (Cond.methodLink "ObsMessagesLaw" (50 : Nat) ({ cls := "ObsMessages", name := "read", desc := "()I" } : MethodName)) ∈ tb := tb_memk tpc_5 3 rfl rfl
theorem tw_964 : (Cond.instanceMethod ({ cls := "ObsMessages", name := "read", desc := "()I" } : MethodName)) ∈ tb := tb_memk tpc_5 4 rfl rfl
theorem tw_965 : (Cond.selects "ObsMessages" ({ cls := "ObsMessages", name := "read", desc := "()I" } : MethodName) ({ cls := "ObsMessages", name := "read", desc := "()I" } : MethodName)) ∈ tb := tb_memk tpc_5 5 rfl rfl
theorem tw_966 : (Cond.code ({ cls := "ObsMessages", name := "read", desc := "()I" } : MethodName) prog_1_method_18_code (2 : Nat) (Option.some FieldType.int)) ∈ tb := tb_memk tpc_5 6 rfl rfl
theorem tw_967 : (Cond.methodLink "ObsMessages" (252 : Nat) ({ cls := "ObsMessages", name := "openTape", desc := "()Z" } : MethodName)) ∈ tb := tb_memk tpc_5 7 rfl rfl
theorem tw_969 : (Cond.instanceMethod ({ cls := "ObsMessages", name := "openTape", desc := "()Z" } : MethodName)) ∈ tb := tb_memk tpc_5 9 rfl rfl
theorem tw_970 : (Cond.code ({ cls := "ObsMessages", name := "openTape", desc := "()Z" } : MethodName) prog_1_method_33_code (1 : Nat) (Option.some FieldType.boolean)) ∈ tb := tb_memk tpc_5 10 rfl rfl
theorem tw_986 : (Cond.methodLink "ObsMessages" (259 : Nat) ({ cls := "ObsMessages$Reader", name := "takePacked", desc := "(LObsMessages$Walk;)V" } : MethodName)) ∈ tb := tb_memk tpc_5 26 rfl rfl
theorem tw_987 : (Cond.instanceMethod ({ cls := "ObsMessages$Reader", name := "takePacked", desc := "(LObsMessages$Walk;)V" } : MethodName)) ∈ tb := tb_memk tpc_5 27 rfl rfl
theorem tw_988 : (Cond.selects "ObsMessages$Reader" ({ cls := "ObsMessages$Reader", name := "takePacked", desc := "(LObsMessages$Walk;)V" } : MethodName) ({ cls := "ObsMessages$Reader", name := "takePacked", desc := "(LObsMessages$Walk;)V" } : MethodName)) ∈ tb := tb_memk tpc_5 28 rfl rfl
theorem tw_989 : (Cond.code ({ cls := "ObsMessages$Reader", name := "takePacked", desc := "(LObsMessages$Walk;)V" } : MethodName) prog_9_method_4_code (3 : Nat) (Option.none : Option FieldType)) ∈ tb := tb_memk tpc_5 29 rfl rfl
theorem tw_1023 : (Cond.methodLink "ObsMessages" (262 : Nat) ({ cls := "ObsMessages$Reader", name := "takePlain", desc := "(LObsMessages$Walk;)V" } : MethodName)) ∈ tb := tb_memk tpc_5 63 rfl rfl
theorem tw_1024 : (Cond.instanceMethod ({ cls := "ObsMessages$Reader", name := "takePlain", desc := "(LObsMessages$Walk;)V" } : MethodName)) ∈ tb := tb_memk tpc_5 64 rfl rfl
theorem tw_1025 : (Cond.selects "ObsMessages$Reader" ({ cls := "ObsMessages$Reader", name := "takePlain", desc := "(LObsMessages$Walk;)V" } : MethodName) ({ cls := "ObsMessages$Reader", name := "takePlain", desc := "(LObsMessages$Walk;)V" } : MethodName)) ∈ tb := tb_memk tpc_5 65 rfl rfl
theorem tw_1026 : (Cond.code ({ cls := "ObsMessages$Reader", name := "takePlain", desc := "(LObsMessages$Walk;)V" } : MethodName) prog_9_method_3_code (4 : Nat) (Option.none : Option FieldType)) ∈ tb := tb_memk tpc_5 66 rfl rfl
theorem tw_1031 : (Cond.methodLink "ObsMessages" (266 : Nat) ({ cls := "ObsMessages$Bits", name := "empty", desc := "()V" } : MethodName)) ∈ tb := tb_memk tpc_5 71 rfl rfl
theorem tw_1032 : (Cond.methodLink "ObsMessages" (272 : Nat) ({ cls := "java/lang/System", name := "arraycopy", desc := "(Ljava/lang/Object;ILjava/lang/Object;II)V" } : MethodName)) ∈ tb := tb_memk tpc_5 72 rfl rfl
theorem tw_1036 : (Cond.methodLink "ObsMessagesLaw" (53 : Nat) ({ cls := "ObsMessages", name := "point", desc := "(IJ)V" } : MethodName)) ∈ tb := tb_memk tpc_5 76 rfl rfl
theorem tw_1037 : (Cond.instanceMethod ({ cls := "ObsMessages", name := "point", desc := "(IJ)V" } : MethodName)) ∈ tb := tb_memk tpc_5 77 rfl rfl
theorem tw_1038 : (Cond.selects "ObsMessages" ({ cls := "ObsMessages", name := "point", desc := "(IJ)V" } : MethodName) ({ cls := "ObsMessages", name := "point", desc := "(IJ)V" } : MethodName)) ∈ tb := tb_memk tpc_5 78 rfl rfl
theorem tw_1039 : (Cond.code ({ cls := "ObsMessages", name := "point", desc := "(IJ)V" } : MethodName) prog_1_method_19_code (4 : Nat) (Option.none : Option FieldType)) ∈ tb := tb_memk tpc_5 79 rfl rfl
theorem tw_1041 : (Cond.constantLong "ObsMessages" (283 : Nat) (-2000000000 : Int64)) ∈ tb := tb_memk tpc_5 81 rfl rfl
theorem tw_1042 : (Cond.constantLong "ObsMessages" (285 : Nat) (2000000000 : Int64)) ∈ tb := tb_memk tpc_5 82 rfl rfl
theorem tw_1047 : (Cond.methodLink "ObsMessagesLaw" (57 : Nat) ({ cls := "ObsMessages", name := "pack", desc := "(I)I" } : MethodName)) ∈ tb := tb_memk tpc_5 87 rfl rfl
theorem tw_1048 : (Cond.instanceMethod ({ cls := "ObsMessages", name := "pack", desc := "(I)I" } : MethodName)) ∈ tb := tb_memk tpc_5 88 rfl rfl
theorem tw_1049 : (Cond.selects "ObsMessages" ({ cls := "ObsMessages", name := "pack", desc := "(I)I" } : MethodName) ({ cls := "ObsMessages", name := "pack", desc := "(I)I" } : MethodName)) ∈ tb := tb_memk tpc_5 89 rfl rfl
theorem tw_1050 : (Cond.code ({ cls := "ObsMessages", name := "pack", desc := "(I)I" } : MethodName) prog_1_method_20_code (3 : Nat) (Option.some FieldType.int)) ∈ tb := tb_memk tpc_5 90 rfl rfl
theorem tw_1052 : (Cond.methodLink "ObsMessages" (294 : Nat) ({ cls := "ObsMessages$Grid", name := "isBare", desc := "()Z" } : MethodName)) ∈ tb := tb_memk tpc_5 92 rfl rfl
theorem tw_1053 : (Cond.instanceMethod ({ cls := "ObsMessages$Grid", name := "isBare", desc := "()Z" } : MethodName)) ∈ tb := tb_memk tpc_5 93 rfl rfl
theorem tw_1054 : (Cond.selects "ObsMessages$Grid" ({ cls := "ObsMessages$Grid", name := "isBare", desc := "()Z" } : MethodName) ({ cls := "ObsMessages$Grid", name := "isBare", desc := "()Z" } : MethodName)) ∈ tb := tb_memk tpc_5 94 rfl rfl
theorem tw_1055 : (Cond.code ({ cls := "ObsMessages$Grid", name := "isBare", desc := "()Z" } : MethodName) prog_6_method_2_code (2 : Nat) (Option.some FieldType.boolean)) ∈ tb := tb_memk tpc_5 95 rfl rfl
theorem tw_1057 : (Cond.methodLink "ObsMessages" (299 : Nat) ({ cls := "ObsMessages$Grid", name := "takeCodes", desc := "(I)I" } : MethodName)) ∈ tb := tb_memk tpc_5 97 rfl rfl
theorem tw_1058 : (Cond.instanceMethod ({ cls := "ObsMessages$Grid", name := "takeCodes", desc := "(I)I" } : MethodName)) ∈ tb := tb_memk tpc_5 98 rfl rfl
theorem tw_1059 : (Cond.selects "ObsMessages$Grid" ({ cls := "ObsMessages$Grid", name := "takeCodes", desc := "(I)I" } : MethodName) ({ cls := "ObsMessages$Grid", name := "takeCodes", desc := "(I)I" } : MethodName)) ∈ tb := tb_memk tpc_5 99 rfl rfl
theorem tw_1060 : (Cond.code ({ cls := "ObsMessages$Grid", name := "takeCodes", desc := "(I)I" } : MethodName) prog_6_method_3_code (8 : Nat) (Option.some FieldType.int)) ∈ tb := tb_memk tpc_5 100 rfl rfl
theorem tw_1076 : (Cond.methodLink "ObsMessages" (302 : Nat) ({ cls := "ObsMessages$Grid", name := "cut", desc := "(I)V" } : MethodName)) ∈ tb := tb_memk tpc_5 116 rfl rfl
theorem tw_1077 : (Cond.instanceMethod ({ cls := "ObsMessages$Grid", name := "cut", desc := "(I)V" } : MethodName)) ∈ tb := tb_memk tpc_5 117 rfl rfl
theorem tw_1078 : (Cond.selects "ObsMessages$Grid" ({ cls := "ObsMessages$Grid", name := "cut", desc := "(I)V" } : MethodName) ({ cls := "ObsMessages$Grid", name := "cut", desc := "(I)V" } : MethodName)) ∈ tb := tb_memk tpc_5 118 rfl rfl
theorem tw_1079 : (Cond.code ({ cls := "ObsMessages$Grid", name := "cut", desc := "(I)V" } : MethodName) prog_6_method_6_code (3 : Nat) (Option.none : Option FieldType)) ∈ tb := tb_memk tpc_5 119 rfl rfl
theorem tw_1090 : (Cond.methodLink "ObsMessagesModel" (1 : Nat) ({ cls := "java/lang/Object", name := "<init>", desc := "()V" } : MethodName)) ∈ tb := tb_memk tpc_5 130 rfl rfl
theorem tw_1091 : (Cond.constant "ObsMessagesModel" (94 : Nat) (40000 : Int32)) ∈ tb := tb_memk tpc_5 131 rfl rfl
theorem tw_1277 : (Cond.arrayClass FieldType.boolean) ∈ tb := tb_memk tpc_6 77 rfl rfl
theorem tp_21 : Cond.selects "ObsMessages" ⟨"ObsMessages", "compileAnew", "()Z"⟩ ⟨"ObsMessages", "compileAnew", "()Z"⟩ ∈ tb := tb_mem 21 (by decide +kernel) rfl
theorem tp_23 : Cond.selects "ObsMessages" ⟨"ObsMessages", "checkValues", "(I)Z"⟩ ⟨"ObsMessages", "checkValues", "(I)Z"⟩ ∈ tb := tb_mem 23 (by decide +kernel) rfl
theorem tp_24 : Cond.selects "ObsMessages" ⟨"ObsMessages", "checkAlike", "(I)Z"⟩ ⟨"ObsMessages", "checkAlike", "(I)Z"⟩ ∈ tb := tb_mem 24 (by decide +kernel) rfl
theorem tp_28 : Cond.selects "ObsMessages" ⟨"ObsMessages", "openTape", "()Z"⟩ ⟨"ObsMessages", "openTape", "()Z"⟩ ∈ tb := tb_mem 28 (by decide +kernel) rfl
theorem oa_98 : ∀ w ∈ Bundle.ownAtoms "ObsMessages" 98 "java/lang/IllegalArgumentException" exUp, w ∈ tb ∨ w ∈ exSt ∨ w ∈ ckW := ex_all (by decide +kernel)
theorem oa_135 : ∀ w ∈ Bundle.ownAtoms "ObsMessages" 135 "java/lang/IllegalStateException" exUp, w ∈ tb ∨ w ∈ exSt ∨ w ∈ ckW := ex_all (by decide +kernel)
theorem oa_161 : ∀ w ∈ Bundle.ownAtoms "ObsMessages" 161 "java/lang/IndexOutOfBoundsException" exUp, w ∈ tb ∨ w ∈ exSt ∨ w ∈ ckW := ex_all (by decide +kernel)
