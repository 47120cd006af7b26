abbrev b_Law_law : ByteArray := code
theorem tw_0 : (Cond.initialized "ObsMessagesLaw") ∈ tb := tb_memk tpc_1 0 rfl rfl
theorem tw_414 : (Cond.methodLink "ObsMessagesLaw" (70 : Nat) ({ cls := "ObsMessages", name := "drop", desc := "(II)Z" } : MethodName)) ∈ tb := tb_memk tpc_2 174 rfl rfl
theorem tw_415 : (Cond.instanceMethod ({ cls := "ObsMessages", name := "drop", desc := "(II)Z" } : MethodName)) ∈ tb := tb_memk tpc_2 175 rfl rfl
theorem tw_416 : (Cond.selects "ObsMessages" ({ cls := "ObsMessages", name := "drop", desc := "(II)Z" } : MethodName) ({ cls := "ObsMessages", name := "drop", desc := "(II)Z" } : MethodName)) ∈ tb := tb_memk tpc_2 176 rfl rfl
theorem tw_417 : (Cond.code ({ cls := "ObsMessages", name := "drop", desc := "(II)Z" } : MethodName) prog_1_method_3_code (4 : Nat) (Option.some FieldType.boolean)) ∈ tb := tb_memk tpc_2 177 rfl rfl
theorem tw_427 : (Cond.methodLink "ObsMessagesLaw" (90 : Nat) ({ cls := "ObsMessages", name := "fault", desc := "(I)I" } : MethodName)) ∈ tb := tb_memk tpc_2 187 rfl rfl
theorem tw_428 : (Cond.instanceMethod ({ cls := "ObsMessages", name := "fault", desc := "(I)I" } : MethodName)) ∈ tb := tb_memk tpc_2 188 rfl rfl
theorem tw_429 : (Cond.selects "ObsMessages" ({ cls := "ObsMessages", name := "fault", desc := "(I)I" } : MethodName) ({ cls := "ObsMessages", name := "fault", desc := "(I)I" } : MethodName)) ∈ tb := tb_memk tpc_2 189 rfl rfl
theorem tw_430 : (Cond.code ({ cls := "ObsMessages", name := "fault", desc := "(I)I" } : MethodName) prog_1_method_8_code (2 : Nat) (Option.some FieldType.int)) ∈ tb := tb_memk tpc_2 190 rfl rfl
theorem tw_431 : (Cond.methodLink "ObsMessagesLaw" (107 : Nat) ({ cls := "ObsMessages", name := "field", desc := "(III)I" } : MethodName)) ∈ tb := tb_memk tpc_2 191 rfl rfl
theorem tw_432 : (Cond.instanceMethod ({ cls := "ObsMessages", name := "field", desc := "(III)I" } : MethodName)) ∈ tb := tb_memk tpc_2 192 rfl rfl
theorem tw_433 : (Cond.selects "ObsMessages" ({ cls := "ObsMessages", name := "field", desc := "(III)I" } : MethodName) ({ cls := "ObsMessages", name := "field", desc := "(III)I" } : MethodName)) ∈ tb := tb_memk tpc_2 193 rfl rfl
theorem tw_434 : (Cond.code ({ cls := "ObsMessages", name := "field", desc := "(III)I" } : MethodName) prog_1_method_12_code (4 : Nat) (Option.some FieldType.int)) ∈ tb := tb_memk tpc_2 194 rfl rfl
theorem tw_635 : (Cond.methodLink "ObsMessagesLaw" (112 : Nat) ({ cls := "ObsMessages", name := "reference", desc := "(II)J" } : MethodName)) ∈ tb := tb_memk tpc_3 155 rfl rfl
theorem tw_636 : (Cond.instanceMethod ({ cls := "ObsMessages", name := "reference", desc := "(II)J" } : MethodName)) ∈ tb := tb_memk tpc_3 156 rfl rfl
theorem tw_637 : (Cond.selects "ObsMessages" ({ cls := "ObsMessages", name := "reference", desc := "(II)J" } : MethodName) ({ cls := "ObsMessages", name := "reference", desc := "(II)J" } : MethodName)) ∈ tb := tb_memk tpc_3 157 rfl rfl
theorem tw_638 : (Cond.code ({ cls := "ObsMessages", name := "reference", desc := "(II)J" } : MethodName) prog_1_method_13_code (3 : Nat) (Option.some FieldType.long)) ∈ tb := tb_memk tpc_3 158 rfl rfl
theorem tw_639 : (Cond.methodLink "ObsMessagesLaw" (116 : Nat) ({ cls := "ObsMessages", name := "find", desc := "(IIII)I" } : MethodName)) ∈ tb := tb_memk tpc_3 159 rfl rfl
theorem tw_640 : (Cond.instanceMethod ({ cls := "ObsMessages", name := "find", desc := "(IIII)I" } : MethodName)) ∈ tb := tb_memk tpc_3 160 rfl rfl
theorem tw_641 : (Cond.selects "ObsMessages" ({ cls := "ObsMessages", name := "find", desc := "(IIII)I" } : MethodName) ({ cls := "ObsMessages", name := "find", desc := "(IIII)I" } : MethodName)) ∈ tb := tb_memk tpc_3 161 rfl rfl
theorem tw_642 : (Cond.code ({ cls := "ObsMessages", name := "find", desc := "(IIII)I" } : MethodName) prog_1_method_14_code (7 : Nat) (Option.some FieldType.int)) ∈ tb := tb_memk tpc_3 162 rfl rfl
theorem tw_647 : (Cond.methodLink "ObsMessagesLaw" (125 : Nat) ({ cls := "ObsMessages", name := "byteAt", desc := "(I)I" } : MethodName)) ∈ tb := tb_memk tpc_3 167 rfl rfl
theorem tw_648 : (Cond.instanceMethod ({ cls := "ObsMessages", name := "byteAt", desc := "(I)I" } : MethodName)) ∈ tb := tb_memk tpc_3 168 rfl rfl
theorem tw_649 : (Cond.selects "ObsMessages" ({ cls := "ObsMessages", name := "byteAt", desc := "(I)I" } : MethodName) ({ cls := "ObsMessages", name := "byteAt", desc := "(I)I" } : MethodName)) ∈ tb := tb_memk tpc_3 169 rfl rfl
theorem tw_650 : (Cond.code ({ cls := "ObsMessages", name := "byteAt", desc := "(I)I" } : MethodName) prog_1_method_16_code (2 : Nat) (Option.some FieldType.int)) ∈ tb := tb_memk tpc_3 170 rfl rfl
theorem tw_655 : (Cond.methodLink "ObsMessagesLaw" (129 : Nat) ({ cls := "ObsMessages", name := "feed", desc := "(II)I" } : MethodName)) ∈ tb := tb_memk tpc_3 175 rfl rfl
theorem tw_656 : (Cond.instanceMethod ({ cls := "ObsMessages", name := "feed", desc := "(II)I" } : MethodName)) ∈ tb := tb_memk tpc_3 176 rfl rfl
theorem tw_657 : (Cond.selects "ObsMessages" ({ cls := "ObsMessages", name := "feed", desc := "(II)I" } : MethodName) ({ cls := "ObsMessages", name := "feed", desc := "(II)I" } : MethodName)) ∈ tb := tb_memk tpc_3 177 rfl rfl
theorem tw_658 : (Cond.code ({ cls := "ObsMessages", name := "feed", desc := "(II)I" } : MethodName) prog_1_method_17_code (3 : Nat) (Option.some FieldType.int)) ∈ tb := tb_memk tpc_3 178 rfl rfl
theorem tw_663 : (Cond.methodLink "ObsMessagesLaw" (143 : Nat) ({ cls := "ObsMessages", name := "packedAt", desc := "(I)J" } : MethodName)) ∈ tb := tb_memk tpc_3 183 rfl rfl
theorem tw_664 : (Cond.instanceMethod ({ cls := "ObsMessages", name := "packedAt", desc := "(I)J" } : MethodName)) ∈ tb := tb_memk tpc_3 184 rfl rfl
theorem tw_665 : (Cond.selects "ObsMessages" ({ cls := "ObsMessages", name := "packedAt", desc := "(I)J" } : MethodName) ({ cls := "ObsMessages", name := "packedAt", desc := "(I)J" } : MethodName)) ∈ tb := tb_memk tpc_3 185 rfl rfl
theorem tw_666 : (Cond.code ({ cls := "ObsMessages", name := "packedAt", desc := "(I)J" } : MethodName) prog_1_method_21_code (2 : Nat) (Option.some FieldType.long)) ∈ tb := tb_memk tpc_3 186 rfl rfl
theorem tw_667 : (Cond.methodLink "ObsMessagesLaw" (148 : Nat) ({ cls := "ObsMessages", name := "group", desc := "(I)I" } : MethodName)) ∈ tb := tb_memk tpc_3 187 rfl rfl
theorem tw_668 : (Cond.instanceMethod ({ cls := "ObsMessages", name := "group", desc := "(I)I" } : MethodName)) ∈ tb := tb_memk tpc_3 188 rfl rfl
theorem tw_669 : (Cond.selects "ObsMessages" ({ cls := "ObsMessages", name := "group", desc := "(I)I" } : MethodName) ({ cls := "ObsMessages", name := "group", desc := "(I)I" } : MethodName)) ∈ tb := tb_memk tpc_3 189 rfl rfl
theorem tw_670 : (Cond.code ({ cls := "ObsMessages", name := "group", desc := "(I)I" } : MethodName) prog_1_method_22_code (2 : Nat) (Option.some FieldType.int)) ∈ tb := tb_memk tpc_3 190 rfl rfl
theorem tw_671 : (Cond.methodLink "ObsMessagesLaw" (64 : Nat) ({ cls := "ObsMessagesLaw", name := "element", desc := "(LObsMessages;IIIII)I" } : MethodName)) ∈ tb := tb_memk tpc_3 191 rfl rfl
theorem tw_672 : (Cond.static ({ cls := "ObsMessagesLaw", name := "element", desc := "(LObsMessages;IIIII)I" } : MethodName)) ∈ tb := tb_memk tpc_3 192 rfl rfl
theorem tw_673 : (Cond.codeWith ({ cls := "ObsMessagesLaw", name := "element", desc := "(LObsMessages;IIIII)I" } : MethodName) method_3_code (7 : Nat) (Option.some FieldType.int) [((0 : Nat), (11 : Nat), (14 : Nat), (13 : Nat))]) ∈ tb := tb_memk tpc_3 193 rfl rfl
theorem tw_754 : (Cond.methodLink "ObsMessagesLaw" (75 : Nat) ({ cls := "ObsMessagesLaw", name := "version", desc := "(LObsMessages;I)I" } : MethodName)) ∈ tb := tb_memk tpc_4 34 rfl rfl
theorem tw_755 : (Cond.static ({ cls := "ObsMessagesLaw", name := "version", desc := "(LObsMessages;I)I" } : MethodName)) ∈ tb := tb_memk tpc_4 35 rfl rfl
theorem tw_756 : (Cond.codeWith ({ cls := "ObsMessagesLaw", name := "version", desc := "(LObsMessages;I)I" } : MethodName) method_4_code (3 : Nat) (Option.some FieldType.int) [((0 : Nat), (5 : Nat), (8 : Nat), (13 : Nat))]) ∈ tb := tb_memk tpc_4 36 rfl rfl
theorem tw_762 : (Cond.methodLink "ObsMessagesLaw" (79 : Nat) ({ cls := "ObsMessagesLaw", name := "append", desc := "(LObsMessages;II[J)I" } : MethodName)) ∈ tb := tb_memk tpc_4 42 rfl rfl
theorem tw_763 : (Cond.static ({ cls := "ObsMessagesLaw", name := "append", desc := "(LObsMessages;II[J)I" } : MethodName)) ∈ tb := tb_memk tpc_4 43 rfl rfl
theorem tw_764 : (Cond.codeWith ({ cls := "ObsMessagesLaw", name := "append", desc := "(LObsMessages;II[J)I" } : MethodName) method_5_code (5 : Nat) (Option.some FieldType.int) [((0 : Nat), (10 : Nat), (13 : Nat), (13 : Nat)), ((0 : Nat), (10 : Nat), (17 : Nat), (23 : Nat))]) ∈ tb := tb_memk tpc_4 44 rfl rfl
theorem tw_808 : (Cond.methodLink "ObsMessagesLaw" (83 : Nat) ({ cls := "ObsMessagesLaw", name := "clear", desc := "(LObsMessages;I)I" } : MethodName)) ∈ tb := tb_memk tpc_4 88 rfl rfl
theorem tw_809 : (Cond.static ({ cls := "ObsMessagesLaw", name := "clear", desc := "(LObsMessages;I)I" } : MethodName)) ∈ tb := tb_memk tpc_4 89 rfl rfl
theorem tw_810 : (Cond.codeWith ({ cls := "ObsMessagesLaw", name := "clear", desc := "(LObsMessages;I)I" } : MethodName) method_6_code (3 : Nat) (Option.some FieldType.int) [((0 : Nat), (5 : Nat), (8 : Nat), (13 : Nat))]) ∈ tb := tb_memk tpc_4 90 rfl rfl
theorem tw_816 : (Cond.methodLink "ObsMessagesLaw" (86 : Nat) ({ cls := "ObsMessagesLaw", name := "compile", desc := "(LObsMessages;[J)I" } : MethodName)) ∈ tb := tb_memk tpc_4 96 rfl rfl
theorem tw_817 : (Cond.static ({ cls := "ObsMessagesLaw", name := "compile", desc := "(LObsMessages;[J)I" } : MethodName)) ∈ tb := tb_memk tpc_4 97 rfl rfl
theorem tw_818 : (Cond.codeWith ({ cls := "ObsMessagesLaw", name := "compile", desc := "(LObsMessages;[J)I" } : MethodName) method_7_code (3 : Nat) (Option.some FieldType.int) [((0 : Nat), (8 : Nat), (11 : Nat), (13 : Nat))]) ∈ tb := tb_memk tpc_4 98 rfl rfl
theorem tw_832 : (Cond.methodLink "ObsMessagesLaw" (96 : Nat) ({ cls := "ObsMessagesLaw", name := "put", desc := "(LObsMessages;IIJ)I" } : MethodName)) ∈ tb := tb_memk tpc_4 112 rfl rfl
theorem tw_833 : (Cond.static ({ cls := "ObsMessagesLaw", name := "put", desc := "(LObsMessages;IIJ)I" } : MethodName)) ∈ tb := tb_memk tpc_4 113 rfl rfl
theorem tw_834 : (Cond.codeWith ({ cls := "ObsMessagesLaw", name := "put", desc := "(LObsMessages;IIJ)I" } : MethodName) method_8_code (6 : Nat) (Option.some FieldType.int) [((0 : Nat), (7 : Nat), (10 : Nat), (36 : Nat))]) ∈ tb := tb_memk tpc_4 114 rfl rfl
theorem tw_859 : (Cond.methodLink "ObsMessagesLaw" (100 : Nat) ({ cls := "ObsMessagesLaw", name := "get", desc := "(LObsMessages;II[J)I" } : MethodName)) ∈ tb := tb_memk tpc_4 139 rfl rfl
theorem tw_860 : (Cond.static ({ cls := "ObsMessagesLaw", name := "get", desc := "(LObsMessages;II[J)I" } : MethodName)) ∈ tb := tb_memk tpc_4 140 rfl rfl
theorem tw_861 : (Cond.codeWith ({ cls := "ObsMessagesLaw", name := "get", desc := "(LObsMessages;II[J)I" } : MethodName) method_9_code (5 : Nat) (Option.some FieldType.int) [((0 : Nat), (9 : Nat), (12 : Nat), (36 : Nat))]) ∈ tb := tb_memk tpc_4 141 rfl rfl
theorem tw_866 : (Cond.methodLink "ObsMessagesLaw" (103 : Nat) ({ cls := "ObsMessagesLaw", name := "fields", desc := "(LObsMessages;I[J)I" } : MethodName)) ∈ tb := tb_memk tpc_4 146 rfl rfl
theorem tw_867 : (Cond.static ({ cls := "ObsMessagesLaw", name := "fields", desc := "(LObsMessages;I[J)I" } : MethodName)) ∈ tb := tb_memk tpc_4 147 rfl rfl
theorem tw_868 : (Cond.codeWith ({ cls := "ObsMessagesLaw", name := "fields", desc := "(LObsMessages;I[J)I" } : MethodName) method_10_code (4 : Nat) (Option.some FieldType.int) [((0 : Nat), (9 : Nat), (12 : Nat), (36 : Nat)), ((0 : Nat), (9 : Nat), (15 : Nat), (13 : Nat))]) ∈ tb := tb_memk tpc_4 148 rfl rfl
theorem tw_878 : (Cond.methodLink "ObsMessagesLaw" (121 : Nat) ({ cls := "ObsMessagesLaw", name := "write", desc := "(LObsMessages;IZ[J)I" } : MethodName)) ∈ tb := tb_memk tpc_4 158 rfl rfl
theorem tw_879 : (Cond.static ({ cls := "ObsMessagesLaw", name := "write", desc := "(LObsMessages;IZ[J)I" } : MethodName)) ∈ tb := tb_memk tpc_4 159 rfl rfl
theorem tw_880 : (Cond.codeWith ({ cls := "ObsMessagesLaw", name := "write", desc := "(LObsMessages;IZ[J)I" } : MethodName) method_11_code (5 : Nat) (Option.some FieldType.int) [((0 : Nat), (10 : Nat), (13 : Nat), (13 : Nat))]) ∈ tb := tb_memk tpc_4 160 rfl rfl
theorem tw_960 : (Cond.methodLink "ObsMessagesLaw" (133 : Nat) ({ cls := "ObsMessagesLaw", name := "read", desc := "(LObsMessages;[J)I" } : MethodName)) ∈ tb := tb_memk tpc_5 0 rfl rfl
theorem tw_961 : (Cond.static ({ cls := "ObsMessagesLaw", name := "read", desc := "(LObsMessages;[J)I" } : MethodName)) ∈ tb := tb_memk tpc_5 1 rfl rfl
theorem tw_962 : (Cond.codeWith ({ cls := "ObsMessagesLaw", name := "read", desc := "(LObsMessages;[J)I" } : MethodName) method_12_code (3 : Nat) (Option.some FieldType.int) [((0 : Nat), (8 : Nat), (11 : Nat), (13 : Nat))]) ∈ tb := tb_memk tpc_5 2 rfl rfl
theorem tw_1033 : (Cond.methodLink "ObsMessagesLaw" (136 : Nat) ({ cls := "ObsMessagesLaw", name := "point", desc := "(LObsMessages;IJ)I" } : MethodName)) ∈ tb := tb_memk tpc_5 73 rfl rfl
theorem tw_1034 : (Cond.static ({ cls := "ObsMessagesLaw", name := "point", desc := "(LObsMessages;IJ)I" } : MethodName)) ∈ tb := tb_memk tpc_5 74 rfl rfl
theorem tw_1035 : (Cond.codeWith ({ cls := "ObsMessagesLaw", name := "point", desc := "(LObsMessages;IJ)I" } : MethodName) method_13_code (5 : Nat) (Option.some FieldType.int) [((0 : Nat), (6 : Nat), (9 : Nat), (36 : Nat)), ((0 : Nat), (6 : Nat), (13 : Nat), (13 : Nat))]) ∈ tb := tb_memk tpc_5 75 rfl rfl
theorem tw_1044 : (Cond.methodLink "ObsMessagesLaw" (140 : Nat) ({ cls := "ObsMessagesLaw", name := "pack", desc := "(LObsMessages;I[J)I" } : MethodName)) ∈ tb := tb_memk tpc_5 84 rfl rfl
theorem tw_1045 : (Cond.static ({ cls := "ObsMessagesLaw", name := "pack", desc := "(LObsMessages;I[J)I" } : MethodName)) ∈ tb := tb_memk tpc_5 85 rfl rfl
theorem tw_1046 : (Cond.codeWith ({ cls := "ObsMessagesLaw", name := "pack", desc := "(LObsMessages;I[J)I" } : MethodName) method_14_code (4 : Nat) (Option.some FieldType.int) [((0 : Nat), (9 : Nat), (12 : Nat), (13 : Nat)), ((0 : Nat), (9 : Nat), (15 : Nat), (23 : Nat))]) ∈ tb := tb_memk tpc_5 86 rfl rfl
theorem tw_1278 : (Cond.methodLink "ObsMessagesLaw" (69 : Nat) ({ cls := "ObsMessagesModel", name := "element", desc := "(IIIII)V" } : MethodName)) ∈ tb := tb_memk tpc_6 78 rfl rfl
theorem tw_1279 : (Cond.instanceMethod ({ cls := "ObsMessagesModel", name := "element", desc := "(IIIII)V" } : MethodName)) ∈ tb := tb_memk tpc_6 79 rfl rfl
theorem tw_1280 : (Cond.selects "ObsMessagesModel" ({ cls := "ObsMessagesModel", name := "element", desc := "(IIIII)V" } : MethodName) ({ cls := "ObsMessagesModel", name := "element", desc := "(IIIII)V" } : MethodName)) ∈ tb := tb_memk tpc_6 80 rfl rfl
theorem tw_1281 : (Cond.code ({ cls := "ObsMessagesModel", name := "element", desc := "(IIIII)V" } : MethodName) prog_14_method_5_code (8 : Nat) (Option.none : Option FieldType)) ∈ tb := tb_memk tpc_6 81 rfl rfl
theorem tw_1290 : (Cond.methodLink "ObsMessagesLaw" (74 : Nat) ({ cls := "ObsMessagesModel", name := "drop", desc := "(II)Z" } : MethodName)) ∈ tb := tb_memk tpc_6 90 rfl rfl
theorem tw_1291 : (Cond.instanceMethod ({ cls := "ObsMessagesModel", name := "drop", desc := "(II)Z" } : MethodName)) ∈ tb := tb_memk tpc_6 91 rfl rfl
theorem tw_1292 : (Cond.selects "ObsMessagesModel" ({ cls := "ObsMessagesModel", name := "drop", desc := "(II)Z" } : MethodName) ({ cls := "ObsMessagesModel", name := "drop", desc := "(II)Z" } : MethodName)) ∈ tb := tb_memk tpc_6 92 rfl rfl
theorem tw_1293 : (Cond.code ({ cls := "ObsMessagesModel", name := "drop", desc := "(II)Z" } : MethodName) prog_14_method_6_code (4 : Nat) (Option.some FieldType.boolean)) ∈ tb := tb_memk tpc_6 93 rfl rfl
theorem tw_1294 : (Cond.methodLink "ObsMessagesLaw" (78 : Nat) ({ cls := "ObsMessagesModel", name := "version", desc := "(I)V" } : MethodName)) ∈ tb := tb_memk tpc_6 94 rfl rfl
theorem tw_1295 : (Cond.instanceMethod ({ cls := "ObsMessagesModel", name := "version", desc := "(I)V" } : MethodName)) ∈ tb := tb_memk tpc_6 95 rfl rfl
theorem tw_1296 : (Cond.selects "ObsMessagesModel" ({ cls := "ObsMessagesModel", name := "version", desc := "(I)V" } : MethodName) ({ cls := "ObsMessagesModel", name := "version", desc := "(I)V" } : MethodName)) ∈ tb := tb_memk tpc_6 96 rfl rfl
theorem tw_1297 : (Cond.code ({ cls := "ObsMessagesModel", name := "version", desc := "(I)V" } : MethodName) prog_14_method_7_code (2 : Nat) (Option.none : Option FieldType)) ∈ tb := tb_memk tpc_6 97 rfl rfl
theorem tw_1298 : (Cond.methodLink "ObsMessagesLaw" (82 : Nat) ({ cls := "ObsMessagesModel", name := "append", desc := "(II)I" } : MethodName)) ∈ tb := tb_memk tpc_6 98 rfl rfl
theorem tw_1299 : (Cond.instanceMethod ({ cls := "ObsMessagesModel", name := "append", desc := "(II)I" } : MethodName)) ∈ tb := tb_memk tpc_6 99 rfl rfl
theorem tw_1300 : (Cond.selects "ObsMessagesModel" ({ cls := "ObsMessagesModel", name := "append", desc := "(II)I" } : MethodName) ({ cls := "ObsMessagesModel", name := "append", desc := "(II)I" } : MethodName)) ∈ tb := tb_memk tpc_6 100 rfl rfl
theorem tw_1301 : (Cond.code ({ cls := "ObsMessagesModel", name := "append", desc := "(II)I" } : MethodName) prog_14_method_13_code (4 : Nat) (Option.some FieldType.int)) ∈ tb := tb_memk tpc_6 101 rfl rfl
theorem tw_1308 : (Cond.methodLink "ObsMessagesLaw" (85 : Nat) ({ cls := "ObsMessagesModel", name := "clear", desc := "(I)V" } : MethodName)) ∈ tb := tb_memk tpc_6 108 rfl rfl
theorem tw_1309 : (Cond.instanceMethod ({ cls := "ObsMessagesModel", name := "clear", desc := "(I)V" } : MethodName)) ∈ tb := tb_memk tpc_6 109 rfl rfl
theorem tw_1310 : (Cond.selects "ObsMessagesModel" ({ cls := "ObsMessagesModel", name := "clear", desc := "(I)V" } : MethodName) ({ cls := "ObsMessagesModel", name := "clear", desc := "(I)V" } : MethodName)) ∈ tb := tb_memk tpc_6 110 rfl rfl
theorem tw_1311 : (Cond.code ({ cls := "ObsMessagesModel", name := "clear", desc := "(I)V" } : MethodName) prog_14_method_14_code (2 : Nat) (Option.none : Option FieldType)) ∈ tb := tb_memk tpc_6 111 rfl rfl
theorem tw_1312 : (Cond.methodLink "ObsMessagesLaw" (89 : Nat) ({ cls := "ObsMessagesModel", name := "compile", desc := "()I" } : MethodName)) ∈ tb := tb_memk tpc_6 112 rfl rfl
theorem tw_1313 : (Cond.instanceMethod ({ cls := "ObsMessagesModel", name := "compile", desc := "()I" } : MethodName)) ∈ tb := tb_memk tpc_6 113 rfl rfl
theorem tw_1314 : (Cond.selects "ObsMessagesModel" ({ cls := "ObsMessagesModel", name := "compile", desc := "()I" } : MethodName) ({ cls := "ObsMessagesModel", name := "compile", desc := "()I" } : MethodName)) ∈ tb := tb_memk tpc_6 114 rfl rfl
theorem tw_1315 : (Cond.code ({ cls := "ObsMessagesModel", name := "compile", desc := "()I" } : MethodName) prog_14_method_28_code (1 : Nat) (Option.some FieldType.int)) ∈ tb := tb_memk tpc_6 115 rfl rfl
theorem tw_1377 : (Cond.methodLink "ObsMessagesLaw" (93 : Nat) ({ cls := "ObsMessagesModel", name := "fault", desc := "(I)I" } : MethodName)) ∈ tb := tb_memk tpc_6 177 rfl rfl
theorem tw_1378 : (Cond.instanceMethod ({ cls := "ObsMessagesModel", name := "fault", desc := "(I)I" } : MethodName)) ∈ tb := tb_memk tpc_6 178 rfl rfl
theorem tw_1379 : (Cond.selects "ObsMessagesModel" ({ cls := "ObsMessagesModel", name := "fault", desc := "(I)I" } : MethodName) ({ cls := "ObsMessagesModel", name := "fault", desc := "(I)I" } : MethodName)) ∈ tb := tb_memk tpc_6 179 rfl rfl
theorem tw_1380 : (Cond.code ({ cls := "ObsMessagesModel", name := "fault", desc := "(I)I" } : MethodName) prog_14_method_29_code (2 : Nat) (Option.some FieldType.int)) ∈ tb := tb_memk tpc_6 180 rfl rfl
theorem tw_1381 : (Cond.methodLink "ObsMessagesLaw" (99 : Nat) ({ cls := "ObsMessagesModel", name := "put", desc := "(IIJ)V" } : MethodName)) ∈ tb := tb_memk tpc_6 181 rfl rfl
theorem tw_1382 : (Cond.instanceMethod ({ cls := "ObsMessagesModel", name := "put", desc := "(IIJ)V" } : MethodName)) ∈ tb := tb_memk tpc_6 182 rfl rfl
theorem tw_1383 : (Cond.selects "ObsMessagesModel" ({ cls := "ObsMessagesModel", name := "put", desc := "(IIJ)V" } : MethodName) ({ cls := "ObsMessagesModel", name := "put", desc := "(IIJ)V" } : MethodName)) ∈ tb := tb_memk tpc_6 183 rfl rfl
theorem tw_1384 : (Cond.code ({ cls := "ObsMessagesModel", name := "put", desc := "(IIJ)V" } : MethodName) prog_14_method_46_code (5 : Nat) (Option.none : Option FieldType)) ∈ tb := tb_memk tpc_6 184 rfl rfl
theorem tw_1388 : (Cond.methodLink "ObsMessagesLaw" (102 : Nat) ({ cls := "ObsMessagesModel", name := "get", desc := "(II)J" } : MethodName)) ∈ tb := tb_memk tpc_6 188 rfl rfl
theorem tw_1389 : (Cond.instanceMethod ({ cls := "ObsMessagesModel", name := "get", desc := "(II)J" } : MethodName)) ∈ tb := tb_memk tpc_6 189 rfl rfl
theorem tw_1390 : (Cond.selects "ObsMessagesModel" ({ cls := "ObsMessagesModel", name := "get", desc := "(II)J" } : MethodName) ({ cls := "ObsMessagesModel", name := "get", desc := "(II)J" } : MethodName)) ∈ tb := tb_memk tpc_6 190 rfl rfl
theorem tw_1391 : (Cond.code ({ cls := "ObsMessagesModel", name := "get", desc := "(II)J" } : MethodName) prog_14_method_47_code (3 : Nat) (Option.some FieldType.long)) ∈ tb := tb_memk tpc_6 191 rfl rfl
theorem tw_1392 : (Cond.methodLink "ObsMessagesLaw" (106 : Nat) ({ cls := "ObsMessagesModel", name := "fields", desc := "(I)I" } : MethodName)) ∈ tb := tb_memk tpc_6 192 rfl rfl
theorem tw_1393 : (Cond.instanceMethod ({ cls := "ObsMessagesModel", name := "fields", desc := "(I)I" } : MethodName)) ∈ tb := tb_memk tpc_6 193 rfl rfl
theorem tw_1394 : (Cond.selects "ObsMessagesModel" ({ cls := "ObsMessagesModel", name := "fields", desc := "(I)I" } : MethodName) ({ cls := "ObsMessagesModel", name := "fields", desc := "(I)I" } : MethodName)) ∈ tb := tb_memk tpc_6 194 rfl rfl
theorem tw_1395 : (Cond.code ({ cls := "ObsMessagesModel", name := "fields", desc := "(I)I" } : MethodName) prog_14_method_48_code (2 : Nat) (Option.some FieldType.int)) ∈ tb := tb_memk tpc_6 195 rfl rfl
theorem tw_1453 : (Cond.methodLink "ObsMessagesLaw" (111 : Nat) ({ cls := "ObsMessagesModel", name := "field", desc := "(III)I" } : MethodName)) ∈ tb := tb_memk tpc_7 13 rfl rfl
theorem tw_1454 : (Cond.instanceMethod ({ cls := "ObsMessagesModel", name := "field", desc := "(III)I" } : MethodName)) ∈ tb := tb_memk tpc_7 14 rfl rfl
theorem tw_1455 : (Cond.selects "ObsMessagesModel" ({ cls := "ObsMessagesModel", name := "field", desc := "(III)I" } : MethodName) ({ cls := "ObsMessagesModel", name := "field", desc := "(III)I" } : MethodName)) ∈ tb := tb_memk tpc_7 15 rfl rfl
theorem tw_1456 : (Cond.code ({ cls := "ObsMessagesModel", name := "field", desc := "(III)I" } : MethodName) prog_14_method_50_code (4 : Nat) (Option.some FieldType.int)) ∈ tb := tb_memk tpc_7 16 rfl rfl
theorem tw_1461 : (Cond.methodLink "ObsMessagesLaw" (115 : Nat) ({ cls := "ObsMessagesModel", name := "reference", desc := "(II)J" } : MethodName)) ∈ tb := tb_memk tpc_7 21 rfl rfl
theorem tw_1462 : (Cond.instanceMethod ({ cls := "ObsMessagesModel", name := "reference", desc := "(II)J" } : MethodName)) ∈ tb := tb_memk tpc_7 22 rfl rfl
theorem tw_1463 : (Cond.selects "ObsMessagesModel" ({ cls := "ObsMessagesModel", name := "reference", desc := "(II)J" } : MethodName) ({ cls := "ObsMessagesModel", name := "reference", desc := "(II)J" } : MethodName)) ∈ tb := tb_memk tpc_7 23 rfl rfl
theorem tw_1464 : (Cond.code ({ cls := "ObsMessagesModel", name := "reference", desc := "(II)J" } : MethodName) prog_14_method_51_code (3 : Nat) (Option.some FieldType.long)) ∈ tb := tb_memk tpc_7 24 rfl rfl
theorem tw_1465 : (Cond.methodLink "ObsMessagesLaw" (120 : Nat) ({ cls := "ObsMessagesModel", name := "find", desc := "(IIII)I" } : MethodName)) ∈ tb := tb_memk tpc_7 25 rfl rfl
theorem tw_1466 : (Cond.instanceMethod ({ cls := "ObsMessagesModel", name := "find", desc := "(IIII)I" } : MethodName)) ∈ tb := tb_memk tpc_7 26 rfl rfl
theorem tw_1467 : (Cond.selects "ObsMessagesModel" ({ cls := "ObsMessagesModel", name := "find", desc := "(IIII)I" } : MethodName) ({ cls := "ObsMessagesModel", name := "find", desc := "(IIII)I" } : MethodName)) ∈ tb := tb_memk tpc_7 27 rfl rfl
theorem tw_1468 : (Cond.code ({ cls := "ObsMessagesModel", name := "find", desc := "(IIII)I" } : MethodName) prog_14_method_52_code (8 : Nat) (Option.some FieldType.int)) ∈ tb := tb_memk tpc_7 28 rfl rfl
theorem tw_1469 : (Cond.methodLink "ObsMessagesLaw" (124 : Nat) ({ cls := "ObsMessagesModel", name := "write", desc := "(IZ)I" } : MethodName)) ∈ tb := tb_memk tpc_7 29 rfl rfl
theorem tw_1470 : (Cond.instanceMethod ({ cls := "ObsMessagesModel", name := "write", desc := "(IZ)I" } : MethodName)) ∈ tb := tb_memk tpc_7 30 rfl rfl
theorem tw_1471 : (Cond.selects "ObsMessagesModel" ({ cls := "ObsMessagesModel", name := "write", desc := "(IZ)I" } : MethodName) ({ cls := "ObsMessagesModel", name := "write", desc := "(IZ)I" } : MethodName)) ∈ tb := tb_memk tpc_7 31 rfl rfl
theorem tw_1472 : (Cond.code ({ cls := "ObsMessagesModel", name := "write", desc := "(IZ)I" } : MethodName) prog_14_method_58_code (5 : Nat) (Option.some FieldType.int)) ∈ tb := tb_memk tpc_7 32 rfl rfl
theorem tw_1497 : (Cond.methodLink "ObsMessagesLaw" (128 : Nat) ({ cls := "ObsMessagesModel", name := "byteAt", desc := "(I)I" } : MethodName)) ∈ tb := tb_memk tpc_7 57 rfl rfl
theorem tw_1498 : (Cond.instanceMethod ({ cls := "ObsMessagesModel", name := "byteAt", desc := "(I)I" } : MethodName)) ∈ tb := tb_memk tpc_7 58 rfl rfl
theorem tw_1499 : (Cond.selects "ObsMessagesModel" ({ cls := "ObsMessagesModel", name := "byteAt", desc := "(I)I" } : MethodName) ({ cls := "ObsMessagesModel", name := "byteAt", desc := "(I)I" } : MethodName)) ∈ tb := tb_memk tpc_7 59 rfl rfl
theorem tw_1500 : (Cond.code ({ cls := "ObsMessagesModel", name := "byteAt", desc := "(I)I" } : MethodName) prog_14_method_59_code (4 : Nat) (Option.some FieldType.int)) ∈ tb := tb_memk tpc_7 60 rfl rfl
theorem tw_1501 : (Cond.methodLink "ObsMessagesLaw" (132 : Nat) ({ cls := "ObsMessagesModel", name := "feed", desc := "(II)I" } : MethodName)) ∈ tb := tb_memk tpc_7 61 rfl rfl
theorem tw_1502 : (Cond.instanceMethod ({ cls := "ObsMessagesModel", name := "feed", desc := "(II)I" } : MethodName)) ∈ tb := tb_memk tpc_7 62 rfl rfl
theorem tw_1503 : (Cond.selects "ObsMessagesModel" ({ cls := "ObsMessagesModel", name := "feed", desc := "(II)I" } : MethodName) ({ cls := "ObsMessagesModel", name := "feed", desc := "(II)I" } : MethodName)) ∈ tb := tb_memk tpc_7 63 rfl rfl
theorem tw_1504 : (Cond.code ({ cls := "ObsMessagesModel", name := "feed", desc := "(II)I" } : MethodName) prog_14_method_60_code (4 : Nat) (Option.some FieldType.int)) ∈ tb := tb_memk tpc_7 64 rfl rfl
theorem tw_1505 : (Cond.methodLink "ObsMessagesLaw" (135 : Nat) ({ cls := "ObsMessagesModel", name := "read", desc := "()I" } : MethodName)) ∈ tb := tb_memk tpc_7 65 rfl rfl
theorem tw_1506 : (Cond.instanceMethod ({ cls := "ObsMessagesModel", name := "read", desc := "()I" } : MethodName)) ∈ tb := tb_memk tpc_7 66 rfl rfl
theorem tw_1507 : (Cond.selects "ObsMessagesModel" ({ cls := "ObsMessagesModel", name := "read", desc := "()I" } : MethodName) ({ cls := "ObsMessagesModel", name := "read", desc := "()I" } : MethodName)) ∈ tb := tb_memk tpc_7 67 rfl rfl
theorem tw_1508 : (Cond.code ({ cls := "ObsMessagesModel", name := "read", desc := "()I" } : MethodName) prog_14_method_62_code (4 : Nat) (Option.some FieldType.int)) ∈ tb := tb_memk tpc_7 68 rfl rfl
theorem tw_1513 : (Cond.methodLink "ObsMessagesLaw" (139 : Nat) ({ cls := "ObsMessagesModel", name := "point", desc := "(IJ)V" } : MethodName)) ∈ tb := tb_memk tpc_7 73 rfl rfl
theorem tw_1514 : (Cond.instanceMethod ({ cls := "ObsMessagesModel", name := "point", desc := "(IJ)V" } : MethodName)) ∈ tb := tb_memk tpc_7 74 rfl rfl
theorem tw_1515 : (Cond.selects "ObsMessagesModel" ({ cls := "ObsMessagesModel", name := "point", desc := "(IJ)V" } : MethodName) ({ cls := "ObsMessagesModel", name := "point", desc := "(IJ)V" } : MethodName)) ∈ tb := tb_memk tpc_7 75 rfl rfl
theorem tw_1516 : (Cond.code ({ cls := "ObsMessagesModel", name := "point", desc := "(IJ)V" } : MethodName) prog_14_method_63_code (4 : Nat) (Option.none : Option FieldType)) ∈ tb := tb_memk tpc_7 76 rfl rfl
theorem tw_1519 : (Cond.methodLink "ObsMessagesLaw" (142 : Nat) ({ cls := "ObsMessagesModel", name := "pack", desc := "(I)I" } : MethodName)) ∈ tb := tb_memk tpc_7 79 rfl rfl
theorem tw_1520 : (Cond.instanceMethod ({ cls := "ObsMessagesModel", name := "pack", desc := "(I)I" } : MethodName)) ∈ tb := tb_memk tpc_7 80 rfl rfl
theorem tw_1521 : (Cond.selects "ObsMessagesModel" ({ cls := "ObsMessagesModel", name := "pack", desc := "(I)I" } : MethodName) ({ cls := "ObsMessagesModel", name := "pack", desc := "(I)I" } : MethodName)) ∈ tb := tb_memk tpc_7 81 rfl rfl
theorem tw_1522 : (Cond.code ({ cls := "ObsMessagesModel", name := "pack", desc := "(I)I" } : MethodName) prog_14_method_66_code (15 : Nat) (Option.some FieldType.int)) ∈ tb := tb_memk tpc_7 82 rfl rfl
theorem tw_1530 : (Cond.methodLink "ObsMessagesLaw" (147 : Nat) ({ cls := "ObsMessagesModel", name := "packedAt", desc := "(I)J" } : MethodName)) ∈ tb := tb_memk tpc_7 90 rfl rfl
theorem tw_1531 : (Cond.instanceMethod ({ cls := "ObsMessagesModel", name := "packedAt", desc := "(I)J" } : MethodName)) ∈ tb := tb_memk tpc_7 91 rfl rfl
theorem tw_1532 : (Cond.selects "ObsMessagesModel" ({ cls := "ObsMessagesModel", name := "packedAt", desc := "(I)J" } : MethodName) ({ cls := "ObsMessagesModel", name := "packedAt", desc := "(I)J" } : MethodName)) ∈ tb := tb_memk tpc_7 92 rfl rfl
theorem tw_1533 : (Cond.code ({ cls := "ObsMessagesModel", name := "packedAt", desc := "(I)J" } : MethodName) prog_14_method_67_code (2 : Nat) (Option.some FieldType.long)) ∈ tb := tb_memk tpc_7 93 rfl rfl
theorem tw_1534 : (Cond.methodLink "ObsMessagesLaw" (151 : Nat) ({ cls := "ObsMessagesModel", name := "group", desc := "(I)I" } : MethodName)) ∈ tb := tb_memk tpc_7 94 rfl rfl
theorem tw_1535 : (Cond.instanceMethod ({ cls := "ObsMessagesModel", name := "group", desc := "(I)I" } : MethodName)) ∈ tb := tb_memk tpc_7 95 rfl rfl
theorem tw_1536 : (Cond.selects "ObsMessagesModel" ({ cls := "ObsMessagesModel", name := "group", desc := "(I)I" } : MethodName) ({ cls := "ObsMessagesModel", name := "group", desc := "(I)I" } : MethodName)) ∈ tb := tb_memk tpc_7 96 rfl rfl
theorem tw_1537 : (Cond.code ({ cls := "ObsMessagesModel", name := "group", desc := "(I)I" } : MethodName) prog_14_method_68_code (2 : Nat) (Option.some FieldType.int)) ∈ tb := tb_memk tpc_7 97 rfl rfl
theorem tw_1538 : (Cond.constantLong "ObsMessagesLaw" (94 : Nat) (4294967295 : Int64)) ∈ tb := tb_memk tpc_7 98 rfl rfl
