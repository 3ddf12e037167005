theorem tw_0 : (Cond.initialized "MailHeadsLaw") ∈ tb_all := tc_1 0 rfl rfl
theorem tw_25 : (Cond.methodLink "MailHeadsLaw" (26 : Nat) ({ cls := "MailHeads", name := "<init>", desc := "()V" } : MethodName)) ∈ tb_all := tc_1 25 rfl rfl
theorem tw_26 : (Cond.instanceMethod ({ cls := "MailHeads", name := "<init>", desc := "()V" } : MethodName)) ∈ tb_all := tc_1 26 rfl rfl
theorem tw_27 : (Cond.code ({ cls := "MailHeads", name := "<init>", desc := "()V" } : MethodName) prog_1_method_1_code (1 : Nat) (Option.none : Option Jvm.ClassFile.FieldType)) ∈ tb_all := tc_1 27 rfl rfl
theorem tw_246 : (Cond.methodLink "MailHeadsLaw" (30 : Nat) ({ cls := "MailHeads", name := "feed", desc := "(IIIII)V" } : MethodName)) ∈ tb_all := tc_2 6 rfl rfl
theorem tw_247 : (Cond.instanceMethod ({ cls := "MailHeads", name := "feed", desc := "(IIIII)V" } : MethodName)) ∈ tb_all := tc_2 7 rfl rfl
theorem tw_248 : (Cond.selects "MailHeads" ({ cls := "MailHeads", name := "feed", desc := "(IIIII)V" } : MethodName) ({ cls := "MailHeads", name := "feed", desc := "(IIIII)V" } : MethodName)) ∈ tb_all := tc_2 8 rfl rfl
theorem tw_249 : (Cond.code ({ cls := "MailHeads", name := "feed", desc := "(IIIII)V" } : MethodName) prog_1_method_2_code (6 : Nat) (Option.none : Option Jvm.ClassFile.FieldType)) ∈ tb_all := tc_2 9 rfl rfl
theorem tw_250 : (Cond.methodLink "MailHeadsLaw" (35 : Nat) ({ cls := "MailHeads", name := "end", desc := "(I)I" } : MethodName)) ∈ tb_all := tc_2 10 rfl rfl
theorem tw_251 : (Cond.instanceMethod ({ cls := "MailHeads", name := "end", desc := "(I)I" } : MethodName)) ∈ tb_all := tc_2 11 rfl rfl
theorem tw_252 : (Cond.selects "MailHeads" ({ cls := "MailHeads", name := "end", desc := "(I)I" } : MethodName) ({ cls := "MailHeads", name := "end", desc := "(I)I" } : MethodName)) ∈ tb_all := tc_2 12 rfl rfl
theorem tw_253 : (Cond.code ({ cls := "MailHeads", name := "end", desc := "(I)I" } : MethodName) prog_1_method_3_code (3 : Nat) (Option.some FieldType.int)) ∈ tb_all := tc_2 13 rfl rfl
theorem tw_262 : (Cond.methodLink "MailHeadsLaw" (39 : Nat) ({ cls := "MailHeads", name := "read", desc := "()I" } : MethodName)) ∈ tb_all := tc_2 22 rfl rfl
theorem tw_263 : (Cond.instanceMethod ({ cls := "MailHeads", name := "read", desc := "()I" } : MethodName)) ∈ tb_all := tc_2 23 rfl rfl
theorem tw_264 : (Cond.selects "MailHeads" ({ cls := "MailHeads", name := "read", desc := "()I" } : MethodName) ({ cls := "MailHeads", name := "read", desc := "()I" } : MethodName)) ∈ tb_all := tc_2 24 rfl rfl
theorem tw_265 : (Cond.code ({ cls := "MailHeads", name := "read", desc := "()I" } : MethodName) prog_1_method_4_code (1 : Nat) (Option.some FieldType.int)) ∈ tb_all := tc_2 25 rfl rfl
theorem tw_327 : (Cond.methodLink "MailHeadsLaw" (44 : Nat) ({ cls := "MailHeads", name := "bad", desc := "()I" } : MethodName)) ∈ tb_all := tc_2 87 rfl rfl
theorem tw_328 : (Cond.instanceMethod ({ cls := "MailHeads", name := "bad", desc := "()I" } : MethodName)) ∈ tb_all := tc_2 88 rfl rfl
theorem tw_329 : (Cond.selects "MailHeads" ({ cls := "MailHeads", name := "bad", desc := "()I" } : MethodName) ({ cls := "MailHeads", name := "bad", desc := "()I" } : MethodName)) ∈ tb_all := tc_2 89 rfl rfl
theorem tw_330 : (Cond.code ({ cls := "MailHeads", name := "bad", desc := "()I" } : MethodName) prog_1_method_5_code (1 : Nat) (Option.some FieldType.int)) ∈ tb_all := tc_2 90 rfl rfl
theorem tw_335 : (Cond.methodLink "MailHeadsLaw" (48 : Nat) ({ cls := "MailHeads", name := "find", desc := "()I" } : MethodName)) ∈ tb_all := tc_2 95 rfl rfl
theorem tw_336 : (Cond.instanceMethod ({ cls := "MailHeads", name := "find", desc := "()I" } : MethodName)) ∈ tb_all := tc_2 96 rfl rfl
theorem tw_337 : (Cond.selects "MailHeads" ({ cls := "MailHeads", name := "find", desc := "()I" } : MethodName) ({ cls := "MailHeads", name := "find", desc := "()I" } : MethodName)) ∈ tb_all := tc_2 97 rfl rfl
theorem tw_338 : (Cond.code ({ cls := "MailHeads", name := "find", desc := "()I" } : MethodName) prog_1_method_6_code (2 : Nat) (Option.some FieldType.int)) ∈ tb_all := tc_2 98 rfl rfl
theorem tw_359 : (Cond.methodLink "MailHeadsLaw" (52 : Nat) ({ cls := "MailHeads", name := "field", desc := "(II)I" } : MethodName)) ∈ tb_all := tc_2 119 rfl rfl
theorem tw_360 : (Cond.instanceMethod ({ cls := "MailHeads", name := "field", desc := "(II)I" } : MethodName)) ∈ tb_all := tc_2 120 rfl rfl
theorem tw_361 : (Cond.selects "MailHeads" ({ cls := "MailHeads", name := "field", desc := "(II)I" } : MethodName) ({ cls := "MailHeads", name := "field", desc := "(II)I" } : MethodName)) ∈ tb_all := tc_2 121 rfl rfl
theorem tw_362 : (Cond.code ({ cls := "MailHeads", name := "field", desc := "(II)I" } : MethodName) prog_1_method_7_code (3 : Nat) (Option.some FieldType.int)) ∈ tb_all := tc_2 122 rfl rfl
theorem tw_372 : (Cond.methodLink "MailHeadsLaw" (57 : Nat) ({ cls := "MailHeads", name := "fieldByte", desc := "(III)I" } : MethodName)) ∈ tb_all := tc_2 132 rfl rfl
theorem tw_373 : (Cond.instanceMethod ({ cls := "MailHeads", name := "fieldByte", desc := "(III)I" } : MethodName)) ∈ tb_all := tc_2 133 rfl rfl
theorem tw_374 : (Cond.selects "MailHeads" ({ cls := "MailHeads", name := "fieldByte", desc := "(III)I" } : MethodName) ({ cls := "MailHeads", name := "fieldByte", desc := "(III)I" } : MethodName)) ∈ tb_all := tc_2 134 rfl rfl
theorem tw_375 : (Cond.code ({ cls := "MailHeads", name := "fieldByte", desc := "(III)I" } : MethodName) prog_1_method_8_code (4 : Nat) (Option.some FieldType.int)) ∈ tb_all := tc_2 135 rfl rfl
theorem tw_377 : (Cond.methodLink "MailHeadsLaw" (80 : Nat) ({ cls := "MailHeads", name := "group", desc := "(II)I" } : MethodName)) ∈ tb_all := tc_2 137 rfl rfl
theorem tw_378 : (Cond.instanceMethod ({ cls := "MailHeads", name := "group", desc := "(II)I" } : MethodName)) ∈ tb_all := tc_2 138 rfl rfl
theorem tw_379 : (Cond.selects "MailHeads" ({ cls := "MailHeads", name := "group", desc := "(II)I" } : MethodName) ({ cls := "MailHeads", name := "group", desc := "(II)I" } : MethodName)) ∈ tb_all := tc_2 139 rfl rfl
theorem tw_380 : (Cond.code ({ cls := "MailHeads", name := "group", desc := "(II)I" } : MethodName) prog_1_method_13_code (3 : Nat) (Option.some FieldType.int)) ∈ tb_all := tc_2 140 rfl rfl
theorem tw_395 : (Cond.methodLink "MailHeadsLaw" (84 : Nat) ({ cls := "MailHeads", name := "length", desc := "(II)I" } : MethodName)) ∈ tb_all := tc_2 155 rfl rfl
theorem tw_396 : (Cond.instanceMethod ({ cls := "MailHeads", name := "length", desc := "(II)I" } : MethodName)) ∈ tb_all := tc_2 156 rfl rfl
theorem tw_397 : (Cond.selects "MailHeads" ({ cls := "MailHeads", name := "length", desc := "(II)I" } : MethodName) ({ cls := "MailHeads", name := "length", desc := "(II)I" } : MethodName)) ∈ tb_all := tc_2 157 rfl rfl
theorem tw_398 : (Cond.code ({ cls := "MailHeads", name := "length", desc := "(II)I" } : MethodName) prog_1_method_14_code (3 : Nat) (Option.some FieldType.int)) ∈ tb_all := tc_2 158 rfl rfl
theorem tw_428 : (Cond.methodLink "MailHeadsLaw" (88 : Nat) ({ cls := "MailHeads", name := "at", desc := "(III)I" } : MethodName)) ∈ tb_all := tc_2 188 rfl rfl
theorem tw_429 : (Cond.instanceMethod ({ cls := "MailHeads", name := "at", desc := "(III)I" } : MethodName)) ∈ tb_all := tc_2 189 rfl rfl
theorem tw_430 : (Cond.selects "MailHeads" ({ cls := "MailHeads", name := "at", desc := "(III)I" } : MethodName) ({ cls := "MailHeads", name := "at", desc := "(III)I" } : MethodName)) ∈ tb_all := tc_2 190 rfl rfl
theorem tw_431 : (Cond.code ({ cls := "MailHeads", name := "at", desc := "(III)I" } : MethodName) prog_1_method_15_code (4 : Nat) (Option.some FieldType.int)) ∈ tb_all := tc_2 191 rfl rfl
theorem tw_432 : (Cond.methodLink "MailHeadsLaw" (92 : Nat) ({ cls := "MailHeads", name := "parameter", desc := "()I" } : MethodName)) ∈ tb_all := tc_2 192 rfl rfl
theorem tw_433 : (Cond.instanceMethod ({ cls := "MailHeads", name := "parameter", desc := "()I" } : MethodName)) ∈ tb_all := tc_2 193 rfl rfl
theorem tw_434 : (Cond.selects "MailHeads" ({ cls := "MailHeads", name := "parameter", desc := "()I" } : MethodName) ({ cls := "MailHeads", name := "parameter", desc := "()I" } : MethodName)) ∈ tb_all := tc_2 194 rfl rfl
theorem tw_435 : (Cond.code ({ cls := "MailHeads", name := "parameter", desc := "()I" } : MethodName) prog_1_method_16_code (2 : Nat) (Option.some FieldType.int)) ∈ tb_all := tc_2 195 rfl rfl
theorem tw_479 : (Cond.methodLink "MailHeadsLaw" (96 : Nat) ({ cls := "MailHeads", name := "parameterByte", desc := "(ZI)I" } : MethodName)) ∈ tb_all := tc_2 239 rfl rfl
theorem tw_480 : (Cond.instanceMethod ({ cls := "MailHeads", name := "parameterByte", desc := "(ZI)I" } : MethodName)) ∈ tb_all := tc_3 0 rfl rfl
theorem tw_481 : (Cond.selects "MailHeads" ({ cls := "MailHeads", name := "parameterByte", desc := "(ZI)I" } : MethodName) ({ cls := "MailHeads", name := "parameterByte", desc := "(ZI)I" } : MethodName)) ∈ tb_all := tc_3 1 rfl rfl
theorem tw_482 : (Cond.code ({ cls := "MailHeads", name := "parameterByte", desc := "(ZI)I" } : MethodName) prog_1_method_17_code (3 : Nat) (Option.some FieldType.int)) ∈ tb_all := tc_3 2 rfl rfl
theorem tw_487 : (Cond.methodLink "MailHeadsLaw" (62 : Nat) ({ cls := "MailHeadsLaw", name := "addresses", desc := "(LMailHeads;I[J)I" } : MethodName)) ∈ tb_all := tc_3 7 rfl rfl
theorem tw_488 : (Cond.static ({ cls := "MailHeadsLaw", name := "addresses", desc := "(LMailHeads;I[J)I" } : MethodName)) ∈ tb_all := tc_3 8 rfl rfl
theorem tw_489 : (Cond.codeWith ({ cls := "MailHeadsLaw", name := "addresses", desc := "(LMailHeads;I[J)I" } : MethodName) method_3_code (4 : Nat) (Option.some FieldType.int) [((0 : Nat), (9 : Nat), (12 : Nat), (13 : Nat))]) ∈ tb_all := tc_3 9 rfl rfl
theorem tw_490 : (Cond.classLink "MailHeadsLaw" (13 : Nat) "java/lang/IndexOutOfBoundsException") ∈ tb_all := tc_3 10 rfl rfl
theorem tw_491 : (Cond.methodLink "MailHeadsLaw" (7 : Nat) ({ cls := "MailHeads", name := "addresses", desc := "(I)I" } : MethodName)) ∈ tb_all := tc_3 11 rfl rfl
theorem tw_492 : (Cond.instanceMethod ({ cls := "MailHeads", name := "addresses", desc := "(I)I" } : MethodName)) ∈ tb_all := tc_3 12 rfl rfl
theorem tw_493 : (Cond.selects "MailHeads" ({ cls := "MailHeads", name := "addresses", desc := "(I)I" } : MethodName) ({ cls := "MailHeads", name := "addresses", desc := "(I)I" } : MethodName)) ∈ tb_all := tc_3 13 rfl rfl
theorem tw_494 : (Cond.code ({ cls := "MailHeads", name := "addresses", desc := "(I)I" } : MethodName) prog_1_method_9_code (2 : Nat) (Option.some FieldType.int)) ∈ tb_all := tc_3 14 rfl rfl
theorem tw_499 : (Cond.classLink "MailHeads" (168 : Nat) "java/lang/IndexOutOfBoundsException") ∈ tb_all := tc_3 19 rfl rfl
theorem tw_767 : (Cond.methodLink "MailHeadsLaw" (71 : Nat) ({ cls := "MailHeadsLaw", name := "identities", desc := "(LMailHeads;I[J)I" } : MethodName)) ∈ tb_all := tc_4 47 rfl rfl
theorem tw_768 : (Cond.static ({ cls := "MailHeadsLaw", name := "identities", desc := "(LMailHeads;I[J)I" } : MethodName)) ∈ tb_all := tc_4 48 rfl rfl
theorem tw_769 : (Cond.codeWith ({ cls := "MailHeadsLaw", name := "identities", desc := "(LMailHeads;I[J)I" } : MethodName) method_4_code (4 : Nat) (Option.some FieldType.int) [((0 : Nat), (9 : Nat), (12 : Nat), (13 : Nat))]) ∈ tb_all := tc_4 49 rfl rfl
theorem tw_770 : (Cond.methodLink "MailHeadsLaw" (15 : Nat) ({ cls := "MailHeads", name := "identities", desc := "(I)I" } : MethodName)) ∈ tb_all := tc_4 50 rfl rfl
theorem tw_771 : (Cond.instanceMethod ({ cls := "MailHeads", name := "identities", desc := "(I)I" } : MethodName)) ∈ tb_all := tc_4 51 rfl rfl
theorem tw_772 : (Cond.selects "MailHeads" ({ cls := "MailHeads", name := "identities", desc := "(I)I" } : MethodName) ({ cls := "MailHeads", name := "identities", desc := "(I)I" } : MethodName)) ∈ tb_all := tc_4 52 rfl rfl
theorem tw_773 : (Cond.code ({ cls := "MailHeads", name := "identities", desc := "(I)I" } : MethodName) prog_1_method_10_code (2 : Nat) (Option.some FieldType.int)) ∈ tb_all := tc_4 53 rfl rfl
theorem tw_789 : (Cond.methodLink "MailHeadsLaw" (74 : Nat) ({ cls := "MailHeadsLaw", name := "date", desc := "(LMailHeads;I[J)I" } : MethodName)) ∈ tb_all := tc_4 69 rfl rfl
theorem tw_790 : (Cond.static ({ cls := "MailHeadsLaw", name := "date", desc := "(LMailHeads;I[J)I" } : MethodName)) ∈ tb_all := tc_4 70 rfl rfl
theorem tw_791 : (Cond.codeWith ({ cls := "MailHeadsLaw", name := "date", desc := "(LMailHeads;I[J)I" } : MethodName) method_5_code (4 : Nat) (Option.some FieldType.int) [((0 : Nat), (8 : Nat), (11 : Nat), (13 : Nat))]) ∈ tb_all := tc_4 71 rfl rfl
theorem tw_792 : (Cond.methodLink "MailHeadsLaw" (18 : Nat) ({ cls := "MailHeads", name := "date", desc := "(I)J" } : MethodName)) ∈ tb_all := tc_4 72 rfl rfl
theorem tw_793 : (Cond.instanceMethod ({ cls := "MailHeads", name := "date", desc := "(I)J" } : MethodName)) ∈ tb_all := tc_4 73 rfl rfl
theorem tw_794 : (Cond.selects "MailHeads" ({ cls := "MailHeads", name := "date", desc := "(I)J" } : MethodName) ({ cls := "MailHeads", name := "date", desc := "(I)J" } : MethodName)) ∈ tb_all := tc_4 74 rfl rfl
theorem tw_795 : (Cond.code ({ cls := "MailHeads", name := "date", desc := "(I)J" } : MethodName) prog_1_method_11_code (2 : Nat) (Option.some FieldType.long)) ∈ tb_all := tc_4 75 rfl rfl
theorem tw_888 : (Cond.methodLink "MailHeadsLaw" (77 : Nat) ({ cls := "MailHeadsLaw", name := "type", desc := "(LMailHeads;I[J)I" } : MethodName)) ∈ tb_all := tc_4 168 rfl rfl
theorem tw_889 : (Cond.static ({ cls := "MailHeadsLaw", name := "type", desc := "(LMailHeads;I[J)I" } : MethodName)) ∈ tb_all := tc_4 169 rfl rfl
theorem tw_890 : (Cond.codeWith ({ cls := "MailHeadsLaw", name := "type", desc := "(LMailHeads;I[J)I" } : MethodName) method_6_code (4 : Nat) (Option.some FieldType.int) [((0 : Nat), (16 : Nat), (19 : Nat), (13 : Nat))]) ∈ tb_all := tc_4 170 rfl rfl
theorem tw_891 : (Cond.methodLink "MailHeadsLaw" (22 : Nat) ({ cls := "MailHeads", name := "type", desc := "(I)Z" } : MethodName)) ∈ tb_all := tc_4 171 rfl rfl
theorem tw_892 : (Cond.instanceMethod ({ cls := "MailHeads", name := "type", desc := "(I)Z" } : MethodName)) ∈ tb_all := tc_4 172 rfl rfl
theorem tw_893 : (Cond.selects "MailHeads" ({ cls := "MailHeads", name := "type", desc := "(I)Z" } : MethodName) ({ cls := "MailHeads", name := "type", desc := "(I)Z" } : MethodName)) ∈ tb_all := tc_4 173 rfl rfl
theorem tw_894 : (Cond.code ({ cls := "MailHeads", name := "type", desc := "(I)Z" } : MethodName) prog_1_method_12_code (2 : Nat) (Option.some FieldType.boolean)) ∈ tb_all := tc_4 174 rfl rfl
theorem tw_916 : (Cond.methodLink "MailHeadsLaw" (29 : Nat) ({ cls := "MailHeadsModel", name := "<init>", desc := "()V" } : MethodName)) ∈ tb_all := tc_4 196 rfl rfl
theorem tw_917 : (Cond.instanceMethod ({ cls := "MailHeadsModel", name := "<init>", desc := "()V" } : MethodName)) ∈ tb_all := tc_4 197 rfl rfl
theorem tw_918 : (Cond.code ({ cls := "MailHeadsModel", name := "<init>", desc := "()V" } : MethodName) prog_11_method_1_code (1 : Nat) (Option.none : Option Jvm.ClassFile.FieldType)) ∈ tb_all := tc_4 198 rfl rfl
theorem tw_1057 : (Cond.methodLink "MailHeadsLaw" (68 : Nat) ({ cls := "MailHeadsModel", name := "thrown", desc := "()I" } : MethodName)) ∈ tb_all := tc_5 97 rfl rfl
theorem tw_1058 : (Cond.instanceMethod ({ cls := "MailHeadsModel", name := "thrown", desc := "()I" } : MethodName)) ∈ tb_all := tc_5 98 rfl rfl
theorem tw_1059 : (Cond.selects "MailHeadsModel" ({ cls := "MailHeadsModel", name := "thrown", desc := "()I" } : MethodName) ({ cls := "MailHeadsModel", name := "thrown", desc := "()I" } : MethodName)) ∈ tb_all := tc_5 99 rfl rfl
theorem tw_1060 : (Cond.code ({ cls := "MailHeadsModel", name := "thrown", desc := "()I" } : MethodName) prog_11_method_2_code (1 : Nat) (Option.some FieldType.int)) ∈ tb_all := tc_5 100 rfl rfl
theorem tw_1061 : (Cond.methodLink "MailHeadsLaw" (34 : Nat) ({ cls := "MailHeadsModel", name := "feed", desc := "(IIIII)V" } : MethodName)) ∈ tb_all := tc_5 101 rfl rfl
theorem tw_1062 : (Cond.instanceMethod ({ cls := "MailHeadsModel", name := "feed", desc := "(IIIII)V" } : MethodName)) ∈ tb_all := tc_5 102 rfl rfl
theorem tw_1063 : (Cond.selects "MailHeadsModel" ({ cls := "MailHeadsModel", name := "feed", desc := "(IIIII)V" } : MethodName) ({ cls := "MailHeadsModel", name := "feed", desc := "(IIIII)V" } : MethodName)) ∈ tb_all := tc_5 103 rfl rfl
theorem tw_1064 : (Cond.code ({ cls := "MailHeadsModel", name := "feed", desc := "(IIIII)V" } : MethodName) prog_11_method_4_code (6 : Nat) (Option.none : Option Jvm.ClassFile.FieldType)) ∈ tb_all := tc_5 104 rfl rfl
theorem tw_1069 : (Cond.methodLink "MailHeadsLaw" (38 : Nat) ({ cls := "MailHeadsModel", name := "end", desc := "(I)I" } : MethodName)) ∈ tb_all := tc_5 109 rfl rfl
theorem tw_1070 : (Cond.instanceMethod ({ cls := "MailHeadsModel", name := "end", desc := "(I)I" } : MethodName)) ∈ tb_all := tc_5 110 rfl rfl
theorem tw_1071 : (Cond.selects "MailHeadsModel" ({ cls := "MailHeadsModel", name := "end", desc := "(I)I" } : MethodName) ({ cls := "MailHeadsModel", name := "end", desc := "(I)I" } : MethodName)) ∈ tb_all := tc_5 111 rfl rfl
theorem tw_1072 : (Cond.code ({ cls := "MailHeadsModel", name := "end", desc := "(I)I" } : MethodName) prog_11_method_5_code (3 : Nat) (Option.some FieldType.int)) ∈ tb_all := tc_5 112 rfl rfl
theorem tw_1073 : (Cond.methodLink "MailHeadsLaw" (43 : Nat) ({ cls := "MailHeadsModel", name := "read", desc := "()I" } : MethodName)) ∈ tb_all := tc_5 113 rfl rfl
theorem tw_1074 : (Cond.instanceMethod ({ cls := "MailHeadsModel", name := "read", desc := "()I" } : MethodName)) ∈ tb_all := tc_5 114 rfl rfl
theorem tw_1075 : (Cond.selects "MailHeadsModel" ({ cls := "MailHeadsModel", name := "read", desc := "()I" } : MethodName) ({ cls := "MailHeadsModel", name := "read", desc := "()I" } : MethodName)) ∈ tb_all := tc_5 115 rfl rfl
theorem tw_1076 : (Cond.code ({ cls := "MailHeadsModel", name := "read", desc := "()I" } : MethodName) prog_11_method_12_code (7 : Nat) (Option.some FieldType.int)) ∈ tb_all := tc_5 116 rfl rfl
theorem tw_1092 : (Cond.methodLink "MailHeadsLaw" (47 : Nat) ({ cls := "MailHeadsModel", name := "bad", desc := "()I" } : MethodName)) ∈ tb_all := tc_5 132 rfl rfl
theorem tw_1093 : (Cond.instanceMethod ({ cls := "MailHeadsModel", name := "bad", desc := "()I" } : MethodName)) ∈ tb_all := tc_5 133 rfl rfl
theorem tw_1094 : (Cond.selects "MailHeadsModel" ({ cls := "MailHeadsModel", name := "bad", desc := "()I" } : MethodName) ({ cls := "MailHeadsModel", name := "bad", desc := "()I" } : MethodName)) ∈ tb_all := tc_5 134 rfl rfl
theorem tw_1095 : (Cond.code ({ cls := "MailHeadsModel", name := "bad", desc := "()I" } : MethodName) prog_11_method_13_code (1 : Nat) (Option.some FieldType.int)) ∈ tb_all := tc_5 135 rfl rfl
theorem tw_1096 : (Cond.methodLink "MailHeadsLaw" (51 : Nat) ({ cls := "MailHeadsModel", name := "find", desc := "()I" } : MethodName)) ∈ tb_all := tc_5 136 rfl rfl
theorem tw_1097 : (Cond.instanceMethod ({ cls := "MailHeadsModel", name := "find", desc := "()I" } : MethodName)) ∈ tb_all := tc_5 137 rfl rfl
theorem tw_1098 : (Cond.selects "MailHeadsModel" ({ cls := "MailHeadsModel", name := "find", desc := "()I" } : MethodName) ({ cls := "MailHeadsModel", name := "find", desc := "()I" } : MethodName)) ∈ tb_all := tc_5 138 rfl rfl
theorem tw_1099 : (Cond.code ({ cls := "MailHeadsModel", name := "find", desc := "()I" } : MethodName) prog_11_method_14_code (5 : Nat) (Option.some FieldType.int)) ∈ tb_all := tc_5 139 rfl rfl
theorem tw_1103 : (Cond.methodLink "MailHeadsLaw" (56 : Nat) ({ cls := "MailHeadsModel", name := "field", desc := "(II)I" } : MethodName)) ∈ tb_all := tc_5 143 rfl rfl
theorem tw_1111 : (Cond.methodLink "MailHeadsLaw" (61 : Nat) ({ cls := "MailHeadsModel", name := "fieldByte", desc := "(III)I" } : MethodName)) ∈ tb_all := tc_5 151 rfl rfl
theorem tw_1112 : (Cond.instanceMethod ({ cls := "MailHeadsModel", name := "fieldByte", desc := "(III)I" } : MethodName)) ∈ tb_all := tc_5 152 rfl rfl
theorem tw_1113 : (Cond.selects "MailHeadsModel" ({ cls := "MailHeadsModel", name := "fieldByte", desc := "(III)I" } : MethodName) ({ cls := "MailHeadsModel", name := "fieldByte", desc := "(III)I" } : MethodName)) ∈ tb_all := tc_5 153 rfl rfl
theorem tw_1114 : (Cond.code ({ cls := "MailHeadsModel", name := "fieldByte", desc := "(III)I" } : MethodName) prog_11_method_17_code (5 : Nat) (Option.some FieldType.int)) ∈ tb_all := tc_5 154 rfl rfl
theorem tw_1116 : (Cond.methodLink "MailHeadsLaw" (87 : Nat) ({ cls := "MailHeadsModel", name := "length", desc := "(II)I" } : MethodName)) ∈ tb_all := tc_5 156 rfl rfl
theorem tw_1120 : (Cond.methodLink "MailHeadsLaw" (91 : Nat) ({ cls := "MailHeadsModel", name := "at", desc := "(III)I" } : MethodName)) ∈ tb_all := tc_5 160 rfl rfl
theorem tw_1121 : (Cond.instanceMethod ({ cls := "MailHeadsModel", name := "at", desc := "(III)I" } : MethodName)) ∈ tb_all := tc_5 161 rfl rfl
theorem tw_1122 : (Cond.selects "MailHeadsModel" ({ cls := "MailHeadsModel", name := "at", desc := "(III)I" } : MethodName) ({ cls := "MailHeadsModel", name := "at", desc := "(III)I" } : MethodName)) ∈ tb_all := tc_5 162 rfl rfl
theorem tw_1123 : (Cond.code ({ cls := "MailHeadsModel", name := "at", desc := "(III)I" } : MethodName) prog_11_method_37_code (5 : Nat) (Option.some FieldType.int)) ∈ tb_all := tc_5 163 rfl rfl
theorem tw_1125 : (Cond.methodLink "MailHeadsLaw" (67 : Nat) ({ cls := "MailHeadsModel", name := "addresses", desc := "(I)I" } : MethodName)) ∈ tb_all := tc_5 165 rfl rfl
theorem tw_1126 : (Cond.instanceMethod ({ cls := "MailHeadsModel", name := "addresses", desc := "(I)I" } : MethodName)) ∈ tb_all := tc_5 166 rfl rfl
theorem tw_1127 : (Cond.selects "MailHeadsModel" ({ cls := "MailHeadsModel", name := "addresses", desc := "(I)I" } : MethodName) ({ cls := "MailHeadsModel", name := "addresses", desc := "(I)I" } : MethodName)) ∈ tb_all := tc_5 167 rfl rfl
theorem tw_1128 : (Cond.code ({ cls := "MailHeadsModel", name := "addresses", desc := "(I)I" } : MethodName) prog_11_method_48_code (9 : Nat) (Option.some FieldType.int)) ∈ tb_all := tc_5 168 rfl rfl
theorem tw_1239 : (Cond.methodLink "MailHeadsLaw" (83 : Nat) ({ cls := "MailHeadsModel", name := "group", desc := "(II)I" } : MethodName)) ∈ tb_all := tc_6 39 rfl rfl
theorem tw_1240 : (Cond.instanceMethod ({ cls := "MailHeadsModel", name := "group", desc := "(II)I" } : MethodName)) ∈ tb_all := tc_6 40 rfl rfl
theorem tw_1241 : (Cond.selects "MailHeadsModel" ({ cls := "MailHeadsModel", name := "group", desc := "(II)I" } : MethodName) ({ cls := "MailHeadsModel", name := "group", desc := "(II)I" } : MethodName)) ∈ tb_all := tc_6 41 rfl rfl
theorem tw_1242 : (Cond.code ({ cls := "MailHeadsModel", name := "group", desc := "(II)I" } : MethodName) prog_11_method_49_code (3 : Nat) (Option.some FieldType.int)) ∈ tb_all := tc_6 42 rfl rfl
theorem tw_1243 : (Cond.methodLink "MailHeadsLaw" (73 : Nat) ({ cls := "MailHeadsModel", name := "identities", desc := "(I)I" } : MethodName)) ∈ tb_all := tc_6 43 rfl rfl
theorem tw_1244 : (Cond.instanceMethod ({ cls := "MailHeadsModel", name := "identities", desc := "(I)I" } : MethodName)) ∈ tb_all := tc_6 44 rfl rfl
theorem tw_1245 : (Cond.selects "MailHeadsModel" ({ cls := "MailHeadsModel", name := "identities", desc := "(I)I" } : MethodName) ({ cls := "MailHeadsModel", name := "identities", desc := "(I)I" } : MethodName)) ∈ tb_all := tc_6 45 rfl rfl
theorem tw_1246 : (Cond.code ({ cls := "MailHeadsModel", name := "identities", desc := "(I)I" } : MethodName) prog_11_method_50_code (9 : Nat) (Option.some FieldType.int)) ∈ tb_all := tc_6 46 rfl rfl
theorem tw_1247 : (Cond.methodLink "MailHeadsLaw" (76 : Nat) ({ cls := "MailHeadsModel", name := "date", desc := "(I)J" } : MethodName)) ∈ tb_all := tc_6 47 rfl rfl
theorem tw_1248 : (Cond.instanceMethod ({ cls := "MailHeadsModel", name := "date", desc := "(I)J" } : MethodName)) ∈ tb_all := tc_6 48 rfl rfl
theorem tw_1249 : (Cond.selects "MailHeadsModel" ({ cls := "MailHeadsModel", name := "date", desc := "(I)J" } : MethodName) ({ cls := "MailHeadsModel", name := "date", desc := "(I)J" } : MethodName)) ∈ tb_all := tc_6 49 rfl rfl
theorem tw_1250 : (Cond.code ({ cls := "MailHeadsModel", name := "date", desc := "(I)J" } : MethodName) prog_11_method_64_code (12 : Nat) (Option.some FieldType.long)) ∈ tb_all := tc_6 50 rfl rfl
theorem tw_1332 : (Cond.methodLink "MailHeadsLaw" (79 : Nat) ({ cls := "MailHeadsModel", name := "type", desc := "(I)Z" } : MethodName)) ∈ tb_all := tc_6 132 rfl rfl
theorem tw_1333 : (Cond.instanceMethod ({ cls := "MailHeadsModel", name := "type", desc := "(I)Z" } : MethodName)) ∈ tb_all := tc_6 133 rfl rfl
theorem tw_1334 : (Cond.selects "MailHeadsModel" ({ cls := "MailHeadsModel", name := "type", desc := "(I)Z" } : MethodName) ({ cls := "MailHeadsModel", name := "type", desc := "(I)Z" } : MethodName)) ∈ tb_all := tc_6 134 rfl rfl
theorem tw_1335 : (Cond.code ({ cls := "MailHeadsModel", name := "type", desc := "(I)Z" } : MethodName) prog_11_method_66_code (6 : Nat) (Option.some FieldType.boolean)) ∈ tb_all := tc_6 135 rfl rfl
theorem tw_1344 : (Cond.methodLink "MailHeadsLaw" (95 : Nat) ({ cls := "MailHeadsModel", name := "parameter", desc := "()I" } : MethodName)) ∈ tb_all := tc_6 144 rfl rfl
theorem tw_1345 : (Cond.instanceMethod ({ cls := "MailHeadsModel", name := "parameter", desc := "()I" } : MethodName)) ∈ tb_all := tc_6 145 rfl rfl
theorem tw_1346 : (Cond.selects "MailHeadsModel" ({ cls := "MailHeadsModel", name := "parameter", desc := "()I" } : MethodName) ({ cls := "MailHeadsModel", name := "parameter", desc := "()I" } : MethodName)) ∈ tb_all := tc_6 146 rfl rfl
theorem tw_1347 : (Cond.code ({ cls := "MailHeadsModel", name := "parameter", desc := "()I" } : MethodName) prog_11_method_73_code (5 : Nat) (Option.some FieldType.int)) ∈ tb_all := tc_6 147 rfl rfl
theorem tw_1367 : (Cond.methodLink "MailHeadsLaw" (100 : Nat) ({ cls := "MailHeadsModel", name := "parameterByte", desc := "(ZI)I" } : MethodName)) ∈ tb_all := tc_6 167 rfl rfl
theorem tw_1368 : (Cond.instanceMethod ({ cls := "MailHeadsModel", name := "parameterByte", desc := "(ZI)I" } : MethodName)) ∈ tb_all := tc_6 168 rfl rfl
theorem tw_1369 : (Cond.selects "MailHeadsModel" ({ cls := "MailHeadsModel", name := "parameterByte", desc := "(ZI)I" } : MethodName) ({ cls := "MailHeadsModel", name := "parameterByte", desc := "(ZI)I" } : MethodName)) ∈ tb_all := tc_6 169 rfl rfl
theorem tw_1370 : (Cond.code ({ cls := "MailHeadsModel", name := "parameterByte", desc := "(ZI)I" } : MethodName) prog_11_method_74_code (4 : Nat) (Option.some FieldType.int)) ∈ tb_all := tc_6 170 rfl rfl
abbrev m_Law_law : mt_M := (⟨"MailHeadsLaw", "law", "([I)Z"⟩, code, 8, (some FieldType.boolean), Cond.code ⟨"MailHeadsLaw", "law", "([I)Z"⟩ code 8 (some FieldType.boolean) :: tb_all, 15, 596)
abbrev hs_Law_addresses : List (Nat × Nat × Nat × Nat) := [(0, 9, 12, 13)]
abbrev m_Law_addresses : mt_M := (⟨"MailHeadsLaw", "addresses", "(LMailHeads;I[J)I"⟩, method_3_code, 4, (some FieldType.int), Cond.codeWith ⟨"MailHeadsLaw", "addresses", "(LMailHeads;I[J)I"⟩ method_3_code 4 (some FieldType.int) hs_Law_addresses :: tb_all, 14, 573)
abbrev hs_Law_identities : List (Nat × Nat × Nat × Nat) := [(0, 9, 12, 13)]
abbrev m_Law_identities : mt_M := (⟨"MailHeadsLaw", "identities", "(LMailHeads;I[J)I"⟩, method_4_code, 4, (some FieldType.int), Cond.codeWith ⟨"MailHeadsLaw", "identities", "(LMailHeads;I[J)I"⟩ method_4_code 4 (some FieldType.int) hs_Law_identities :: tb_all, 14, 573)
abbrev hs_Law_date : List (Nat × Nat × Nat × Nat) := [(0, 8, 11, 13)]
abbrev m_Law_date : mt_M := (⟨"MailHeadsLaw", "date", "(LMailHeads;I[J)I"⟩, method_5_code, 4, (some FieldType.int), Cond.codeWith ⟨"MailHeadsLaw", "date", "(LMailHeads;I[J)I"⟩ method_5_code 4 (some FieldType.int) hs_Law_date :: tb_all, 14, 573)
abbrev hs_Law_type : List (Nat × Nat × Nat × Nat) := [(0, 16, 19, 13)]
abbrev m_Law_type : mt_M := (⟨"MailHeadsLaw", "type", "(LMailHeads;I[J)I"⟩, method_6_code, 4, (some FieldType.int), Cond.codeWith ⟨"MailHeadsLaw", "type", "(LMailHeads;I[J)I"⟩ method_6_code 4 (some FieldType.int) hs_Law_type :: tb_all, 14, 573)
theorem ca_Law_law_26 : ca_I m_Law_law m_Mail_init 26 0 := ⟨gi_W tw_27, ⟨⟨_, rfl⟩, by decide +kernel, by decide⟩, rfl, rfl, List.mem_cons_of_mem _ tw_1, List.mem_cons_of_mem _ tw_25, List.mem_cons_of_mem _ tw_26⟩
theorem ca_Law_law_29 : ca_I m_Law_law m_Model_init 29 0 := ⟨gi_W tw_918, ⟨⟨_, rfl⟩, by decide +kernel, by decide⟩, rfl, rfl, List.mem_cons_of_mem _ tw_13, List.mem_cons_of_mem _ tw_916, List.mem_cons_of_mem _ tw_917⟩
theorem ca_Law_law_30 : ca_V m_Law_law m_Mail_feed 30 5 := ⟨gi_V tw_246 tw_247 tw_248 tw_1 tw_249, ⟨⟨_, rfl⟩, by decide +kernel, by decide⟩⟩
theorem ca_Law_law_34 : ca_V m_Law_law m_Model_feed 34 5 := ⟨gi_V tw_1061 tw_1062 tw_1063 tw_13 tw_1064, ⟨⟨_, rfl⟩, by decide +kernel, by decide⟩⟩
theorem ca_Law_law_35 : ca_V m_Law_law m_Mail_end 35 1 := ⟨gi_V tw_250 tw_251 tw_252 tw_1 tw_253, ⟨⟨_, rfl⟩, by decide +kernel, by decide⟩⟩
theorem ca_Law_law_38 : ca_V m_Law_law m_Model_end 38 1 := ⟨gi_V tw_1069 tw_1070 tw_1071 tw_13 tw_1072, ⟨⟨_, rfl⟩, by decide +kernel, by decide⟩⟩
theorem ca_Law_law_39 : ca_V m_Law_law m_Mail_read 39 0 := ⟨gi_V tw_262 tw_263 tw_264 tw_1 tw_265, ⟨⟨_, rfl⟩, by decide +kernel, by decide⟩⟩
theorem ca_Law_law_43 : ca_V m_Law_law m_Model_read 43 0 := ⟨gi_V tw_1073 tw_1074 tw_1075 tw_13 tw_1076, ⟨⟨_, rfl⟩, by decide +kernel, by decide⟩⟩
theorem ca_Law_law_44 : ca_V m_Law_law m_Mail_bad 44 0 := ⟨gi_V tw_327 tw_328 tw_329 tw_1 tw_330, ⟨⟨_, rfl⟩, by decide +kernel, by decide⟩⟩
theorem ca_Law_law_47 : ca_V m_Law_law m_Model_bad 47 0 := ⟨gi_V tw_1092 tw_1093 tw_1094 tw_13 tw_1095, ⟨⟨_, rfl⟩, by decide +kernel, by decide⟩⟩
theorem ca_Law_law_48 : ca_V m_Law_law m_Mail_find 48 0 := ⟨gi_V tw_335 tw_336 tw_337 tw_1 tw_338, ⟨⟨_, rfl⟩, by decide +kernel, by decide⟩⟩
theorem ca_Law_law_51 : ca_V m_Law_law m_Model_find 51 0 := ⟨gi_V tw_1096 tw_1097 tw_1098 tw_13 tw_1099, ⟨⟨_, rfl⟩, by decide +kernel, by decide⟩⟩
theorem ca_Law_law_52 : ca_V m_Law_law m_Mail_field 52 2 := ⟨gi_V tw_359 tw_360 tw_361 tw_1 tw_362, ⟨⟨_, rfl⟩, by decide +kernel, by decide⟩⟩
theorem ca_Law_law_56 : ca_V m_Law_law m_Model_field 56 2 := ⟨gi_V tw_1103 tw_1104 tw_1105 tw_13 tw_1106, ⟨⟨_, rfl⟩, by decide +kernel, by decide⟩⟩
theorem ca_Law_law_57 : ca_V m_Law_law m_Mail_fieldByte 57 3 := ⟨gi_V tw_372 tw_373 tw_374 tw_1 tw_375, ⟨⟨_, rfl⟩, by decide +kernel, by decide⟩⟩
theorem ca_Law_law_61 : ca_V m_Law_law m_Model_fieldByte 61 3 := ⟨gi_V tw_1111 tw_1112 tw_1113 tw_13 tw_1114, ⟨⟨_, rfl⟩, by decide +kernel, by decide⟩⟩
theorem cw_Law_law_62 : (Cond.methodLink "MailHeadsLaw" 62 ⟨"MailHeadsLaw", "addresses", "(LMailHeads;I[J)I"⟩ ∈ tb_all ∧ Cond.static ⟨"MailHeadsLaw", "addresses", "(LMailHeads;I[J)I"⟩ ∈ tb_all ∧ Cond.initialized "MailHeadsLaw" ∈ tb_all) ∧ Cond.codeWith ⟨"MailHeadsLaw", "addresses", "(LMailHeads;I[J)I"⟩ method_3_code 4 (some FieldType.int) hs_Law_addresses ∈ tb_all := ⟨⟨tw_487, tw_488, tw_0⟩, tw_489⟩
theorem ca_Law_law_67 : ca_V m_Law_law m_Model_addresses 67 1 := ⟨gi_V tw_1125 tw_1126 tw_1127 tw_13 tw_1128, ⟨⟨_, rfl⟩, by decide +kernel, by decide⟩⟩
theorem ca_Law_law_68 : ca_V m_Law_law m_Model_thrown 68 0 := ⟨gi_V tw_1057 tw_1058 tw_1059 tw_13 tw_1060, ⟨⟨_, rfl⟩, by decide +kernel, by decide⟩⟩
theorem cw_Law_law_71 : (Cond.methodLink "MailHeadsLaw" 71 ⟨"MailHeadsLaw", "identities", "(LMailHeads;I[J)I"⟩ ∈ tb_all ∧ Cond.static ⟨"MailHeadsLaw", "identities", "(LMailHeads;I[J)I"⟩ ∈ tb_all ∧ Cond.initialized "MailHeadsLaw" ∈ tb_all) ∧ Cond.codeWith ⟨"MailHeadsLaw", "identities", "(LMailHeads;I[J)I"⟩ method_4_code 4 (some FieldType.int) hs_Law_identities ∈ tb_all := ⟨⟨tw_767, tw_768, tw_0⟩, tw_769⟩
theorem ca_Law_law_73 : ca_V m_Law_law m_Model_identities 73 1 := ⟨gi_V tw_1243 tw_1244 tw_1245 tw_13 tw_1246, ⟨⟨_, rfl⟩, by decide +kernel, by decide⟩⟩
theorem cw_Law_law_74 : (Cond.methodLink "MailHeadsLaw" 74 ⟨"MailHeadsLaw", "date", "(LMailHeads;I[J)I"⟩ ∈ tb_all ∧ Cond.static ⟨"MailHeadsLaw", "date", "(LMailHeads;I[J)I"⟩ ∈ tb_all ∧ Cond.initialized "MailHeadsLaw" ∈ tb_all) ∧ Cond.codeWith ⟨"MailHeadsLaw", "date", "(LMailHeads;I[J)I"⟩ method_5_code 4 (some FieldType.int) hs_Law_date ∈ tb_all := ⟨⟨tw_789, tw_790, tw_0⟩, tw_791⟩
theorem ca_Law_law_76 : ca_V m_Law_law m_Model_date 76 1 := ⟨gi_V tw_1247 tw_1248 tw_1249 tw_13 tw_1250, ⟨⟨_, rfl⟩, by decide +kernel, by decide⟩⟩
theorem cw_Law_law_77 : (Cond.methodLink "MailHeadsLaw" 77 ⟨"MailHeadsLaw", "type", "(LMailHeads;I[J)I"⟩ ∈ tb_all ∧ Cond.static ⟨"MailHeadsLaw", "type", "(LMailHeads;I[J)I"⟩ ∈ tb_all ∧ Cond.initialized "MailHeadsLaw" ∈ tb_all) ∧ Cond.codeWith ⟨"MailHeadsLaw", "type", "(LMailHeads;I[J)I"⟩ method_6_code 4 (some FieldType.int) hs_Law_type ∈ tb_all := ⟨⟨tw_888, tw_889, tw_0⟩, tw_890⟩
theorem ca_Law_law_79 : ca_V m_Law_law m_Model_type 79 1 := ⟨gi_V tw_1332 tw_1333 tw_1334 tw_13 tw_1335, ⟨⟨_, rfl⟩, by decide +kernel, by decide⟩⟩
theorem ca_Law_law_80 : ca_V m_Law_law m_Mail_group 80 2 := ⟨gi_V tw_377 tw_378 tw_379 tw_1 tw_380, ⟨⟨_, rfl⟩, by decide +kernel, by decide⟩⟩
theorem ca_Law_law_83 : ca_V m_Law_law m_Model_group 83 2 := ⟨gi_V tw_1239 tw_1240 tw_1241 tw_13 tw_1242, ⟨⟨_, rfl⟩, by decide +kernel, by decide⟩⟩
theorem ca_Law_law_84 : ca_V m_Law_law m_Mail_length 84 2 := ⟨gi_V tw_395 tw_396 tw_397 tw_1 tw_398, ⟨⟨_, rfl⟩, by decide +kernel, by decide⟩⟩
theorem ca_Law_law_87 : ca_V m_Law_law m_Model_length 87 2 := ⟨gi_V tw_1116 tw_1117 tw_1118 tw_13 tw_1119, ⟨⟨_, rfl⟩, by decide +kernel, by decide⟩⟩
theorem ca_Law_law_88 : ca_V m_Law_law m_Mail_at 88 3 := ⟨gi_V tw_428 tw_429 tw_430 tw_1 tw_431, ⟨⟨_, rfl⟩, by decide +kernel, by decide⟩⟩
theorem ca_Law_law_91 : ca_V m_Law_law m_Model_at 91 3 := ⟨gi_V tw_1120 tw_1121 tw_1122 tw_13 tw_1123, ⟨⟨_, rfl⟩, by decide +kernel, by decide⟩⟩
theorem ca_Law_law_92 : ca_V m_Law_law m_Mail_parameter 92 0 := ⟨gi_V tw_432 tw_433 tw_434 tw_1 tw_435, ⟨⟨_, rfl⟩, by decide +kernel, by decide⟩⟩
theorem ca_Law_law_95 : ca_V m_Law_law m_Model_parameter 95 0 := ⟨gi_V tw_1344 tw_1345 tw_1346 tw_13 tw_1347, ⟨⟨_, rfl⟩, by decide +kernel, by decide⟩⟩
theorem ca_Law_law_96 : ca_V m_Law_law m_Mail_parameterByte 96 2 := ⟨gi_V tw_479 tw_480 tw_481 tw_1 tw_482, ⟨⟨_, rfl⟩, by decide +kernel, by decide⟩⟩
theorem ca_Law_law_100 : ca_V m_Law_law m_Model_parameterByte 100 2 := ⟨gi_V tw_1367 tw_1368 tw_1369 tw_13 tw_1370, ⟨⟨_, rfl⟩, by decide +kernel, by decide⟩⟩
theorem ca_Law_addresses_7 : ca_V m_Law_addresses m_Mail_addresses 7 1 := ⟨gi_V tw_491 tw_492 tw_493 tw_1 tw_494, ⟨⟨_, rfl⟩, by decide +kernel, by decide⟩⟩
theorem ca_Law_identities_15 : ca_V m_Law_identities m_Mail_identities 15 1 := ⟨gi_V tw_770 tw_771 tw_772 tw_1 tw_773, ⟨⟨_, rfl⟩, by decide +kernel, by decide⟩⟩
theorem ca_Law_date_18 : ca_V m_Law_date m_Mail_date 18 1 := ⟨gi_V tw_792 tw_793 tw_794 tw_1 tw_795, ⟨⟨_, rfl⟩, by decide +kernel, by decide⟩⟩
theorem ca_Law_type_22 : ca_V m_Law_type m_Mail_type 22 1 := ⟨gi_V tw_891 tw_892 tw_893 tw_1 tw_894, ⟨⟨_, rfl⟩, by decide +kernel, by decide⟩⟩
