/-- the words that stay true while the tables warm: all of them serve every method -/
def tb_all : List Cond := lw_tbl.filter goodWord
theorem tb_in (i : Nat) {w : Cond} (h : lw_tbl[i]? = some w) (hg : goodWord w = true) : w ∈ tb_all := List.mem_filter.mpr ⟨List.mem_of_getElem? h, hg⟩
theorem tb_good {w : Cond} (h : w ∈ tb_all) : (w.onTables && w.keeps) = true ∨ ∃ ty, w = .arrayClass ty := good_of_word (List.mem_filter.mp h).2
theorem gi_W {c0 cn : Cond} (h : cn ∈ tb_all) : GoodIn (c0 :: tb_all) (cn :: tb_all) := fun w hw => by
  rcases List.mem_cons.mp hw with e | e
  · rw [e]; exact ⟨List.mem_cons_of_mem _ h, tb_good h⟩
  · exact ⟨List.mem_cons_of_mem _ e, tb_good e⟩
theorem gi_one {c0 : Cond} {a : List Cond} (h : ∀ w ∈ a, w ∈ tb_all) : GoodIn (c0 :: tb_all) a := fun w hw => ⟨List.mem_cons_of_mem _ (h w hw), tb_good (h w hw)⟩
theorem gi_app {big a b : List Cond} (ha : GoodIn big a) (hb : GoodIn big b) : GoodIn big (a ++ b) := fun w h => (List.mem_append.mp h).elim (ha w) (hb w)
theorem gi_V {c0 cn : Cond} {own C : String} {idx : Nat} {y : MethodName} (h1 : Cond.methodLink own idx y ∈ tb_all) (h2 : Cond.instanceMethod y ∈ tb_all) (h3 : Cond.selects C y y ∈ tb_all) (h4 : Cond.initialized C ∈ tb_all) (h5 : cn ∈ tb_all) : GoodIn (c0 :: tb_all) (wsV own idx C y (cn :: tb_all)) :=
  gi_app (gi_one (fun w hw => by
    simp only [List.mem_cons, List.not_mem_nil, or_false] at hw
    rcases hw with e | e | e | e <;> (rw [e]; assumption))) (gi_W h5)
theorem gi_S {c0 cn : Cond} {own : String} {idx : Nat} {y : MethodName} (h1 : Cond.methodLink own idx y ∈ tb_all) (h2 : Cond.static y ∈ tb_all) (h4 : Cond.initialized y.cls ∈ tb_all) (h5 : cn ∈ tb_all) : GoodIn (c0 :: tb_all) (va_wsS own idx y (cn :: tb_all)) :=
  gi_app (gi_one (fun w hw => by
    simp only [List.mem_cons, List.not_mem_nil, or_false] at hw
    rcases hw with e | e | e <;> (rw [e]; assumption))) (gi_W h5)
theorem tc_1 (j : Nat) {w : Cond} (h : tables_1_1[j]? = some w) (hg : goodWord w = true) : w ∈ tb_all := List.mem_filter.mpr ⟨show w ∈ k2_sels lw_privs ++ ((tables_1_1 ++ (tables_1_2 ++ (tables_1_3 ++ (tables_1_4 ++ (tables_1_5 ++ tables_1_6)))))) from List.mem_append_right _ (List.mem_append_left _ (List.mem_of_getElem? h)), hg⟩
theorem tc_2 (j : Nat) {w : Cond} (h : tables_1_2[j]? = some w) (hg : goodWord w = true) : w ∈ tb_all := List.mem_filter.mpr ⟨show w ∈ k2_sels lw_privs ++ ((tables_1_1 ++ (tables_1_2 ++ (tables_1_3 ++ (tables_1_4 ++ (tables_1_5 ++ tables_1_6)))))) from List.mem_append_right _ (List.mem_append_right _ (List.mem_append_left _ (List.mem_of_getElem? h))), hg⟩
theorem tc_3 (j : Nat) {w : Cond} (h : tables_1_3[j]? = some w) (hg : goodWord w = true) : w ∈ tb_all := List.mem_filter.mpr ⟨show w ∈ k2_sels lw_privs ++ ((tables_1_1 ++ (tables_1_2 ++ (tables_1_3 ++ (tables_1_4 ++ (tables_1_5 ++ tables_1_6)))))) from List.mem_append_right _ (List.mem_append_right _ (List.mem_append_right _ (List.mem_append_left _ (List.mem_of_getElem? h)))), hg⟩
theorem tc_4 (j : Nat) {w : Cond} (h : tables_1_4[j]? = some w) (hg : goodWord w = true) : w ∈ tb_all := List.mem_filter.mpr ⟨show w ∈ k2_sels lw_privs ++ ((tables_1_1 ++ (tables_1_2 ++ (tables_1_3 ++ (tables_1_4 ++ (tables_1_5 ++ tables_1_6)))))) from List.mem_append_right _ (List.mem_append_right _ (List.mem_append_right _ (List.mem_append_right _ (List.mem_append_left _ (List.mem_of_getElem? h))))), hg⟩
theorem tc_5 (j : Nat) {w : Cond} (h : tables_1_5[j]? = some w) (hg : goodWord w = true) : w ∈ tb_all := List.mem_filter.mpr ⟨show w ∈ k2_sels lw_privs ++ ((tables_1_1 ++ (tables_1_2 ++ (tables_1_3 ++ (tables_1_4 ++ (tables_1_5 ++ tables_1_6)))))) from List.mem_append_right _ (List.mem_append_right _ (List.mem_append_right _ (List.mem_append_right _ (List.mem_append_right _ (List.mem_append_left _ (List.mem_of_getElem? h)))))), hg⟩
theorem tc_6 (j : Nat) {w : Cond} (h : tables_1_6[j]? = some w) (hg : goodWord w = true) : w ∈ tb_all := List.mem_filter.mpr ⟨show w ∈ k2_sels lw_privs ++ ((tables_1_1 ++ (tables_1_2 ++ (tables_1_3 ++ (tables_1_4 ++ (tables_1_5 ++ tables_1_6)))))) from List.mem_append_right _ (List.mem_append_right _ (List.mem_append_right _ (List.mem_append_right _ (List.mem_append_right _ (List.mem_append_right _ (List.mem_of_getElem? h)))))), hg⟩
theorem tw_1 : (Cond.initialized "MailHeads") ∈ tb_all := tc_1 1 rfl rfl
theorem tw_2 : (Cond.initialized "MailHeads$Row") ∈ tb_all := tc_1 2 rfl rfl
theorem tw_3 : (Cond.initialized "MailHeads$Head") ∈ tb_all := tc_1 3 rfl rfl
theorem tw_4 : (Cond.initialized "MailHeads$Texts") ∈ tb_all := tc_1 4 rfl rfl
theorem tw_5 : (Cond.initialized "java/util/Arrays") ∈ tb_all := tc_1 5 rfl rfl
theorem tw_6 : (Cond.initialized "java/lang/Math") ∈ tb_all := tc_1 6 rfl rfl
theorem tw_8 : (Cond.initialized "MailHeads$Words") ∈ tb_all := tc_1 8 rfl rfl
theorem tw_9 : (Cond.initialized "MailHeads$Addresses") ∈ tb_all := tc_1 9 rfl rfl
theorem tw_10 : (Cond.initialized "MailHeads$Identities") ∈ tb_all := tc_1 10 rfl rfl
theorem tw_11 : (Cond.initialized "MailHeads$DateReader") ∈ tb_all := tc_1 11 rfl rfl
theorem tw_12 : (Cond.initialized "MailHeads$ContentType") ∈ tb_all := tc_1 12 rfl rfl
theorem tw_13 : (Cond.initialized "MailHeadsModel") ∈ tb_all := tc_1 13 rfl rfl
theorem tw_14 : (Cond.initialized "java/lang/Throwable") ∈ tb_all := tc_1 14 rfl rfl
theorem tw_15 : (Cond.initialized "java/lang/Exception") ∈ tb_all := tc_1 15 rfl rfl
theorem tw_16 : (Cond.initialized "java/lang/RuntimeException") ∈ tb_all := tc_1 16 rfl rfl
theorem tw_17 : (Cond.initialized "java/lang/IndexOutOfBoundsException") ∈ tb_all := tc_1 17 rfl rfl
theorem tw_18 : (Cond.initialized "java/lang/String") ∈ tb_all := tc_1 18 rfl rfl
theorem tw_19 : (Cond.initialized "java/lang/StringLatin1") ∈ tb_all := tc_1 19 rfl rfl
theorem tw_20 : (Cond.initialized "java/lang/StringUTF16") ∈ tb_all := tc_1 20 rfl rfl
theorem tw_21 : (Cond.initialized "jdk/internal/util/Preconditions") ∈ tb_all := tc_1 21 rfl rfl
theorem tw_22 : (Cond.initialized "java/lang/Character") ∈ tb_all := tc_1 22 rfl rfl
theorem tw_23 : (Cond.classLink "MailHeadsLaw" (8 : Nat) "MailHeads") ∈ tb_all := tc_1 23 rfl rfl
theorem tw_24 : (Cond.instantiable "MailHeads" (9 : Nat)) ∈ tb_all := tc_1 24 rfl rfl
theorem tw_28 : (Cond.methodLink "MailHeads" (1 : Nat) ({ cls := "java/lang/Object", name := "<init>", desc := "()V" } : MethodName)) ∈ tb_all := tc_1 28 rfl rfl
theorem tw_29 : (Cond.instanceMethod ({ cls := "java/lang/Object", name := "<init>", desc := "()V" } : MethodName)) ∈ tb_all := tc_1 29 rfl rfl
theorem tw_30 : (Cond.code ({ cls := "java/lang/Object", name := "<init>", desc := "()V" } : MethodName) object_method_1_code (1 : Nat) (Option.none : Option Jvm.ClassFile.FieldType)) ∈ tb_all := tc_1 30 rfl rfl
theorem tw_31 : (Cond.classLink "MailHeads" (13 : Nat) "MailHeads$Row") ∈ tb_all := tc_1 31 rfl rfl
theorem tw_32 : (Cond.instantiable "MailHeads$Row" (2 : Nat)) ∈ tb_all := tc_1 32 rfl rfl
theorem tw_33 : (Cond.methodLink "MailHeads" (15 : Nat) ({ cls := "MailHeads$Row", name := "<init>", desc := "()V" } : MethodName)) ∈ tb_all := tc_1 33 rfl rfl
theorem tw_34 : (Cond.instanceMethod ({ cls := "MailHeads$Row", name := "<init>", desc := "()V" } : MethodName)) ∈ tb_all := tc_1 34 rfl rfl
theorem tw_35 : (Cond.code ({ cls := "MailHeads$Row", name := "<init>", desc := "()V" } : MethodName) prog_7_method_1_code (1 : Nat) (Option.none : Option Jvm.ClassFile.FieldType)) ∈ tb_all := tc_1 35 rfl rfl
theorem tw_36 : (Cond.methodLink "MailHeads$Row" (3 : Nat) ({ cls := "java/lang/Object", name := "<init>", desc := "()V" } : MethodName)) ∈ tb_all := tc_1 36 rfl rfl
theorem tw_37 : (Cond.fieldLink "MailHeads$Row" (11 : Nat) "MailHeads$Row" "cells" "[I") ∈ tb_all := tc_1 37 rfl rfl
theorem tw_38 : (Cond.fieldLink "MailHeads$Row" (15 : Nat) "MailHeads$Row" "count" "I") ∈ tb_all := tc_1 38 rfl rfl
theorem tw_44 : (Cond.arrayClass FieldType.int) ∈ tb_all := tc_1 44 rfl rfl
theorem tw_45 : (Cond.classLink "MailHeads" (20 : Nat) "MailHeads$Head") ∈ tb_all := tc_1 45 rfl rfl
theorem tw_46 : (Cond.instantiable "MailHeads$Head" (3 : Nat)) ∈ tb_all := tc_1 46 rfl rfl
theorem tw_47 : (Cond.methodLink "MailHeads" (22 : Nat) ({ cls := "MailHeads$Head", name := "<init>", desc := "()V" } : MethodName)) ∈ tb_all := tc_1 47 rfl rfl
theorem tw_48 : (Cond.instanceMethod ({ cls := "MailHeads$Head", name := "<init>", desc := "()V" } : MethodName)) ∈ tb_all := tc_1 48 rfl rfl
theorem tw_49 : (Cond.code ({ cls := "MailHeads$Head", name := "<init>", desc := "()V" } : MethodName) prog_5_method_1_code (1 : Nat) (Option.none : Option Jvm.ClassFile.FieldType)) ∈ tb_all := tc_1 49 rfl rfl
theorem tw_50 : (Cond.methodLink "MailHeads$Head" (3 : Nat) ({ cls := "java/lang/Object", name := "<init>", desc := "()V" } : MethodName)) ∈ tb_all := tc_1 50 rfl rfl
theorem tw_51 : (Cond.classLink "MailHeads$Head" (9 : Nat) "MailHeads$Texts") ∈ tb_all := tc_1 51 rfl rfl
theorem tw_52 : (Cond.instantiable "MailHeads$Texts" (2 : Nat)) ∈ tb_all := tc_1 52 rfl rfl
theorem tw_53 : (Cond.methodLink "MailHeads$Head" (11 : Nat) ({ cls := "MailHeads$Texts", name := "<init>", desc := "()V" } : MethodName)) ∈ tb_all := tc_1 53 rfl rfl
theorem tw_54 : (Cond.instanceMethod ({ cls := "MailHeads$Texts", name := "<init>", desc := "()V" } : MethodName)) ∈ tb_all := tc_1 54 rfl rfl
theorem tw_55 : (Cond.code ({ cls := "MailHeads$Texts", name := "<init>", desc := "()V" } : MethodName) prog_8_method_1_code (1 : Nat) (Option.none : Option Jvm.ClassFile.FieldType)) ∈ tb_all := tc_1 55 rfl rfl
theorem tw_56 : (Cond.methodLink "MailHeads$Texts" (3 : Nat) ({ cls := "java/lang/Object", name := "<init>", desc := "()V" } : MethodName)) ∈ tb_all := tc_1 56 rfl rfl
theorem tw_57 : (Cond.classLink "MailHeads$Texts" (9 : Nat) "MailHeads$Row") ∈ tb_all := tc_1 57 rfl rfl
theorem tw_58 : (Cond.methodLink "MailHeads$Texts" (11 : Nat) ({ cls := "MailHeads$Row", name := "<init>", desc := "()V" } : MethodName)) ∈ tb_all := tc_1 58 rfl rfl
theorem tw_59 : (Cond.methodLink "MailHeads$Texts" (21 : Nat) ({ cls := "MailHeads$Row", name := "add", desc := "(I)V" } : MethodName)) ∈ tb_all := tc_1 59 rfl rfl
theorem tw_60 : (Cond.instanceMethod ({ cls := "MailHeads$Row", name := "add", desc := "(I)V" } : MethodName)) ∈ tb_all := tc_1 60 rfl rfl
theorem tw_61 : (Cond.selects "MailHeads$Row" ({ cls := "MailHeads$Row", name := "add", desc := "(I)V" } : MethodName) ({ cls := "MailHeads$Row", name := "add", desc := "(I)V" } : MethodName)) ∈ tb_all := tc_1 61 rfl rfl
theorem tw_62 : (Cond.code ({ cls := "MailHeads$Row", name := "add", desc := "(I)V" } : MethodName) prog_7_method_4_code (2 : Nat) (Option.none : Option Jvm.ClassFile.FieldType)) ∈ tb_all := tc_1 62 rfl rfl
theorem tw_63 : (Cond.methodLink "MailHeads$Row" (19 : Nat) ({ cls := "java/util/Arrays", name := "copyOf", desc := "([II)[I" } : MethodName)) ∈ tb_all := tc_1 63 rfl rfl
theorem tw_64 : (Cond.static ({ cls := "java/util/Arrays", name := "copyOf", desc := "([II)[I" } : MethodName)) ∈ tb_all := tc_1 64 rfl rfl
theorem tw_65 : (Cond.code ({ cls := "java/util/Arrays", name := "copyOf", desc := "([II)[I" } : MethodName) prog_23_method_123_code (3 : Nat) (Option.some (FieldType.array FieldType.int))) ∈ tb_all := tc_1 65 rfl rfl
theorem tw_73 : (Cond.methodLink "java/util/Arrays" (304 : Nat) ({ cls := "java/lang/Math", name := "min", desc := "(II)I" } : MethodName)) ∈ tb_all := tc_1 73 rfl rfl
theorem tw_74 : (Cond.static ({ cls := "java/lang/Math", name := "min", desc := "(II)I" } : MethodName)) ∈ tb_all := tc_1 74 rfl rfl
theorem tw_75 : (Cond.code ({ cls := "java/lang/Math", name := "min", desc := "(II)I" } : MethodName) prog_16_method_69_code (2 : Nat) (Option.some FieldType.int)) ∈ tb_all := tc_1 75 rfl rfl
theorem tw_79 : (Cond.fieldLink "MailHeads$Texts" (12 : Nat) "MailHeads$Texts" "bytes" "LMailHeads$Row;") ∈ tb_all := tc_1 79 rfl rfl
theorem tw_80 : (Cond.fieldLink "MailHeads$Texts" (18 : Nat) "MailHeads$Texts" "bounds" "LMailHeads$Row;") ∈ tb_all := tc_1 80 rfl rfl
theorem tw_86 : (Cond.fieldLink "MailHeads$Head" (12 : Nat) "MailHeads$Head" "texts" "LMailHeads$Texts;") ∈ tb_all := tc_1 86 rfl rfl
theorem tw_87 : (Cond.fieldLink "MailHeads$Head" (18 : Nat) "MailHeads$Head" "badLines" "I") ∈ tb_all := tc_1 87 rfl rfl
theorem tw_88 : (Cond.fieldLink "MailHeads$Head" (22 : Nat) "MailHeads$Head" "valueOpen" "Z") ∈ tb_all := tc_1 88 rfl rfl
theorem tw_96 : (Cond.classLink "MailHeads" (27 : Nat) "MailHeads$Words") ∈ tb_all := tc_1 96 rfl rfl
theorem tw_97 : (Cond.instantiable "MailHeads$Words" (5 : Nat)) ∈ tb_all := tc_1 97 rfl rfl
theorem tw_98 : (Cond.methodLink "MailHeads" (29 : Nat) ({ cls := "MailHeads$Words", name := "<init>", desc := "()V" } : MethodName)) ∈ tb_all := tc_1 98 rfl rfl
theorem tw_99 : (Cond.instanceMethod ({ cls := "MailHeads$Words", name := "<init>", desc := "()V" } : MethodName)) ∈ tb_all := tc_1 99 rfl rfl
theorem tw_100 : (Cond.code ({ cls := "MailHeads$Words", name := "<init>", desc := "()V" } : MethodName) prog_9_method_1_code (1 : Nat) (Option.none : Option Jvm.ClassFile.FieldType)) ∈ tb_all := tc_1 100 rfl rfl
theorem tw_101 : (Cond.methodLink "MailHeads$Words" (3 : Nat) ({ cls := "java/lang/Object", name := "<init>", desc := "()V" } : MethodName)) ∈ tb_all := tc_1 101 rfl rfl
theorem tw_102 : (Cond.classLink "MailHeads$Words" (9 : Nat) "MailHeads$Texts") ∈ tb_all := tc_1 102 rfl rfl
theorem tw_103 : (Cond.methodLink "MailHeads$Words" (11 : Nat) ({ cls := "MailHeads$Texts", name := "<init>", desc := "()V" } : MethodName)) ∈ tb_all := tc_1 103 rfl rfl
theorem tw_104 : (Cond.classLink "MailHeads$Words" (18 : Nat) "MailHeads$Row") ∈ tb_all := tc_1 104 rfl rfl
theorem tw_105 : (Cond.methodLink "MailHeads$Words" (20 : Nat) ({ cls := "MailHeads$Row", name := "<init>", desc := "()V" } : MethodName)) ∈ tb_all := tc_1 105 rfl rfl
theorem tw_107 : (Cond.fieldLink "MailHeads$Words" (12 : Nat) "MailHeads$Words" "texts" "LMailHeads$Texts;") ∈ tb_all := tc_1 107 rfl rfl
theorem tw_108 : (Cond.fieldLink "MailHeads$Words" (21 : Nat) "MailHeads$Words" "kinds" "LMailHeads$Row;") ∈ tb_all := tc_1 108 rfl rfl
theorem tw_109 : (Cond.fieldLink "MailHeads$Words" (25 : Nat) "MailHeads$Words" "source" "LMailHeads$Texts;") ∈ tb_all := tc_1 109 rfl rfl
theorem tw_110 : (Cond.fieldLink "MailHeads$Words" (28 : Nat) "MailHeads$Words" "value" "I") ∈ tb_all := tc_1 110 rfl rfl
theorem tw_111 : (Cond.fieldLink "MailHeads$Words" (34 : Nat) "MailHeads$Words" "signs" "Ljava/lang/String;") ∈ tb_all := tc_1 111 rfl rfl
theorem tw_123 : (Cond.arrayClass FieldType.byte) ∈ tb_all := tc_1 123 rfl rfl
theorem tw_124 : (Cond.classLink "MailHeads" (34 : Nat) "MailHeads$Addresses") ∈ tb_all := tc_1 124 rfl rfl
theorem tw_125 : (Cond.instantiable "MailHeads$Addresses" (8 : Nat)) ∈ tb_all := tc_1 125 rfl rfl
theorem tw_126 : (Cond.methodLink "MailHeads" (36 : Nat) ({ cls := "MailHeads$Addresses", name := "<init>", desc := "(LMailHeads$Words;)V" } : MethodName)) ∈ tb_all := tc_1 126 rfl rfl
theorem tw_127 : (Cond.instanceMethod ({ cls := "MailHeads$Addresses", name := "<init>", desc := "(LMailHeads$Words;)V" } : MethodName)) ∈ tb_all := tc_1 127 rfl rfl
theorem tw_128 : (Cond.code ({ cls := "MailHeads$Addresses", name := "<init>", desc := "(LMailHeads$Words;)V" } : MethodName) prog_2_method_1_code (2 : Nat) (Option.none : Option Jvm.ClassFile.FieldType)) ∈ tb_all := tc_1 128 rfl rfl
theorem tw_129 : (Cond.methodLink "MailHeads$Addresses" (3 : Nat) ({ cls := "java/lang/Object", name := "<init>", desc := "()V" } : MethodName)) ∈ tb_all := tc_1 129 rfl rfl
theorem tw_130 : (Cond.classLink "MailHeads$Addresses" (15 : Nat) "MailHeads$Texts") ∈ tb_all := tc_1 130 rfl rfl
theorem tw_131 : (Cond.methodLink "MailHeads$Addresses" (17 : Nat) ({ cls := "MailHeads$Texts", name := "<init>", desc := "()V" } : MethodName)) ∈ tb_all := tc_1 131 rfl rfl
theorem tw_132 : (Cond.classLink "MailHeads$Addresses" (22 : Nat) "MailHeads$Row") ∈ tb_all := tc_1 132 rfl rfl
theorem tw_133 : (Cond.methodLink "MailHeads$Addresses" (24 : Nat) ({ cls := "MailHeads$Row", name := "<init>", desc := "()V" } : MethodName)) ∈ tb_all := tc_1 133 rfl rfl
theorem tw_134 : (Cond.fieldLink "MailHeads$Addresses" (9 : Nat) "MailHeads$Addresses" "words" "LMailHeads$Words;") ∈ tb_all := tc_1 134 rfl rfl
theorem tw_135 : (Cond.fieldLink "MailHeads$Addresses" (18 : Nat) "MailHeads$Addresses" "texts" "LMailHeads$Texts;") ∈ tb_all := tc_1 135 rfl rfl
theorem tw_136 : (Cond.fieldLink "MailHeads$Addresses" (25 : Nat) "MailHeads$Addresses" "groups" "LMailHeads$Row;") ∈ tb_all := tc_1 136 rfl rfl
theorem tw_137 : (Cond.fieldLink "MailHeads$Addresses" (29 : Nat) "MailHeads$Addresses" "groupNames" "LMailHeads$Texts;") ∈ tb_all := tc_1 137 rfl rfl
theorem tw_138 : (Cond.fieldLink "MailHeads$Addresses" (32 : Nat) "MailHeads$Addresses" "gathered" "LMailHeads$Row;") ∈ tb_all := tc_1 138 rfl rfl
theorem tw_139 : (Cond.fieldLink "MailHeads$Addresses" (35 : Nat) "MailHeads$Addresses" "badOnes" "I") ∈ tb_all := tc_1 139 rfl rfl
theorem tw_140 : (Cond.fieldLink "MailHeads$Addresses" (39 : Nat) "MailHeads$Addresses" "groupNow" "I") ∈ tb_all := tc_1 140 rfl rfl
theorem tw_141 : (Cond.fieldLink "MailHeads$Addresses" (42 : Nat) "MailHeads$Addresses" "comment" "I") ∈ tb_all := tc_1 141 rfl rfl
theorem tw_159 : (Cond.classLink "MailHeads" (43 : Nat) "MailHeads$Identities") ∈ tb_all := tc_1 159 rfl rfl
theorem tw_160 : (Cond.instantiable "MailHeads$Identities" (1 : Nat)) ∈ tb_all := tc_1 160 rfl rfl
theorem tw_161 : (Cond.methodLink "MailHeads" (45 : Nat) ({ cls := "MailHeads$Identities", name := "<init>", desc := "()V" } : MethodName)) ∈ tb_all := tc_1 161 rfl rfl
theorem tw_162 : (Cond.instanceMethod ({ cls := "MailHeads$Identities", name := "<init>", desc := "()V" } : MethodName)) ∈ tb_all := tc_1 162 rfl rfl
theorem tw_163 : (Cond.code ({ cls := "MailHeads$Identities", name := "<init>", desc := "()V" } : MethodName) prog_6_method_1_code (1 : Nat) (Option.none : Option Jvm.ClassFile.FieldType)) ∈ tb_all := tc_1 163 rfl rfl
theorem tw_164 : (Cond.methodLink "MailHeads$Identities" (3 : Nat) ({ cls := "java/lang/Object", name := "<init>", desc := "()V" } : MethodName)) ∈ tb_all := tc_1 164 rfl rfl
theorem tw_165 : (Cond.classLink "MailHeads$Identities" (9 : Nat) "MailHeads$Texts") ∈ tb_all := tc_1 165 rfl rfl
theorem tw_166 : (Cond.methodLink "MailHeads$Identities" (11 : Nat) ({ cls := "MailHeads$Texts", name := "<init>", desc := "()V" } : MethodName)) ∈ tb_all := tc_1 166 rfl rfl
theorem tw_167 : (Cond.fieldLink "MailHeads$Identities" (12 : Nat) "MailHeads$Identities" "texts" "LMailHeads$Texts;") ∈ tb_all := tc_1 167 rfl rfl
theorem tw_171 : (Cond.classLink "MailHeads" (50 : Nat) "MailHeads$DateReader") ∈ tb_all := tc_1 171 rfl rfl
theorem tw_172 : (Cond.instantiable "MailHeads$DateReader" (2 : Nat)) ∈ tb_all := tc_1 172 rfl rfl
theorem tw_173 : (Cond.methodLink "MailHeads" (52 : Nat) ({ cls := "MailHeads$DateReader", name := "<init>", desc := "(LMailHeads$Words;)V" } : MethodName)) ∈ tb_all := tc_1 173 rfl rfl
theorem tw_174 : (Cond.instanceMethod ({ cls := "MailHeads$DateReader", name := "<init>", desc := "(LMailHeads$Words;)V" } : MethodName)) ∈ tb_all := tc_1 174 rfl rfl
theorem tw_175 : (Cond.code ({ cls := "MailHeads$DateReader", name := "<init>", desc := "(LMailHeads$Words;)V" } : MethodName) prog_4_method_1_code (2 : Nat) (Option.none : Option Jvm.ClassFile.FieldType)) ∈ tb_all := tc_1 175 rfl rfl
theorem tw_176 : (Cond.methodLink "MailHeads$DateReader" (5 : Nat) ({ cls := "java/lang/Object", name := "<init>", desc := "()V" } : MethodName)) ∈ tb_all := tc_1 176 rfl rfl
theorem tw_177 : (Cond.fieldLink "MailHeads$DateReader" (11 : Nat) "MailHeads$DateReader" "words" "LMailHeads$Words;") ∈ tb_all := tc_1 177 rfl rfl
theorem tw_178 : (Cond.fieldLink "MailHeads$DateReader" (17 : Nat) "MailHeads$DateReader" "place" "I") ∈ tb_all := tc_1 178 rfl rfl
theorem tw_184 : (Cond.classLink "MailHeads" (57 : Nat) "MailHeads$ContentType") ∈ tb_all := tc_1 184 rfl rfl
theorem tw_185 : (Cond.instantiable "MailHeads$ContentType" (7 : Nat)) ∈ tb_all := tc_1 185 rfl rfl
theorem tw_186 : (Cond.methodLink "MailHeads" (59 : Nat) ({ cls := "MailHeads$ContentType", name := "<init>", desc := "(LMailHeads$Words;)V" } : MethodName)) ∈ tb_all := tc_1 186 rfl rfl
theorem tw_187 : (Cond.instanceMethod ({ cls := "MailHeads$ContentType", name := "<init>", desc := "(LMailHeads$Words;)V" } : MethodName)) ∈ tb_all := tc_1 187 rfl rfl
theorem tw_188 : (Cond.code ({ cls := "MailHeads$ContentType", name := "<init>", desc := "(LMailHeads$Words;)V" } : MethodName) prog_3_method_1_code (2 : Nat) (Option.none : Option Jvm.ClassFile.FieldType)) ∈ tb_all := tc_1 188 rfl rfl
theorem tw_189 : (Cond.methodLink "MailHeads$ContentType" (3 : Nat) ({ cls := "java/lang/Object", name := "<init>", desc := "()V" } : MethodName)) ∈ tb_all := tc_1 189 rfl rfl
theorem tw_190 : (Cond.classLink "MailHeads$ContentType" (15 : Nat) "MailHeads$Texts") ∈ tb_all := tc_1 190 rfl rfl
theorem tw_191 : (Cond.methodLink "MailHeads$ContentType" (17 : Nat) ({ cls := "MailHeads$Texts", name := "<init>", desc := "()V" } : MethodName)) ∈ tb_all := tc_1 191 rfl rfl
theorem tw_192 : (Cond.classLink "MailHeads$ContentType" (28 : Nat) "MailHeads$Row") ∈ tb_all := tc_1 192 rfl rfl
theorem tw_193 : (Cond.methodLink "MailHeads$ContentType" (30 : Nat) ({ cls := "MailHeads$Row", name := "<init>", desc := "()V" } : MethodName)) ∈ tb_all := tc_1 193 rfl rfl
theorem tw_194 : (Cond.fieldLink "MailHeads$ContentType" (9 : Nat) "MailHeads$ContentType" "words" "LMailHeads$Words;") ∈ tb_all := tc_1 194 rfl rfl
theorem tw_195 : (Cond.fieldLink "MailHeads$ContentType" (18 : Nat) "MailHeads$ContentType" "parts" "LMailHeads$Texts;") ∈ tb_all := tc_1 195 rfl rfl
theorem tw_196 : (Cond.fieldLink "MailHeads$ContentType" (22 : Nat) "MailHeads$ContentType" "names" "LMailHeads$Texts;") ∈ tb_all := tc_1 196 rfl rfl
theorem tw_197 : (Cond.fieldLink "MailHeads$ContentType" (25 : Nat) "MailHeads$ContentType" "values" "LMailHeads$Texts;") ∈ tb_all := tc_1 197 rfl rfl
theorem tw_198 : (Cond.fieldLink "MailHeads$ContentType" (31 : Nat) "MailHeads$ContentType" "pieces" "LMailHeads$Row;") ∈ tb_all := tc_1 198 rfl rfl
theorem tw_199 : (Cond.fieldLink "MailHeads$ContentType" (35 : Nat) "MailHeads$ContentType" "codes" "LMailHeads$Row;") ∈ tb_all := tc_1 199 rfl rfl
theorem tw_200 : (Cond.fieldLink "MailHeads$ContentType" (38 : Nat) "MailHeads$ContentType" "hand" "LMailHeads$Texts;") ∈ tb_all := tc_1 200 rfl rfl
theorem tw_216 : (Cond.classLink "MailHeads" (64 : Nat) "MailHeads$Texts") ∈ tb_all := tc_1 216 rfl rfl
theorem tw_217 : (Cond.methodLink "MailHeads" (66 : Nat) ({ cls := "MailHeads$Texts", name := "<init>", desc := "()V" } : MethodName)) ∈ tb_all := tc_1 217 rfl rfl
theorem tw_218 : (Cond.fieldLink "MailHeads" (9 : Nat) "MailHeads" "ready" "[I") ∈ tb_all := tc_1 218 rfl rfl
theorem tw_219 : (Cond.fieldLink "MailHeads" (16 : Nat) "MailHeads" "tape" "LMailHeads$Row;") ∈ tb_all := tc_1 219 rfl rfl
theorem tw_220 : (Cond.fieldLink "MailHeads" (23 : Nat) "MailHeads" "head" "LMailHeads$Head;") ∈ tb_all := tc_1 220 rfl rfl
theorem tw_221 : (Cond.fieldLink "MailHeads" (30 : Nat) "MailHeads" "words" "LMailHeads$Words;") ∈ tb_all := tc_1 221 rfl rfl
theorem tw_222 : (Cond.fieldLink "MailHeads" (39 : Nat) "MailHeads" "lastAddresses" "LMailHeads$Addresses;") ∈ tb_all := tc_1 222 rfl rfl
theorem tw_223 : (Cond.fieldLink "MailHeads" (46 : Nat) "MailHeads" "lastIdentities" "LMailHeads$Identities;") ∈ tb_all := tc_1 223 rfl rfl
theorem tw_224 : (Cond.fieldLink "MailHeads" (53 : Nat) "MailHeads" "dateReader" "LMailHeads$DateReader;") ∈ tb_all := tc_1 224 rfl rfl
theorem tw_225 : (Cond.fieldLink "MailHeads" (60 : Nat) "MailHeads" "lastType" "LMailHeads$ContentType;") ∈ tb_all := tc_1 225 rfl rfl
theorem tw_226 : (Cond.fieldLink "MailHeads" (67 : Nat) "MailHeads" "nothing" "LMailHeads$Texts;") ∈ tb_all := tc_1 226 rfl rfl
theorem tw_254 : (Cond.methodLink "MailHeads" (71 : Nat) ({ cls := "MailHeads$Row", name := "size", desc := "()I" } : MethodName)) ∈ tb_all := tc_2 14 rfl rfl
theorem tw_255 : (Cond.instanceMethod ({ cls := "MailHeads$Row", name := "size", desc := "()I" } : MethodName)) ∈ tb_all := tc_2 15 rfl rfl
theorem tw_256 : (Cond.selects "MailHeads$Row" ({ cls := "MailHeads$Row", name := "size", desc := "()I" } : MethodName) ({ cls := "MailHeads$Row", name := "size", desc := "()I" } : MethodName)) ∈ tb_all := tc_2 16 rfl rfl
theorem tw_257 : (Cond.code ({ cls := "MailHeads$Row", name := "size", desc := "()I" } : MethodName) prog_7_method_2_code (1 : Nat) (Option.some FieldType.int)) ∈ tb_all := tc_2 17 rfl rfl
theorem tw_258 : (Cond.methodLink "MailHeads" (75 : Nat) ({ cls := "MailHeads$Row", name := "add", desc := "(I)V" } : MethodName)) ∈ tb_all := tc_2 18 rfl rfl
theorem tw_259 : (Cond.methodLink "MailHeads" (79 : Nat) ({ cls := "java/util/Arrays", name := "fill", desc := "([II)V" } : MethodName)) ∈ tb_all := tc_2 19 rfl rfl
theorem tw_260 : (Cond.static ({ cls := "java/util/Arrays", name := "fill", desc := "([II)V" } : MethodName)) ∈ tb_all := tc_2 20 rfl rfl
theorem tw_261 : (Cond.code ({ cls := "java/util/Arrays", name := "fill", desc := "([II)V" } : MethodName) prog_23_method_103_code (4 : Nat) (Option.none : Option Jvm.ClassFile.FieldType)) ∈ tb_all := tc_2 21 rfl rfl
theorem tw_266 : (Cond.methodLink "MailHeads" (85 : Nat) ({ cls := "MailHeads$Head", name := "readLines", desc := "(LMailHeads$Row;)V" } : MethodName)) ∈ tb_all := tc_2 26 rfl rfl
theorem tw_267 : (Cond.instanceMethod ({ cls := "MailHeads$Head", name := "readLines", desc := "(LMailHeads$Row;)V" } : MethodName)) ∈ tb_all := tc_2 27 rfl rfl
theorem tw_268 : (Cond.selects "MailHeads$Head" ({ cls := "MailHeads$Head", name := "readLines", desc := "(LMailHeads$Row;)V" } : MethodName) ({ cls := "MailHeads$Head", name := "readLines", desc := "(LMailHeads$Row;)V" } : MethodName)) ∈ tb_all := tc_2 28 rfl rfl
theorem tw_269 : (Cond.code ({ cls := "MailHeads$Head", name := "readLines", desc := "(LMailHeads$Row;)V" } : MethodName) prog_5_method_7_code (7 : Nat) (Option.none : Option Jvm.ClassFile.FieldType)) ∈ tb_all := tc_2 29 rfl rfl
theorem tw_270 : (Cond.methodLink "MailHeads$Head" (35 : Nat) ({ cls := "MailHeads$Texts", name := "clear", desc := "()V" } : MethodName)) ∈ tb_all := tc_2 30 rfl rfl
theorem tw_271 : (Cond.instanceMethod ({ cls := "MailHeads$Texts", name := "clear", desc := "()V" } : MethodName)) ∈ tb_all := tc_2 31 rfl rfl
theorem tw_272 : (Cond.selects "MailHeads$Texts" ({ cls := "MailHeads$Texts", name := "clear", desc := "()V" } : MethodName) ({ cls := "MailHeads$Texts", name := "clear", desc := "()V" } : MethodName)) ∈ tb_all := tc_2 32 rfl rfl
theorem tw_273 : (Cond.code ({ cls := "MailHeads$Texts", name := "clear", desc := "()V" } : MethodName) prog_8_method_10_code (1 : Nat) (Option.none : Option Jvm.ClassFile.FieldType)) ∈ tb_all := tc_2 33 rfl rfl
theorem tw_274 : (Cond.methodLink "MailHeads$Texts" (43 : Nat) ({ cls := "MailHeads$Row", name := "cutTo", desc := "(I)V" } : MethodName)) ∈ tb_all := tc_2 34 rfl rfl
theorem tw_275 : (Cond.instanceMethod ({ cls := "MailHeads$Row", name := "cutTo", desc := "(I)V" } : MethodName)) ∈ tb_all := tc_2 35 rfl rfl
theorem tw_276 : (Cond.selects "MailHeads$Row" ({ cls := "MailHeads$Row", name := "cutTo", desc := "(I)V" } : MethodName) ({ cls := "MailHeads$Row", name := "cutTo", desc := "(I)V" } : MethodName)) ∈ tb_all := tc_2 36 rfl rfl
theorem tw_277 : (Cond.code ({ cls := "MailHeads$Row", name := "cutTo", desc := "(I)V" } : MethodName) prog_7_method_5_code (2 : Nat) (Option.none : Option Jvm.ClassFile.FieldType)) ∈ tb_all := tc_2 37 rfl rfl
theorem tw_278 : (Cond.methodLink "MailHeads$Head" (38 : Nat) ({ cls := "MailHeads$Row", name := "size", desc := "()I" } : MethodName)) ∈ tb_all := tc_2 38 rfl rfl
theorem tw_279 : (Cond.methodLink "MailHeads$Head" (43 : Nat) ({ cls := "MailHeads$Row", name := "get", desc := "(I)I" } : MethodName)) ∈ tb_all := tc_2 39 rfl rfl
theorem tw_280 : (Cond.instanceMethod ({ cls := "MailHeads$Row", name := "get", desc := "(I)I" } : MethodName)) ∈ tb_all := tc_2 40 rfl rfl
theorem tw_281 : (Cond.selects "MailHeads$Row" ({ cls := "MailHeads$Row", name := "get", desc := "(I)I" } : MethodName) ({ cls := "MailHeads$Row", name := "get", desc := "(I)I" } : MethodName)) ∈ tb_all := tc_2 41 rfl rfl
theorem tw_282 : (Cond.code ({ cls := "MailHeads$Row", name := "get", desc := "(I)I" } : MethodName) prog_7_method_3_code (2 : Nat) (Option.some FieldType.int)) ∈ tb_all := tc_2 42 rfl rfl
theorem tw_283 : (Cond.methodLink "MailHeads$Head" (47 : Nat) ({ cls := "MailHeads$Head", name := "takeLine", desc := "(LMailHeads$Row;II)Z" } : MethodName)) ∈ tb_all := tc_2 43 rfl rfl
theorem tw_285 : (Cond.instanceMethod ({ cls := "MailHeads$Head", name := "takeLine", desc := "(LMailHeads$Row;II)Z" } : MethodName)) ∈ tb_all := tc_2 45 rfl rfl
theorem tw_286 : (Cond.code ({ cls := "MailHeads$Head", name := "takeLine", desc := "(LMailHeads$Row;II)Z" } : MethodName) prog_5_method_8_code (6 : Nat) (Option.some FieldType.boolean)) ∈ tb_all := tc_2 46 rfl rfl
theorem tw_290 : (Cond.methodLink "MailHeads$Head" (58 : Nat) ({ cls := "MailHeads$Head", name := "takeFolded", desc := "(LMailHeads$Row;II)V" } : MethodName)) ∈ tb_all := tc_2 50 rfl rfl
theorem tw_292 : (Cond.instanceMethod ({ cls := "MailHeads$Head", name := "takeFolded", desc := "(LMailHeads$Row;II)V" } : MethodName)) ∈ tb_all := tc_2 52 rfl rfl
theorem tw_293 : (Cond.code ({ cls := "MailHeads$Head", name := "takeFolded", desc := "(LMailHeads$Row;II)V" } : MethodName) prog_5_method_9_code (4 : Nat) (Option.none : Option Jvm.ClassFile.FieldType)) ∈ tb_all := tc_2 53 rfl rfl
theorem tw_294 : (Cond.methodLink "MailHeads$Head" (69 : Nat) ({ cls := "MailHeads$Head", name := "putBytes", desc := "(LMailHeads$Row;II)V" } : MethodName)) ∈ tb_all := tc_2 54 rfl rfl
theorem tw_296 : (Cond.instanceMethod ({ cls := "MailHeads$Head", name := "putBytes", desc := "(LMailHeads$Row;II)V" } : MethodName)) ∈ tb_all := tc_2 56 rfl rfl
theorem tw_297 : (Cond.code ({ cls := "MailHeads$Head", name := "putBytes", desc := "(LMailHeads$Row;II)V" } : MethodName) prog_5_method_12_code (5 : Nat) (Option.none : Option Jvm.ClassFile.FieldType)) ∈ tb_all := tc_2 57 rfl rfl
theorem tw_298 : (Cond.methodLink "MailHeads$Head" (75 : Nat) ({ cls := "MailHeads$Texts", name := "put", desc := "(I)V" } : MethodName)) ∈ tb_all := tc_2 58 rfl rfl
theorem tw_299 : (Cond.instanceMethod ({ cls := "MailHeads$Texts", name := "put", desc := "(I)V" } : MethodName)) ∈ tb_all := tc_2 59 rfl rfl
theorem tw_300 : (Cond.selects "MailHeads$Texts" ({ cls := "MailHeads$Texts", name := "put", desc := "(I)V" } : MethodName) ({ cls := "MailHeads$Texts", name := "put", desc := "(I)V" } : MethodName)) ∈ tb_all := tc_2 60 rfl rfl
theorem tw_301 : (Cond.code ({ cls := "MailHeads$Texts", name := "put", desc := "(I)V" } : MethodName) prog_8_method_5_code (2 : Nat) (Option.none : Option Jvm.ClassFile.FieldType)) ∈ tb_all := tc_2 61 rfl rfl
theorem tw_302 : (Cond.methodLink "MailHeads$Head" (62 : Nat) ({ cls := "MailHeads$Head", name := "nameEnd", desc := "(LMailHeads$Row;II)I" } : MethodName)) ∈ tb_all := tc_2 62 rfl rfl
theorem tw_303 : (Cond.static ({ cls := "MailHeads$Head", name := "nameEnd", desc := "(LMailHeads$Row;II)I" } : MethodName)) ∈ tb_all := tc_2 63 rfl rfl
theorem tw_304 : (Cond.code ({ cls := "MailHeads$Head", name := "nameEnd", desc := "(LMailHeads$Row;II)I" } : MethodName) prog_5_method_10_code (5 : Nat) (Option.some FieldType.int)) ∈ tb_all := tc_2 64 rfl rfl
theorem tw_305 : (Cond.methodLink "MailHeads$Head" (66 : Nat) ({ cls := "MailHeads$Head", name := "behindBlanks", desc := "(LMailHeads$Row;II)I" } : MethodName)) ∈ tb_all := tc_2 65 rfl rfl
theorem tw_306 : (Cond.static ({ cls := "MailHeads$Head", name := "behindBlanks", desc := "(LMailHeads$Row;II)I" } : MethodName)) ∈ tb_all := tc_2 66 rfl rfl
theorem tw_307 : (Cond.code ({ cls := "MailHeads$Head", name := "behindBlanks", desc := "(LMailHeads$Row;II)I" } : MethodName) prog_5_method_11_code (4 : Nat) (Option.some FieldType.int)) ∈ tb_all := tc_2 67 rfl rfl
theorem tw_308 : (Cond.methodLink "MailHeads$Head" (51 : Nat) ({ cls := "MailHeads$Head", name := "closeValue", desc := "()V" } : MethodName)) ∈ tb_all := tc_2 68 rfl rfl
theorem tw_310 : (Cond.instanceMethod ({ cls := "MailHeads$Head", name := "closeValue", desc := "()V" } : MethodName)) ∈ tb_all := tc_2 70 rfl rfl
theorem tw_311 : (Cond.code ({ cls := "MailHeads$Head", name := "closeValue", desc := "()V" } : MethodName) prog_5_method_13_code (1 : Nat) (Option.none : Option Jvm.ClassFile.FieldType)) ∈ tb_all := tc_2 71 rfl rfl
theorem tw_312 : (Cond.methodLink "MailHeads$Head" (72 : Nat) ({ cls := "MailHeads$Texts", name := "close", desc := "()V" } : MethodName)) ∈ tb_all := tc_2 72 rfl rfl
theorem tw_313 : (Cond.instanceMethod ({ cls := "MailHeads$Texts", name := "close", desc := "()V" } : MethodName)) ∈ tb_all := tc_2 73 rfl rfl
theorem tw_314 : (Cond.selects "MailHeads$Texts" ({ cls := "MailHeads$Texts", name := "close", desc := "()V" } : MethodName) ({ cls := "MailHeads$Texts", name := "close", desc := "()V" } : MethodName)) ∈ tb_all := tc_2 74 rfl rfl
theorem tw_315 : (Cond.code ({ cls := "MailHeads$Texts", name := "close", desc := "()V" } : MethodName) prog_8_method_8_code (1 : Nat) (Option.none : Option Jvm.ClassFile.FieldType)) ∈ tb_all := tc_2 75 rfl rfl
theorem tw_316 : (Cond.methodLink "MailHeads$Texts" (25 : Nat) ({ cls := "MailHeads$Row", name := "size", desc := "()I" } : MethodName)) ∈ tb_all := tc_2 76 rfl rfl
theorem tw_317 : (Cond.methodLink "MailHeads$Head" (30 : Nat) ({ cls := "MailHeads$Head", name := "count", desc := "()I" } : MethodName)) ∈ tb_all := tc_2 77 rfl rfl
theorem tw_318 : (Cond.instanceMethod ({ cls := "MailHeads$Head", name := "count", desc := "()I" } : MethodName)) ∈ tb_all := tc_2 78 rfl rfl
theorem tw_319 : (Cond.selects "MailHeads$Head" ({ cls := "MailHeads$Head", name := "count", desc := "()I" } : MethodName) ({ cls := "MailHeads$Head", name := "count", desc := "()I" } : MethodName)) ∈ tb_all := tc_2 79 rfl rfl
theorem tw_320 : (Cond.code ({ cls := "MailHeads$Head", name := "count", desc := "()I" } : MethodName) prog_5_method_3_code (1 : Nat) (Option.some FieldType.int)) ∈ tb_all := tc_2 80 rfl rfl
theorem tw_321 : (Cond.methodLink "MailHeads$Head" (26 : Nat) ({ cls := "MailHeads$Texts", name := "count", desc := "()I" } : MethodName)) ∈ tb_all := tc_2 81 rfl rfl
theorem tw_322 : (Cond.instanceMethod ({ cls := "MailHeads$Texts", name := "count", desc := "()I" } : MethodName)) ∈ tb_all := tc_2 82 rfl rfl
theorem tw_323 : (Cond.selects "MailHeads$Texts" ({ cls := "MailHeads$Texts", name := "count", desc := "()I" } : MethodName) ({ cls := "MailHeads$Texts", name := "count", desc := "()I" } : MethodName)) ∈ tb_all := tc_2 83 rfl rfl
theorem tw_324 : (Cond.code ({ cls := "MailHeads$Texts", name := "count", desc := "()I" } : MethodName) prog_8_method_2_code (1 : Nat) (Option.some FieldType.int)) ∈ tb_all := tc_2 84 rfl rfl
theorem tw_325 : (Cond.methodLink "MailHeads" (89 : Nat) ({ cls := "MailHeads$Row", name := "cutTo", desc := "(I)V" } : MethodName)) ∈ tb_all := tc_2 85 rfl rfl
theorem tw_326 : (Cond.methodLink "MailHeads" (92 : Nat) ({ cls := "MailHeads$Head", name := "count", desc := "()I" } : MethodName)) ∈ tb_all := tc_2 86 rfl rfl
theorem tw_331 : (Cond.methodLink "MailHeads" (95 : Nat) ({ cls := "MailHeads$Head", name := "badLines", desc := "()I" } : MethodName)) ∈ tb_all := tc_2 91 rfl rfl
theorem tw_332 : (Cond.instanceMethod ({ cls := "MailHeads$Head", name := "badLines", desc := "()I" } : MethodName)) ∈ tb_all := tc_2 92 rfl rfl
theorem tw_333 : (Cond.selects "MailHeads$Head" ({ cls := "MailHeads$Head", name := "badLines", desc := "()I" } : MethodName) ({ cls := "MailHeads$Head", name := "badLines", desc := "()I" } : MethodName)) ∈ tb_all := tc_2 93 rfl rfl
theorem tw_334 : (Cond.code ({ cls := "MailHeads$Head", name := "badLines", desc := "()I" } : MethodName) prog_5_method_4_code (1 : Nat) (Option.some FieldType.int)) ∈ tb_all := tc_2 94 rfl rfl
theorem tw_339 : (Cond.methodLink "MailHeads" (98 : Nat) ({ cls := "MailHeads$Head", name := "firstNamed", desc := "(LMailHeads$Row;)I" } : MethodName)) ∈ tb_all := tc_2 99 rfl rfl
theorem tw_340 : (Cond.instanceMethod ({ cls := "MailHeads$Head", name := "firstNamed", desc := "(LMailHeads$Row;)I" } : MethodName)) ∈ tb_all := tc_2 100 rfl rfl
theorem tw_341 : (Cond.selects "MailHeads$Head" ({ cls := "MailHeads$Head", name := "firstNamed", desc := "(LMailHeads$Row;)I" } : MethodName) ({ cls := "MailHeads$Head", name := "firstNamed", desc := "(LMailHeads$Row;)I" } : MethodName)) ∈ tb_all := tc_2 101 rfl rfl
theorem tw_342 : (Cond.code ({ cls := "MailHeads$Head", name := "firstNamed", desc := "(LMailHeads$Row;)I" } : MethodName) prog_5_method_6_code (3 : Nat) (Option.some FieldType.int)) ∈ tb_all := tc_2 102 rfl rfl
theorem tw_343 : (Cond.methodLink "MailHeads$Head" (31 : Nat) ({ cls := "MailHeads$Texts", name := "isNamed", desc := "(ILMailHeads$Row;)Z" } : MethodName)) ∈ tb_all := tc_2 103 rfl rfl
theorem tw_344 : (Cond.instanceMethod ({ cls := "MailHeads$Texts", name := "isNamed", desc := "(ILMailHeads$Row;)Z" } : MethodName)) ∈ tb_all := tc_2 104 rfl rfl
theorem tw_345 : (Cond.selects "MailHeads$Texts" ({ cls := "MailHeads$Texts", name := "isNamed", desc := "(ILMailHeads$Row;)Z" } : MethodName) ({ cls := "MailHeads$Texts", name := "isNamed", desc := "(ILMailHeads$Row;)Z" } : MethodName)) ∈ tb_all := tc_2 105 rfl rfl
theorem tw_346 : (Cond.code ({ cls := "MailHeads$Texts", name := "isNamed", desc := "(ILMailHeads$Row;)Z" } : MethodName) prog_8_method_11_code (4 : Nat) (Option.some FieldType.boolean)) ∈ tb_all := tc_2 106 rfl rfl
theorem tw_347 : (Cond.methodLink "MailHeads$Texts" (33 : Nat) ({ cls := "MailHeads$Texts", name := "sizeOf", desc := "(I)I" } : MethodName)) ∈ tb_all := tc_2 107 rfl rfl
theorem tw_348 : (Cond.instanceMethod ({ cls := "MailHeads$Texts", name := "sizeOf", desc := "(I)I" } : MethodName)) ∈ tb_all := tc_2 108 rfl rfl
theorem tw_349 : (Cond.selects "MailHeads$Texts" ({ cls := "MailHeads$Texts", name := "sizeOf", desc := "(I)I" } : MethodName) ({ cls := "MailHeads$Texts", name := "sizeOf", desc := "(I)I" } : MethodName)) ∈ tb_all := tc_2 109 rfl rfl
theorem tw_350 : (Cond.code ({ cls := "MailHeads$Texts", name := "sizeOf", desc := "(I)I" } : MethodName) prog_8_method_3_code (2 : Nat) (Option.some FieldType.int)) ∈ tb_all := tc_2 110 rfl rfl
theorem tw_351 : (Cond.methodLink "MailHeads$Texts" (29 : Nat) ({ cls := "MailHeads$Row", name := "get", desc := "(I)I" } : MethodName)) ∈ tb_all := tc_2 111 rfl rfl
theorem tw_352 : (Cond.methodLink "MailHeads$Texts" (36 : Nat) ({ cls := "MailHeads$Texts", name := "byteOf", desc := "(II)I" } : MethodName)) ∈ tb_all := tc_2 112 rfl rfl
theorem tw_353 : (Cond.instanceMethod ({ cls := "MailHeads$Texts", name := "byteOf", desc := "(II)I" } : MethodName)) ∈ tb_all := tc_2 113 rfl rfl
theorem tw_354 : (Cond.selects "MailHeads$Texts" ({ cls := "MailHeads$Texts", name := "byteOf", desc := "(II)I" } : MethodName) ({ cls := "MailHeads$Texts", name := "byteOf", desc := "(II)I" } : MethodName)) ∈ tb_all := tc_2 114 rfl rfl
theorem tw_355 : (Cond.code ({ cls := "MailHeads$Texts", name := "byteOf", desc := "(II)I" } : MethodName) prog_8_method_4_code (3 : Nat) (Option.some FieldType.int)) ∈ tb_all := tc_2 115 rfl rfl
theorem tw_363 : (Cond.methodLink "MailHeads" (102 : Nat) ({ cls := "MailHeads$Head", name := "texts", desc := "()LMailHeads$Texts;" } : MethodName)) ∈ tb_all := tc_2 123 rfl rfl
theorem tw_364 : (Cond.instanceMethod ({ cls := "MailHeads$Head", name := "texts", desc := "()LMailHeads$Texts;" } : MethodName)) ∈ tb_all := tc_2 124 rfl rfl
theorem tw_365 : (Cond.selects "MailHeads$Head" ({ cls := "MailHeads$Head", name := "texts", desc := "()LMailHeads$Texts;" } : MethodName) ({ cls := "MailHeads$Head", name := "texts", desc := "()LMailHeads$Texts;" } : MethodName)) ∈ tb_all := tc_2 125 rfl rfl
theorem tw_366 : (Cond.code ({ cls := "MailHeads$Head", name := "texts", desc := "()LMailHeads$Texts;" } : MethodName) prog_5_method_2_code (1 : Nat) (Option.some (FieldType.object "MailHeads$Texts"))) ∈ tb_all := tc_2 126 rfl rfl
theorem tw_367 : (Cond.methodLink "MailHeads" (106 : Nat) ({ cls := "MailHeads$Head", name := "textOf", desc := "(II)I" } : MethodName)) ∈ tb_all := tc_2 127 rfl rfl
theorem tw_368 : (Cond.instanceMethod ({ cls := "MailHeads$Head", name := "textOf", desc := "(II)I" } : MethodName)) ∈ tb_all := tc_2 128 rfl rfl
theorem tw_369 : (Cond.selects "MailHeads$Head" ({ cls := "MailHeads$Head", name := "textOf", desc := "(II)I" } : MethodName) ({ cls := "MailHeads$Head", name := "textOf", desc := "(II)I" } : MethodName)) ∈ tb_all := tc_2 129 rfl rfl
theorem tw_370 : (Cond.code ({ cls := "MailHeads$Head", name := "textOf", desc := "(II)I" } : MethodName) prog_5_method_5_code (4 : Nat) (Option.some FieldType.int)) ∈ tb_all := tc_2 130 rfl rfl
theorem tw_371 : (Cond.methodLink "MailHeads" (110 : Nat) ({ cls := "MailHeads$Texts", name := "sizeOf", desc := "(I)I" } : MethodName)) ∈ tb_all := tc_2 131 rfl rfl
theorem tw_376 : (Cond.methodLink "MailHeads" (114 : Nat) ({ cls := "MailHeads$Texts", name := "byteOf", desc := "(II)I" } : MethodName)) ∈ tb_all := tc_2 136 rfl rfl
theorem tw_381 : (Cond.methodLink "MailHeads" (145 : Nat) ({ cls := "MailHeads$Addresses", name := "groupNames", desc := "()LMailHeads$Texts;" } : MethodName)) ∈ tb_all := tc_2 141 rfl rfl
theorem tw_382 : (Cond.instanceMethod ({ cls := "MailHeads$Addresses", name := "groupNames", desc := "()LMailHeads$Texts;" } : MethodName)) ∈ tb_all := tc_2 142 rfl rfl
theorem tw_383 : (Cond.selects "MailHeads$Addresses" ({ cls := "MailHeads$Addresses", name := "groupNames", desc := "()LMailHeads$Texts;" } : MethodName) ({ cls := "MailHeads$Addresses", name := "groupNames", desc := "()LMailHeads$Texts;" } : MethodName)) ∈ tb_all := tc_2 143 rfl rfl
theorem tw_384 : (Cond.code ({ cls := "MailHeads$Addresses", name := "groupNames", desc := "()LMailHeads$Texts;" } : MethodName) prog_2_method_3_code (1 : Nat) (Option.some (FieldType.object "MailHeads$Texts"))) ∈ tb_all := tc_2 144 rfl rfl
theorem tw_385 : (Cond.methodLink "MailHeads" (135 : Nat) ({ cls := "MailHeads$Texts", name := "count", desc := "()I" } : MethodName)) ∈ tb_all := tc_2 145 rfl rfl
theorem tw_386 : (Cond.methodLink "MailHeads" (148 : Nat) ({ cls := "MailHeads$Addresses", name := "badOnes", desc := "()I" } : MethodName)) ∈ tb_all := tc_2 146 rfl rfl
theorem tw_387 : (Cond.instanceMethod ({ cls := "MailHeads$Addresses", name := "badOnes", desc := "()I" } : MethodName)) ∈ tb_all := tc_2 147 rfl rfl
theorem tw_388 : (Cond.selects "MailHeads$Addresses" ({ cls := "MailHeads$Addresses", name := "badOnes", desc := "()I" } : MethodName) ({ cls := "MailHeads$Addresses", name := "badOnes", desc := "()I" } : MethodName)) ∈ tb_all := tc_2 148 rfl rfl
theorem tw_389 : (Cond.code ({ cls := "MailHeads$Addresses", name := "badOnes", desc := "()I" } : MethodName) prog_2_method_5_code (1 : Nat) (Option.some FieldType.int)) ∈ tb_all := tc_2 149 rfl rfl
theorem tw_390 : (Cond.methodLink "MailHeads" (151 : Nat) ({ cls := "MailHeads$Addresses", name := "groupOf", desc := "(I)I" } : MethodName)) ∈ tb_all := tc_2 150 rfl rfl
theorem tw_391 : (Cond.instanceMethod ({ cls := "MailHeads$Addresses", name := "groupOf", desc := "(I)I" } : MethodName)) ∈ tb_all := tc_2 151 rfl rfl
theorem tw_392 : (Cond.selects "MailHeads$Addresses" ({ cls := "MailHeads$Addresses", name := "groupOf", desc := "(I)I" } : MethodName) ({ cls := "MailHeads$Addresses", name := "groupOf", desc := "(I)I" } : MethodName)) ∈ tb_all := tc_2 152 rfl rfl
theorem tw_393 : (Cond.code ({ cls := "MailHeads$Addresses", name := "groupOf", desc := "(I)I" } : MethodName) prog_2_method_6_code (2 : Nat) (Option.some FieldType.int)) ∈ tb_all := tc_2 153 rfl rfl
theorem tw_394 : (Cond.methodLink "MailHeads$Addresses" (49 : Nat) ({ cls := "MailHeads$Row", name := "get", desc := "(I)I" } : MethodName)) ∈ tb_all := tc_2 154 rfl rfl
theorem tw_399 : (Cond.methodLink "MailHeads" (154 : Nat) ({ cls := "MailHeads", name := "textsFor", desc := "(I)LMailHeads$Texts;" } : MethodName)) ∈ tb_all := tc_2 159 rfl rfl
theorem tw_401 : (Cond.instanceMethod ({ cls := "MailHeads", name := "textsFor", desc := "(I)LMailHeads$Texts;" } : MethodName)) ∈ tb_all := tc_2 161 rfl rfl
theorem tw_402 : (Cond.code ({ cls := "MailHeads", name := "textsFor", desc := "(I)LMailHeads$Texts;" } : MethodName) prog_1_method_19_code (2 : Nat) (Option.some (FieldType.object "MailHeads$Texts"))) ∈ tb_all := tc_2 162 rfl rfl
theorem tw_403 : (Cond.methodLink "MailHeads" (175 : Nat) ({ cls := "MailHeads$Addresses", name := "texts", desc := "()LMailHeads$Texts;" } : MethodName)) ∈ tb_all := tc_2 163 rfl rfl
theorem tw_404 : (Cond.instanceMethod ({ cls := "MailHeads$Addresses", name := "texts", desc := "()LMailHeads$Texts;" } : MethodName)) ∈ tb_all := tc_2 164 rfl rfl
theorem tw_405 : (Cond.selects "MailHeads$Addresses" ({ cls := "MailHeads$Addresses", name := "texts", desc := "()LMailHeads$Texts;" } : MethodName) ({ cls := "MailHeads$Addresses", name := "texts", desc := "()LMailHeads$Texts;" } : MethodName)) ∈ tb_all := tc_2 165 rfl rfl
theorem tw_406 : (Cond.code ({ cls := "MailHeads$Addresses", name := "texts", desc := "()LMailHeads$Texts;" } : MethodName) prog_2_method_2_code (1 : Nat) (Option.some (FieldType.object "MailHeads$Texts"))) ∈ tb_all := tc_2 166 rfl rfl
theorem tw_407 : (Cond.methodLink "MailHeads" (134 : Nat) ({ cls := "MailHeads$Identities", name := "texts", desc := "()LMailHeads$Texts;" } : MethodName)) ∈ tb_all := tc_2 167 rfl rfl
theorem tw_408 : (Cond.instanceMethod ({ cls := "MailHeads$Identities", name := "texts", desc := "()LMailHeads$Texts;" } : MethodName)) ∈ tb_all := tc_2 168 rfl rfl
theorem tw_409 : (Cond.selects "MailHeads$Identities" ({ cls := "MailHeads$Identities", name := "texts", desc := "()LMailHeads$Texts;" } : MethodName) ({ cls := "MailHeads$Identities", name := "texts", desc := "()LMailHeads$Texts;" } : MethodName)) ∈ tb_all := tc_2 169 rfl rfl
theorem tw_410 : (Cond.code ({ cls := "MailHeads$Identities", name := "texts", desc := "()LMailHeads$Texts;" } : MethodName) prog_6_method_2_code (1 : Nat) (Option.some (FieldType.object "MailHeads$Texts"))) ∈ tb_all := tc_2 170 rfl rfl
theorem tw_411 : (Cond.methodLink "MailHeads" (176 : Nat) ({ cls := "MailHeads$ContentType", name := "parts", desc := "()LMailHeads$Texts;" } : MethodName)) ∈ tb_all := tc_2 171 rfl rfl
theorem tw_412 : (Cond.instanceMethod ({ cls := "MailHeads$ContentType", name := "parts", desc := "()LMailHeads$Texts;" } : MethodName)) ∈ tb_all := tc_2 172 rfl rfl
theorem tw_413 : (Cond.selects "MailHeads$ContentType" ({ cls := "MailHeads$ContentType", name := "parts", desc := "()LMailHeads$Texts;" } : MethodName) ({ cls := "MailHeads$ContentType", name := "parts", desc := "()LMailHeads$Texts;" } : MethodName)) ∈ tb_all := tc_2 173 rfl rfl
theorem tw_414 : (Cond.code ({ cls := "MailHeads$ContentType", name := "parts", desc := "()LMailHeads$Texts;" } : MethodName) prog_3_method_2_code (1 : Nat) (Option.some (FieldType.object "MailHeads$Texts"))) ∈ tb_all := tc_2 174 rfl rfl
theorem tw_415 : (Cond.methodLink "MailHeads" (158 : Nat) ({ cls := "MailHeads", name := "textFor", desc := "(II)I" } : MethodName)) ∈ tb_all := tc_2 175 rfl rfl
theorem tw_417 : (Cond.instanceMethod ({ cls := "MailHeads", name := "textFor", desc := "(II)I" } : MethodName)) ∈ tb_all := tc_2 177 rfl rfl
theorem tw_418 : (Cond.code ({ cls := "MailHeads", name := "textFor", desc := "(II)I" } : MethodName) prog_1_method_20_code (3 : Nat) (Option.some FieldType.int)) ∈ tb_all := tc_2 178 rfl rfl
theorem tw_419 : (Cond.methodLink "MailHeads" (179 : Nat) ({ cls := "MailHeads$Addresses", name := "textOf", desc := "(II)I" } : MethodName)) ∈ tb_all := tc_2 179 rfl rfl
theorem tw_420 : (Cond.instanceMethod ({ cls := "MailHeads$Addresses", name := "textOf", desc := "(II)I" } : MethodName)) ∈ tb_all := tc_2 180 rfl rfl
theorem tw_421 : (Cond.selects "MailHeads$Addresses" ({ cls := "MailHeads$Addresses", name := "textOf", desc := "(II)I" } : MethodName) ({ cls := "MailHeads$Addresses", name := "textOf", desc := "(II)I" } : MethodName)) ∈ tb_all := tc_2 181 rfl rfl
theorem tw_422 : (Cond.code ({ cls := "MailHeads$Addresses", name := "textOf", desc := "(II)I" } : MethodName) prog_2_method_7_code (3 : Nat) (Option.some FieldType.int)) ∈ tb_all := tc_2 182 rfl rfl
theorem tw_423 : (Cond.methodLink "MailHeads$Addresses" (53 : Nat) ({ cls := "MailHeads$Addresses", name := "count", desc := "()I" } : MethodName)) ∈ tb_all := tc_2 183 rfl rfl
theorem tw_424 : (Cond.instanceMethod ({ cls := "MailHeads$Addresses", name := "count", desc := "()I" } : MethodName)) ∈ tb_all := tc_2 184 rfl rfl
theorem tw_425 : (Cond.selects "MailHeads$Addresses" ({ cls := "MailHeads$Addresses", name := "count", desc := "()I" } : MethodName) ({ cls := "MailHeads$Addresses", name := "count", desc := "()I" } : MethodName)) ∈ tb_all := tc_2 185 rfl rfl
theorem tw_426 : (Cond.code ({ cls := "MailHeads$Addresses", name := "count", desc := "()I" } : MethodName) prog_2_method_4_code (1 : Nat) (Option.some FieldType.int)) ∈ tb_all := tc_2 186 rfl rfl
theorem tw_427 : (Cond.methodLink "MailHeads$Addresses" (45 : Nat) ({ cls := "MailHeads$Row", name := "size", desc := "()I" } : MethodName)) ∈ tb_all := tc_2 187 rfl rfl
theorem tw_436 : (Cond.methodLink "MailHeads" (161 : Nat) ({ cls := "MailHeads$ContentType", name := "takeInHand", desc := "(LMailHeads$Row;)I" } : MethodName)) ∈ tb_all := tc_2 196 rfl rfl
theorem tw_437 : (Cond.instanceMethod ({ cls := "MailHeads$ContentType", name := "takeInHand", desc := "(LMailHeads$Row;)I" } : MethodName)) ∈ tb_all := tc_2 197 rfl rfl
theorem tw_438 : (Cond.selects "MailHeads$ContentType" ({ cls := "MailHeads$ContentType", name := "takeInHand", desc := "(LMailHeads$Row;)I" } : MethodName) ({ cls := "MailHeads$ContentType", name := "takeInHand", desc := "(LMailHeads$Row;)I" } : MethodName)) ∈ tb_all := tc_2 198 rfl rfl
theorem tw_439 : (Cond.code ({ cls := "MailHeads$ContentType", name := "takeInHand", desc := "(LMailHeads$Row;)I" } : MethodName) prog_3_method_6_code (6 : Nat) (Option.some FieldType.int)) ∈ tb_all := tc_2 199 rfl rfl
theorem tw_440 : (Cond.methodLink "MailHeads$ContentType" (41 : Nat) ({ cls := "MailHeads$Texts", name := "clear", desc := "()V" } : MethodName)) ∈ tb_all := tc_2 200 rfl rfl
theorem tw_441 : (Cond.methodLink "MailHeads$ContentType" (96 : Nat) ({ cls := "MailHeads$ContentType", name := "firstOf", desc := "(LMailHeads$Row;I)I" } : MethodName)) ∈ tb_all := tc_2 201 rfl rfl
theorem tw_443 : (Cond.instanceMethod ({ cls := "MailHeads$ContentType", name := "firstOf", desc := "(LMailHeads$Row;I)I" } : MethodName)) ∈ tb_all := tc_2 203 rfl rfl
theorem tw_444 : (Cond.code ({ cls := "MailHeads$ContentType", name := "firstOf", desc := "(LMailHeads$Row;I)I" } : MethodName) prog_3_method_8_code (4 : Nat) (Option.some FieldType.int)) ∈ tb_all := tc_2 204 rfl rfl
theorem tw_445 : (Cond.methodLink "MailHeads$ContentType" (107 : Nat) ({ cls := "MailHeads$Texts", name := "count", desc := "()I" } : MethodName)) ∈ tb_all := tc_2 205 rfl rfl
theorem tw_446 : (Cond.methodLink "MailHeads$ContentType" (54 : Nat) ({ cls := "MailHeads$Row", name := "get", desc := "(I)I" } : MethodName)) ∈ tb_all := tc_2 206 rfl rfl
theorem tw_447 : (Cond.methodLink "MailHeads$ContentType" (110 : Nat) ({ cls := "MailHeads$Texts", name := "isNamed", desc := "(ILMailHeads$Row;)Z" } : MethodName)) ∈ tb_all := tc_2 207 rfl rfl
theorem tw_448 : (Cond.methodLink "MailHeads$ContentType" (100 : Nat) ({ cls := "MailHeads$ContentType", name := "putCharset", desc := "(I)I" } : MethodName)) ∈ tb_all := tc_2 208 rfl rfl
theorem tw_450 : (Cond.instanceMethod ({ cls := "MailHeads$ContentType", name := "putCharset", desc := "(I)I" } : MethodName)) ∈ tb_all := tc_2 210 rfl rfl
theorem tw_451 : (Cond.code ({ cls := "MailHeads$ContentType", name := "putCharset", desc := "(I)I" } : MethodName) prog_3_method_9_code (4 : Nat) (Option.some FieldType.int)) ∈ tb_all := tc_2 211 rfl rfl
theorem tw_452 : (Cond.methodLink "MailHeads$ContentType" (114 : Nat) ({ cls := "MailHeads$ContentType", name := "quoteFrom", desc := "(II)I" } : MethodName)) ∈ tb_all := tc_2 212 rfl rfl
theorem tw_454 : (Cond.instanceMethod ({ cls := "MailHeads$ContentType", name := "quoteFrom", desc := "(II)I" } : MethodName)) ∈ tb_all := tc_2 214 rfl rfl
theorem tw_455 : (Cond.code ({ cls := "MailHeads$ContentType", name := "quoteFrom", desc := "(II)I" } : MethodName) prog_3_method_10_code (5 : Nat) (Option.some FieldType.int)) ∈ tb_all := tc_2 215 rfl rfl
theorem tw_456 : (Cond.methodLink "MailHeads$ContentType" (72 : Nat) ({ cls := "MailHeads$Texts", name := "sizeOf", desc := "(I)I" } : MethodName)) ∈ tb_all := tc_2 216 rfl rfl
theorem tw_457 : (Cond.methodLink "MailHeads$ContentType" (82 : Nat) ({ cls := "MailHeads$Texts", name := "byteOf", desc := "(II)I" } : MethodName)) ∈ tb_all := tc_2 217 rfl rfl
theorem tw_458 : (Cond.methodLink "MailHeads$ContentType" (75 : Nat) ({ cls := "MailHeads$Texts", name := "putSmall", desc := "(LMailHeads$Texts;II)V" } : MethodName)) ∈ tb_all := tc_2 218 rfl rfl
theorem tw_459 : (Cond.instanceMethod ({ cls := "MailHeads$Texts", name := "putSmall", desc := "(LMailHeads$Texts;II)V" } : MethodName)) ∈ tb_all := tc_2 219 rfl rfl
theorem tw_460 : (Cond.selects "MailHeads$Texts" ({ cls := "MailHeads$Texts", name := "putSmall", desc := "(LMailHeads$Texts;II)V" } : MethodName) ({ cls := "MailHeads$Texts", name := "putSmall", desc := "(LMailHeads$Texts;II)V" } : MethodName)) ∈ tb_all := tc_2 220 rfl rfl
theorem tw_461 : (Cond.code ({ cls := "MailHeads$Texts", name := "putSmall", desc := "(LMailHeads$Texts;II)V" } : MethodName) prog_8_method_7_code (5 : Nat) (Option.none : Option Jvm.ClassFile.FieldType)) ∈ tb_all := tc_2 221 rfl rfl
theorem tw_462 : (Cond.methodLink "MailHeads$ContentType" (79 : Nat) ({ cls := "MailHeads$Texts", name := "close", desc := "()V" } : MethodName)) ∈ tb_all := tc_2 222 rfl rfl
theorem tw_463 : (Cond.methodLink "MailHeads$ContentType" (103 : Nat) ({ cls := "MailHeads$ContentType", name := "putBytes", desc := "(II)V" } : MethodName)) ∈ tb_all := tc_2 223 rfl rfl
theorem tw_465 : (Cond.instanceMethod ({ cls := "MailHeads$ContentType", name := "putBytes", desc := "(II)V" } : MethodName)) ∈ tb_all := tc_2 225 rfl rfl
theorem tw_466 : (Cond.code ({ cls := "MailHeads$ContentType", name := "putBytes", desc := "(II)V" } : MethodName) prog_3_method_11_code (8 : Nat) (Option.none : Option Jvm.ClassFile.FieldType)) ∈ tb_all := tc_2 226 rfl rfl
theorem tw_467 : (Cond.methodLink "MailHeads$ContentType" (117 : Nat) ({ cls := "MailHeads$ContentType", name := "hexadecimal", desc := "(II)I" } : MethodName)) ∈ tb_all := tc_2 227 rfl rfl
theorem tw_469 : (Cond.instanceMethod ({ cls := "MailHeads$ContentType", name := "hexadecimal", desc := "(II)I" } : MethodName)) ∈ tb_all := tc_2 229 rfl rfl
theorem tw_470 : (Cond.code ({ cls := "MailHeads$ContentType", name := "hexadecimal", desc := "(II)I" } : MethodName) prog_3_method_12_code (5 : Nat) (Option.some FieldType.int)) ∈ tb_all := tc_2 230 rfl rfl
theorem tw_471 : (Cond.methodLink "MailHeads$ContentType" (123 : Nat) ({ cls := "MailHeads$ContentType", name := "hexDigit", desc := "(I)I" } : MethodName)) ∈ tb_all := tc_2 231 rfl rfl
theorem tw_472 : (Cond.static ({ cls := "MailHeads$ContentType", name := "hexDigit", desc := "(I)I" } : MethodName)) ∈ tb_all := tc_2 232 rfl rfl
theorem tw_473 : (Cond.code ({ cls := "MailHeads$ContentType", name := "hexDigit", desc := "(I)I" } : MethodName) prog_3_method_13_code (2 : Nat) (Option.some FieldType.int)) ∈ tb_all := tc_2 233 rfl rfl
theorem tw_478 : (Cond.methodLink "MailHeads$ContentType" (120 : Nat) ({ cls := "MailHeads$Texts", name := "put", desc := "(I)V" } : MethodName)) ∈ tb_all := tc_2 238 rfl rfl
theorem tw_483 : (Cond.methodLink "MailHeads" (164 : Nat) ({ cls := "MailHeads$ContentType", name := "byteInHand", desc := "(ZI)I" } : MethodName)) ∈ tb_all := tc_3 3 rfl rfl
theorem tw_484 : (Cond.instanceMethod ({ cls := "MailHeads$ContentType", name := "byteInHand", desc := "(ZI)I" } : MethodName)) ∈ tb_all := tc_3 4 rfl rfl
theorem tw_485 : (Cond.selects "MailHeads$ContentType" ({ cls := "MailHeads$ContentType", name := "byteInHand", desc := "(ZI)I" } : MethodName) ({ cls := "MailHeads$ContentType", name := "byteInHand", desc := "(ZI)I" } : MethodName)) ∈ tb_all := tc_3 5 rfl rfl
theorem tw_486 : (Cond.code ({ cls := "MailHeads$ContentType", name := "byteInHand", desc := "(ZI)I" } : MethodName) prog_3_method_7_code (3 : Nat) (Option.some FieldType.int)) ∈ tb_all := tc_3 6 rfl rfl
theorem tw_495 : (Cond.methodLink "MailHeads" (117 : Nat) ({ cls := "MailHeads", name := "valueOf", desc := "(I)I" } : MethodName)) ∈ tb_all := tc_3 15 rfl rfl
theorem tw_497 : (Cond.instanceMethod ({ cls := "MailHeads", name := "valueOf", desc := "(I)I" } : MethodName)) ∈ tb_all := tc_3 17 rfl rfl
theorem tw_498 : (Cond.code ({ cls := "MailHeads", name := "valueOf", desc := "(I)I" } : MethodName) prog_1_method_18_code (3 : Nat) (Option.some FieldType.int)) ∈ tb_all := tc_3 18 rfl rfl
theorem tw_524 : (Cond.methodLink "java/lang/Throwable" (1 : Nat) ({ cls := "java/lang/Object", name := "<init>", desc := "()V" } : MethodName)) ∈ tb_all := tc_3 44 rfl rfl
theorem tw_539 : (Cond.methodLink "MailHeads" (172 : Nat) ({ cls := "java/lang/IndexOutOfBoundsException", name := "<init>", desc := "(Ljava/lang/String;)V" } : MethodName)) ∈ tb_all := tc_3 59 rfl rfl
theorem tw_540 : (Cond.instanceMethod ({ cls := "java/lang/IndexOutOfBoundsException", name := "<init>", desc := "(Ljava/lang/String;)V" } : MethodName)) ∈ tb_all := tc_3 60 rfl rfl
theorem tw_541 : (Cond.code ({ cls := "java/lang/IndexOutOfBoundsException", name := "<init>", desc := "(Ljava/lang/String;)V" } : MethodName) prog_15_method_2_code (2 : Nat) (Option.none : Option Jvm.ClassFile.FieldType)) ∈ tb_all := tc_3 61 rfl rfl
theorem tw_542 : (Cond.methodLink "java/lang/IndexOutOfBoundsException" (7 : Nat) ({ cls := "java/lang/RuntimeException", name := "<init>", desc := "(Ljava/lang/String;)V" } : MethodName)) ∈ tb_all := tc_3 62 rfl rfl
theorem tw_543 : (Cond.instanceMethod ({ cls := "java/lang/RuntimeException", name := "<init>", desc := "(Ljava/lang/String;)V" } : MethodName)) ∈ tb_all := tc_3 63 rfl rfl
theorem tw_544 : (Cond.code ({ cls := "java/lang/RuntimeException", name := "<init>", desc := "(Ljava/lang/String;)V" } : MethodName) prog_17_method_2_code (2 : Nat) (Option.none : Option Jvm.ClassFile.FieldType)) ∈ tb_all := tc_3 64 rfl rfl
theorem tw_545 : (Cond.methodLink "java/lang/RuntimeException" (7 : Nat) ({ cls := "java/lang/Exception", name := "<init>", desc := "(Ljava/lang/String;)V" } : MethodName)) ∈ tb_all := tc_3 65 rfl rfl
theorem tw_546 : (Cond.instanceMethod ({ cls := "java/lang/Exception", name := "<init>", desc := "(Ljava/lang/String;)V" } : MethodName)) ∈ tb_all := tc_3 66 rfl rfl
theorem tw_547 : (Cond.code ({ cls := "java/lang/Exception", name := "<init>", desc := "(Ljava/lang/String;)V" } : MethodName) prog_14_method_2_code (2 : Nat) (Option.none : Option Jvm.ClassFile.FieldType)) ∈ tb_all := tc_3 67 rfl rfl
theorem tw_548 : (Cond.methodLink "java/lang/Exception" (7 : Nat) ({ cls := "java/lang/Throwable", name := "<init>", desc := "(Ljava/lang/String;)V" } : MethodName)) ∈ tb_all := tc_3 68 rfl rfl
theorem tw_549 : (Cond.instanceMethod ({ cls := "java/lang/Throwable", name := "<init>", desc := "(Ljava/lang/String;)V" } : MethodName)) ∈ tb_all := tc_3 69 rfl rfl
theorem tw_550 : (Cond.code ({ cls := "java/lang/Throwable", name := "<init>", desc := "(Ljava/lang/String;)V" } : MethodName) prog_22_method_2_code (2 : Nat) (Option.none : Option Jvm.ClassFile.FieldType)) ∈ tb_all := tc_3 70 rfl rfl
theorem tw_565 : (Cond.methodLink "MailHeads" (122 : Nat) ({ cls := "MailHeads$Words", name := "cut", desc := "(LMailHeads$Texts;ILjava/lang/String;Z)V" } : MethodName)) ∈ tb_all := tc_3 85 rfl rfl
theorem tw_566 : (Cond.instanceMethod ({ cls := "MailHeads$Words", name := "cut", desc := "(LMailHeads$Texts;ILjava/lang/String;Z)V" } : MethodName)) ∈ tb_all := tc_3 86 rfl rfl
theorem tw_567 : (Cond.selects "MailHeads$Words" ({ cls := "MailHeads$Words", name := "cut", desc := "(LMailHeads$Texts;ILjava/lang/String;Z)V" } : MethodName) ({ cls := "MailHeads$Words", name := "cut", desc := "(LMailHeads$Texts;ILjava/lang/String;Z)V" } : MethodName)) ∈ tb_all := tc_3 87 rfl rfl
theorem tw_568 : (Cond.code ({ cls := "MailHeads$Words", name := "cut", desc := "(LMailHeads$Texts;ILjava/lang/String;Z)V" } : MethodName) prog_9_method_4_code (7 : Nat) (Option.none : Option Jvm.ClassFile.FieldType)) ∈ tb_all := tc_3 88 rfl rfl
theorem tw_569 : (Cond.methodLink "MailHeads$Words" (38 : Nat) ({ cls := "MailHeads$Texts", name := "clear", desc := "()V" } : MethodName)) ∈ tb_all := tc_3 89 rfl rfl
theorem tw_570 : (Cond.methodLink "MailHeads$Words" (41 : Nat) ({ cls := "MailHeads$Row", name := "cutTo", desc := "(I)V" } : MethodName)) ∈ tb_all := tc_3 90 rfl rfl
theorem tw_571 : (Cond.methodLink "MailHeads$Words" (45 : Nat) ({ cls := "MailHeads$Texts", name := "sizeOf", desc := "(I)I" } : MethodName)) ∈ tb_all := tc_3 91 rfl rfl
theorem tw_572 : (Cond.methodLink "MailHeads$Words" (49 : Nat) ({ cls := "MailHeads$Words", name := "cutWord", desc := "(IIZ)I" } : MethodName)) ∈ tb_all := tc_3 92 rfl rfl
theorem tw_574 : (Cond.instanceMethod ({ cls := "MailHeads$Words", name := "cutWord", desc := "(IIZ)I" } : MethodName)) ∈ tb_all := tc_3 94 rfl rfl
theorem tw_575 : (Cond.code ({ cls := "MailHeads$Words", name := "cutWord", desc := "(IIZ)I" } : MethodName) prog_9_method_5_code (5 : Nat) (Option.some FieldType.int)) ∈ tb_all := tc_3 95 rfl rfl
theorem tw_576 : (Cond.methodLink "MailHeads$Words" (59 : Nat) ({ cls := "MailHeads$Texts", name := "byteOf", desc := "(II)I" } : MethodName)) ∈ tb_all := tc_3 96 rfl rfl
theorem tw_577 : (Cond.methodLink "MailHeads$Words" (62 : Nat) ({ cls := "MailHeads$Words", name := "isNothing", desc := "(I)Z" } : MethodName)) ∈ tb_all := tc_3 97 rfl rfl
theorem tw_578 : (Cond.static ({ cls := "MailHeads$Words", name := "isNothing", desc := "(I)Z" } : MethodName)) ∈ tb_all := tc_3 98 rfl rfl
theorem tw_579 : (Cond.code ({ cls := "MailHeads$Words", name := "isNothing", desc := "(I)Z" } : MethodName) prog_9_method_12_code (1 : Nat) (Option.some FieldType.boolean)) ∈ tb_all := tc_3 99 rfl rfl
theorem tw_580 : (Cond.methodLink "MailHeads$Words" (66 : Nat) ({ cls := "MailHeads$Words", name := "cutComment", desc := "(IIZ)I" } : MethodName)) ∈ tb_all := tc_3 100 rfl rfl
theorem tw_582 : (Cond.instanceMethod ({ cls := "MailHeads$Words", name := "cutComment", desc := "(IIZ)I" } : MethodName)) ∈ tb_all := tc_3 102 rfl rfl
theorem tw_583 : (Cond.code ({ cls := "MailHeads$Words", name := "cutComment", desc := "(IIZ)I" } : MethodName) prog_9_method_6_code (7 : Nat) (Option.some FieldType.int)) ∈ tb_all := tc_3 103 rfl rfl
theorem tw_584 : (Cond.methodLink "MailHeads$Words" (85 : Nat) ({ cls := "MailHeads$Words", name := "putWithin", desc := "(II)V" } : MethodName)) ∈ tb_all := tc_3 104 rfl rfl
theorem tw_586 : (Cond.instanceMethod ({ cls := "MailHeads$Words", name := "putWithin", desc := "(II)V" } : MethodName)) ∈ tb_all := tc_3 106 rfl rfl
theorem tw_587 : (Cond.code ({ cls := "MailHeads$Words", name := "putWithin", desc := "(II)V" } : MethodName) prog_9_method_9_code (3 : Nat) (Option.none : Option Jvm.ClassFile.FieldType)) ∈ tb_all := tc_3 107 rfl rfl
theorem tw_588 : (Cond.methodLink "MailHeads$Words" (76 : Nat) ({ cls := "MailHeads$Texts", name := "put", desc := "(I)V" } : MethodName)) ∈ tb_all := tc_3 108 rfl rfl
theorem tw_589 : (Cond.methodLink "MailHeads$Words" (79 : Nat) ({ cls := "MailHeads$Words", name := "close", desc := "(I)V" } : MethodName)) ∈ tb_all := tc_3 109 rfl rfl
theorem tw_591 : (Cond.instanceMethod ({ cls := "MailHeads$Words", name := "close", desc := "(I)V" } : MethodName)) ∈ tb_all := tc_3 111 rfl rfl
theorem tw_592 : (Cond.code ({ cls := "MailHeads$Words", name := "close", desc := "(I)V" } : MethodName) prog_9_method_10_code (2 : Nat) (Option.none : Option Jvm.ClassFile.FieldType)) ∈ tb_all := tc_3 112 rfl rfl
theorem tw_593 : (Cond.methodLink "MailHeads$Words" (92 : Nat) ({ cls := "MailHeads$Texts", name := "close", desc := "()V" } : MethodName)) ∈ tb_all := tc_3 113 rfl rfl
theorem tw_594 : (Cond.methodLink "MailHeads$Words" (94 : Nat) ({ cls := "MailHeads$Row", name := "add", desc := "(I)V" } : MethodName)) ∈ tb_all := tc_3 114 rfl rfl
theorem tw_595 : (Cond.methodLink "MailHeads$Words" (89 : Nat) ({ cls := "MailHeads$Texts", name := "dropOpen", desc := "()V" } : MethodName)) ∈ tb_all := tc_3 115 rfl rfl
theorem tw_596 : (Cond.instanceMethod ({ cls := "MailHeads$Texts", name := "dropOpen", desc := "()V" } : MethodName)) ∈ tb_all := tc_3 116 rfl rfl
theorem tw_597 : (Cond.selects "MailHeads$Texts" ({ cls := "MailHeads$Texts", name := "dropOpen", desc := "()V" } : MethodName) ({ cls := "MailHeads$Texts", name := "dropOpen", desc := "()V" } : MethodName)) ∈ tb_all := tc_3 117 rfl rfl
theorem tw_598 : (Cond.code ({ cls := "MailHeads$Texts", name := "dropOpen", desc := "()V" } : MethodName) prog_8_method_9_code (1 : Nat) (Option.none : Option Jvm.ClassFile.FieldType)) ∈ tb_all := tc_3 118 rfl rfl
theorem tw_599 : (Cond.methodLink "MailHeads$Words" (69 : Nat) ({ cls := "MailHeads$Words", name := "cutEnclosed", desc := "(IIII)I" } : MethodName)) ∈ tb_all := tc_3 119 rfl rfl
theorem tw_601 : (Cond.instanceMethod ({ cls := "MailHeads$Words", name := "cutEnclosed", desc := "(IIII)I" } : MethodName)) ∈ tb_all := tc_3 121 rfl rfl
theorem tw_602 : (Cond.code ({ cls := "MailHeads$Words", name := "cutEnclosed", desc := "(IIII)I" } : MethodName) prog_9_method_7_code (7 : Nat) (Option.some FieldType.int)) ∈ tb_all := tc_3 122 rfl rfl
theorem tw_603 : (Cond.methodLink "MailHeads$Words" (73 : Nat) ({ cls := "MailHeads$Words", name := "isSign", desc := "(I)Z" } : MethodName)) ∈ tb_all := tc_3 123 rfl rfl
theorem tw_605 : (Cond.instanceMethod ({ cls := "MailHeads$Words", name := "isSign", desc := "(I)Z" } : MethodName)) ∈ tb_all := tc_3 125 rfl rfl
theorem tw_606 : (Cond.code ({ cls := "MailHeads$Words", name := "isSign", desc := "(I)Z" } : MethodName) prog_9_method_11_code (2 : Nat) (Option.some FieldType.boolean)) ∈ tb_all := tc_3 126 rfl rfl
theorem tw_607 : (Cond.methodLink "MailHeads$Words" (97 : Nat) ({ cls := "java/lang/String", name := "indexOf", desc := "(I)I" } : MethodName)) ∈ tb_all := tc_3 127 rfl rfl
theorem tw_608 : (Cond.instanceMethod ({ cls := "java/lang/String", name := "indexOf", desc := "(I)I" } : MethodName)) ∈ tb_all := tc_3 128 rfl rfl
theorem tw_609 : (Cond.selects "java/lang/String" ({ cls := "java/lang/String", name := "indexOf", desc := "(I)I" } : MethodName) ({ cls := "java/lang/String", name := "indexOf", desc := "(I)I" } : MethodName)) ∈ tb_all := tc_3 129 rfl rfl
theorem tw_610 : (Cond.code ({ cls := "java/lang/String", name := "indexOf", desc := "(I)I" } : MethodName) prog_18_method_79_code (2 : Nat) (Option.some FieldType.int)) ∈ tb_all := tc_3 130 rfl rfl
theorem tw_611 : (Cond.methodLink "java/lang/String" (633 : Nat) ({ cls := "java/lang/String", name := "indexOf", desc := "(II)I" } : MethodName)) ∈ tb_all := tc_3 131 rfl rfl
theorem tw_612 : (Cond.instanceMethod ({ cls := "java/lang/String", name := "indexOf", desc := "(II)I" } : MethodName)) ∈ tb_all := tc_3 132 rfl rfl
theorem tw_613 : (Cond.selects "java/lang/String" ({ cls := "java/lang/String", name := "indexOf", desc := "(II)I" } : MethodName) ({ cls := "java/lang/String", name := "indexOf", desc := "(II)I" } : MethodName)) ∈ tb_all := tc_3 133 rfl rfl
theorem tw_614 : (Cond.code ({ cls := "java/lang/String", name := "indexOf", desc := "(II)I" } : MethodName) prog_18_method_80_code (3 : Nat) (Option.some FieldType.int)) ∈ tb_all := tc_3 134 rfl rfl
theorem tw_615 : (Cond.methodLink "java/lang/String" (492 : Nat) ({ cls := "java/lang/String", name := "isLatin1", desc := "()Z" } : MethodName)) ∈ tb_all := tc_3 135 rfl rfl
theorem tw_616 : (Cond.instanceMethod ({ cls := "java/lang/String", name := "isLatin1", desc := "()Z" } : MethodName)) ∈ tb_all := tc_3 136 rfl rfl
theorem tw_617 : (Cond.selects "java/lang/String" ({ cls := "java/lang/String", name := "isLatin1", desc := "()Z" } : MethodName) ({ cls := "java/lang/String", name := "isLatin1", desc := "()Z" } : MethodName)) ∈ tb_all := tc_3 137 rfl rfl
theorem tw_618 : (Cond.code ({ cls := "java/lang/String", name := "isLatin1", desc := "()Z" } : MethodName) prog_18_method_154_code (1 : Nat) (Option.some FieldType.boolean)) ∈ tb_all := tc_3 138 rfl rfl
theorem tw_621 : (Cond.methodLink "java/lang/String" (505 : Nat) ({ cls := "java/lang/String", name := "length", desc := "()I" } : MethodName)) ∈ tb_all := tc_3 141 rfl rfl
theorem tw_622 : (Cond.instanceMethod ({ cls := "java/lang/String", name := "length", desc := "()I" } : MethodName)) ∈ tb_all := tc_3 142 rfl rfl
theorem tw_623 : (Cond.selects "java/lang/String" ({ cls := "java/lang/String", name := "length", desc := "()I" } : MethodName) ({ cls := "java/lang/String", name := "length", desc := "()I" } : MethodName)) ∈ tb_all := tc_3 143 rfl rfl
theorem tw_624 : (Cond.code ({ cls := "java/lang/String", name := "length", desc := "()I" } : MethodName) prog_18_method_54_code (1 : Nat) (Option.some FieldType.int)) ∈ tb_all := tc_3 144 rfl rfl
theorem tw_625 : (Cond.methodLink "java/lang/String" (335 : Nat) ({ cls := "java/lang/String", name := "coder", desc := "()B" } : MethodName)) ∈ tb_all := tc_3 145 rfl rfl
theorem tw_626 : (Cond.instanceMethod ({ cls := "java/lang/String", name := "coder", desc := "()B" } : MethodName)) ∈ tb_all := tc_3 146 rfl rfl
theorem tw_627 : (Cond.selects "java/lang/String" ({ cls := "java/lang/String", name := "coder", desc := "()B" } : MethodName) ({ cls := "java/lang/String", name := "coder", desc := "()B" } : MethodName)) ∈ tb_all := tc_3 147 rfl rfl
theorem tw_628 : (Cond.code ({ cls := "java/lang/String", name := "coder", desc := "()B" } : MethodName) prog_18_method_152_code (1 : Nat) (Option.some FieldType.byte)) ∈ tb_all := tc_3 148 rfl rfl
theorem tw_629 : (Cond.methodLink "java/lang/String" (637 : Nat) ({ cls := "java/lang/StringLatin1", name := "indexOf", desc := "([BIII)I" } : MethodName)) ∈ tb_all := tc_3 149 rfl rfl
theorem tw_630 : (Cond.static ({ cls := "java/lang/StringLatin1", name := "indexOf", desc := "([BIII)I" } : MethodName)) ∈ tb_all := tc_3 150 rfl rfl
theorem tw_631 : (Cond.code ({ cls := "java/lang/StringLatin1", name := "indexOf", desc := "([BIII)I" } : MethodName) prog_19_method_22_code (4 : Nat) (Option.some FieldType.int)) ∈ tb_all := tc_3 151 rfl rfl
theorem tw_632 : (Cond.methodLink "java/lang/StringLatin1" (88 : Nat) ({ cls := "java/lang/StringLatin1", name := "canEncode", desc := "(I)Z" } : MethodName)) ∈ tb_all := tc_3 152 rfl rfl
theorem tw_633 : (Cond.static ({ cls := "java/lang/StringLatin1", name := "canEncode", desc := "(I)Z" } : MethodName)) ∈ tb_all := tc_3 153 rfl rfl
theorem tw_634 : (Cond.code ({ cls := "java/lang/StringLatin1", name := "canEncode", desc := "(I)Z" } : MethodName) prog_19_method_4_code (1 : Nat) (Option.some FieldType.boolean)) ∈ tb_all := tc_3 154 rfl rfl
theorem tw_635 : (Cond.methodLink "java/lang/StringLatin1" (92 : Nat) ({ cls := "java/lang/Math", name := "max", desc := "(II)I" } : MethodName)) ∈ tb_all := tc_3 155 rfl rfl
theorem tw_636 : (Cond.static ({ cls := "java/lang/Math", name := "max", desc := "(II)I" } : MethodName)) ∈ tb_all := tc_3 156 rfl rfl
theorem tw_637 : (Cond.code ({ cls := "java/lang/Math", name := "max", desc := "(II)I" } : MethodName) prog_16_method_65_code (2 : Nat) (Option.some FieldType.int)) ∈ tb_all := tc_3 157 rfl rfl
theorem tw_638 : (Cond.methodLink "java/lang/StringLatin1" (38 : Nat) ({ cls := "java/lang/Math", name := "min", desc := "(II)I" } : MethodName)) ∈ tb_all := tc_3 158 rfl rfl
theorem tw_639 : (Cond.methodLink "java/lang/StringLatin1" (95 : Nat) ({ cls := "java/lang/StringLatin1", name := "indexOfChar", desc := "([BIII)I" } : MethodName)) ∈ tb_all := tc_3 159 rfl rfl
theorem tw_640 : (Cond.static ({ cls := "java/lang/StringLatin1", name := "indexOfChar", desc := "([BIII)I" } : MethodName)) ∈ tb_all := tc_3 160 rfl rfl
theorem tw_641 : (Cond.code ({ cls := "java/lang/StringLatin1", name := "indexOfChar", desc := "([BIII)I" } : MethodName) prog_19_method_23_code (6 : Nat) (Option.some FieldType.int)) ∈ tb_all := tc_3 161 rfl rfl
theorem tw_642 : (Cond.methodLink "java/lang/String" (640 : Nat) ({ cls := "java/lang/StringUTF16", name := "indexOf", desc := "([BIII)I" } : MethodName)) ∈ tb_all := tc_3 162 rfl rfl
theorem tw_643 : (Cond.static ({ cls := "java/lang/StringUTF16", name := "indexOf", desc := "([BIII)I" } : MethodName)) ∈ tb_all := tc_3 163 rfl rfl
theorem tw_644 : (Cond.code ({ cls := "java/lang/StringUTF16", name := "indexOf", desc := "([BIII)I" } : MethodName) prog_20_method_40_code (4 : Nat) (Option.some FieldType.int)) ∈ tb_all := tc_3 164 rfl rfl
theorem tw_645 : (Cond.methodLink "java/lang/StringUTF16" (224 : Nat) ({ cls := "java/lang/Math", name := "max", desc := "(II)I" } : MethodName)) ∈ tb_all := tc_3 165 rfl rfl
theorem tw_646 : (Cond.methodLink "java/lang/StringUTF16" (183 : Nat) ({ cls := "java/lang/Math", name := "min", desc := "(II)I" } : MethodName)) ∈ tb_all := tc_3 166 rfl rfl
theorem tw_648 : (Cond.methodLink "java/lang/StringUTF16" (228 : Nat) ({ cls := "java/lang/StringUTF16", name := "indexOfChar", desc := "([BIII)I" } : MethodName)) ∈ tb_all := tc_3 168 rfl rfl
theorem tw_649 : (Cond.static ({ cls := "java/lang/StringUTF16", name := "indexOfChar", desc := "([BIII)I" } : MethodName)) ∈ tb_all := tc_3 169 rfl rfl
theorem tw_650 : (Cond.code ({ cls := "java/lang/StringUTF16", name := "indexOfChar", desc := "([BIII)I" } : MethodName) prog_20_method_47_code (4 : Nat) (Option.some FieldType.int)) ∈ tb_all := tc_3 170 rfl rfl
theorem tw_651 : (Cond.methodLink "java/lang/StringUTF16" (96 : Nat) ({ cls := "java/lang/StringUTF16", name := "checkBoundsBeginEnd", desc := "(II[B)V" } : MethodName)) ∈ tb_all := tc_3 171 rfl rfl
theorem tw_652 : (Cond.static ({ cls := "java/lang/StringUTF16", name := "checkBoundsBeginEnd", desc := "(II[B)V" } : MethodName)) ∈ tb_all := tc_3 172 rfl rfl
theorem tw_653 : (Cond.code ({ cls := "java/lang/StringUTF16", name := "checkBoundsBeginEnd", desc := "(II[B)V" } : MethodName) prog_20_method_93_code (3 : Nat) (Option.none : Option Jvm.ClassFile.FieldType)) ∈ tb_all := tc_3 173 rfl rfl
theorem tw_654 : (Cond.methodLink "java/lang/StringUTF16" (48 : Nat) ({ cls := "java/lang/StringUTF16", name := "length", desc := "([B)I" } : MethodName)) ∈ tb_all := tc_3 174 rfl rfl
theorem tw_655 : (Cond.static ({ cls := "java/lang/StringUTF16", name := "length", desc := "([B)I" } : MethodName)) ∈ tb_all := tc_3 175 rfl rfl
theorem tw_656 : (Cond.code ({ cls := "java/lang/StringUTF16", name := "length", desc := "([B)I" } : MethodName) prog_20_method_6_code (1 : Nat) (Option.some FieldType.int)) ∈ tb_all := tc_3 176 rfl rfl
theorem tw_657 : (Cond.methodLink "java/lang/StringUTF16" (241 : Nat) ({ cls := "java/lang/String", name := "checkBoundsBeginEnd", desc := "(III)V" } : MethodName)) ∈ tb_all := tc_3 177 rfl rfl
theorem tw_658 : (Cond.static ({ cls := "java/lang/String", name := "checkBoundsBeginEnd", desc := "(III)V" } : MethodName)) ∈ tb_all := tc_3 178 rfl rfl
theorem tw_659 : (Cond.code ({ cls := "java/lang/String", name := "checkBoundsBeginEnd", desc := "(III)V" } : MethodName) prog_18_method_158_code (3 : Nat) (Option.none : Option Jvm.ClassFile.FieldType)) ∈ tb_all := tc_3 179 rfl rfl
theorem tw_662 : (Cond.methodLink "java/lang/String" (1062 : Nat) ({ cls := "jdk/internal/util/Preconditions", name := "checkFromToIndex", desc := "(IIILjava/util/function/BiFunction;)I" } : MethodName)) ∈ tb_all := tc_3 182 rfl rfl
theorem tw_663 : (Cond.static ({ cls := "jdk/internal/util/Preconditions", name := "checkFromToIndex", desc := "(IIILjava/util/function/BiFunction;)I" } : MethodName)) ∈ tb_all := tc_3 183 rfl rfl
theorem tw_664 : (Cond.code ({ cls := "jdk/internal/util/Preconditions", name := "checkFromToIndex", desc := "(IIILjava/util/function/BiFunction;)I" } : MethodName) prog_24_method_12_code (4 : Nat) (Option.some FieldType.int)) ∈ tb_all := tc_3 184 rfl rfl
theorem tw_665 : (Cond.methodLink "java/lang/StringUTF16" (244 : Nat) ({ cls := "java/lang/StringUTF16", name := "indexOfCharUnsafe", desc := "([BIII)I" } : MethodName)) ∈ tb_all := tc_3 185 rfl rfl
theorem tw_666 : (Cond.static ({ cls := "java/lang/StringUTF16", name := "indexOfCharUnsafe", desc := "([BIII)I" } : MethodName)) ∈ tb_all := tc_3 186 rfl rfl
theorem tw_667 : (Cond.code ({ cls := "java/lang/StringUTF16", name := "indexOfCharUnsafe", desc := "([BIII)I" } : MethodName) prog_20_method_48_code (5 : Nat) (Option.some FieldType.int)) ∈ tb_all := tc_3 187 rfl rfl
theorem tw_668 : (Cond.methodLink "java/lang/StringUTF16" (71 : Nat) ({ cls := "java/lang/StringUTF16", name := "getChar", desc := "([BI)C" } : MethodName)) ∈ tb_all := tc_3 188 rfl rfl
theorem tw_669 : (Cond.static ({ cls := "java/lang/StringUTF16", name := "getChar", desc := "([BI)C" } : MethodName)) ∈ tb_all := tc_3 189 rfl rfl
theorem tw_670 : (Cond.code ({ cls := "java/lang/StringUTF16", name := "getChar", desc := "([BI)C" } : MethodName) prog_20_method_5_code (2 : Nat) (Option.some FieldType.char)) ∈ tb_all := tc_3 190 rfl rfl
theorem tw_677 : (Cond.methodLink "java/lang/StringUTF16" (232 : Nat) ({ cls := "java/lang/StringUTF16", name := "indexOfSupplementary", desc := "([BIII)I" } : MethodName)) ∈ tb_all := tc_3 197 rfl rfl
theorem tw_678 : (Cond.static ({ cls := "java/lang/StringUTF16", name := "indexOfSupplementary", desc := "([BIII)I" } : MethodName)) ∈ tb_all := tc_3 198 rfl rfl
theorem tw_679 : (Cond.code ({ cls := "java/lang/StringUTF16", name := "indexOfSupplementary", desc := "([BIII)I" } : MethodName) prog_20_method_49_code (7 : Nat) (Option.some FieldType.int)) ∈ tb_all := tc_3 199 rfl rfl
theorem tw_680 : (Cond.methodLink "java/lang/StringUTF16" (164 : Nat) ({ cls := "java/lang/Character", name := "isValidCodePoint", desc := "(I)Z" } : MethodName)) ∈ tb_all := tc_3 200 rfl rfl
theorem tw_681 : (Cond.static ({ cls := "java/lang/Character", name := "isValidCodePoint", desc := "(I)Z" } : MethodName)) ∈ tb_all := tc_3 201 rfl rfl
theorem tw_682 : (Cond.code ({ cls := "java/lang/Character", name := "isValidCodePoint", desc := "(I)Z" } : MethodName) prog_12_method_11_code (2 : Nat) (Option.some FieldType.boolean)) ∈ tb_all := tc_3 202 rfl rfl
theorem tw_683 : (Cond.methodLink "java/lang/StringUTF16" (157 : Nat) ({ cls := "java/lang/Character", name := "highSurrogate", desc := "(I)C" } : MethodName)) ∈ tb_all := tc_3 203 rfl rfl
theorem tw_684 : (Cond.static ({ cls := "java/lang/Character", name := "highSurrogate", desc := "(I)C" } : MethodName)) ∈ tb_all := tc_3 204 rfl rfl
theorem tw_685 : (Cond.code ({ cls := "java/lang/Character", name := "highSurrogate", desc := "(I)C" } : MethodName) prog_12_method_28_code (1 : Nat) (Option.some FieldType.char)) ∈ tb_all := tc_3 205 rfl rfl
theorem tw_687 : (Cond.methodLink "java/lang/StringUTF16" (161 : Nat) ({ cls := "java/lang/Character", name := "lowSurrogate", desc := "(I)C" } : MethodName)) ∈ tb_all := tc_3 207 rfl rfl
theorem tw_688 : (Cond.static ({ cls := "java/lang/Character", name := "lowSurrogate", desc := "(I)C" } : MethodName)) ∈ tb_all := tc_3 208 rfl rfl
theorem tw_689 : (Cond.code ({ cls := "java/lang/Character", name := "lowSurrogate", desc := "(I)C" } : MethodName) prog_12_method_29_code (1 : Nat) (Option.some FieldType.char)) ∈ tb_all := tc_3 209 rfl rfl
theorem tw_691 : (Cond.methodLink "MailHeads$Words" (82 : Nat) ({ cls := "MailHeads$Words", name := "cutAtom", desc := "(II)I" } : MethodName)) ∈ tb_all := tc_3 211 rfl rfl
theorem tw_693 : (Cond.instanceMethod ({ cls := "MailHeads$Words", name := "cutAtom", desc := "(II)I" } : MethodName)) ∈ tb_all := tc_3 213 rfl rfl
theorem tw_694 : (Cond.code ({ cls := "MailHeads$Words", name := "cutAtom", desc := "(II)I" } : MethodName) prog_9_method_8_code (5 : Nat) (Option.some FieldType.int)) ∈ tb_all := tc_3 214 rfl rfl
theorem tw_695 : (Cond.methodLink "MailHeads$Words" (53 : Nat) ({ cls := "java/lang/Math", name := "max", desc := "(II)I" } : MethodName)) ∈ tb_all := tc_3 215 rfl rfl
theorem tw_696 : (Cond.methodLink "MailHeads" (126 : Nat) ({ cls := "MailHeads$Addresses", name := "readWords", desc := "()V" } : MethodName)) ∈ tb_all := tc_3 216 rfl rfl
theorem tw_697 : (Cond.instanceMethod ({ cls := "MailHeads$Addresses", name := "readWords", desc := "()V" } : MethodName)) ∈ tb_all := tc_3 217 rfl rfl
theorem tw_698 : (Cond.selects "MailHeads$Addresses" ({ cls := "MailHeads$Addresses", name := "readWords", desc := "()V" } : MethodName) ({ cls := "MailHeads$Addresses", name := "readWords", desc := "()V" } : MethodName)) ∈ tb_all := tc_3 218 rfl rfl
theorem tw_699 : (Cond.code ({ cls := "MailHeads$Addresses", name := "readWords", desc := "()V" } : MethodName) prog_2_method_8_code (4 : Nat) (Option.none : Option Jvm.ClassFile.FieldType)) ∈ tb_all := tc_3 219 rfl rfl
theorem tw_700 : (Cond.methodLink "MailHeads$Addresses" (56 : Nat) ({ cls := "MailHeads$Texts", name := "clear", desc := "()V" } : MethodName)) ∈ tb_all := tc_3 220 rfl rfl
theorem tw_701 : (Cond.methodLink "MailHeads$Addresses" (59 : Nat) ({ cls := "MailHeads$Row", name := "cutTo", desc := "(I)V" } : MethodName)) ∈ tb_all := tc_3 221 rfl rfl
theorem tw_702 : (Cond.methodLink "MailHeads$Addresses" (63 : Nat) ({ cls := "MailHeads$Addresses", name := "beginGathering", desc := "()V" } : MethodName)) ∈ tb_all := tc_3 222 rfl rfl
theorem tw_704 : (Cond.instanceMethod ({ cls := "MailHeads$Addresses", name := "beginGathering", desc := "()V" } : MethodName)) ∈ tb_all := tc_3 224 rfl rfl
theorem tw_705 : (Cond.code ({ cls := "MailHeads$Addresses", name := "beginGathering", desc := "()V" } : MethodName) prog_2_method_9_code (1 : Nat) (Option.none : Option Jvm.ClassFile.FieldType)) ∈ tb_all := tc_3 225 rfl rfl
theorem tw_706 : (Cond.methodLink "MailHeads$Addresses" (66 : Nat) ({ cls := "MailHeads$Words", name := "kinds", desc := "()LMailHeads$Row;" } : MethodName)) ∈ tb_all := tc_3 226 rfl rfl
theorem tw_707 : (Cond.instanceMethod ({ cls := "MailHeads$Words", name := "kinds", desc := "()LMailHeads$Row;" } : MethodName)) ∈ tb_all := tc_3 227 rfl rfl
theorem tw_708 : (Cond.selects "MailHeads$Words" ({ cls := "MailHeads$Words", name := "kinds", desc := "()LMailHeads$Row;" } : MethodName) ({ cls := "MailHeads$Words", name := "kinds", desc := "()LMailHeads$Row;" } : MethodName)) ∈ tb_all := tc_3 228 rfl rfl
theorem tw_709 : (Cond.code ({ cls := "MailHeads$Words", name := "kinds", desc := "()LMailHeads$Row;" } : MethodName) prog_9_method_3_code (1 : Nat) (Option.some (FieldType.object "MailHeads$Row"))) ∈ tb_all := tc_3 229 rfl rfl
theorem tw_710 : (Cond.methodLink "MailHeads$Addresses" (72 : Nat) ({ cls := "MailHeads$Addresses", name := "takeGathered", desc := "(I)V" } : MethodName)) ∈ tb_all := tc_3 230 rfl rfl
theorem tw_712 : (Cond.instanceMethod ({ cls := "MailHeads$Addresses", name := "takeGathered", desc := "(I)V" } : MethodName)) ∈ tb_all := tc_3 232 rfl rfl
theorem tw_713 : (Cond.code ({ cls := "MailHeads$Addresses", name := "takeGathered", desc := "(I)V" } : MethodName) prog_2_method_10_code (2 : Nat) (Option.none : Option Jvm.ClassFile.FieldType)) ∈ tb_all := tc_3 233 rfl rfl
theorem tw_714 : (Cond.methodLink "MailHeads$Addresses" (78 : Nat) ({ cls := "MailHeads$Addresses", name := "takeColon", desc := "()V" } : MethodName)) ∈ tb_all := tc_3 234 rfl rfl
theorem tw_716 : (Cond.instanceMethod ({ cls := "MailHeads$Addresses", name := "takeColon", desc := "()V" } : MethodName)) ∈ tb_all := tc_3 236 rfl rfl
theorem tw_717 : (Cond.code ({ cls := "MailHeads$Addresses", name := "takeColon", desc := "()V" } : MethodName) prog_2_method_11_code (1 : Nat) (Option.none : Option Jvm.ClassFile.FieldType)) ∈ tb_all := tc_3 237 rfl rfl
theorem tw_718 : (Cond.methodLink "MailHeads$Addresses" (85 : Nat) ({ cls := "MailHeads$Texts", name := "count", desc := "()I" } : MethodName)) ∈ tb_all := tc_3 238 rfl rfl
theorem tw_719 : (Cond.methodLink "MailHeads$Addresses" (86 : Nat) ({ cls := "MailHeads$Addresses", name := "isName", desc := "(I)Z" } : MethodName)) ∈ tb_all := tc_3 239 rfl rfl
theorem tw_721 : (Cond.instanceMethod ({ cls := "MailHeads$Addresses", name := "isName", desc := "(I)Z" } : MethodName)) ∈ tb_all := tc_4 1 rfl rfl
theorem tw_722 : (Cond.code ({ cls := "MailHeads$Addresses", name := "isName", desc := "(I)Z" } : MethodName) prog_2_method_15_code (4 : Nat) (Option.some FieldType.boolean)) ∈ tb_all := tc_4 2 rfl rfl
theorem tw_723 : (Cond.methodLink "MailHeads$Addresses" (100 : Nat) ({ cls := "MailHeads$Addresses", name := "kindAt", desc := "(I)I" } : MethodName)) ∈ tb_all := tc_4 3 rfl rfl
theorem tw_725 : (Cond.instanceMethod ({ cls := "MailHeads$Addresses", name := "kindAt", desc := "(I)I" } : MethodName)) ∈ tb_all := tc_4 5 rfl rfl
theorem tw_726 : (Cond.code ({ cls := "MailHeads$Addresses", name := "kindAt", desc := "(I)I" } : MethodName) prog_2_method_13_code (2 : Nat) (Option.some FieldType.int)) ∈ tb_all := tc_4 6 rfl rfl
theorem tw_727 : (Cond.methodLink "MailHeads$Addresses" (90 : Nat) ({ cls := "MailHeads$Addresses", name := "putName", desc := "(LMailHeads$Texts;I)V" } : MethodName)) ∈ tb_all := tc_4 7 rfl rfl
theorem tw_729 : (Cond.instanceMethod ({ cls := "MailHeads$Addresses", name := "putName", desc := "(LMailHeads$Texts;I)V" } : MethodName)) ∈ tb_all := tc_4 9 rfl rfl
theorem tw_730 : (Cond.code ({ cls := "MailHeads$Addresses", name := "putName", desc := "(LMailHeads$Texts;I)V" } : MethodName) prog_2_method_19_code (4 : Nat) (Option.none : Option Jvm.ClassFile.FieldType)) ∈ tb_all := tc_4 10 rfl rfl
theorem tw_731 : (Cond.methodLink "MailHeads$Addresses" (125 : Nat) ({ cls := "MailHeads$Texts", name := "put", desc := "(I)V" } : MethodName)) ∈ tb_all := tc_4 11 rfl rfl
theorem tw_732 : (Cond.methodLink "MailHeads$Addresses" (115 : Nat) ({ cls := "MailHeads$Words", name := "texts", desc := "()LMailHeads$Texts;" } : MethodName)) ∈ tb_all := tc_4 12 rfl rfl
theorem tw_733 : (Cond.instanceMethod ({ cls := "MailHeads$Words", name := "texts", desc := "()LMailHeads$Texts;" } : MethodName)) ∈ tb_all := tc_4 13 rfl rfl
theorem tw_734 : (Cond.selects "MailHeads$Words" ({ cls := "MailHeads$Words", name := "texts", desc := "()LMailHeads$Texts;" } : MethodName) ({ cls := "MailHeads$Words", name := "texts", desc := "()LMailHeads$Texts;" } : MethodName)) ∈ tb_all := tc_4 14 rfl rfl
theorem tw_735 : (Cond.code ({ cls := "MailHeads$Words", name := "texts", desc := "()LMailHeads$Texts;" } : MethodName) prog_9_method_2_code (1 : Nat) (Option.some (FieldType.object "MailHeads$Texts"))) ∈ tb_all := tc_4 15 rfl rfl
theorem tw_736 : (Cond.methodLink "MailHeads$Addresses" (118 : Nat) ({ cls := "MailHeads$Texts", name := "putText", desc := "(LMailHeads$Texts;I)V" } : MethodName)) ∈ tb_all := tc_4 16 rfl rfl
theorem tw_737 : (Cond.instanceMethod ({ cls := "MailHeads$Texts", name := "putText", desc := "(LMailHeads$Texts;I)V" } : MethodName)) ∈ tb_all := tc_4 17 rfl rfl
theorem tw_738 : (Cond.selects "MailHeads$Texts" ({ cls := "MailHeads$Texts", name := "putText", desc := "(LMailHeads$Texts;I)V" } : MethodName) ({ cls := "MailHeads$Texts", name := "putText", desc := "(LMailHeads$Texts;I)V" } : MethodName)) ∈ tb_all := tc_4 18 rfl rfl
theorem tw_739 : (Cond.code ({ cls := "MailHeads$Texts", name := "putText", desc := "(LMailHeads$Texts;I)V" } : MethodName) prog_8_method_6_code (6 : Nat) (Option.none : Option Jvm.ClassFile.FieldType)) ∈ tb_all := tc_4 19 rfl rfl
theorem tw_740 : (Cond.methodLink "MailHeads$Addresses" (94 : Nat) ({ cls := "MailHeads$Texts", name := "close", desc := "()V" } : MethodName)) ∈ tb_all := tc_4 20 rfl rfl
theorem tw_741 : (Cond.methodLink "MailHeads$Addresses" (81 : Nat) ({ cls := "MailHeads$Addresses", name := "takeMailbox", desc := "()Z" } : MethodName)) ∈ tb_all := tc_4 21 rfl rfl
theorem tw_743 : (Cond.instanceMethod ({ cls := "MailHeads$Addresses", name := "takeMailbox", desc := "()Z" } : MethodName)) ∈ tb_all := tc_4 23 rfl rfl
theorem tw_744 : (Cond.code ({ cls := "MailHeads$Addresses", name := "takeMailbox", desc := "()Z" } : MethodName) prog_2_method_12_code (5 : Nat) (Option.some FieldType.boolean)) ∈ tb_all := tc_4 24 rfl rfl
theorem tw_745 : (Cond.methodLink "MailHeads$Addresses" (97 : Nat) ({ cls := "MailHeads$Addresses", name := "firstOpen", desc := "()I" } : MethodName)) ∈ tb_all := tc_4 25 rfl rfl
theorem tw_747 : (Cond.instanceMethod ({ cls := "MailHeads$Addresses", name := "firstOpen", desc := "()I" } : MethodName)) ∈ tb_all := tc_4 27 rfl rfl
theorem tw_748 : (Cond.code ({ cls := "MailHeads$Addresses", name := "firstOpen", desc := "()I" } : MethodName) prog_2_method_14_code (2 : Nat) (Option.some FieldType.int)) ∈ tb_all := tc_4 28 rfl rfl
theorem tw_749 : (Cond.methodLink "MailHeads$Addresses" (103 : Nat) ({ cls := "MailHeads$Addresses", name := "behindRoute", desc := "(II)I" } : MethodName)) ∈ tb_all := tc_4 29 rfl rfl
theorem tw_751 : (Cond.instanceMethod ({ cls := "MailHeads$Addresses", name := "behindRoute", desc := "(II)I" } : MethodName)) ∈ tb_all := tc_4 31 rfl rfl
theorem tw_752 : (Cond.code ({ cls := "MailHeads$Addresses", name := "behindRoute", desc := "(II)I" } : MethodName) prog_2_method_16_code (5 : Nat) (Option.some FieldType.int)) ∈ tb_all := tc_4 32 rfl rfl
theorem tw_753 : (Cond.methodLink "MailHeads$Addresses" (107 : Nat) ({ cls := "MailHeads$Addresses", name := "dottedEnd", desc := "(IIZ)I" } : MethodName)) ∈ tb_all := tc_4 33 rfl rfl
theorem tw_755 : (Cond.instanceMethod ({ cls := "MailHeads$Addresses", name := "dottedEnd", desc := "(IIZ)I" } : MethodName)) ∈ tb_all := tc_4 35 rfl rfl
theorem tw_756 : (Cond.code ({ cls := "MailHeads$Addresses", name := "dottedEnd", desc := "(IIZ)I" } : MethodName) prog_2_method_17_code (6 : Nat) (Option.some FieldType.int)) ∈ tb_all := tc_4 36 rfl rfl
theorem tw_757 : (Cond.methodLink "MailHeads$Addresses" (111 : Nat) ({ cls := "MailHeads$Addresses", name := "isDomainBehind", desc := "(II)Z" } : MethodName)) ∈ tb_all := tc_4 37 rfl rfl
theorem tw_759 : (Cond.instanceMethod ({ cls := "MailHeads$Addresses", name := "isDomainBehind", desc := "(II)Z" } : MethodName)) ∈ tb_all := tc_4 39 rfl rfl
theorem tw_760 : (Cond.code ({ cls := "MailHeads$Addresses", name := "isDomainBehind", desc := "(II)Z" } : MethodName) prog_2_method_18_code (4 : Nat) (Option.some FieldType.boolean)) ∈ tb_all := tc_4 40 rfl rfl
theorem tw_761 : (Cond.methodLink "MailHeads$Addresses" (121 : Nat) ({ cls := "MailHeads$Addresses", name := "putWords", desc := "(II)V" } : MethodName)) ∈ tb_all := tc_4 41 rfl rfl
theorem tw_763 : (Cond.instanceMethod ({ cls := "MailHeads$Addresses", name := "putWords", desc := "(II)V" } : MethodName)) ∈ tb_all := tc_4 43 rfl rfl
theorem tw_764 : (Cond.code ({ cls := "MailHeads$Addresses", name := "putWords", desc := "(II)V" } : MethodName) prog_2_method_20_code (5 : Nat) (Option.none : Option Jvm.ClassFile.FieldType)) ∈ tb_all := tc_4 44 rfl rfl
theorem tw_765 : (Cond.methodLink "MailHeads$Addresses" (75 : Nat) ({ cls := "MailHeads$Row", name := "add", desc := "(I)V" } : MethodName)) ∈ tb_all := tc_4 45 rfl rfl
theorem tw_766 : (Cond.methodLink "MailHeads" (129 : Nat) ({ cls := "MailHeads$Addresses", name := "count", desc := "()I" } : MethodName)) ∈ tb_all := tc_4 46 rfl rfl
theorem tw_774 : (Cond.methodLink "MailHeads" (130 : Nat) ({ cls := "MailHeads$Identities", name := "readBytes", desc := "(LMailHeads$Texts;I)V" } : MethodName)) ∈ tb_all := tc_4 54 rfl rfl
theorem tw_775 : (Cond.instanceMethod ({ cls := "MailHeads$Identities", name := "readBytes", desc := "(LMailHeads$Texts;I)V" } : MethodName)) ∈ tb_all := tc_4 55 rfl rfl
theorem tw_776 : (Cond.selects "MailHeads$Identities" ({ cls := "MailHeads$Identities", name := "readBytes", desc := "(LMailHeads$Texts;I)V" } : MethodName) ({ cls := "MailHeads$Identities", name := "readBytes", desc := "(LMailHeads$Texts;I)V" } : MethodName)) ∈ tb_all := tc_4 56 rfl rfl
theorem tw_777 : (Cond.code ({ cls := "MailHeads$Identities", name := "readBytes", desc := "(LMailHeads$Texts;I)V" } : MethodName) prog_6_method_3_code (7 : Nat) (Option.none : Option Jvm.ClassFile.FieldType)) ∈ tb_all := tc_4 57 rfl rfl
theorem tw_778 : (Cond.methodLink "MailHeads$Identities" (18 : Nat) ({ cls := "MailHeads$Texts", name := "clear", desc := "()V" } : MethodName)) ∈ tb_all := tc_4 58 rfl rfl
theorem tw_779 : (Cond.methodLink "MailHeads$Identities" (21 : Nat) ({ cls := "MailHeads$Texts", name := "sizeOf", desc := "(I)I" } : MethodName)) ∈ tb_all := tc_4 59 rfl rfl
theorem tw_780 : (Cond.methodLink "MailHeads$Identities" (25 : Nat) ({ cls := "MailHeads$Texts", name := "byteOf", desc := "(II)I" } : MethodName)) ∈ tb_all := tc_4 60 rfl rfl
theorem tw_781 : (Cond.methodLink "MailHeads$Identities" (29 : Nat) ({ cls := "MailHeads$Identities", name := "takeBetween", desc := "(LMailHeads$Texts;III)V" } : MethodName)) ∈ tb_all := tc_4 61 rfl rfl
theorem tw_783 : (Cond.instanceMethod ({ cls := "MailHeads$Identities", name := "takeBetween", desc := "(LMailHeads$Texts;III)V" } : MethodName)) ∈ tb_all := tc_4 63 rfl rfl
theorem tw_784 : (Cond.code ({ cls := "MailHeads$Identities", name := "takeBetween", desc := "(LMailHeads$Texts;III)V" } : MethodName) prog_6_method_4_code (7 : Nat) (Option.none : Option Jvm.ClassFile.FieldType)) ∈ tb_all := tc_4 64 rfl rfl
theorem tw_786 : (Cond.methodLink "MailHeads$Identities" (37 : Nat) ({ cls := "MailHeads$Texts", name := "dropOpen", desc := "()V" } : MethodName)) ∈ tb_all := tc_4 66 rfl rfl
theorem tw_787 : (Cond.methodLink "MailHeads$Identities" (40 : Nat) ({ cls := "MailHeads$Texts", name := "put", desc := "(I)V" } : MethodName)) ∈ tb_all := tc_4 67 rfl rfl
theorem tw_788 : (Cond.methodLink "MailHeads$Identities" (44 : Nat) ({ cls := "MailHeads$Texts", name := "close", desc := "()V" } : MethodName)) ∈ tb_all := tc_4 68 rfl rfl
theorem tw_796 : (Cond.methodLink "MailHeads" (136 : Nat) ({ cls := "MailHeads$DateReader", name := "seconds", desc := "()J" } : MethodName)) ∈ tb_all := tc_4 76 rfl rfl
theorem tw_797 : (Cond.instanceMethod ({ cls := "MailHeads$DateReader", name := "seconds", desc := "()J" } : MethodName)) ∈ tb_all := tc_4 77 rfl rfl
theorem tw_798 : (Cond.selects "MailHeads$DateReader" ({ cls := "MailHeads$DateReader", name := "seconds", desc := "()J" } : MethodName) ({ cls := "MailHeads$DateReader", name := "seconds", desc := "()J" } : MethodName)) ∈ tb_all := tc_4 78 rfl rfl
theorem tw_799 : (Cond.code ({ cls := "MailHeads$DateReader", name := "seconds", desc := "()J" } : MethodName) prog_4_method_2_code (12 : Nat) (Option.some FieldType.long)) ∈ tb_all := tc_4 79 rfl rfl
theorem tw_800 : (Cond.methodLink "MailHeads$DateReader" (21 : Nat) ({ cls := "MailHeads$Words", name := "kinds", desc := "()LMailHeads$Row;" } : MethodName)) ∈ tb_all := tc_4 80 rfl rfl
theorem tw_801 : (Cond.methodLink "MailHeads$DateReader" (27 : Nat) ({ cls := "MailHeads$Row", name := "get", desc := "(I)I" } : MethodName)) ∈ tb_all := tc_4 81 rfl rfl
theorem tw_802 : (Cond.methodLink "MailHeads$DateReader" (33 : Nat) ({ cls := "MailHeads$DateReader", name := "takeNumber", desc := "(II)I" } : MethodName)) ∈ tb_all := tc_4 82 rfl rfl
theorem tw_804 : (Cond.instanceMethod ({ cls := "MailHeads$DateReader", name := "takeNumber", desc := "(II)I" } : MethodName)) ∈ tb_all := tc_4 84 rfl rfl
theorem tw_805 : (Cond.code ({ cls := "MailHeads$DateReader", name := "takeNumber", desc := "(II)I" } : MethodName) prog_4_method_3_code (5 : Nat) (Option.some FieldType.int)) ∈ tb_all := tc_4 85 rfl rfl
theorem tw_806 : (Cond.methodLink "MailHeads$DateReader" (69 : Nat) ({ cls := "MailHeads$Words", name := "texts", desc := "()LMailHeads$Texts;" } : MethodName)) ∈ tb_all := tc_4 86 rfl rfl
theorem tw_807 : (Cond.methodLink "MailHeads$DateReader" (73 : Nat) ({ cls := "MailHeads$Texts", name := "sizeOf", desc := "(I)I" } : MethodName)) ∈ tb_all := tc_4 87 rfl rfl
theorem tw_808 : (Cond.methodLink "MailHeads$DateReader" (78 : Nat) ({ cls := "MailHeads$DateReader", name := "digits", desc := "(II)I" } : MethodName)) ∈ tb_all := tc_4 88 rfl rfl
theorem tw_810 : (Cond.instanceMethod ({ cls := "MailHeads$DateReader", name := "digits", desc := "(II)I" } : MethodName)) ∈ tb_all := tc_4 90 rfl rfl
theorem tw_811 : (Cond.code ({ cls := "MailHeads$DateReader", name := "digits", desc := "(II)I" } : MethodName) prog_4_method_7_code (6 : Nat) (Option.some FieldType.int)) ∈ tb_all := tc_4 91 rfl rfl
theorem tw_812 : (Cond.methodLink "MailHeads$DateReader" (87 : Nat) ({ cls := "MailHeads$Texts", name := "byteOf", desc := "(II)I" } : MethodName)) ∈ tb_all := tc_4 92 rfl rfl
theorem tw_814 : (Cond.methodLink "MailHeads$DateReader" (37 : Nat) ({ cls := "MailHeads$DateReader", name := "takeMonth", desc := "()I" } : MethodName)) ∈ tb_all := tc_4 94 rfl rfl
theorem tw_816 : (Cond.instanceMethod ({ cls := "MailHeads$DateReader", name := "takeMonth", desc := "()I" } : MethodName)) ∈ tb_all := tc_4 96 rfl rfl
theorem tw_817 : (Cond.code ({ cls := "MailHeads$DateReader", name := "takeMonth", desc := "()I" } : MethodName) prog_4_method_4_code (2 : Nat) (Option.some FieldType.int)) ∈ tb_all := tc_4 97 rfl rfl
theorem tw_819 : (Cond.methodLink "MailHeads$DateReader" (83 : Nat) ({ cls := "MailHeads$DateReader", name := "threeLetters", desc := "(Ljava/lang/String;)I" } : MethodName)) ∈ tb_all := tc_4 99 rfl rfl
theorem tw_821 : (Cond.instanceMethod ({ cls := "MailHeads$DateReader", name := "threeLetters", desc := "(Ljava/lang/String;)I" } : MethodName)) ∈ tb_all := tc_4 101 rfl rfl
theorem tw_822 : (Cond.code ({ cls := "MailHeads$DateReader", name := "threeLetters", desc := "(Ljava/lang/String;)I" } : MethodName) prog_4_method_8_code (3 : Nat) (Option.some FieldType.int)) ∈ tb_all := tc_4 102 rfl rfl
theorem tw_823 : (Cond.methodLink "MailHeads$DateReader" (93 : Nat) ({ cls := "java/lang/String", name := "length", desc := "()I" } : MethodName)) ∈ tb_all := tc_4 103 rfl rfl
theorem tw_824 : (Cond.methodLink "MailHeads$DateReader" (98 : Nat) ({ cls := "java/lang/String", name := "charAt", desc := "(I)C" } : MethodName)) ∈ tb_all := tc_4 104 rfl rfl
theorem tw_825 : (Cond.instanceMethod ({ cls := "java/lang/String", name := "charAt", desc := "(I)C" } : MethodName)) ∈ tb_all := tc_4 105 rfl rfl
theorem tw_826 : (Cond.selects "java/lang/String" ({ cls := "java/lang/String", name := "charAt", desc := "(I)C" } : MethodName) ({ cls := "java/lang/String", name := "charAt", desc := "(I)C" } : MethodName)) ∈ tb_all := tc_4 106 rfl rfl
theorem tw_827 : (Cond.code ({ cls := "java/lang/String", name := "charAt", desc := "(I)C" } : MethodName) prog_18_method_56_code (2 : Nat) (Option.some FieldType.char)) ∈ tb_all := tc_4 107 rfl rfl
theorem tw_828 : (Cond.methodLink "java/lang/String" (495 : Nat) ({ cls := "java/lang/StringLatin1", name := "charAt", desc := "([BI)C" } : MethodName)) ∈ tb_all := tc_4 108 rfl rfl
theorem tw_829 : (Cond.static ({ cls := "java/lang/StringLatin1", name := "charAt", desc := "([BI)C" } : MethodName)) ∈ tb_all := tc_4 109 rfl rfl
theorem tw_830 : (Cond.code ({ cls := "java/lang/StringLatin1", name := "charAt", desc := "([BI)C" } : MethodName) prog_19_method_2_code (2 : Nat) (Option.some FieldType.char)) ∈ tb_all := tc_4 110 rfl rfl
theorem tw_831 : (Cond.methodLink "java/lang/StringLatin1" (9 : Nat) ({ cls := "java/lang/String", name := "checkIndex", desc := "(II)V" } : MethodName)) ∈ tb_all := tc_4 111 rfl rfl
theorem tw_832 : (Cond.static ({ cls := "java/lang/String", name := "checkIndex", desc := "(II)V" } : MethodName)) ∈ tb_all := tc_4 112 rfl rfl
theorem tw_833 : (Cond.code ({ cls := "java/lang/String", name := "checkIndex", desc := "(II)V" } : MethodName) prog_18_method_155_code (2 : Nat) (Option.none : Option Jvm.ClassFile.FieldType)) ∈ tb_all := tc_4 113 rfl rfl
theorem tw_834 : (Cond.methodLink "java/lang/String" (1059 : Nat) ({ cls := "jdk/internal/util/Preconditions", name := "checkIndex", desc := "(IILjava/util/function/BiFunction;)I" } : MethodName)) ∈ tb_all := tc_4 114 rfl rfl
theorem tw_835 : (Cond.static ({ cls := "jdk/internal/util/Preconditions", name := "checkIndex", desc := "(IILjava/util/function/BiFunction;)I" } : MethodName)) ∈ tb_all := tc_4 115 rfl rfl
theorem tw_836 : (Cond.code ({ cls := "jdk/internal/util/Preconditions", name := "checkIndex", desc := "(IILjava/util/function/BiFunction;)I" } : MethodName) prog_24_method_11_code (3 : Nat) (Option.some FieldType.int)) ∈ tb_all := tc_4 116 rfl rfl
theorem tw_837 : (Cond.methodLink "java/lang/String" (498 : Nat) ({ cls := "java/lang/StringUTF16", name := "charAt", desc := "([BI)C" } : MethodName)) ∈ tb_all := tc_4 117 rfl rfl
theorem tw_838 : (Cond.static ({ cls := "java/lang/StringUTF16", name := "charAt", desc := "([BI)C" } : MethodName)) ∈ tb_all := tc_4 118 rfl rfl
theorem tw_839 : (Cond.code ({ cls := "java/lang/StringUTF16", name := "charAt", desc := "([BI)C" } : MethodName) prog_20_method_83_code (2 : Nat) (Option.some FieldType.char)) ∈ tb_all := tc_4 119 rfl rfl
theorem tw_840 : (Cond.methodLink "java/lang/StringUTF16" (67 : Nat) ({ cls := "java/lang/StringUTF16", name := "checkIndex", desc := "(I[B)V" } : MethodName)) ∈ tb_all := tc_4 120 rfl rfl
theorem tw_841 : (Cond.static ({ cls := "java/lang/StringUTF16", name := "checkIndex", desc := "(I[B)V" } : MethodName)) ∈ tb_all := tc_4 121 rfl rfl
theorem tw_842 : (Cond.code ({ cls := "java/lang/StringUTF16", name := "checkIndex", desc := "(I[B)V" } : MethodName) prog_20_method_91_code (2 : Nat) (Option.none : Option Jvm.ClassFile.FieldType)) ∈ tb_all := tc_4 122 rfl rfl
theorem tw_843 : (Cond.methodLink "java/lang/StringUTF16" (414 : Nat) ({ cls := "java/lang/String", name := "checkIndex", desc := "(II)V" } : MethodName)) ∈ tb_all := tc_4 123 rfl rfl
theorem tw_844 : (Cond.methodLink "MailHeads$DateReader" (102 : Nat) ({ cls := "MailHeads$DateReader", name := "isLetter", desc := "(II)Z" } : MethodName)) ∈ tb_all := tc_4 124 rfl rfl
theorem tw_846 : (Cond.instanceMethod ({ cls := "MailHeads$DateReader", name := "isLetter", desc := "(II)Z" } : MethodName)) ∈ tb_all := tc_4 126 rfl rfl
theorem tw_847 : (Cond.code ({ cls := "MailHeads$DateReader", name := "isLetter", desc := "(II)Z" } : MethodName) prog_4_method_9_code (3 : Nat) (Option.some FieldType.boolean)) ∈ tb_all := tc_4 127 rfl rfl
theorem tw_849 : (Cond.methodLink "MailHeads$DateReader" (41 : Nat) ({ cls := "MailHeads$DateReader", name := "takeYear", desc := "()I" } : MethodName)) ∈ tb_all := tc_4 129 rfl rfl
theorem tw_851 : (Cond.instanceMethod ({ cls := "MailHeads$DateReader", name := "takeYear", desc := "()I" } : MethodName)) ∈ tb_all := tc_4 131 rfl rfl
theorem tw_852 : (Cond.code ({ cls := "MailHeads$DateReader", name := "takeYear", desc := "()I" } : MethodName) prog_4_method_5_code (3 : Nat) (Option.some FieldType.int)) ∈ tb_all := tc_4 132 rfl rfl
theorem tw_853 : (Cond.methodLink "MailHeads$DateReader" (44 : Nat) ({ cls := "MailHeads$DateReader", name := "takeColon", desc := "()Z" } : MethodName)) ∈ tb_all := tc_4 133 rfl rfl
theorem tw_855 : (Cond.instanceMethod ({ cls := "MailHeads$DateReader", name := "takeColon", desc := "()Z" } : MethodName)) ∈ tb_all := tc_4 135 rfl rfl
theorem tw_856 : (Cond.code ({ cls := "MailHeads$DateReader", name := "takeColon", desc := "()Z" } : MethodName) prog_4_method_6_code (2 : Nat) (Option.some FieldType.boolean)) ∈ tb_all := tc_4 136 rfl rfl
theorem tw_857 : (Cond.methodLink "MailHeads$DateReader" (48 : Nat) ({ cls := "MailHeads$DateReader", name := "isBelow", desc := "(II)Z" } : MethodName)) ∈ tb_all := tc_4 137 rfl rfl
theorem tw_858 : (Cond.static ({ cls := "MailHeads$DateReader", name := "isBelow", desc := "(II)Z" } : MethodName)) ∈ tb_all := tc_4 138 rfl rfl
theorem tw_859 : (Cond.code ({ cls := "MailHeads$DateReader", name := "isBelow", desc := "(II)Z" } : MethodName) prog_4_method_12_code (2 : Nat) (Option.some FieldType.boolean)) ∈ tb_all := tc_4 139 rfl rfl
theorem tw_860 : (Cond.methodLink "MailHeads$DateReader" (52 : Nat) ({ cls := "MailHeads$DateReader", name := "isDay", desc := "(III)Z" } : MethodName)) ∈ tb_all := tc_4 140 rfl rfl
theorem tw_861 : (Cond.static ({ cls := "MailHeads$DateReader", name := "isDay", desc := "(III)Z" } : MethodName)) ∈ tb_all := tc_4 141 rfl rfl
theorem tw_862 : (Cond.code ({ cls := "MailHeads$DateReader", name := "isDay", desc := "(III)Z" } : MethodName) prog_4_method_13_code (3 : Nat) (Option.some FieldType.boolean)) ∈ tb_all := tc_4 142 rfl rfl
theorem tw_863 : (Cond.methodLink "MailHeads$DateReader" (117 : Nat) ({ cls := "MailHeads$DateReader", name := "daysOf", desc := "(II)I" } : MethodName)) ∈ tb_all := tc_4 143 rfl rfl
theorem tw_864 : (Cond.static ({ cls := "MailHeads$DateReader", name := "daysOf", desc := "(II)I" } : MethodName)) ∈ tb_all := tc_4 144 rfl rfl
theorem tw_865 : (Cond.code ({ cls := "MailHeads$DateReader", name := "daysOf", desc := "(II)I" } : MethodName) prog_4_method_14_code (3 : Nat) (Option.some FieldType.int)) ∈ tb_all := tc_4 145 rfl rfl
theorem tw_868 : (Cond.constantLong "MailHeads$DateReader" (56 : Nat) (-9223372036854775808 : Int64)) ∈ tb_all := tc_4 148 rfl rfl
theorem tw_869 : (Cond.constantLong "MailHeads$DateReader" (58 : Nat) (24 : Int64)) ∈ tb_all := tc_4 149 rfl rfl
theorem tw_870 : (Cond.methodLink "MailHeads$DateReader" (60 : Nat) ({ cls := "MailHeads$DateReader", name := "daysSince1970", desc := "(III)I" } : MethodName)) ∈ tb_all := tc_4 150 rfl rfl
theorem tw_871 : (Cond.static ({ cls := "MailHeads$DateReader", name := "daysSince1970", desc := "(III)I" } : MethodName)) ∈ tb_all := tc_4 151 rfl rfl
theorem tw_872 : (Cond.code ({ cls := "MailHeads$DateReader", name := "daysSince1970", desc := "(III)I" } : MethodName) prog_4_method_15_code (5 : Nat) (Option.some FieldType.int)) ∈ tb_all := tc_4 152 rfl rfl
theorem tw_873 : (Cond.methodLink "MailHeads$DateReader" (123 : Nat) ({ cls := "MailHeads$DateReader", name := "daysAhead", desc := "(I)I" } : MethodName)) ∈ tb_all := tc_4 153 rfl rfl
theorem tw_874 : (Cond.static ({ cls := "MailHeads$DateReader", name := "daysAhead", desc := "(I)I" } : MethodName)) ∈ tb_all := tc_4 154 rfl rfl
theorem tw_875 : (Cond.code ({ cls := "MailHeads$DateReader", name := "daysAhead", desc := "(I)I" } : MethodName) prog_4_method_16_code (2 : Nat) (Option.some FieldType.int)) ∈ tb_all := tc_4 155 rfl rfl
theorem tw_876 : (Cond.constantLong "MailHeads$DateReader" (64 : Nat) (60 : Int64)) ∈ tb_all := tc_4 156 rfl rfl
theorem tw_877 : (Cond.methodLink "MailHeads$DateReader" (66 : Nat) ({ cls := "MailHeads$DateReader", name := "zoneSeconds", desc := "()I" } : MethodName)) ∈ tb_all := tc_4 157 rfl rfl
theorem tw_879 : (Cond.instanceMethod ({ cls := "MailHeads$DateReader", name := "zoneSeconds", desc := "()I" } : MethodName)) ∈ tb_all := tc_4 159 rfl rfl
theorem tw_880 : (Cond.code ({ cls := "MailHeads$DateReader", name := "zoneSeconds", desc := "()I" } : MethodName) prog_4_method_10_code (3 : Nat) (Option.some FieldType.int)) ∈ tb_all := tc_4 160 rfl rfl
theorem tw_884 : (Cond.methodLink "MailHeads$DateReader" (114 : Nat) ({ cls := "MailHeads$DateReader", name := "signedZone", desc := "(I)I" } : MethodName)) ∈ tb_all := tc_4 164 rfl rfl
theorem tw_886 : (Cond.instanceMethod ({ cls := "MailHeads$DateReader", name := "signedZone", desc := "(I)I" } : MethodName)) ∈ tb_all := tc_4 166 rfl rfl
theorem tw_887 : (Cond.code ({ cls := "MailHeads$DateReader", name := "signedZone", desc := "(I)I" } : MethodName) prog_4_method_11_code (5 : Nat) (Option.some FieldType.int)) ∈ tb_all := tc_4 167 rfl rfl
theorem tw_896 : (Cond.methodLink "MailHeads" (142 : Nat) ({ cls := "MailHeads$ContentType", name := "readWords", desc := "()Z" } : MethodName)) ∈ tb_all := tc_4 176 rfl rfl
theorem tw_897 : (Cond.instanceMethod ({ cls := "MailHeads$ContentType", name := "readWords", desc := "()Z" } : MethodName)) ∈ tb_all := tc_4 177 rfl rfl
theorem tw_898 : (Cond.selects "MailHeads$ContentType" ({ cls := "MailHeads$ContentType", name := "readWords", desc := "()Z" } : MethodName) ({ cls := "MailHeads$ContentType", name := "readWords", desc := "()Z" } : MethodName)) ∈ tb_all := tc_4 178 rfl rfl
theorem tw_899 : (Cond.code ({ cls := "MailHeads$ContentType", name := "readWords", desc := "()Z" } : MethodName) prog_3_method_3_code (2 : Nat) (Option.some FieldType.boolean)) ∈ tb_all := tc_4 179 rfl rfl
theorem tw_900 : (Cond.methodLink "MailHeads$ContentType" (44 : Nat) ({ cls := "MailHeads$Row", name := "cutTo", desc := "(I)V" } : MethodName)) ∈ tb_all := tc_4 180 rfl rfl
theorem tw_901 : (Cond.methodLink "MailHeads$ContentType" (48 : Nat) ({ cls := "MailHeads$Words", name := "kinds", desc := "()LMailHeads$Row;" } : MethodName)) ∈ tb_all := tc_4 181 rfl rfl
theorem tw_902 : (Cond.methodLink "MailHeads$ContentType" (58 : Nat) ({ cls := "MailHeads$ContentType", name := "takePart", desc := "(I)V" } : MethodName)) ∈ tb_all := tc_4 182 rfl rfl
theorem tw_904 : (Cond.instanceMethod ({ cls := "MailHeads$ContentType", name := "takePart", desc := "(I)V" } : MethodName)) ∈ tb_all := tc_4 184 rfl rfl
theorem tw_905 : (Cond.code ({ cls := "MailHeads$ContentType", name := "takePart", desc := "(I)V" } : MethodName) prog_3_method_4_code (2 : Nat) (Option.none : Option Jvm.ClassFile.FieldType)) ∈ tb_all := tc_4 185 rfl rfl
theorem tw_906 : (Cond.methodLink "MailHeads$ContentType" (68 : Nat) ({ cls := "MailHeads$Words", name := "texts", desc := "()LMailHeads$Texts;" } : MethodName)) ∈ tb_all := tc_4 186 rfl rfl
theorem tw_907 : (Cond.methodLink "MailHeads$ContentType" (61 : Nat) ({ cls := "MailHeads$Row", name := "size", desc := "()I" } : MethodName)) ∈ tb_all := tc_4 187 rfl rfl
theorem tw_908 : (Cond.methodLink "MailHeads$ContentType" (65 : Nat) ({ cls := "MailHeads$ContentType", name := "takeParameter", desc := "(I)V" } : MethodName)) ∈ tb_all := tc_4 188 rfl rfl
theorem tw_910 : (Cond.instanceMethod ({ cls := "MailHeads$ContentType", name := "takeParameter", desc := "(I)V" } : MethodName)) ∈ tb_all := tc_4 190 rfl rfl
theorem tw_911 : (Cond.code ({ cls := "MailHeads$ContentType", name := "takeParameter", desc := "(I)V" } : MethodName) prog_3_method_5_code (8 : Nat) (Option.none : Option Jvm.ClassFile.FieldType)) ∈ tb_all := tc_4 191 rfl rfl
theorem tw_912 : (Cond.methodLink "MailHeads$ContentType" (89 : Nat) ({ cls := "MailHeads$Texts", name := "putText", desc := "(LMailHeads$Texts;I)V" } : MethodName)) ∈ tb_all := tc_4 192 rfl rfl
theorem tw_913 : (Cond.methodLink "MailHeads$ContentType" (93 : Nat) ({ cls := "MailHeads$Row", name := "add", desc := "(I)V" } : MethodName)) ∈ tb_all := tc_4 193 rfl rfl
theorem tw_914 : (Cond.classLink "MailHeadsLaw" (27 : Nat) "MailHeadsModel") ∈ tb_all := tc_4 194 rfl rfl
theorem tw_915 : (Cond.instantiable "MailHeadsModel" (45 : Nat)) ∈ tb_all := tc_4 195 rfl rfl
theorem tw_919 : (Cond.methodLink "MailHeadsModel" (1 : Nat) ({ cls := "java/lang/Object", name := "<init>", desc := "()V" } : MethodName)) ∈ tb_all := tc_4 199 rfl rfl
theorem tw_920 : (Cond.fieldLink "MailHeadsModel" (99 : Nat) "MailHeadsModel" "thrown" "I") ∈ tb_all := tc_4 200 rfl rfl
theorem tw_921 : (Cond.fieldLink "MailHeadsModel" (7 : Nat) "MailHeadsModel" "ready" "[I") ∈ tb_all := tc_4 201 rfl rfl
theorem tw_922 : (Cond.fieldLink "MailHeadsModel" (13 : Nat) "MailHeadsModel" "tape" "[I") ∈ tb_all := tc_4 202 rfl rfl
theorem tw_923 : (Cond.fieldLink "MailHeadsModel" (106 : Nat) "MailHeadsModel" "tapeLong" "I") ∈ tb_all := tc_4 203 rfl rfl
theorem tw_924 : (Cond.fieldLink "MailHeadsModel" (116 : Nat) "MailHeadsModel" "fields" "I") ∈ tb_all := tc_4 204 rfl rfl
theorem tw_925 : (Cond.fieldLink "MailHeadsModel" (122 : Nat) "MailHeadsModel" "bad" "I") ∈ tb_all := tc_4 205 rfl rfl
theorem tw_926 : (Cond.fieldLink "MailHeadsModel" (16 : Nat) "MailHeadsModel" "nameAt" "[I") ∈ tb_all := tc_4 206 rfl rfl
theorem tw_927 : (Cond.fieldLink "MailHeadsModel" (19 : Nat) "MailHeadsModel" "nameLong" "[I") ∈ tb_all := tc_4 207 rfl rfl
theorem tw_928 : (Cond.fieldLink "MailHeadsModel" (22 : Nat) "MailHeadsModel" "valueAt" "[I") ∈ tb_all := tc_4 208 rfl rfl
theorem tw_929 : (Cond.fieldLink "MailHeadsModel" (25 : Nat) "MailHeadsModel" "valueLong" "[I") ∈ tb_all := tc_4 209 rfl rfl
theorem tw_930 : (Cond.fieldLink "MailHeadsModel" (28 : Nat) "MailHeadsModel" "kept" "[I") ∈ tb_all := tc_4 210 rfl rfl
theorem tw_931 : (Cond.fieldLink "MailHeadsModel" (113 : Nat) "MailHeadsModel" "keptLong" "I") ∈ tb_all := tc_4 211 rfl rfl
theorem tw_932 : (Cond.fieldLink "MailHeadsModel" (149 : Nat) "MailHeadsModel" "words" "I") ∈ tb_all := tc_4 212 rfl rfl
theorem tw_933 : (Cond.fieldLink "MailHeadsModel" (31 : Nat) "MailHeadsModel" "kind" "[I") ∈ tb_all := tc_4 213 rfl rfl
theorem tw_934 : (Cond.fieldLink "MailHeadsModel" (34 : Nat) "MailHeadsModel" "sign" "[I") ∈ tb_all := tc_4 214 rfl rfl
theorem tw_935 : (Cond.fieldLink "MailHeadsModel" (37 : Nat) "MailHeadsModel" "from" "[I") ∈ tb_all := tc_4 215 rfl rfl
theorem tw_936 : (Cond.fieldLink "MailHeadsModel" (40 : Nat) "MailHeadsModel" "to" "[I") ∈ tb_all := tc_4 216 rfl rfl
theorem tw_937 : (Cond.fieldLink "MailHeadsModel" (43 : Nat) "MailHeadsModel" "bytes" "[I") ∈ tb_all := tc_4 217 rfl rfl
theorem tw_938 : (Cond.fieldLink "MailHeadsModel" (152 : Nat) "MailHeadsModel" "bytesLong" "I") ∈ tb_all := tc_4 218 rfl rfl
theorem tw_939 : (Cond.fieldLink "MailHeadsModel" (46 : Nat) "MailHeadsModel" "made" "[I") ∈ tb_all := tc_4 219 rfl rfl
theorem tw_940 : (Cond.fieldLink "MailHeadsModel" (49 : Nat) "MailHeadsModel" "madeLong" "[I") ∈ tb_all := tc_4 220 rfl rfl
theorem tw_941 : (Cond.fieldLink "MailHeadsModel" (52 : Nat) "MailHeadsModel" "many" "[I") ∈ tb_all := tc_4 221 rfl rfl
theorem tw_942 : (Cond.fieldLink "MailHeadsModel" (55 : Nat) "MailHeadsModel" "partAt" "[I") ∈ tb_all := tc_4 222 rfl rfl
theorem tw_943 : (Cond.fieldLink "MailHeadsModel" (58 : Nat) "MailHeadsModel" "partLong" "[I") ∈ tb_all := tc_4 223 rfl rfl
theorem tw_944 : (Cond.fieldLink "MailHeadsModel" (248 : Nat) "MailHeadsModel" "groups" "I") ∈ tb_all := tc_4 224 rfl rfl
theorem tw_945 : (Cond.fieldLink "MailHeadsModel" (227 : Nat) "MailHeadsModel" "badOnes" "I") ∈ tb_all := tc_4 225 rfl rfl
theorem tw_946 : (Cond.fieldLink "MailHeadsModel" (61 : Nat) "MailHeadsModel" "groupOf" "[I") ∈ tb_all := tc_4 226 rfl rfl
theorem tw_947 : (Cond.fieldLink "MailHeadsModel" (347 : Nat) "MailHeadsModel" "parameters" "I") ∈ tb_all := tc_4 227 rfl rfl
theorem tw_948 : (Cond.fieldLink "MailHeadsModel" (64 : Nat) "MailHeadsModel" "parameterFrom" "[I") ∈ tb_all := tc_4 228 rfl rfl
theorem tw_949 : (Cond.fieldLink "MailHeadsModel" (67 : Nat) "MailHeadsModel" "parameterTo" "[I") ∈ tb_all := tc_4 229 rfl rfl
theorem tw_950 : (Cond.fieldLink "MailHeadsModel" (70 : Nat) "MailHeadsModel" "piece" "[I") ∈ tb_all := tc_4 230 rfl rfl
theorem tw_951 : (Cond.fieldLink "MailHeadsModel" (73 : Nat) "MailHeadsModel" "coded" "[Z") ∈ tb_all := tc_4 231 rfl rfl
theorem tw_952 : (Cond.fieldLink "MailHeadsModel" (77 : Nat) "MailHeadsModel" "valueFrom" "[I") ∈ tb_all := tc_4 232 rfl rfl
theorem tw_953 : (Cond.fieldLink "MailHeadsModel" (80 : Nat) "MailHeadsModel" "valueTo" "[I") ∈ tb_all := tc_4 233 rfl rfl
theorem tw_954 : (Cond.fieldLink "MailHeadsModel" (83 : Nat) "MailHeadsModel" "typeBytes" "[I") ∈ tb_all := tc_4 234 rfl rfl
theorem tw_955 : (Cond.fieldLink "MailHeadsModel" (86 : Nat) "MailHeadsModel" "hand" "[I") ∈ tb_all := tc_4 235 rfl rfl
theorem tw_956 : (Cond.fieldLink "MailHeadsModel" (89 : Nat) "MailHeadsModel" "charset" "[I") ∈ tb_all := tc_4 236 rfl rfl
theorem tw_957 : (Cond.fieldLink "MailHeadsModel" (92 : Nat) "MailHeadsModel" "handLong" "I") ∈ tb_all := tc_4 237 rfl rfl
theorem tw_958 : (Cond.fieldLink "MailHeadsModel" (96 : Nat) "MailHeadsModel" "charsetLong" "I") ∈ tb_all := tc_4 238 rfl rfl
theorem tw_959 : (Cond.fieldLink "MailHeadsModel" (143 : Nat) "MailHeadsModel" "p" "I") ∈ tb_all := tc_4 239 rfl rfl
theorem tw_960 : (Cond.fieldLink "MailHeadsModel" (146 : Nat) "MailHeadsModel" "valueEnd" "I") ∈ tb_all := tc_5 0 rfl rfl
theorem tw_961 : (Cond.fieldLink "MailHeadsModel" (165 : Nat) "MailHeadsModel" "ofType" "Z") ∈ tb_all := tc_5 1 rfl rfl
theorem tw_962 : (Cond.fieldLink "MailHeadsModel" (221 : Nat) "MailHeadsModel" "localEnd" "I") ∈ tb_all := tc_5 2 rfl rfl
theorem tw_963 : (Cond.fieldLink "MailHeadsModel" (224 : Nat) "MailHeadsModel" "domainFrom" "I") ∈ tb_all := tc_5 3 rfl rfl
theorem tw_964 : (Cond.fieldLink "MailHeadsModel" (265 : Nat) "MailHeadsModel" "w" "I") ∈ tb_all := tc_5 4 rfl rfl
theorem tw_1056 : (Cond.arrayClass FieldType.boolean) ∈ tb_all := tc_5 96 rfl rfl
theorem tw_1065 : (Cond.methodLink "MailHeadsModel" (102 : Nat) ({ cls := "MailHeadsModel", name := "readyWord", desc := "(II)V" } : MethodName)) ∈ tb_all := tc_5 105 rfl rfl
theorem tw_1067 : (Cond.instanceMethod ({ cls := "MailHeadsModel", name := "readyWord", desc := "(II)V" } : MethodName)) ∈ tb_all := tc_5 107 rfl rfl
theorem tw_1068 : (Cond.code ({ cls := "MailHeadsModel", name := "readyWord", desc := "(II)V" } : MethodName) prog_11_method_3_code (4 : Nat) (Option.none : Option Jvm.ClassFile.FieldType)) ∈ tb_all := tc_5 108 rfl rfl
theorem tw_1077 : (Cond.methodLink "MailHeadsModel" (125 : Nat) ({ cls := "MailHeadsModel", name := "colonOf", desc := "(II)I" } : MethodName)) ∈ tb_all := tc_5 117 rfl rfl
theorem tw_1079 : (Cond.instanceMethod ({ cls := "MailHeadsModel", name := "colonOf", desc := "(II)I" } : MethodName)) ∈ tb_all := tc_5 119 rfl rfl
theorem tw_1080 : (Cond.code ({ cls := "MailHeadsModel", name := "colonOf", desc := "(II)I" } : MethodName) prog_11_method_9_code (4 : Nat) (Option.some FieldType.int)) ∈ tb_all := tc_5 120 rfl rfl
theorem tw_1081 : (Cond.methodLink "MailHeadsModel" (109 : Nat) ({ cls := "MailHeadsModel", name := "isBlank", desc := "(I)Z" } : MethodName)) ∈ tb_all := tc_5 121 rfl rfl
theorem tw_1082 : (Cond.static ({ cls := "MailHeadsModel", name := "isBlank", desc := "(I)Z" } : MethodName)) ∈ tb_all := tc_5 122 rfl rfl
theorem tw_1083 : (Cond.code ({ cls := "MailHeadsModel", name := "isBlank", desc := "(I)Z" } : MethodName) prog_11_method_6_code (1 : Nat) (Option.some FieldType.boolean)) ∈ tb_all := tc_5 123 rfl rfl
theorem tw_1084 : (Cond.methodLink "MailHeadsModel" (119 : Nat) ({ cls := "MailHeadsModel", name := "keep", desc := "(II)V" } : MethodName)) ∈ tb_all := tc_5 124 rfl rfl
theorem tw_1086 : (Cond.instanceMethod ({ cls := "MailHeadsModel", name := "keep", desc := "(II)V" } : MethodName)) ∈ tb_all := tc_5 126 rfl rfl
theorem tw_1087 : (Cond.code ({ cls := "MailHeadsModel", name := "keep", desc := "(II)V" } : MethodName) prog_11_method_10_code (4 : Nat) (Option.none : Option Jvm.ClassFile.FieldType)) ∈ tb_all := tc_5 127 rfl rfl
theorem tw_1088 : (Cond.methodLink "MailHeadsModel" (129 : Nat) ({ cls := "MailHeadsModel", name := "addField", desc := "(III)V" } : MethodName)) ∈ tb_all := tc_5 128 rfl rfl
theorem tw_1090 : (Cond.instanceMethod ({ cls := "MailHeadsModel", name := "addField", desc := "(III)V" } : MethodName)) ∈ tb_all := tc_5 130 rfl rfl
theorem tw_1091 : (Cond.code ({ cls := "MailHeadsModel", name := "addField", desc := "(III)V" } : MethodName) prog_11_method_11_code (5 : Nat) (Option.none : Option Jvm.ClassFile.FieldType)) ∈ tb_all := tc_5 131 rfl rfl
theorem tw_1100 : (Cond.methodLink "MailHeadsModel" (133 : Nat) ({ cls := "MailHeadsModel", name := "small", desc := "(I)I" } : MethodName)) ∈ tb_all := tc_5 140 rfl rfl
theorem tw_1101 : (Cond.static ({ cls := "MailHeadsModel", name := "small", desc := "(I)I" } : MethodName)) ∈ tb_all := tc_5 141 rfl rfl
theorem tw_1102 : (Cond.code ({ cls := "MailHeadsModel", name := "small", desc := "(I)I" } : MethodName) prog_11_method_7_code (1 : Nat) (Option.some FieldType.int)) ∈ tb_all := tc_5 142 rfl rfl
theorem tw_1104 : (Cond.instanceMethod ({ cls := "MailHeadsModel", name := "field", desc := "(II)I" } : MethodName)) ∈ tb_all := tc_5 144 rfl rfl
theorem tw_1105 : (Cond.selects "MailHeadsModel" ({ cls := "MailHeadsModel", name := "field", desc := "(II)I" } : MethodName) ({ cls := "MailHeadsModel", name := "field", desc := "(II)I" } : MethodName)) ∈ tb_all := tc_5 145 rfl rfl
theorem tw_1106 : (Cond.code ({ cls := "MailHeadsModel", name := "field", desc := "(II)I" } : MethodName) prog_11_method_16_code (3 : Nat) (Option.some FieldType.int)) ∈ tb_all := tc_5 146 rfl rfl
theorem tw_1107 : (Cond.methodLink "MailHeadsModel" (137 : Nat) ({ cls := "MailHeadsModel", name := "isField", desc := "(I)Z" } : MethodName)) ∈ tb_all := tc_5 147 rfl rfl
theorem tw_1109 : (Cond.instanceMethod ({ cls := "MailHeadsModel", name := "isField", desc := "(I)Z" } : MethodName)) ∈ tb_all := tc_5 149 rfl rfl
theorem tw_1110 : (Cond.code ({ cls := "MailHeadsModel", name := "isField", desc := "(I)Z" } : MethodName) prog_11_method_15_code (2 : Nat) (Option.some FieldType.boolean)) ∈ tb_all := tc_5 150 rfl rfl
theorem tw_1115 : (Cond.methodLink "MailHeadsModel" (140 : Nat) ({ cls := "MailHeadsModel", name := "field", desc := "(II)I" } : MethodName)) ∈ tb_all := tc_5 155 rfl rfl
theorem tw_1117 : (Cond.instanceMethod ({ cls := "MailHeadsModel", name := "length", desc := "(II)I" } : MethodName)) ∈ tb_all := tc_5 157 rfl rfl
theorem tw_1118 : (Cond.selects "MailHeadsModel" ({ cls := "MailHeadsModel", name := "length", desc := "(II)I" } : MethodName) ({ cls := "MailHeadsModel", name := "length", desc := "(II)I" } : MethodName)) ∈ tb_all := tc_5 158 rfl rfl
theorem tw_1119 : (Cond.code ({ cls := "MailHeadsModel", name := "length", desc := "(II)I" } : MethodName) prog_11_method_36_code (3 : Nat) (Option.some FieldType.int)) ∈ tb_all := tc_5 159 rfl rfl
theorem tw_1124 : (Cond.methodLink "MailHeadsModel" (194 : Nat) ({ cls := "MailHeadsModel", name := "length", desc := "(II)I" } : MethodName)) ∈ tb_all := tc_5 164 rfl rfl
theorem tw_1129 : (Cond.methodLink "MailHeadsModel" (251 : Nat) ({ cls := "MailHeadsModel", name := "cut", desc := "(IZ)V" } : MethodName)) ∈ tb_all := tc_5 169 rfl rfl
theorem tw_1131 : (Cond.instanceMethod ({ cls := "MailHeadsModel", name := "cut", desc := "(IZ)V" } : MethodName)) ∈ tb_all := tc_5 171 rfl rfl
theorem tw_1132 : (Cond.code ({ cls := "MailHeadsModel", name := "cut", desc := "(IZ)V" } : MethodName) prog_11_method_25_code (4 : Nat) (Option.none : Option Jvm.ClassFile.FieldType)) ∈ tb_all := tc_5 172 rfl rfl
theorem tw_1133 : (Cond.methodLink "MailHeadsModel" (169 : Nat) ({ cls := "MailHeadsModel", name := "isNothing", desc := "(I)Z" } : MethodName)) ∈ tb_all := tc_5 173 rfl rfl
theorem tw_1134 : (Cond.static ({ cls := "MailHeadsModel", name := "isNothing", desc := "(I)Z" } : MethodName)) ∈ tb_all := tc_5 174 rfl rfl
theorem tw_1135 : (Cond.code ({ cls := "MailHeadsModel", name := "isNothing", desc := "(I)Z" } : MethodName) prog_11_method_24_code (1 : Nat) (Option.some FieldType.boolean)) ∈ tb_all := tc_5 175 rfl rfl
theorem tw_1136 : (Cond.methodLink "MailHeadsModel" (172 : Nat) ({ cls := "MailHeadsModel", name := "takeEnclosed", desc := "(II)V" } : MethodName)) ∈ tb_all := tc_5 176 rfl rfl
theorem tw_1138 : (Cond.instanceMethod ({ cls := "MailHeadsModel", name := "takeEnclosed", desc := "(II)V" } : MethodName)) ∈ tb_all := tc_5 178 rfl rfl
theorem tw_1139 : (Cond.code ({ cls := "MailHeadsModel", name := "takeEnclosed", desc := "(II)V" } : MethodName) prog_11_method_22_code (5 : Nat) (Option.none : Option Jvm.ClassFile.FieldType)) ∈ tb_all := tc_5 179 rfl rfl
theorem tw_1140 : (Cond.methodLink "MailHeadsModel" (155 : Nat) ({ cls := "MailHeadsModel", name := "beginWord", desc := "(II)V" } : MethodName)) ∈ tb_all := tc_5 180 rfl rfl
theorem tw_1142 : (Cond.instanceMethod ({ cls := "MailHeadsModel", name := "beginWord", desc := "(II)V" } : MethodName)) ∈ tb_all := tc_5 182 rfl rfl
theorem tw_1143 : (Cond.code ({ cls := "MailHeadsModel", name := "beginWord", desc := "(II)V" } : MethodName) prog_11_method_19_code (3 : Nat) (Option.none : Option Jvm.ClassFile.FieldType)) ∈ tb_all := tc_5 183 rfl rfl
theorem tw_1144 : (Cond.methodLink "MailHeadsModel" (158 : Nat) ({ cls := "MailHeadsModel", name := "put", desc := "(I)V" } : MethodName)) ∈ tb_all := tc_5 184 rfl rfl
theorem tw_1146 : (Cond.instanceMethod ({ cls := "MailHeadsModel", name := "put", desc := "(I)V" } : MethodName)) ∈ tb_all := tc_5 186 rfl rfl
theorem tw_1147 : (Cond.code ({ cls := "MailHeadsModel", name := "put", desc := "(I)V" } : MethodName) prog_11_method_21_code (2 : Nat) (Option.none : Option Jvm.ClassFile.FieldType)) ∈ tb_all := tc_5 187 rfl rfl
theorem tw_1148 : (Cond.methodLink "MailHeadsModel" (162 : Nat) ({ cls := "MailHeadsModel", name := "endWord", desc := "()V" } : MethodName)) ∈ tb_all := tc_5 188 rfl rfl
theorem tw_1150 : (Cond.instanceMethod ({ cls := "MailHeadsModel", name := "endWord", desc := "()V" } : MethodName)) ∈ tb_all := tc_5 190 rfl rfl
theorem tw_1151 : (Cond.code ({ cls := "MailHeadsModel", name := "endWord", desc := "()V" } : MethodName) prog_11_method_20_code (1 : Nat) (Option.none : Option Jvm.ClassFile.FieldType)) ∈ tb_all := tc_5 191 rfl rfl
theorem tw_1152 : (Cond.methodLink "MailHeadsModel" (175 : Nat) ({ cls := "MailHeadsModel", name := "isSign", desc := "(I)Z" } : MethodName)) ∈ tb_all := tc_5 192 rfl rfl
theorem tw_1154 : (Cond.instanceMethod ({ cls := "MailHeadsModel", name := "isSign", desc := "(I)Z" } : MethodName)) ∈ tb_all := tc_5 194 rfl rfl
theorem tw_1155 : (Cond.code ({ cls := "MailHeadsModel", name := "isSign", desc := "(I)Z" } : MethodName) prog_11_method_23_code (2 : Nat) (Option.some FieldType.boolean)) ∈ tb_all := tc_5 195 rfl rfl
theorem tw_1156 : (Cond.methodLink "MailHeadsModel" (178 : Nat) ({ cls := "MailHeadsModel", name := "takeAtom", desc := "()V" } : MethodName)) ∈ tb_all := tc_5 196 rfl rfl
theorem tw_1158 : (Cond.instanceMethod ({ cls := "MailHeadsModel", name := "takeAtom", desc := "()V" } : MethodName)) ∈ tb_all := tc_5 198 rfl rfl
theorem tw_1159 : (Cond.code ({ cls := "MailHeadsModel", name := "takeAtom", desc := "()V" } : MethodName) prog_11_method_26_code (2 : Nat) (Option.none : Option Jvm.ClassFile.FieldType)) ∈ tb_all := tc_5 199 rfl rfl
theorem tw_1160 : (Cond.methodLink "MailHeadsModel" (181 : Nat) ({ cls := "MailHeadsModel", name := "look", desc := "()I" } : MethodName)) ∈ tb_all := tc_5 200 rfl rfl
theorem tw_1162 : (Cond.instanceMethod ({ cls := "MailHeadsModel", name := "look", desc := "()I" } : MethodName)) ∈ tb_all := tc_5 202 rfl rfl
theorem tw_1163 : (Cond.code ({ cls := "MailHeadsModel", name := "look", desc := "()I" } : MethodName) prog_11_method_18_code (1 : Nat) (Option.some FieldType.int)) ∈ tb_all := tc_5 203 rfl rfl
theorem tw_1164 : (Cond.methodLink "MailHeadsModel" (255 : Nat) ({ cls := "MailHeadsModel", name := "forget", desc := "(III)V" } : MethodName)) ∈ tb_all := tc_5 204 rfl rfl
theorem tw_1166 : (Cond.instanceMethod ({ cls := "MailHeadsModel", name := "forget", desc := "(III)V" } : MethodName)) ∈ tb_all := tc_5 206 rfl rfl
theorem tw_1167 : (Cond.code ({ cls := "MailHeadsModel", name := "forget", desc := "(III)V" } : MethodName) prog_11_method_29_code (5 : Nat) (Option.none : Option Jvm.ClassFile.FieldType)) ∈ tb_all := tc_5 207 rfl rfl
theorem tw_1168 : (Cond.methodLink "MailHeadsModel" (200 : Nat) ({ cls := "MailHeadsModel", name := "is", desc := "(II)Z" } : MethodName)) ∈ tb_all := tc_5 208 rfl rfl
theorem tw_1170 : (Cond.instanceMethod ({ cls := "MailHeadsModel", name := "is", desc := "(II)Z" } : MethodName)) ∈ tb_all := tc_5 210 rfl rfl
theorem tw_1171 : (Cond.code ({ cls := "MailHeadsModel", name := "is", desc := "(II)Z" } : MethodName) prog_11_method_27_code (3 : Nat) (Option.some FieldType.boolean)) ∈ tb_all := tc_5 211 rfl rfl
theorem tw_1172 : (Cond.methodLink "MailHeadsModel" (258 : Nat) ({ cls := "MailHeadsModel", name := "beginGroup", desc := "(II)V" } : MethodName)) ∈ tb_all := tc_5 212 rfl rfl
theorem tw_1174 : (Cond.instanceMethod ({ cls := "MailHeadsModel", name := "beginGroup", desc := "(II)V" } : MethodName)) ∈ tb_all := tc_5 214 rfl rfl
theorem tw_1175 : (Cond.code ({ cls := "MailHeadsModel", name := "beginGroup", desc := "(II)V" } : MethodName) prog_11_method_47_code (4 : Nat) (Option.none : Option Jvm.ClassFile.FieldType)) ∈ tb_all := tc_5 215 rfl rfl
theorem tw_1176 : (Cond.methodLink "MailHeadsModel" (233 : Nat) ({ cls := "MailHeadsModel", name := "isName", desc := "(II)Z" } : MethodName)) ∈ tb_all := tc_5 216 rfl rfl
theorem tw_1178 : (Cond.instanceMethod ({ cls := "MailHeadsModel", name := "isName", desc := "(II)Z" } : MethodName)) ∈ tb_all := tc_5 218 rfl rfl
theorem tw_1179 : (Cond.code ({ cls := "MailHeadsModel", name := "isName", desc := "(II)Z" } : MethodName) prog_11_method_38_code (5 : Nat) (Option.some FieldType.boolean)) ∈ tb_all := tc_5 219 rfl rfl
theorem tw_1180 : (Cond.methodLink "MailHeadsModel" (197 : Nat) ({ cls := "MailHeadsModel", name := "next", desc := "(II)I" } : MethodName)) ∈ tb_all := tc_5 220 rfl rfl
theorem tw_1182 : (Cond.instanceMethod ({ cls := "MailHeadsModel", name := "next", desc := "(II)I" } : MethodName)) ∈ tb_all := tc_5 222 rfl rfl
theorem tw_1183 : (Cond.code ({ cls := "MailHeadsModel", name := "next", desc := "(II)I" } : MethodName) prog_11_method_28_code (4 : Nat) (Option.some FieldType.int)) ∈ tb_all := tc_5 223 rfl rfl
theorem tw_1184 : (Cond.methodLink "MailHeadsModel" (239 : Nat) ({ cls := "MailHeadsModel", name := "makeName", desc := "(III)V" } : MethodName)) ∈ tb_all := tc_5 224 rfl rfl
theorem tw_1186 : (Cond.instanceMethod ({ cls := "MailHeadsModel", name := "makeName", desc := "(III)V" } : MethodName)) ∈ tb_all := tc_5 226 rfl rfl
theorem tw_1187 : (Cond.code ({ cls := "MailHeadsModel", name := "makeName", desc := "(III)V" } : MethodName) prog_11_method_39_code (6 : Nat) (Option.none : Option Jvm.ClassFile.FieldType)) ∈ tb_all := tc_5 227 rfl rfl
theorem tw_1188 : (Cond.methodLink "MailHeadsModel" (204 : Nat) ({ cls := "MailHeadsModel", name := "beginPart", desc := "(I)V" } : MethodName)) ∈ tb_all := tc_5 228 rfl rfl
theorem tw_1190 : (Cond.instanceMethod ({ cls := "MailHeadsModel", name := "beginPart", desc := "(I)V" } : MethodName)) ∈ tb_all := tc_5 230 rfl rfl
theorem tw_1191 : (Cond.code ({ cls := "MailHeadsModel", name := "beginPart", desc := "(I)V" } : MethodName) prog_11_method_32_code (3 : Nat) (Option.none : Option Jvm.ClassFile.FieldType)) ∈ tb_all := tc_5 231 rfl rfl
theorem tw_1192 : (Cond.methodLink "MailHeadsModel" (188 : Nat) ({ cls := "MailHeadsModel", name := "roomAt", desc := "(I)I" } : MethodName)) ∈ tb_all := tc_5 232 rfl rfl
theorem tw_1194 : (Cond.instanceMethod ({ cls := "MailHeadsModel", name := "roomAt", desc := "(I)I" } : MethodName)) ∈ tb_all := tc_5 234 rfl rfl
theorem tw_1195 : (Cond.code ({ cls := "MailHeadsModel", name := "roomAt", desc := "(I)I" } : MethodName) prog_11_method_31_code (2 : Nat) (Option.some FieldType.int)) ∈ tb_all := tc_5 235 rfl rfl
theorem tw_1196 : (Cond.methodLink "MailHeadsModel" (185 : Nat) ({ cls := "MailHeadsModel", name := "areaOf", desc := "(I)I" } : MethodName)) ∈ tb_all := tc_5 236 rfl rfl
theorem tw_1197 : (Cond.static ({ cls := "MailHeadsModel", name := "areaOf", desc := "(I)I" } : MethodName)) ∈ tb_all := tc_5 237 rfl rfl
theorem tw_1198 : (Cond.code ({ cls := "MailHeadsModel", name := "areaOf", desc := "(I)I" } : MethodName) prog_11_method_30_code (1 : Nat) (Option.some FieldType.int)) ∈ tb_all := tc_5 238 rfl rfl
theorem tw_1199 : (Cond.methodLink "MailHeadsModel" (191 : Nat) ({ cls := "MailHeadsModel", name := "add", desc := "(II)V" } : MethodName)) ∈ tb_all := tc_5 239 rfl rfl
theorem tw_1201 : (Cond.instanceMethod ({ cls := "MailHeadsModel", name := "add", desc := "(II)V" } : MethodName)) ∈ tb_all := tc_6 1 rfl rfl
theorem tw_1202 : (Cond.code ({ cls := "MailHeadsModel", name := "add", desc := "(II)V" } : MethodName) prog_11_method_33_code (3 : Nat) (Option.none : Option Jvm.ClassFile.FieldType)) ∈ tb_all := tc_6 2 rfl rfl
theorem tw_1203 : (Cond.methodLink "MailHeadsModel" (207 : Nat) ({ cls := "MailHeadsModel", name := "addWord", desc := "(II)V" } : MethodName)) ∈ tb_all := tc_6 3 rfl rfl
theorem tw_1205 : (Cond.instanceMethod ({ cls := "MailHeadsModel", name := "addWord", desc := "(II)V" } : MethodName)) ∈ tb_all := tc_6 5 rfl rfl
theorem tw_1206 : (Cond.code ({ cls := "MailHeadsModel", name := "addWord", desc := "(II)V" } : MethodName) prog_11_method_34_code (4 : Nat) (Option.none : Option Jvm.ClassFile.FieldType)) ∈ tb_all := tc_6 6 rfl rfl
theorem tw_1207 : (Cond.methodLink "MailHeadsModel" (210 : Nat) ({ cls := "MailHeadsModel", name := "endPart", desc := "(I)V" } : MethodName)) ∈ tb_all := tc_6 7 rfl rfl
theorem tw_1209 : (Cond.instanceMethod ({ cls := "MailHeadsModel", name := "endPart", desc := "(I)V" } : MethodName)) ∈ tb_all := tc_6 9 rfl rfl
theorem tw_1210 : (Cond.code ({ cls := "MailHeadsModel", name := "endPart", desc := "(I)V" } : MethodName) prog_11_method_35_code (2 : Nat) (Option.none : Option Jvm.ClassFile.FieldType)) ∈ tb_all := tc_6 10 rfl rfl
theorem tw_1211 : (Cond.methodLink "MailHeadsModel" (261 : Nat) ({ cls := "MailHeadsModel", name := "takeMailbox", desc := "(IIZI)V" } : MethodName)) ∈ tb_all := tc_6 11 rfl rfl
theorem tw_1213 : (Cond.instanceMethod ({ cls := "MailHeadsModel", name := "takeMailbox", desc := "(IIZI)V" } : MethodName)) ∈ tb_all := tc_6 13 rfl rfl
theorem tw_1214 : (Cond.code ({ cls := "MailHeadsModel", name := "takeMailbox", desc := "(IIZI)V" } : MethodName) prog_11_method_46_code (11 : Nat) (Option.none : Option Jvm.ClassFile.FieldType)) ∈ tb_all := tc_6 14 rfl rfl
theorem tw_1215 : (Cond.methodLink "MailHeadsModel" (230 : Nat) ({ cls := "MailHeadsModel", name := "behindRoute", desc := "(II)I" } : MethodName)) ∈ tb_all := tc_6 15 rfl rfl
theorem tw_1217 : (Cond.instanceMethod ({ cls := "MailHeadsModel", name := "behindRoute", desc := "(II)I" } : MethodName)) ∈ tb_all := tc_6 17 rfl rfl
theorem tw_1218 : (Cond.code ({ cls := "MailHeadsModel", name := "behindRoute", desc := "(II)I" } : MethodName) prog_11_method_45_code (4 : Nat) (Option.some FieldType.int)) ∈ tb_all := tc_6 18 rfl rfl
theorem tw_1219 : (Cond.methodLink "MailHeadsModel" (236 : Nat) ({ cls := "MailHeadsModel", name := "isSpec", desc := "(II)Z" } : MethodName)) ∈ tb_all := tc_6 19 rfl rfl
theorem tw_1221 : (Cond.instanceMethod ({ cls := "MailHeadsModel", name := "isSpec", desc := "(II)Z" } : MethodName)) ∈ tb_all := tc_6 21 rfl rfl
theorem tw_1222 : (Cond.code ({ cls := "MailHeadsModel", name := "isSpec", desc := "(II)Z" } : MethodName) prog_11_method_42_code (6 : Nat) (Option.some FieldType.boolean)) ∈ tb_all := tc_6 22 rfl rfl
theorem tw_1223 : (Cond.methodLink "MailHeadsModel" (217 : Nat) ({ cls := "MailHeadsModel", name := "rowEnd", desc := "(IIZ)I" } : MethodName)) ∈ tb_all := tc_6 23 rfl rfl
theorem tw_1225 : (Cond.instanceMethod ({ cls := "MailHeadsModel", name := "rowEnd", desc := "(IIZ)I" } : MethodName)) ∈ tb_all := tc_6 25 rfl rfl
theorem tw_1226 : (Cond.code ({ cls := "MailHeadsModel", name := "rowEnd", desc := "(IIZ)I" } : MethodName) prog_11_method_40_code (8 : Nat) (Option.some FieldType.int)) ∈ tb_all := tc_6 26 rfl rfl
theorem tw_1227 : (Cond.methodLink "MailHeadsModel" (213 : Nat) ({ cls := "MailHeadsModel", name := "isRowWord", desc := "(IIZ)Z" } : MethodName)) ∈ tb_all := tc_6 27 rfl rfl
theorem tw_1229 : (Cond.instanceMethod ({ cls := "MailHeadsModel", name := "isRowWord", desc := "(IIZ)Z" } : MethodName)) ∈ tb_all := tc_6 29 rfl rfl
theorem tw_1230 : (Cond.code ({ cls := "MailHeadsModel", name := "isRowWord", desc := "(IIZ)Z" } : MethodName) prog_11_method_41_code (4 : Nat) (Option.some FieldType.boolean)) ∈ tb_all := tc_6 30 rfl rfl
theorem tw_1231 : (Cond.methodLink "MailHeadsModel" (242 : Nat) ({ cls := "MailHeadsModel", name := "makeComment", desc := "(II)V" } : MethodName)) ∈ tb_all := tc_6 31 rfl rfl
theorem tw_1233 : (Cond.instanceMethod ({ cls := "MailHeadsModel", name := "makeComment", desc := "(II)V" } : MethodName)) ∈ tb_all := tc_6 33 rfl rfl
theorem tw_1234 : (Cond.code ({ cls := "MailHeadsModel", name := "makeComment", desc := "(II)V" } : MethodName) prog_11_method_44_code (5 : Nat) (Option.none : Option Jvm.ClassFile.FieldType)) ∈ tb_all := tc_6 34 rfl rfl
theorem tw_1235 : (Cond.methodLink "MailHeadsModel" (245 : Nat) ({ cls := "MailHeadsModel", name := "makeWords", desc := "(III)V" } : MethodName)) ∈ tb_all := tc_6 35 rfl rfl
theorem tw_1237 : (Cond.instanceMethod ({ cls := "MailHeadsModel", name := "makeWords", desc := "(III)V" } : MethodName)) ∈ tb_all := tc_6 37 rfl rfl
theorem tw_1238 : (Cond.code ({ cls := "MailHeadsModel", name := "makeWords", desc := "(III)V" } : MethodName) prog_11_method_43_code (5 : Nat) (Option.none : Option Jvm.ClassFile.FieldType)) ∈ tb_all := tc_6 38 rfl rfl
theorem tw_1251 : (Cond.constantLong "MailHeadsModel" (320 : Nat) (-9223372036854775808 : Int64)) ∈ tb_all := tc_6 51 rfl rfl
theorem tw_1252 : (Cond.methodLink "MailHeadsModel" (294 : Nat) ({ cls := "MailHeadsModel", name := "isDigits", desc := "(III)Z" } : MethodName)) ∈ tb_all := tc_6 52 rfl rfl
theorem tw_1254 : (Cond.instanceMethod ({ cls := "MailHeadsModel", name := "isDigits", desc := "(III)Z" } : MethodName)) ∈ tb_all := tc_6 54 rfl rfl
theorem tw_1255 : (Cond.code ({ cls := "MailHeadsModel", name := "isDigits", desc := "(III)Z" } : MethodName) prog_11_method_53_code (5 : Nat) (Option.some FieldType.boolean)) ∈ tb_all := tc_6 55 rfl rfl
theorem tw_1256 : (Cond.methodLink "MailHeadsModel" (268 : Nat) ({ cls := "MailHeadsModel", name := "longOf", desc := "(I)I" } : MethodName)) ∈ tb_all := tc_6 56 rfl rfl
theorem tw_1258 : (Cond.instanceMethod ({ cls := "MailHeadsModel", name := "longOf", desc := "(I)I" } : MethodName)) ∈ tb_all := tc_6 58 rfl rfl
theorem tw_1259 : (Cond.code ({ cls := "MailHeadsModel", name := "longOf", desc := "(I)I" } : MethodName) prog_11_method_52_code (2 : Nat) (Option.some FieldType.int)) ∈ tb_all := tc_6 59 rfl rfl
theorem tw_1260 : (Cond.methodLink "MailHeadsModel" (271 : Nat) ({ cls := "MailHeadsModel", name := "isDigit", desc := "(I)Z" } : MethodName)) ∈ tb_all := tc_6 60 rfl rfl
theorem tw_1261 : (Cond.static ({ cls := "MailHeadsModel", name := "isDigit", desc := "(I)Z" } : MethodName)) ∈ tb_all := tc_6 61 rfl rfl
theorem tw_1262 : (Cond.code ({ cls := "MailHeadsModel", name := "isDigit", desc := "(I)Z" } : MethodName) prog_11_method_8_code (1 : Nat) (Option.some FieldType.boolean)) ∈ tb_all := tc_6 62 rfl rfl
theorem tw_1263 : (Cond.methodLink "MailHeadsModel" (297 : Nat) ({ cls := "MailHeadsModel", name := "number", desc := "(I)I" } : MethodName)) ∈ tb_all := tc_6 63 rfl rfl
theorem tw_1265 : (Cond.instanceMethod ({ cls := "MailHeadsModel", name := "number", desc := "(I)I" } : MethodName)) ∈ tb_all := tc_6 65 rfl rfl
theorem tw_1266 : (Cond.code ({ cls := "MailHeadsModel", name := "number", desc := "(I)I" } : MethodName) prog_11_method_55_code (2 : Nat) (Option.some FieldType.int)) ∈ tb_all := tc_6 66 rfl rfl
theorem tw_1267 : (Cond.methodLink "MailHeadsModel" (275 : Nat) ({ cls := "MailHeadsModel", name := "numberOf", desc := "(II)I" } : MethodName)) ∈ tb_all := tc_6 67 rfl rfl
theorem tw_1269 : (Cond.instanceMethod ({ cls := "MailHeadsModel", name := "numberOf", desc := "(II)I" } : MethodName)) ∈ tb_all := tc_6 69 rfl rfl
theorem tw_1270 : (Cond.code ({ cls := "MailHeadsModel", name := "numberOf", desc := "(II)I" } : MethodName) prog_11_method_54_code (5 : Nat) (Option.some FieldType.int)) ∈ tb_all := tc_6 70 rfl rfl
theorem tw_1271 : (Cond.constant "MailHeadsModel" (274 : Nat) (100000 : Int32)) ∈ tb_all := tc_6 71 rfl rfl
theorem tw_1272 : (Cond.methodLink "MailHeadsModel" (322 : Nat) ({ cls := "MailHeadsModel", name := "step", desc := "()V" } : MethodName)) ∈ tb_all := tc_6 72 rfl rfl
theorem tw_1274 : (Cond.instanceMethod ({ cls := "MailHeadsModel", name := "step", desc := "()V" } : MethodName)) ∈ tb_all := tc_6 74 rfl rfl
theorem tw_1275 : (Cond.code ({ cls := "MailHeadsModel", name := "step", desc := "()V" } : MethodName) prog_11_method_51_code (1 : Nat) (Option.none : Option Jvm.ClassFile.FieldType)) ∈ tb_all := tc_6 75 rfl rfl
theorem tw_1276 : (Cond.methodLink "MailHeadsModel" (325 : Nat) ({ cls := "MailHeadsModel", name := "monthOf", desc := "(I)I" } : MethodName)) ∈ tb_all := tc_6 76 rfl rfl
theorem tw_1278 : (Cond.instanceMethod ({ cls := "MailHeadsModel", name := "monthOf", desc := "(I)I" } : MethodName)) ∈ tb_all := tc_6 78 rfl rfl
theorem tw_1279 : (Cond.code ({ cls := "MailHeadsModel", name := "monthOf", desc := "(I)I" } : MethodName) prog_11_method_57_code (2 : Nat) (Option.some FieldType.int)) ∈ tb_all := tc_6 79 rfl rfl
theorem tw_1280 : (Cond.constant "MailHeadsModel" (278 : Nat) (6971758 : Int32)) ∈ tb_all := tc_6 80 rfl rfl
theorem tw_1281 : (Cond.methodLink "MailHeadsModel" (279 : Nat) ({ cls := "MailHeadsModel", name := "isThree", desc := "(III)Z" } : MethodName)) ∈ tb_all := tc_6 81 rfl rfl
theorem tw_1283 : (Cond.instanceMethod ({ cls := "MailHeadsModel", name := "isThree", desc := "(III)Z" } : MethodName)) ∈ tb_all := tc_6 83 rfl rfl
theorem tw_1284 : (Cond.code ({ cls := "MailHeadsModel", name := "isThree", desc := "(III)Z" } : MethodName) prog_11_method_56_code (5 : Nat) (Option.some FieldType.boolean)) ∈ tb_all := tc_6 84 rfl rfl
theorem tw_1285 : (Cond.constant "MailHeadsModel" (283 : Nat) (6710626 : Int32)) ∈ tb_all := tc_6 85 rfl rfl
theorem tw_1286 : (Cond.constant "MailHeadsModel" (284 : Nat) (7168370 : Int32)) ∈ tb_all := tc_6 86 rfl rfl
theorem tw_1287 : (Cond.constant "MailHeadsModel" (285 : Nat) (6385778 : Int32)) ∈ tb_all := tc_6 87 rfl rfl
theorem tw_1288 : (Cond.constant "MailHeadsModel" (286 : Nat) (7168377 : Int32)) ∈ tb_all := tc_6 88 rfl rfl
theorem tw_1289 : (Cond.constant "MailHeadsModel" (287 : Nat) (6976878 : Int32)) ∈ tb_all := tc_6 89 rfl rfl
theorem tw_1290 : (Cond.constant "MailHeadsModel" (288 : Nat) (6976876 : Int32)) ∈ tb_all := tc_6 90 rfl rfl
theorem tw_1291 : (Cond.constant "MailHeadsModel" (289 : Nat) (6387047 : Int32)) ∈ tb_all := tc_6 91 rfl rfl
theorem tw_1292 : (Cond.constant "MailHeadsModel" (290 : Nat) (7562608 : Int32)) ∈ tb_all := tc_6 92 rfl rfl
theorem tw_1293 : (Cond.constant "MailHeadsModel" (291 : Nat) (7299956 : Int32)) ∈ tb_all := tc_6 93 rfl rfl
theorem tw_1294 : (Cond.constant "MailHeadsModel" (292 : Nat) (7237494 : Int32)) ∈ tb_all := tc_6 94 rfl rfl
theorem tw_1295 : (Cond.constant "MailHeadsModel" (293 : Nat) (6579555 : Int32)) ∈ tb_all := tc_6 95 rfl rfl
theorem tw_1296 : (Cond.methodLink "MailHeadsModel" (328 : Nat) ({ cls := "MailHeadsModel", name := "yearOf", desc := "(I)I" } : MethodName)) ∈ tb_all := tc_6 96 rfl rfl
theorem tw_1298 : (Cond.instanceMethod ({ cls := "MailHeadsModel", name := "yearOf", desc := "(I)I" } : MethodName)) ∈ tb_all := tc_6 98 rfl rfl
theorem tw_1299 : (Cond.code ({ cls := "MailHeadsModel", name := "yearOf", desc := "(I)I" } : MethodName) prog_11_method_58_code (4 : Nat) (Option.some FieldType.int)) ∈ tb_all := tc_6 99 rfl rfl
theorem tw_1300 : (Cond.methodLink "MailHeadsModel" (315 : Nat) ({ cls := "MailHeadsModel", name := "daysOf", desc := "(II)I" } : MethodName)) ∈ tb_all := tc_6 100 rfl rfl
theorem tw_1301 : (Cond.static ({ cls := "MailHeadsModel", name := "daysOf", desc := "(II)I" } : MethodName)) ∈ tb_all := tc_6 101 rfl rfl
theorem tw_1302 : (Cond.code ({ cls := "MailHeadsModel", name := "daysOf", desc := "(II)I" } : MethodName) prog_11_method_60_code (2 : Nat) (Option.some FieldType.int)) ∈ tb_all := tc_6 102 rfl rfl
theorem tw_1303 : (Cond.methodLink "MailHeadsModel" (300 : Nat) ({ cls := "MailHeadsModel", name := "isLeap", desc := "(I)Z" } : MethodName)) ∈ tb_all := tc_6 103 rfl rfl
theorem tw_1304 : (Cond.static ({ cls := "MailHeadsModel", name := "isLeap", desc := "(I)Z" } : MethodName)) ∈ tb_all := tc_6 104 rfl rfl
theorem tw_1305 : (Cond.code ({ cls := "MailHeadsModel", name := "isLeap", desc := "(I)Z" } : MethodName) prog_11_method_59_code (1 : Nat) (Option.some FieldType.boolean)) ∈ tb_all := tc_6 105 rfl rfl
theorem tw_1306 : (Cond.methodLink "MailHeadsModel" (331 : Nat) ({ cls := "MailHeadsModel", name := "two", desc := "(I)I" } : MethodName)) ∈ tb_all := tc_6 106 rfl rfl
theorem tw_1308 : (Cond.instanceMethod ({ cls := "MailHeadsModel", name := "two", desc := "(I)I" } : MethodName)) ∈ tb_all := tc_6 108 rfl rfl
theorem tw_1309 : (Cond.code ({ cls := "MailHeadsModel", name := "two", desc := "(I)I" } : MethodName) prog_11_method_62_code (3 : Nat) (Option.some FieldType.int)) ∈ tb_all := tc_6 109 rfl rfl
theorem tw_1310 : (Cond.methodLink "MailHeadsModel" (334 : Nat) ({ cls := "MailHeadsModel", name := "dayNumber", desc := "(III)J" } : MethodName)) ∈ tb_all := tc_6 110 rfl rfl
theorem tw_1312 : (Cond.instanceMethod ({ cls := "MailHeadsModel", name := "dayNumber", desc := "(III)J" } : MethodName)) ∈ tb_all := tc_6 112 rfl rfl
theorem tw_1313 : (Cond.code ({ cls := "MailHeadsModel", name := "dayNumber", desc := "(III)J" } : MethodName) prog_11_method_63_code (7 : Nat) (Option.some FieldType.long)) ∈ tb_all := tc_6 113 rfl rfl
theorem tw_1314 : (Cond.constantLong "MailHeadsModel" (311 : Nat) (366 : Int64)) ∈ tb_all := tc_6 114 rfl rfl
theorem tw_1315 : (Cond.constantLong "MailHeadsModel" (313 : Nat) (365 : Int64)) ∈ tb_all := tc_6 115 rfl rfl
theorem tw_1316 : (Cond.constantLong "MailHeadsModel" (318 : Nat) (25567 : Int64)) ∈ tb_all := tc_6 116 rfl rfl
theorem tw_1317 : (Cond.constantLong "MailHeadsModel" (338 : Nat) (86400 : Int64)) ∈ tb_all := tc_6 117 rfl rfl
theorem tw_1318 : (Cond.constantLong "MailHeadsModel" (340 : Nat) (3600 : Int64)) ∈ tb_all := tc_6 118 rfl rfl
theorem tw_1319 : (Cond.constantLong "MailHeadsModel" (342 : Nat) (60 : Int64)) ∈ tb_all := tc_6 119 rfl rfl
theorem tw_1320 : (Cond.methodLink "MailHeadsModel" (344 : Nat) ({ cls := "MailHeadsModel", name := "zoneOf", desc := "(I)I" } : MethodName)) ∈ tb_all := tc_6 120 rfl rfl
theorem tw_1322 : (Cond.instanceMethod ({ cls := "MailHeadsModel", name := "zoneOf", desc := "(I)I" } : MethodName)) ∈ tb_all := tc_6 122 rfl rfl
theorem tw_1323 : (Cond.code ({ cls := "MailHeadsModel", name := "zoneOf", desc := "(I)I" } : MethodName) prog_11_method_61_code (7 : Nat) (Option.some FieldType.int)) ∈ tb_all := tc_6 123 rfl rfl
theorem tw_1324 : (Cond.constant "MailHeadsModel" (303 : Nat) (6644852 : Int32)) ∈ tb_all := tc_6 124 rfl rfl
theorem tw_1325 : (Cond.constant "MailHeadsModel" (304 : Nat) (6648692 : Int32)) ∈ tb_all := tc_6 125 rfl rfl
theorem tw_1326 : (Cond.constant "MailHeadsModel" (305 : Nat) (6513780 : Int32)) ∈ tb_all := tc_6 126 rfl rfl
theorem tw_1327 : (Cond.constant "MailHeadsModel" (306 : Nat) (6517620 : Int32)) ∈ tb_all := tc_6 127 rfl rfl
theorem tw_1328 : (Cond.constant "MailHeadsModel" (307 : Nat) (7169140 : Int32)) ∈ tb_all := tc_6 128 rfl rfl
theorem tw_1329 : (Cond.constant "MailHeadsModel" (308 : Nat) (7172980 : Int32)) ∈ tb_all := tc_6 129 rfl rfl
theorem tw_1330 : (Cond.constant "MailHeadsModel" (309 : Nat) (7365748 : Int32)) ∈ tb_all := tc_6 130 rfl rfl
theorem tw_1331 : (Cond.constant "MailHeadsModel" (310 : Nat) (7369588 : Int32)) ∈ tb_all := tc_6 131 rfl rfl
theorem tw_1336 : (Cond.methodLink "MailHeadsModel" (350 : Nat) ({ cls := "MailHeadsModel", name := "makeSmall", desc := "(II)V" } : MethodName)) ∈ tb_all := tc_6 136 rfl rfl
theorem tw_1338 : (Cond.instanceMethod ({ cls := "MailHeadsModel", name := "makeSmall", desc := "(II)V" } : MethodName)) ∈ tb_all := tc_6 138 rfl rfl
theorem tw_1339 : (Cond.code ({ cls := "MailHeadsModel", name := "makeSmall", desc := "(II)V" } : MethodName) prog_11_method_65_code (4 : Nat) (Option.none : Option Jvm.ClassFile.FieldType)) ∈ tb_all := tc_6 139 rfl rfl
theorem tw_1340 : (Cond.methodLink "MailHeadsModel" (353 : Nat) ({ cls := "MailHeadsModel", name := "takeParameter", desc := "(I)V" } : MethodName)) ∈ tb_all := tc_6 140 rfl rfl
theorem tw_1342 : (Cond.instanceMethod ({ cls := "MailHeadsModel", name := "takeParameter", desc := "(I)V" } : MethodName)) ∈ tb_all := tc_6 142 rfl rfl
theorem tw_1343 : (Cond.code ({ cls := "MailHeadsModel", name := "takeParameter", desc := "(I)V" } : MethodName) prog_11_method_67_code (8 : Nat) (Option.none : Option Jvm.ClassFile.FieldType)) ∈ tb_all := tc_6 143 rfl rfl
theorem tw_1348 : (Cond.methodLink "MailHeadsModel" (365 : Nat) ({ cls := "MailHeadsModel", name := "parameterOf", desc := "(II)I" } : MethodName)) ∈ tb_all := tc_6 148 rfl rfl
theorem tw_1350 : (Cond.instanceMethod ({ cls := "MailHeadsModel", name := "parameterOf", desc := "(II)I" } : MethodName)) ∈ tb_all := tc_6 150 rfl rfl
theorem tw_1351 : (Cond.code ({ cls := "MailHeadsModel", name := "parameterOf", desc := "(II)I" } : MethodName) prog_11_method_69_code (4 : Nat) (Option.some FieldType.int)) ∈ tb_all := tc_6 151 rfl rfl
theorem tw_1352 : (Cond.methodLink "MailHeadsModel" (356 : Nat) ({ cls := "MailHeadsModel", name := "isNamed", desc := "(II)Z" } : MethodName)) ∈ tb_all := tc_6 152 rfl rfl
theorem tw_1354 : (Cond.instanceMethod ({ cls := "MailHeadsModel", name := "isNamed", desc := "(II)Z" } : MethodName)) ∈ tb_all := tc_6 154 rfl rfl
theorem tw_1355 : (Cond.code ({ cls := "MailHeadsModel", name := "isNamed", desc := "(II)Z" } : MethodName) prog_11_method_68_code (4 : Nat) (Option.some FieldType.boolean)) ∈ tb_all := tc_6 155 rfl rfl
theorem tw_1356 : (Cond.methodLink "MailHeadsModel" (368 : Nat) ({ cls := "MailHeadsModel", name := "takeValue", desc := "(I)V" } : MethodName)) ∈ tb_all := tc_6 156 rfl rfl
theorem tw_1358 : (Cond.instanceMethod ({ cls := "MailHeadsModel", name := "takeValue", desc := "(I)V" } : MethodName)) ∈ tb_all := tc_6 158 rfl rfl
theorem tw_1359 : (Cond.code ({ cls := "MailHeadsModel", name := "takeValue", desc := "(I)V" } : MethodName) prog_11_method_72_code (5 : Nat) (Option.none : Option Jvm.ClassFile.FieldType)) ∈ tb_all := tc_6 159 rfl rfl
theorem tw_1360 : (Cond.methodLink "MailHeadsModel" (359 : Nat) ({ cls := "MailHeadsModel", name := "behindCharset", desc := "(I)I" } : MethodName)) ∈ tb_all := tc_6 160 rfl rfl
theorem tw_1362 : (Cond.instanceMethod ({ cls := "MailHeadsModel", name := "behindCharset", desc := "(I)I" } : MethodName)) ∈ tb_all := tc_6 162 rfl rfl
theorem tw_1363 : (Cond.code ({ cls := "MailHeadsModel", name := "behindCharset", desc := "(I)I" } : MethodName) prog_11_method_71_code (7 : Nat) (Option.some FieldType.int)) ∈ tb_all := tc_6 163 rfl rfl
theorem tw_1364 : (Cond.methodLink "MailHeadsModel" (362 : Nat) ({ cls := "MailHeadsModel", name := "sixteenth", desc := "(I)I" } : MethodName)) ∈ tb_all := tc_6 164 rfl rfl
theorem tw_1365 : (Cond.static ({ cls := "MailHeadsModel", name := "sixteenth", desc := "(I)I" } : MethodName)) ∈ tb_all := tc_6 165 rfl rfl
theorem tw_1366 : (Cond.code ({ cls := "MailHeadsModel", name := "sixteenth", desc := "(I)I" } : MethodName) prog_11_method_70_code (1 : Nat) (Option.some FieldType.int)) ∈ tb_all := tc_6 166 rfl rfl
theorem tw_1371 : (Cond.arrayClass FieldType.long) ∈ tb_all := tc_6 171 rfl rfl
theorem ts_0 : Cond.selects "MailHeads$Head" ⟨"MailHeads$Head", "takeLine", "(LMailHeads$Row;II)Z"⟩ ⟨"MailHeads$Head", "takeLine", "(LMailHeads$Row;II)Z"⟩ ∈ tb_all := tb_in 0 (by decide +kernel) rfl
theorem ts_1 : Cond.selects "MailHeads$Head" ⟨"MailHeads$Head", "takeFolded", "(LMailHeads$Row;II)V"⟩ ⟨"MailHeads$Head", "takeFolded", "(LMailHeads$Row;II)V"⟩ ∈ tb_all := tb_in 1 (by decide +kernel) rfl
theorem ts_2 : Cond.selects "MailHeads$Head" ⟨"MailHeads$Head", "putBytes", "(LMailHeads$Row;II)V"⟩ ⟨"MailHeads$Head", "putBytes", "(LMailHeads$Row;II)V"⟩ ∈ tb_all := tb_in 2 (by decide +kernel) rfl
theorem ts_3 : Cond.selects "MailHeads$Head" ⟨"MailHeads$Head", "closeValue", "()V"⟩ ⟨"MailHeads$Head", "closeValue", "()V"⟩ ∈ tb_all := tb_in 3 (by decide +kernel) rfl
theorem ts_4 : Cond.selects "MailHeads" ⟨"MailHeads", "textsFor", "(I)LMailHeads$Texts;"⟩ ⟨"MailHeads", "textsFor", "(I)LMailHeads$Texts;"⟩ ∈ tb_all := tb_in 4 (by decide +kernel) rfl
theorem ts_5 : Cond.selects "MailHeads" ⟨"MailHeads", "textFor", "(II)I"⟩ ⟨"MailHeads", "textFor", "(II)I"⟩ ∈ tb_all := tb_in 5 (by decide +kernel) rfl
theorem ts_6 : Cond.selects "MailHeads$ContentType" ⟨"MailHeads$ContentType", "firstOf", "(LMailHeads$Row;I)I"⟩ ⟨"MailHeads$ContentType", "firstOf", "(LMailHeads$Row;I)I"⟩ ∈ tb_all := tb_in 6 (by decide +kernel) rfl
theorem ts_7 : Cond.selects "MailHeads$ContentType" ⟨"MailHeads$ContentType", "putCharset", "(I)I"⟩ ⟨"MailHeads$ContentType", "putCharset", "(I)I"⟩ ∈ tb_all := tb_in 7 (by decide +kernel) rfl
theorem ts_8 : Cond.selects "MailHeads$ContentType" ⟨"MailHeads$ContentType", "quoteFrom", "(II)I"⟩ ⟨"MailHeads$ContentType", "quoteFrom", "(II)I"⟩ ∈ tb_all := tb_in 8 (by decide +kernel) rfl
theorem ts_9 : Cond.selects "MailHeads$ContentType" ⟨"MailHeads$ContentType", "putBytes", "(II)V"⟩ ⟨"MailHeads$ContentType", "putBytes", "(II)V"⟩ ∈ tb_all := tb_in 9 (by decide +kernel) rfl
theorem ts_10 : Cond.selects "MailHeads$ContentType" ⟨"MailHeads$ContentType", "hexadecimal", "(II)I"⟩ ⟨"MailHeads$ContentType", "hexadecimal", "(II)I"⟩ ∈ tb_all := tb_in 10 (by decide +kernel) rfl
theorem ts_11 : Cond.selects "MailHeads" ⟨"MailHeads", "valueOf", "(I)I"⟩ ⟨"MailHeads", "valueOf", "(I)I"⟩ ∈ tb_all := tb_in 11 (by decide +kernel) rfl
theorem ts_13 : Cond.selects "MailHeads$Words" ⟨"MailHeads$Words", "cutWord", "(IIZ)I"⟩ ⟨"MailHeads$Words", "cutWord", "(IIZ)I"⟩ ∈ tb_all := tb_in 13 (by decide +kernel) rfl
theorem ts_14 : Cond.selects "MailHeads$Words" ⟨"MailHeads$Words", "cutComment", "(IIZ)I"⟩ ⟨"MailHeads$Words", "cutComment", "(IIZ)I"⟩ ∈ tb_all := tb_in 14 (by decide +kernel) rfl
theorem ts_15 : Cond.selects "MailHeads$Words" ⟨"MailHeads$Words", "putWithin", "(II)V"⟩ ⟨"MailHeads$Words", "putWithin", "(II)V"⟩ ∈ tb_all := tb_in 15 (by decide +kernel) rfl
theorem ts_16 : Cond.selects "MailHeads$Words" ⟨"MailHeads$Words", "close", "(I)V"⟩ ⟨"MailHeads$Words", "close", "(I)V"⟩ ∈ tb_all := tb_in 16 (by decide +kernel) rfl
theorem ts_17 : Cond.selects "MailHeads$Words" ⟨"MailHeads$Words", "cutEnclosed", "(IIII)I"⟩ ⟨"MailHeads$Words", "cutEnclosed", "(IIII)I"⟩ ∈ tb_all := tb_in 17 (by decide +kernel) rfl
theorem ts_18 : Cond.selects "MailHeads$Words" ⟨"MailHeads$Words", "isSign", "(I)Z"⟩ ⟨"MailHeads$Words", "isSign", "(I)Z"⟩ ∈ tb_all := tb_in 18 (by decide +kernel) rfl
theorem ts_19 : Cond.selects "MailHeads$Words" ⟨"MailHeads$Words", "cutAtom", "(II)I"⟩ ⟨"MailHeads$Words", "cutAtom", "(II)I"⟩ ∈ tb_all := tb_in 19 (by decide +kernel) rfl
theorem ts_20 : Cond.selects "MailHeads$Addresses" ⟨"MailHeads$Addresses", "beginGathering", "()V"⟩ ⟨"MailHeads$Addresses", "beginGathering", "()V"⟩ ∈ tb_all := tb_in 20 (by decide +kernel) rfl
theorem ts_21 : Cond.selects "MailHeads$Addresses" ⟨"MailHeads$Addresses", "takeGathered", "(I)V"⟩ ⟨"MailHeads$Addresses", "takeGathered", "(I)V"⟩ ∈ tb_all := tb_in 21 (by decide +kernel) rfl
theorem ts_22 : Cond.selects "MailHeads$Addresses" ⟨"MailHeads$Addresses", "takeColon", "()V"⟩ ⟨"MailHeads$Addresses", "takeColon", "()V"⟩ ∈ tb_all := tb_in 22 (by decide +kernel) rfl
theorem ts_23 : Cond.selects "MailHeads$Addresses" ⟨"MailHeads$Addresses", "isName", "(I)Z"⟩ ⟨"MailHeads$Addresses", "isName", "(I)Z"⟩ ∈ tb_all := tb_in 23 (by decide +kernel) rfl
theorem ts_24 : Cond.selects "MailHeads$Addresses" ⟨"MailHeads$Addresses", "kindAt", "(I)I"⟩ ⟨"MailHeads$Addresses", "kindAt", "(I)I"⟩ ∈ tb_all := tb_in 24 (by decide +kernel) rfl
theorem ts_25 : Cond.selects "MailHeads$Addresses" ⟨"MailHeads$Addresses", "putName", "(LMailHeads$Texts;I)V"⟩ ⟨"MailHeads$Addresses", "putName", "(LMailHeads$Texts;I)V"⟩ ∈ tb_all := tb_in 25 (by decide +kernel) rfl
theorem ts_26 : Cond.selects "MailHeads$Addresses" ⟨"MailHeads$Addresses", "takeMailbox", "()Z"⟩ ⟨"MailHeads$Addresses", "takeMailbox", "()Z"⟩ ∈ tb_all := tb_in 26 (by decide +kernel) rfl
theorem ts_27 : Cond.selects "MailHeads$Addresses" ⟨"MailHeads$Addresses", "firstOpen", "()I"⟩ ⟨"MailHeads$Addresses", "firstOpen", "()I"⟩ ∈ tb_all := tb_in 27 (by decide +kernel) rfl
theorem ts_28 : Cond.selects "MailHeads$Addresses" ⟨"MailHeads$Addresses", "behindRoute", "(II)I"⟩ ⟨"MailHeads$Addresses", "behindRoute", "(II)I"⟩ ∈ tb_all := tb_in 28 (by decide +kernel) rfl
theorem ts_29 : Cond.selects "MailHeads$Addresses" ⟨"MailHeads$Addresses", "dottedEnd", "(IIZ)I"⟩ ⟨"MailHeads$Addresses", "dottedEnd", "(IIZ)I"⟩ ∈ tb_all := tb_in 29 (by decide +kernel) rfl
theorem ts_30 : Cond.selects "MailHeads$Addresses" ⟨"MailHeads$Addresses", "isDomainBehind", "(II)Z"⟩ ⟨"MailHeads$Addresses", "isDomainBehind", "(II)Z"⟩ ∈ tb_all := tb_in 30 (by decide +kernel) rfl
theorem ts_31 : Cond.selects "MailHeads$Addresses" ⟨"MailHeads$Addresses", "putWords", "(II)V"⟩ ⟨"MailHeads$Addresses", "putWords", "(II)V"⟩ ∈ tb_all := tb_in 31 (by decide +kernel) rfl
theorem ts_32 : Cond.selects "MailHeads$Identities" ⟨"MailHeads$Identities", "takeBetween", "(LMailHeads$Texts;III)V"⟩ ⟨"MailHeads$Identities", "takeBetween", "(LMailHeads$Texts;III)V"⟩ ∈ tb_all := tb_in 32 (by decide +kernel) rfl
theorem ts_33 : Cond.selects "MailHeads$DateReader" ⟨"MailHeads$DateReader", "takeNumber", "(II)I"⟩ ⟨"MailHeads$DateReader", "takeNumber", "(II)I"⟩ ∈ tb_all := tb_in 33 (by decide +kernel) rfl
theorem ts_34 : Cond.selects "MailHeads$DateReader" ⟨"MailHeads$DateReader", "digits", "(II)I"⟩ ⟨"MailHeads$DateReader", "digits", "(II)I"⟩ ∈ tb_all := tb_in 34 (by decide +kernel) rfl
theorem ts_35 : Cond.selects "MailHeads$DateReader" ⟨"MailHeads$DateReader", "takeMonth", "()I"⟩ ⟨"MailHeads$DateReader", "takeMonth", "()I"⟩ ∈ tb_all := tb_in 35 (by decide +kernel) rfl
theorem ts_36 : Cond.selects "MailHeads$DateReader" ⟨"MailHeads$DateReader", "threeLetters", "(Ljava/lang/String;)I"⟩ ⟨"MailHeads$DateReader", "threeLetters", "(Ljava/lang/String;)I"⟩ ∈ tb_all := tb_in 36 (by decide +kernel) rfl
theorem ts_37 : Cond.selects "MailHeads$DateReader" ⟨"MailHeads$DateReader", "isLetter", "(II)Z"⟩ ⟨"MailHeads$DateReader", "isLetter", "(II)Z"⟩ ∈ tb_all := tb_in 37 (by decide +kernel) rfl
theorem ts_38 : Cond.selects "MailHeads$DateReader" ⟨"MailHeads$DateReader", "takeYear", "()I"⟩ ⟨"MailHeads$DateReader", "takeYear", "()I"⟩ ∈ tb_all := tb_in 38 (by decide +kernel) rfl
theorem ts_39 : Cond.selects "MailHeads$DateReader" ⟨"MailHeads$DateReader", "takeColon", "()Z"⟩ ⟨"MailHeads$DateReader", "takeColon", "()Z"⟩ ∈ tb_all := tb_in 39 (by decide +kernel) rfl
theorem ts_40 : Cond.selects "MailHeads$DateReader" ⟨"MailHeads$DateReader", "zoneSeconds", "()I"⟩ ⟨"MailHeads$DateReader", "zoneSeconds", "()I"⟩ ∈ tb_all := tb_in 40 (by decide +kernel) rfl
theorem ts_41 : Cond.selects "MailHeads$DateReader" ⟨"MailHeads$DateReader", "signedZone", "(I)I"⟩ ⟨"MailHeads$DateReader", "signedZone", "(I)I"⟩ ∈ tb_all := tb_in 41 (by decide +kernel) rfl
theorem ts_42 : Cond.selects "MailHeads$ContentType" ⟨"MailHeads$ContentType", "takePart", "(I)V"⟩ ⟨"MailHeads$ContentType", "takePart", "(I)V"⟩ ∈ tb_all := tb_in 42 (by decide +kernel) rfl
theorem ts_43 : Cond.selects "MailHeads$ContentType" ⟨"MailHeads$ContentType", "takeParameter", "(I)V"⟩ ⟨"MailHeads$ContentType", "takeParameter", "(I)V"⟩ ∈ tb_all := tb_in 43 (by decide +kernel) rfl
theorem ts_44 : Cond.selects "MailHeadsModel" ⟨"MailHeadsModel", "readyWord", "(II)V"⟩ ⟨"MailHeadsModel", "readyWord", "(II)V"⟩ ∈ tb_all := tb_in 44 (by decide +kernel) rfl
theorem ts_45 : Cond.selects "MailHeadsModel" ⟨"MailHeadsModel", "colonOf", "(II)I"⟩ ⟨"MailHeadsModel", "colonOf", "(II)I"⟩ ∈ tb_all := tb_in 45 (by decide +kernel) rfl
theorem ts_46 : Cond.selects "MailHeadsModel" ⟨"MailHeadsModel", "keep", "(II)V"⟩ ⟨"MailHeadsModel", "keep", "(II)V"⟩ ∈ tb_all := tb_in 46 (by decide +kernel) rfl
theorem ts_47 : Cond.selects "MailHeadsModel" ⟨"MailHeadsModel", "addField", "(III)V"⟩ ⟨"MailHeadsModel", "addField", "(III)V"⟩ ∈ tb_all := tb_in 47 (by decide +kernel) rfl
theorem ts_48 : Cond.selects "MailHeadsModel" ⟨"MailHeadsModel", "isField", "(I)Z"⟩ ⟨"MailHeadsModel", "isField", "(I)Z"⟩ ∈ tb_all := tb_in 48 (by decide +kernel) rfl
theorem ts_49 : Cond.selects "MailHeadsModel" ⟨"MailHeadsModel", "cut", "(IZ)V"⟩ ⟨"MailHeadsModel", "cut", "(IZ)V"⟩ ∈ tb_all := tb_in 49 (by decide +kernel) rfl
theorem ts_50 : Cond.selects "MailHeadsModel" ⟨"MailHeadsModel", "takeEnclosed", "(II)V"⟩ ⟨"MailHeadsModel", "takeEnclosed", "(II)V"⟩ ∈ tb_all := tb_in 50 (by decide +kernel) rfl
theorem ts_51 : Cond.selects "MailHeadsModel" ⟨"MailHeadsModel", "beginWord", "(II)V"⟩ ⟨"MailHeadsModel", "beginWord", "(II)V"⟩ ∈ tb_all := tb_in 51 (by decide +kernel) rfl
theorem ts_52 : Cond.selects "MailHeadsModel" ⟨"MailHeadsModel", "put", "(I)V"⟩ ⟨"MailHeadsModel", "put", "(I)V"⟩ ∈ tb_all := tb_in 52 (by decide +kernel) rfl
theorem ts_53 : Cond.selects "MailHeadsModel" ⟨"MailHeadsModel", "endWord", "()V"⟩ ⟨"MailHeadsModel", "endWord", "()V"⟩ ∈ tb_all := tb_in 53 (by decide +kernel) rfl
theorem ts_54 : Cond.selects "MailHeadsModel" ⟨"MailHeadsModel", "isSign", "(I)Z"⟩ ⟨"MailHeadsModel", "isSign", "(I)Z"⟩ ∈ tb_all := tb_in 54 (by decide +kernel) rfl
theorem ts_55 : Cond.selects "MailHeadsModel" ⟨"MailHeadsModel", "takeAtom", "()V"⟩ ⟨"MailHeadsModel", "takeAtom", "()V"⟩ ∈ tb_all := tb_in 55 (by decide +kernel) rfl
theorem ts_56 : Cond.selects "MailHeadsModel" ⟨"MailHeadsModel", "look", "()I"⟩ ⟨"MailHeadsModel", "look", "()I"⟩ ∈ tb_all := tb_in 56 (by decide +kernel) rfl
theorem ts_57 : Cond.selects "MailHeadsModel" ⟨"MailHeadsModel", "forget", "(III)V"⟩ ⟨"MailHeadsModel", "forget", "(III)V"⟩ ∈ tb_all := tb_in 57 (by decide +kernel) rfl
theorem ts_58 : Cond.selects "MailHeadsModel" ⟨"MailHeadsModel", "is", "(II)Z"⟩ ⟨"MailHeadsModel", "is", "(II)Z"⟩ ∈ tb_all := tb_in 58 (by decide +kernel) rfl
theorem ts_59 : Cond.selects "MailHeadsModel" ⟨"MailHeadsModel", "beginGroup", "(II)V"⟩ ⟨"MailHeadsModel", "beginGroup", "(II)V"⟩ ∈ tb_all := tb_in 59 (by decide +kernel) rfl
theorem ts_60 : Cond.selects "MailHeadsModel" ⟨"MailHeadsModel", "isName", "(II)Z"⟩ ⟨"MailHeadsModel", "isName", "(II)Z"⟩ ∈ tb_all := tb_in 60 (by decide +kernel) rfl
theorem ts_61 : Cond.selects "MailHeadsModel" ⟨"MailHeadsModel", "next", "(II)I"⟩ ⟨"MailHeadsModel", "next", "(II)I"⟩ ∈ tb_all := tb_in 61 (by decide +kernel) rfl
theorem ts_62 : Cond.selects "MailHeadsModel" ⟨"MailHeadsModel", "makeName", "(III)V"⟩ ⟨"MailHeadsModel", "makeName", "(III)V"⟩ ∈ tb_all := tb_in 62 (by decide +kernel) rfl
theorem ts_63 : Cond.selects "MailHeadsModel" ⟨"MailHeadsModel", "beginPart", "(I)V"⟩ ⟨"MailHeadsModel", "beginPart", "(I)V"⟩ ∈ tb_all := tb_in 63 (by decide +kernel) rfl
theorem ts_64 : Cond.selects "MailHeadsModel" ⟨"MailHeadsModel", "roomAt", "(I)I"⟩ ⟨"MailHeadsModel", "roomAt", "(I)I"⟩ ∈ tb_all := tb_in 64 (by decide +kernel) rfl
theorem ts_65 : Cond.selects "MailHeadsModel" ⟨"MailHeadsModel", "add", "(II)V"⟩ ⟨"MailHeadsModel", "add", "(II)V"⟩ ∈ tb_all := tb_in 65 (by decide +kernel) rfl
theorem ts_66 : Cond.selects "MailHeadsModel" ⟨"MailHeadsModel", "addWord", "(II)V"⟩ ⟨"MailHeadsModel", "addWord", "(II)V"⟩ ∈ tb_all := tb_in 66 (by decide +kernel) rfl
theorem ts_67 : Cond.selects "MailHeadsModel" ⟨"MailHeadsModel", "endPart", "(I)V"⟩ ⟨"MailHeadsModel", "endPart", "(I)V"⟩ ∈ tb_all := tb_in 67 (by decide +kernel) rfl
theorem ts_68 : Cond.selects "MailHeadsModel" ⟨"MailHeadsModel", "takeMailbox", "(IIZI)V"⟩ ⟨"MailHeadsModel", "takeMailbox", "(IIZI)V"⟩ ∈ tb_all := tb_in 68 (by decide +kernel) rfl
theorem ts_69 : Cond.selects "MailHeadsModel" ⟨"MailHeadsModel", "behindRoute", "(II)I"⟩ ⟨"MailHeadsModel", "behindRoute", "(II)I"⟩ ∈ tb_all := tb_in 69 (by decide +kernel) rfl
theorem ts_70 : Cond.selects "MailHeadsModel" ⟨"MailHeadsModel", "isSpec", "(II)Z"⟩ ⟨"MailHeadsModel", "isSpec", "(II)Z"⟩ ∈ tb_all := tb_in 70 (by decide +kernel) rfl
theorem ts_71 : Cond.selects "MailHeadsModel" ⟨"MailHeadsModel", "rowEnd", "(IIZ)I"⟩ ⟨"MailHeadsModel", "rowEnd", "(IIZ)I"⟩ ∈ tb_all := tb_in 71 (by decide +kernel) rfl
theorem ts_72 : Cond.selects "MailHeadsModel" ⟨"MailHeadsModel", "isRowWord", "(IIZ)Z"⟩ ⟨"MailHeadsModel", "isRowWord", "(IIZ)Z"⟩ ∈ tb_all := tb_in 72 (by decide +kernel) rfl
theorem ts_73 : Cond.selects "MailHeadsModel" ⟨"MailHeadsModel", "makeComment", "(II)V"⟩ ⟨"MailHeadsModel", "makeComment", "(II)V"⟩ ∈ tb_all := tb_in 73 (by decide +kernel) rfl
theorem ts_74 : Cond.selects "MailHeadsModel" ⟨"MailHeadsModel", "makeWords", "(III)V"⟩ ⟨"MailHeadsModel", "makeWords", "(III)V"⟩ ∈ tb_all := tb_in 74 (by decide +kernel) rfl
theorem ts_75 : Cond.selects "MailHeadsModel" ⟨"MailHeadsModel", "isDigits", "(III)Z"⟩ ⟨"MailHeadsModel", "isDigits", "(III)Z"⟩ ∈ tb_all := tb_in 75 (by decide +kernel) rfl
theorem ts_76 : Cond.selects "MailHeadsModel" ⟨"MailHeadsModel", "longOf", "(I)I"⟩ ⟨"MailHeadsModel", "longOf", "(I)I"⟩ ∈ tb_all := tb_in 76 (by decide +kernel) rfl
theorem ts_77 : Cond.selects "MailHeadsModel" ⟨"MailHeadsModel", "number", "(I)I"⟩ ⟨"MailHeadsModel", "number", "(I)I"⟩ ∈ tb_all := tb_in 77 (by decide +kernel) rfl
theorem ts_78 : Cond.selects "MailHeadsModel" ⟨"MailHeadsModel", "numberOf", "(II)I"⟩ ⟨"MailHeadsModel", "numberOf", "(II)I"⟩ ∈ tb_all := tb_in 78 (by decide +kernel) rfl
theorem ts_79 : Cond.selects "MailHeadsModel" ⟨"MailHeadsModel", "step", "()V"⟩ ⟨"MailHeadsModel", "step", "()V"⟩ ∈ tb_all := tb_in 79 (by decide +kernel) rfl
theorem ts_80 : Cond.selects "MailHeadsModel" ⟨"MailHeadsModel", "monthOf", "(I)I"⟩ ⟨"MailHeadsModel", "monthOf", "(I)I"⟩ ∈ tb_all := tb_in 80 (by decide +kernel) rfl
theorem ts_81 : Cond.selects "MailHeadsModel" ⟨"MailHeadsModel", "isThree", "(III)Z"⟩ ⟨"MailHeadsModel", "isThree", "(III)Z"⟩ ∈ tb_all := tb_in 81 (by decide +kernel) rfl
theorem ts_82 : Cond.selects "MailHeadsModel" ⟨"MailHeadsModel", "yearOf", "(I)I"⟩ ⟨"MailHeadsModel", "yearOf", "(I)I"⟩ ∈ tb_all := tb_in 82 (by decide +kernel) rfl
theorem ts_83 : Cond.selects "MailHeadsModel" ⟨"MailHeadsModel", "two", "(I)I"⟩ ⟨"MailHeadsModel", "two", "(I)I"⟩ ∈ tb_all := tb_in 83 (by decide +kernel) rfl
theorem ts_84 : Cond.selects "MailHeadsModel" ⟨"MailHeadsModel", "dayNumber", "(III)J"⟩ ⟨"MailHeadsModel", "dayNumber", "(III)J"⟩ ∈ tb_all := tb_in 84 (by decide +kernel) rfl
theorem ts_85 : Cond.selects "MailHeadsModel" ⟨"MailHeadsModel", "zoneOf", "(I)I"⟩ ⟨"MailHeadsModel", "zoneOf", "(I)I"⟩ ∈ tb_all := tb_in 85 (by decide +kernel) rfl
theorem ts_86 : Cond.selects "MailHeadsModel" ⟨"MailHeadsModel", "makeSmall", "(II)V"⟩ ⟨"MailHeadsModel", "makeSmall", "(II)V"⟩ ∈ tb_all := tb_in 86 (by decide +kernel) rfl
theorem ts_87 : Cond.selects "MailHeadsModel" ⟨"MailHeadsModel", "takeParameter", "(I)V"⟩ ⟨"MailHeadsModel", "takeParameter", "(I)V"⟩ ∈ tb_all := tb_in 87 (by decide +kernel) rfl
theorem ts_88 : Cond.selects "MailHeadsModel" ⟨"MailHeadsModel", "parameterOf", "(II)I"⟩ ⟨"MailHeadsModel", "parameterOf", "(II)I"⟩ ∈ tb_all := tb_in 88 (by decide +kernel) rfl
theorem ts_89 : Cond.selects "MailHeadsModel" ⟨"MailHeadsModel", "isNamed", "(II)Z"⟩ ⟨"MailHeadsModel", "isNamed", "(II)Z"⟩ ∈ tb_all := tb_in 89 (by decide +kernel) rfl
theorem ts_90 : Cond.selects "MailHeadsModel" ⟨"MailHeadsModel", "takeValue", "(I)V"⟩ ⟨"MailHeadsModel", "takeValue", "(I)V"⟩ ∈ tb_all := tb_in 90 (by decide +kernel) rfl
theorem ts_91 : Cond.selects "MailHeadsModel" ⟨"MailHeadsModel", "behindCharset", "(I)I"⟩ ⟨"MailHeadsModel", "behindCharset", "(I)I"⟩ ∈ tb_all := tb_in 91 (by decide +kernel) rfl
theorem tb_Mail : ∀ w ∈ u_ws cR_Mail cF_Mail 9, w ∈ tb_all := fun w h => by
  have e : u_ws cR_Mail cF_Mail 9 = [319, 321, 323, 325, 327, 329, 331, 333, 335].filterMap (fun i => lw_tbl[i]?) := by decide +kernel
  have g : (u_ws cR_Mail cF_Mail 9).all goodWord = true := by decide +kernel
  have hg := List.all_eq_true.mp g w h
  rw [e] at h
  obtain ⟨i, -, hi⟩ := List.mem_filterMap.mp h
  exact tb_in i hi hg
theorem tb_Row : ∀ w ∈ u_ws cR_Row cF_Row 2, w ∈ tb_all := fun w h => by
  have e : u_ws cR_Row cF_Row 2 = [131, 133].filterMap (fun i => lw_tbl[i]?) := by decide +kernel
  have g : (u_ws cR_Row cF_Row 2).all goodWord = true := by decide +kernel
  have hg := List.all_eq_true.mp g w h
  rw [e] at h
  obtain ⟨i, -, hi⟩ := List.mem_filterMap.mp h
  exact tb_in i hi hg
theorem tb_Head : ∀ w ∈ u_ws cR_Head cF_Head 3, w ∈ tb_all := fun w h => by
  have e : u_ws cR_Head cF_Head 3 = [181, 183, 185].filterMap (fun i => lw_tbl[i]?) := by decide +kernel
  have g : (u_ws cR_Head cF_Head 3).all goodWord = true := by decide +kernel
  have hg := List.all_eq_true.mp g w h
  rw [e] at h
  obtain ⟨i, -, hi⟩ := List.mem_filterMap.mp h
  exact tb_in i hi hg
theorem tb_Texts : ∀ w ∈ u_ws cR_Texts cF_Texts 2, w ∈ tb_all := fun w h => by
  have e : u_ws cR_Texts cF_Texts 2 = [173, 175].filterMap (fun i => lw_tbl[i]?) := by decide +kernel
  have g : (u_ws cR_Texts cF_Texts 2).all goodWord = true := by decide +kernel
  have hg := List.all_eq_true.mp g w h
  rw [e] at h
  obtain ⟨i, -, hi⟩ := List.mem_filterMap.mp h
  exact tb_in i hi hg
theorem tb_Words : ∀ w ∈ u_ws cR_Words cF_Words 5, w ∈ tb_all := fun w h => by
  have e : u_ws cR_Words cF_Words 5 = [204, 206, 208, 210, 212].filterMap (fun i => lw_tbl[i]?) := by decide +kernel
  have g : (u_ws cR_Words cF_Words 5).all goodWord = true := by decide +kernel
  have hg := List.all_eq_true.mp g w h
  rw [e] at h
  obtain ⟨i, -, hi⟩ := List.mem_filterMap.mp h
  exact tb_in i hi hg
theorem tb_Addresses : ∀ w ∈ u_ws cR_Addresses cF_Addresses 8, w ∈ tb_all := fun w h => by
  have e : u_ws cR_Addresses cF_Addresses 8 = [234, 236, 238, 240, 242, 244, 246, 248].filterMap (fun i => lw_tbl[i]?) := by decide +kernel
  have g : (u_ws cR_Addresses cF_Addresses 8).all goodWord = true := by decide +kernel
  have hg := List.all_eq_true.mp g w h
  rw [e] at h
  obtain ⟨i, -, hi⟩ := List.mem_filterMap.mp h
  exact tb_in i hi hg
theorem tb_Identities : ∀ w ∈ u_ws cR_Identities cF_Identities 1, w ∈ tb_all := fun w h => by
  have e : u_ws cR_Identities cF_Identities 1 = [260].filterMap (fun i => lw_tbl[i]?) := by decide +kernel
  have g : (u_ws cR_Identities cF_Identities 1).all goodWord = true := by decide +kernel
  have hg := List.all_eq_true.mp g w h
  rw [e] at h
  obtain ⟨i, -, hi⟩ := List.mem_filterMap.mp h
  exact tb_in i hi hg
theorem tb_DateReader : ∀ w ∈ u_ws cR_DateReader cF_DateReader 2, w ∈ tb_all := fun w h => by
  have e : u_ws cR_DateReader cF_DateReader 2 = [271, 273].filterMap (fun i => lw_tbl[i]?) := by decide +kernel
  have g : (u_ws cR_DateReader cF_DateReader 2).all goodWord = true := by decide +kernel
  have hg := List.all_eq_true.mp g w h
  rw [e] at h
  obtain ⟨i, -, hi⟩ := List.mem_filterMap.mp h
  exact tb_in i hi hg
theorem tb_ContentType : ∀ w ∈ u_ws cR_ContentType cF_ContentType 7, w ∈ tb_all := fun w h => by
  have e : u_ws cR_ContentType cF_ContentType 7 = [293, 295, 297, 299, 301, 303, 305].filterMap (fun i => lw_tbl[i]?) := by decide +kernel
  have g : (u_ws cR_ContentType cF_ContentType 7).all goodWord = true := by decide +kernel
  have hg := List.all_eq_true.mp g w h
  rw [e] at h
  obtain ⟨i, -, hi⟩ := List.mem_filterMap.mp h
  exact tb_in i hi hg
theorem tb_Model : ∀ w ∈ u_ws cR_Model cF_Model 45, w ∈ tb_all := fun w h => by
  have e : u_ws cR_Model cF_Model 45 = [1057, 1059, 1061, 1063, 1065, 1067, 1069, 1071, 1073, 1075, 1077, 1079, 1081, 1083, 1085, 1087, 1089, 1091, 1093, 1095, 1097, 1099, 1101, 1103, 1105, 1107, 1109, 1111, 1113, 1115, 1117, 1119, 1121, 1123, 1125, 1127, 1129, 1131, 1133, 1135, 1137, 1139, 1141, 1143, 1145].filterMap (fun i => lw_tbl[i]?) := by decide +kernel
  have g : (u_ws cR_Model cF_Model 45).all goodWord = true := by decide +kernel
  have hg := List.all_eq_true.mp g w h
  rw [e] at h
  obtain ⟨i, -, hi⟩ := List.mem_filterMap.mp h
  exact tb_in i hi hg
