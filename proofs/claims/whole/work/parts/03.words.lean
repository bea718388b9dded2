def mOkW (w : Cond) : Bool := (w.onTables && w.keeps) || (match w with | .arrayClass _ => true | _ => false)
def mWS : List Cond := lw_tbl.filter mOkW
theorem mw1 {w : Cond} (i : Nat) (h0 : tables_1_1[i]? = some w) (h2 : mOkW w = true) : w ∈ mWS := by
  have h := List.mem_of_getElem? h0
  exact List.mem_filter.mpr ⟨List.mem_append_right _ (List.mem_append_left _ h), h2⟩
theorem mw2 {w : Cond} (i : Nat) (h0 : tables_1_2[i]? = some w) (h2 : mOkW w = true) : w ∈ mWS := by
  have h := List.mem_of_getElem? h0
  exact List.mem_filter.mpr ⟨List.mem_append_right _ (List.mem_append_right _ (List.mem_append_left _ h)), h2⟩
theorem mw3 {w : Cond} (i : Nat) (h0 : tables_1_3[i]? = some w) (h2 : mOkW w = true) : w ∈ mWS := by
  have h := List.mem_of_getElem? h0
  exact List.mem_filter.mpr ⟨List.mem_append_right _ (List.mem_append_right _ (List.mem_append_right _ (List.mem_append_left _ h))), h2⟩
theorem mw4 {w : Cond} (i : Nat) (h0 : tables_1_4[i]? = some w) (h2 : mOkW w = true) : w ∈ mWS := by
  have h := List.mem_of_getElem? h0
  exact List.mem_filter.mpr ⟨List.mem_append_right _ (List.mem_append_right _ (List.mem_append_right _ (List.mem_append_right _ h))), h2⟩
theorem q_0 : Cond.initialized "PurseCardLaw" ∈ mWS := mw1 0 (by decide +kernel) rfl
theorem q_1 : Cond.initialized "PurseCard" ∈ mWS := mw1 1 (by decide +kernel) rfl
theorem q_2 : Cond.initialized "PurseCard$Row" ∈ mWS := mw1 2 (by decide +kernel) rfl
theorem q_3 : Cond.initialized "PurseCard$TagSearch" ∈ mWS := mw1 3 (by decide +kernel) rfl
theorem q_4 : Cond.initialized "PurseCard$Card" ∈ mWS := mw1 4 (by decide +kernel) rfl
theorem q_5 : Cond.initialized "PurseCard$Files" ∈ mWS := mw1 5 (by decide +kernel) rfl
theorem q_6 : Cond.initialized "PurseCard$Sealer" ∈ mWS := mw1 6 (by decide +kernel) rfl
theorem q_7 : Cond.initialized "java/util/Arrays" ∈ mWS := mw1 7 (by decide +kernel) rfl
theorem q_8 : Cond.initialized "java/lang/System" ∈ mWS := mw1 8 (by decide +kernel) rfl
theorem q_9 : Cond.initialized "PurseCardModel" ∈ mWS := mw1 9 (by decide +kernel) rfl
theorem q_10 : Cond.classLink "PurseCardLaw" (7 : Nat) "PurseCard" ∈ mWS := mw1 10 (by decide +kernel) rfl
theorem q_11 : Cond.instantiable "PurseCard" (5 : Nat) ∈ mWS := mw1 11 (by decide +kernel) rfl
theorem q_12 : Cond.methodLink "PurseCardLaw" (15 : Nat) ⟨"PurseCard", "<init>", "(I)V"⟩ ∈ mWS := mw1 12 (by decide +kernel) rfl
theorem q_13 : Cond.instanceMethod ⟨"PurseCard", "<init>", "(I)V"⟩ ∈ mWS := mw1 13 (by decide +kernel) rfl
theorem q_14 : Cond.code ⟨"PurseCard", "<init>", "(I)V"⟩ prog_1_method_1_code (2 : Nat) (Option.none : Option FieldType) ∈ mWS := mw1 14 (by decide +kernel) rfl
theorem q_15 : Cond.methodLink "PurseCard" (1 : Nat) ⟨"java/lang/Object", "<init>", "()V"⟩ ∈ mWS := mw1 15 (by decide +kernel) rfl
theorem q_16 : Cond.instanceMethod ⟨"java/lang/Object", "<init>", "()V"⟩ ∈ mWS := mw1 16 (by decide +kernel) rfl
theorem q_17 : Cond.code ⟨"java/lang/Object", "<init>", "()V"⟩ object_method_1_code (1 : Nat) (Option.none : Option FieldType) ∈ mWS := mw1 17 (by decide +kernel) rfl
theorem q_18 : Cond.classLink "PurseCard" (7 : Nat) "PurseCard$Row" ∈ mWS := mw1 18 (by decide +kernel) rfl
theorem q_19 : Cond.instantiable "PurseCard$Row" (2 : Nat) ∈ mWS := mw1 19 (by decide +kernel) rfl
theorem q_20 : Cond.methodLink "PurseCard" (11 : Nat) ⟨"PurseCard$Row", "<init>", "(I)V"⟩ ∈ mWS := mw1 20 (by decide +kernel) rfl
theorem q_21 : Cond.instanceMethod ⟨"PurseCard$Row", "<init>", "(I)V"⟩ ∈ mWS := mw1 21 (by decide +kernel) rfl
theorem q_22 : Cond.code ⟨"PurseCard$Row", "<init>", "(I)V"⟩ prog_4_method_1_code (2 : Nat) (Option.none : Option FieldType) ∈ mWS := mw1 22 (by decide +kernel) rfl
theorem q_23 : Cond.methodLink "PurseCard$Row" (3 : Nat) ⟨"java/lang/Object", "<init>", "()V"⟩ ∈ mWS := mw1 23 (by decide +kernel) rfl
theorem q_24 : Cond.fieldLink "PurseCard$Row" (15 : Nat) "PurseCard$Row" "bytes" "[I" ∈ mWS := mw1 24 (by decide +kernel) rfl
theorem q_25 : Cond.fieldLink "PurseCard$Row" (9 : Nat) "PurseCard$Row" "size" "I" ∈ mWS := mw1 25 (by decide +kernel) rfl
theorem q_26 : Cond.laysFinal "PurseCard$Row" "PurseCard$Row" "bytes" "[I" ∈ mWS := mw1 26 (by decide +kernel) rfl
theorem q_28 : Cond.lays "PurseCard$Row" "PurseCard$Row" "size" "I" ∈ mWS := mw1 28 (by decide +kernel) rfl
theorem q_31 : Cond.arrayClass FieldType.int ∈ mWS := mw1 31 (by decide +kernel) rfl
theorem q_32 : Cond.classLink "PurseCard" (24 : Nat) "PurseCard$TagSearch" ∈ mWS := mw1 32 (by decide +kernel) rfl
theorem q_33 : Cond.instantiable "PurseCard$TagSearch" (1 : Nat) ∈ mWS := mw1 33 (by decide +kernel) rfl
theorem q_35 : Cond.instanceMethod ⟨"PurseCard$TagSearch", "<init>", "()V"⟩ ∈ mWS := mw1 35 (by decide +kernel) rfl
theorem q_36 : Cond.code ⟨"PurseCard$TagSearch", "<init>", "()V"⟩ prog_6_method_1_code (1 : Nat) (Option.none : Option FieldType) ∈ mWS := mw1 36 (by decide +kernel) rfl
theorem q_37 : Cond.methodLink "PurseCard$TagSearch" (3 : Nat) ⟨"java/lang/Object", "<init>", "()V"⟩ ∈ mWS := mw1 37 (by decide +kernel) rfl
theorem q_38 : Cond.fieldLink "PurseCard$TagSearch" (9 : Nat) "PurseCard$TagSearch" "ends" "[I" ∈ mWS := mw1 38 (by decide +kernel) rfl
theorem q_39 : Cond.laysFinal "PurseCard$TagSearch" "PurseCard$TagSearch" "ends" "[I" ∈ mWS := mw1 39 (by decide +kernel) rfl
theorem q_42 : Cond.classLink "PurseCard" (31 : Nat) "PurseCard$Card" ∈ mWS := mw1 42 (by decide +kernel) rfl
theorem q_43 : Cond.instantiable "PurseCard$Card" (10 : Nat) ∈ mWS := mw1 43 (by decide +kernel) rfl
theorem q_44 : Cond.methodLink "PurseCard" (33 : Nat) ⟨"PurseCard$Card", "<init>", "(I)V"⟩ ∈ mWS := mw1 44 (by decide +kernel) rfl
theorem q_45 : Cond.instanceMethod ⟨"PurseCard$Card", "<init>", "(I)V"⟩ ∈ mWS := mw1 45 (by decide +kernel) rfl
theorem q_46 : Cond.code ⟨"PurseCard$Card", "<init>", "(I)V"⟩ prog_2_method_1_code (2 : Nat) (Option.none : Option FieldType) ∈ mWS := mw1 46 (by decide +kernel) rfl
theorem q_47 : Cond.methodLink "PurseCard$Card" (3 : Nat) ⟨"java/lang/Object", "<init>", "()V"⟩ ∈ mWS := mw1 47 (by decide +kernel) rfl
theorem q_48 : Cond.classLink "PurseCard$Card" (9 : Nat) "PurseCard$Row" ∈ mWS := mw1 48 (by decide +kernel) rfl
theorem q_49 : Cond.methodLink "PurseCard$Card" (11 : Nat) ⟨"PurseCard$Row", "<init>", "(I)V"⟩ ∈ mWS := mw1 49 (by decide +kernel) rfl
theorem q_50 : Cond.classLink "PurseCard$Card" (20 : Nat) "PurseCard$Files" ∈ mWS := mw1 50 (by decide +kernel) rfl
theorem q_51 : Cond.instantiable "PurseCard$Files" (3 : Nat) ∈ mWS := mw1 51 (by decide +kernel) rfl
theorem q_53 : Cond.instanceMethod ⟨"PurseCard$Files", "<init>", "()V"⟩ ∈ mWS := mw1 53 (by decide +kernel) rfl
theorem q_54 : Cond.code ⟨"PurseCard$Files", "<init>", "()V"⟩ prog_3_method_1_code (1 : Nat) (Option.none : Option FieldType) ∈ mWS := mw1 54 (by decide +kernel) rfl
theorem q_55 : Cond.methodLink "PurseCard$Files" (3 : Nat) ⟨"java/lang/Object", "<init>", "()V"⟩ ∈ mWS := mw1 55 (by decide +kernel) rfl
theorem q_56 : Cond.fieldLink "PurseCard$Files" (9 : Nat) "PurseCard$Files" "bytes" "[I" ∈ mWS := mw1 56 (by decide +kernel) rfl
theorem q_57 : Cond.fieldLink "PurseCard$Files" (15 : Nat) "PurseCard$Files" "sizes" "[I" ∈ mWS := mw1 57 (by decide +kernel) rfl
theorem q_58 : Cond.fieldLink "PurseCard$Files" (18 : Nat) "PurseCard$Files" "counts" "[I" ∈ mWS := mw1 58 (by decide +kernel) rfl
theorem q_59 : Cond.laysFinal "PurseCard$Files" "PurseCard$Files" "bytes" "[I" ∈ mWS := mw1 59 (by decide +kernel) rfl
theorem q_61 : Cond.laysFinal "PurseCard$Files" "PurseCard$Files" "sizes" "[I" ∈ mWS := mw1 61 (by decide +kernel) rfl
theorem q_63 : Cond.laysFinal "PurseCard$Files" "PurseCard$Files" "counts" "[I" ∈ mWS := mw1 63 (by decide +kernel) rfl
theorem q_66 : Cond.classLink "PurseCard$Card" (27 : Nat) "PurseCard$Sealer" ∈ mWS := mw1 66 (by decide +kernel) rfl
theorem q_67 : Cond.instantiable "PurseCard$Sealer" (6 : Nat) ∈ mWS := mw1 67 (by decide +kernel) rfl
theorem q_68 : Cond.methodLink "PurseCard$Card" (29 : Nat) ⟨"PurseCard$Sealer", "<init>", "()V"⟩ ∈ mWS := mw1 68 (by decide +kernel) rfl
theorem q_69 : Cond.instanceMethod ⟨"PurseCard$Sealer", "<init>", "()V"⟩ ∈ mWS := mw1 69 (by decide +kernel) rfl
theorem q_70 : Cond.code ⟨"PurseCard$Sealer", "<init>", "()V"⟩ prog_5_method_1_code (1 : Nat) (Option.none : Option FieldType) ∈ mWS := mw1 70 (by decide +kernel) rfl
theorem q_71 : Cond.methodLink "PurseCard$Sealer" (3 : Nat) ⟨"java/lang/Object", "<init>", "()V"⟩ ∈ mWS := mw1 71 (by decide +kernel) rfl
theorem q_72 : Cond.classLink "PurseCard$Sealer" (27 : Nat) "PurseCard$Row" ∈ mWS := mw1 72 (by decide +kernel) rfl
theorem q_73 : Cond.methodLink "PurseCard$Sealer" (29 : Nat) ⟨"PurseCard$Row", "<init>", "(I)V"⟩ ∈ mWS := mw1 73 (by decide +kernel) rfl
theorem q_74 : Cond.methodLink "PurseCard$Sealer" (36 : Nat) ⟨"PurseCard$Sealer", "takeKey", "(JJ)V"⟩ ∈ mWS := mw1 74 (by decide +kernel) rfl
theorem q_75 : Cond.instanceMethod ⟨"PurseCard$Sealer", "takeKey", "(JJ)V"⟩ ∈ mWS := mw1 75 (by decide +kernel) rfl
theorem q_76 : Cond.selects "PurseCard$Sealer" ⟨"PurseCard$Sealer", "takeKey", "(JJ)V"⟩ ⟨"PurseCard$Sealer", "takeKey", "(JJ)V"⟩ ∈ mWS := mw1 76 (by decide +kernel) rfl
theorem q_77 : Cond.code ⟨"PurseCard$Sealer", "takeKey", "(JJ)V"⟩ prog_5_method_2_code (6 : Nat) (Option.none : Option FieldType) ∈ mWS := mw1 77 (by decide +kernel) rfl
theorem q_78 : Cond.methodLink "PurseCard$Sealer" (40 : Nat) ⟨"PurseCard$Sealer", "growRoundKeys", "()V"⟩ ∈ mWS := mw1 78 (by decide +kernel) rfl
theorem q_80 : Cond.instanceMethod ⟨"PurseCard$Sealer", "growRoundKeys", "()V"⟩ ∈ mWS := mw1 80 (by decide +kernel) rfl
theorem q_81 : Cond.code ⟨"PurseCard$Sealer", "growRoundKeys", "()V"⟩ prog_5_method_6_code (5 : Nat) (Option.none : Option FieldType) ∈ mWS := mw1 81 (by decide +kernel) rfl
theorem q_82 : Cond.fieldLink "PurseCard$Sealer" (75 : Nat) "PurseCard$Sealer" "S" "[I" ∈ mWS := mw1 82 (by decide +kernel) rfl
theorem q_84 : Cond.methodLink "PurseCard$Sealer" (78 : Nat) ⟨"PurseCard$Sealer", "twice", "(I)I"⟩ ∈ mWS := mw1 84 (by decide +kernel) rfl
theorem q_85 : Cond.static ⟨"PurseCard$Sealer", "twice", "(I)I"⟩ ∈ mWS := mw1 85 (by decide +kernel) rfl
theorem q_86 : Cond.code ⟨"PurseCard$Sealer", "twice", "(I)I"⟩ prog_5_method_11_code (1 : Nat) (Option.some FieldType.int) ∈ mWS := mw1 86 (by decide +kernel) rfl
theorem q_87 : Cond.methodLink "PurseCard$Sealer" (43 : Nat) ⟨"java/util/Arrays", "fill", "([II)V"⟩ ∈ mWS := mw1 87 (by decide +kernel) rfl
theorem q_88 : Cond.static ⟨"java/util/Arrays", "fill", "([II)V"⟩ ∈ mWS := mw1 88 (by decide +kernel) rfl
theorem q_89 : Cond.code ⟨"java/util/Arrays", "fill", "([II)V"⟩ prog_10_method_103_code (4 : Nat) (Option.none : Option FieldType) ∈ mWS := mw1 89 (by decide +kernel) rfl
theorem q_90 : Cond.methodLink "PurseCard$Sealer" (49 : Nat) ⟨"PurseCard$Sealer", "encipher", "()V"⟩ ∈ mWS := mw1 90 (by decide +kernel) rfl
theorem q_92 : Cond.instanceMethod ⟨"PurseCard$Sealer", "encipher", "()V"⟩ ∈ mWS := mw1 92 (by decide +kernel) rfl
theorem q_93 : Cond.code ⟨"PurseCard$Sealer", "encipher", "()V"⟩ prog_5_method_7_code (2 : Nat) (Option.none : Option FieldType) ∈ mWS := mw1 93 (by decide +kernel) rfl
theorem q_94 : Cond.methodLink "PurseCard$Sealer" (81 : Nat) ⟨"PurseCard$Sealer", "combineRoundKey", "(I)V"⟩ ∈ mWS := mw1 94 (by decide +kernel) rfl
theorem q_96 : Cond.instanceMethod ⟨"PurseCard$Sealer", "combineRoundKey", "(I)V"⟩ ∈ mWS := mw1 96 (by decide +kernel) rfl
theorem q_97 : Cond.code ⟨"PurseCard$Sealer", "combineRoundKey", "(I)V"⟩ prog_5_method_8_code (3 : Nat) (Option.none : Option FieldType) ∈ mWS := mw1 97 (by decide +kernel) rfl
theorem q_98 : Cond.methodLink "PurseCard$Sealer" (84 : Nat) ⟨"PurseCard$Sealer", "substituteAndTurn", "()V"⟩ ∈ mWS := mw1 98 (by decide +kernel) rfl
theorem q_100 : Cond.instanceMethod ⟨"PurseCard$Sealer", "substituteAndTurn", "()V"⟩ ∈ mWS := mw1 100 (by decide +kernel) rfl
theorem q_101 : Cond.code ⟨"PurseCard$Sealer", "substituteAndTurn", "()V"⟩ prog_5_method_9_code (3 : Nat) (Option.none : Option FieldType) ∈ mWS := mw1 101 (by decide +kernel) rfl
theorem q_102 : Cond.methodLink "PurseCard$Sealer" (90 : Nat) ⟨"java/lang/System", "arraycopy", "(Ljava/lang/Object;ILjava/lang/Object;II)V"⟩ ∈ mWS := mw1 102 (by decide +kernel) rfl
theorem q_103 : Cond.static ⟨"java/lang/System", "arraycopy", "(Ljava/lang/Object;ILjava/lang/Object;II)V"⟩ ∈ mWS := mw1 103 (by decide +kernel) rfl
theorem q_104 : Cond.native ⟨"java/lang/System", "arraycopy", "(Ljava/lang/Object;ILjava/lang/Object;II)V"⟩ ∈ mWS := mw1 104 (by decide +kernel) rfl
theorem q_105 : Cond.methodLink "PurseCard$Sealer" (87 : Nat) ⟨"PurseCard$Sealer", "mixColumns", "()V"⟩ ∈ mWS := mw1 105 (by decide +kernel) rfl
theorem q_107 : Cond.instanceMethod ⟨"PurseCard$Sealer", "mixColumns", "()V"⟩ ∈ mWS := mw1 107 (by decide +kernel) rfl
theorem q_108 : Cond.code ⟨"PurseCard$Sealer", "mixColumns", "()V"⟩ prog_5_method_10_code (6 : Nat) (Option.none : Option FieldType) ∈ mWS := mw1 108 (by decide +kernel) rfl
theorem q_109 : Cond.methodLink "PurseCard$Sealer" (52 : Nat) ⟨"PurseCard$Sealer", "doubleRow", "([I[I)V"⟩ ∈ mWS := mw1 109 (by decide +kernel) rfl
theorem q_110 : Cond.static ⟨"PurseCard$Sealer", "doubleRow", "([I[I)V"⟩ ∈ mWS := mw1 110 (by decide +kernel) rfl
theorem q_111 : Cond.code ⟨"PurseCard$Sealer", "doubleRow", "([I[I)V"⟩ prog_5_method_12_code (4 : Nat) (Option.none : Option FieldType) ∈ mWS := mw1 111 (by decide +kernel) rfl
theorem q_112 : Cond.fieldLink "PurseCard$Sealer" (11 : Nat) "PurseCard$Sealer" "roundKeys" "[I" ∈ mWS := mw1 112 (by decide +kernel) rfl
theorem q_113 : Cond.fieldLink "PurseCard$Sealer" (15 : Nat) "PurseCard$Sealer" "forWhole" "[I" ∈ mWS := mw1 113 (by decide +kernel) rfl
theorem q_114 : Cond.fieldLink "PurseCard$Sealer" (18 : Nat) "PurseCard$Sealer" "forFilled" "[I" ∈ mWS := mw1 114 (by decide +kernel) rfl
theorem q_115 : Cond.fieldLink "PurseCard$Sealer" (21 : Nat) "PurseCard$Sealer" "x" "[I" ∈ mWS := mw1 115 (by decide +kernel) rfl
theorem q_116 : Cond.fieldLink "PurseCard$Sealer" (24 : Nat) "PurseCard$Sealer" "turned" "[I" ∈ mWS := mw1 116 (by decide +kernel) rfl
theorem q_117 : Cond.fieldLink "PurseCard$Sealer" (32 : Nat) "PurseCard$Sealer" "paid" "LPurseCard$Row;" ∈ mWS := mw1 117 (by decide +kernel) rfl
theorem q_118 : Cond.laysFinal "PurseCard$Sealer" "PurseCard$Sealer" "roundKeys" "[I" ∈ mWS := mw1 118 (by decide +kernel) rfl
theorem q_120 : Cond.laysFinal "PurseCard$Sealer" "PurseCard$Sealer" "forWhole" "[I" ∈ mWS := mw1 120 (by decide +kernel) rfl
theorem q_122 : Cond.laysFinal "PurseCard$Sealer" "PurseCard$Sealer" "forFilled" "[I" ∈ mWS := mw1 122 (by decide +kernel) rfl
theorem q_124 : Cond.laysFinal "PurseCard$Sealer" "PurseCard$Sealer" "x" "[I" ∈ mWS := mw1 124 (by decide +kernel) rfl
theorem q_126 : Cond.laysFinal "PurseCard$Sealer" "PurseCard$Sealer" "turned" "[I" ∈ mWS := mw1 126 (by decide +kernel) rfl
theorem q_128 : Cond.laysFinal "PurseCard$Sealer" "PurseCard$Sealer" "paid" "LPurseCard$Row;" ∈ mWS := mw1 128 (by decide +kernel) rfl
theorem q_131 : Cond.constantLong "PurseCard$Card" (58 : Nat) (2684354560 : Int64) ∈ mWS := mw1 131 (by decide +kernel) rfl
theorem q_132 : Cond.methodLink "PurseCard$Card" (60 : Nat) ⟨"PurseCard$Row", "addNumber", "(JI)V"⟩ ∈ mWS := mw1 132 (by decide +kernel) rfl
theorem q_133 : Cond.instanceMethod ⟨"PurseCard$Row", "addNumber", "(JI)V"⟩ ∈ mWS := mw1 133 (by decide +kernel) rfl
theorem q_134 : Cond.selects "PurseCard$Row" ⟨"PurseCard$Row", "addNumber", "(JI)V"⟩ ⟨"PurseCard$Row", "addNumber", "(JI)V"⟩ ∈ mWS := mw1 134 (by decide +kernel) rfl
theorem q_135 : Cond.code ⟨"PurseCard$Row", "addNumber", "(JI)V"⟩ prog_4_method_7_code (5 : Nat) (Option.none : Option FieldType) ∈ mWS := mw1 135 (by decide +kernel) rfl
theorem q_136 : Cond.methodLink "PurseCard$Row" (23 : Nat) ⟨"PurseCard$Row", "add", "(I)Z"⟩ ∈ mWS := mw1 136 (by decide +kernel) rfl
theorem q_137 : Cond.instanceMethod ⟨"PurseCard$Row", "add", "(I)Z"⟩ ∈ mWS := mw1 137 (by decide +kernel) rfl
theorem q_138 : Cond.selects "PurseCard$Row" ⟨"PurseCard$Row", "add", "(I)Z"⟩ ⟨"PurseCard$Row", "add", "(I)Z"⟩ ∈ mWS := mw1 138 (by decide +kernel) rfl
theorem q_139 : Cond.code ⟨"PurseCard$Row", "add", "(I)Z"⟩ prog_4_method_5_code (2 : Nat) (Option.some FieldType.boolean) ∈ mWS := mw1 139 (by decide +kernel) rfl
theorem q_140 : Cond.fieldLink "PurseCard$Card" (14 : Nat) "PurseCard$Card" "name" "LPurseCard$Row;" ∈ mWS := mw1 140 (by decide +kernel) rfl
theorem q_142 : Cond.fieldLink "PurseCard$Card" (23 : Nat) "PurseCard$Card" "files" "LPurseCard$Files;" ∈ mWS := mw1 142 (by decide +kernel) rfl
theorem q_144 : Cond.fieldLink "PurseCard$Card" (30 : Nat) "PurseCard$Card" "sealer" "LPurseCard$Sealer;" ∈ mWS := mw1 144 (by decide +kernel) rfl
theorem q_146 : Cond.fieldLink "PurseCard$Card" (34 : Nat) "PurseCard$Card" "code" "I" ∈ mWS := mw1 146 (by decide +kernel) rfl
theorem q_148 : Cond.fieldLink "PurseCard$Card" (38 : Nat) "PurseCard$Card" "counter" "I" ∈ mWS := mw1 148 (by decide +kernel) rfl
theorem q_150 : Cond.fieldLink "PurseCard$Card" (41 : Nat) "PurseCard$Card" "tries" "I" ∈ mWS := mw1 150 (by decide +kernel) rfl
theorem q_152 : Cond.fieldLink "PurseCard$Card" (44 : Nat) "PurseCard$Card" "alone" "I" ∈ mWS := mw1 152 (by decide +kernel) rfl
theorem q_153 : Cond.fieldLink "PurseCard$Card" (47 : Nat) "PurseCard$Card" "stage" "I" ∈ mWS := mw1 153 (by decide +kernel) rfl
theorem q_155 : Cond.fieldLink "PurseCard$Card" (50 : Nat) "PurseCard$Card" "amount" "J" ∈ mWS := mw1 155 (by decide +kernel) rfl
theorem q_156 : Cond.fieldLink "PurseCard$Card" (54 : Nat) "PurseCard$Card" "proven" "Z" ∈ mWS := mw1 156 (by decide +kernel) rfl
theorem q_157 : Cond.laysFinal "PurseCard$Card" "PurseCard$Card" "name" "LPurseCard$Row;" ∈ mWS := mw1 157 (by decide +kernel) rfl
theorem q_159 : Cond.laysFinal "PurseCard$Card" "PurseCard$Card" "files" "LPurseCard$Files;" ∈ mWS := mw1 159 (by decide +kernel) rfl
theorem q_161 : Cond.laysFinal "PurseCard$Card" "PurseCard$Card" "sealer" "LPurseCard$Sealer;" ∈ mWS := mw1 161 (by decide +kernel) rfl
theorem q_163 : Cond.lays "PurseCard$Card" "PurseCard$Card" "code" "I" ∈ mWS := mw1 163 (by decide +kernel) rfl
theorem q_165 : Cond.lays "PurseCard$Card" "PurseCard$Card" "counter" "I" ∈ mWS := mw1 165 (by decide +kernel) rfl
theorem q_167 : Cond.lays "PurseCard$Card" "PurseCard$Card" "tries" "I" ∈ mWS := mw1 167 (by decide +kernel) rfl
theorem q_169 : Cond.lays "PurseCard$Card" "PurseCard$Card" "alone" "I" ∈ mWS := mw1 169 (by decide +kernel) rfl
theorem q_171 : Cond.lays "PurseCard$Card" "PurseCard$Card" "stage" "I" ∈ mWS := mw1 171 (by decide +kernel) rfl
theorem q_173 : Cond.lays "PurseCard$Card" "PurseCard$Card" "amount" "J" ∈ mWS := mw1 173 (by decide +kernel) rfl
theorem q_175 : Cond.lays "PurseCard$Card" "PurseCard$Card" "proven" "Z" ∈ mWS := mw1 175 (by decide +kernel) rfl
theorem q_178 : Cond.fieldLink "PurseCard" (14 : Nat) "PurseCard" "typed" "LPurseCard$Row;" ∈ mWS := mw1 178 (by decide +kernel) rfl
theorem q_179 : Cond.fieldLink "PurseCard" (18 : Nat) "PurseCard" "reply" "LPurseCard$Row;" ∈ mWS := mw1 179 (by decide +kernel) rfl
theorem q_180 : Cond.fieldLink "PurseCard" (21 : Nat) "PurseCard" "list" "LPurseCard$Row;" ∈ mWS := mw1 180 (by decide +kernel) rfl
theorem q_181 : Cond.fieldLink "PurseCard" (27 : Nat) "PurseCard" "search" "LPurseCard$TagSearch;" ∈ mWS := mw1 181 (by decide +kernel) rfl
theorem q_182 : Cond.fieldLink "PurseCard" (34 : Nat) "PurseCard" "card" "LPurseCard$Card;" ∈ mWS := mw1 182 (by decide +kernel) rfl
theorem q_183 : Cond.laysFinal "PurseCard" "PurseCard" "typed" "LPurseCard$Row;" ∈ mWS := mw1 183 (by decide +kernel) rfl
theorem q_185 : Cond.laysFinal "PurseCard" "PurseCard" "reply" "LPurseCard$Row;" ∈ mWS := mw1 185 (by decide +kernel) rfl
theorem q_187 : Cond.laysFinal "PurseCard" "PurseCard" "list" "LPurseCard$Row;" ∈ mWS := mw1 187 (by decide +kernel) rfl
theorem q_189 : Cond.laysFinal "PurseCard" "PurseCard" "search" "LPurseCard$TagSearch;" ∈ mWS := mw1 189 (by decide +kernel) rfl
theorem q_191 : Cond.laysFinal "PurseCard" "PurseCard" "card" "LPurseCard$Card;" ∈ mWS := mw1 191 (by decide +kernel) rfl
theorem q_194 : Cond.methodLink "PurseCardLaw" (21 : Nat) ⟨"PurseCard", "put", "(I)Z"⟩ ∈ mWS := mw1 194 (by decide +kernel) rfl
theorem q_195 : Cond.instanceMethod ⟨"PurseCard", "put", "(I)Z"⟩ ∈ mWS := mw1 195 (by decide +kernel) rfl
theorem q_196 : Cond.selects "PurseCard" ⟨"PurseCard", "put", "(I)Z"⟩ ⟨"PurseCard", "put", "(I)Z"⟩ ∈ mWS := mw1 196 (by decide +kernel) rfl
theorem q_197 : Cond.code ⟨"PurseCard", "put", "(I)Z"⟩ prog_1_method_2_code (2 : Nat) (Option.some FieldType.boolean) ∈ mWS := mw1 197 (by decide +kernel) rfl
theorem q_198 : Cond.methodLink "PurseCard" (38 : Nat) ⟨"PurseCard$Row", "add", "(I)Z"⟩ ∈ mWS := mw1 198 (by decide +kernel) rfl
theorem q_199 : Cond.methodLink "PurseCardLaw" (26 : Nat) ⟨"PurseCard", "wipe", "()I"⟩ ∈ mWS := mw1 199 (by decide +kernel) rfl
theorem q_200 : Cond.instanceMethod ⟨"PurseCard", "wipe", "()I"⟩ ∈ mWS := mw1 200 (by decide +kernel) rfl
theorem q_201 : Cond.selects "PurseCard" ⟨"PurseCard", "wipe", "()I"⟩ ⟨"PurseCard", "wipe", "()I"⟩ ∈ mWS := mw1 201 (by decide +kernel) rfl
theorem q_202 : Cond.code ⟨"PurseCard", "wipe", "()I"⟩ prog_1_method_3_code (2 : Nat) (Option.some FieldType.int) ∈ mWS := mw1 202 (by decide +kernel) rfl
theorem q_203 : Cond.methodLink "PurseCard" (42 : Nat) ⟨"PurseCard$Row", "size", "()I"⟩ ∈ mWS := mw1 203 (by decide +kernel) rfl
theorem q_204 : Cond.instanceMethod ⟨"PurseCard$Row", "size", "()I"⟩ ∈ mWS := mw1 204 (by decide +kernel) rfl
theorem q_205 : Cond.selects "PurseCard$Row" ⟨"PurseCard$Row", "size", "()I"⟩ ⟨"PurseCard$Row", "size", "()I"⟩ ∈ mWS := mw1 205 (by decide +kernel) rfl
theorem q_206 : Cond.code ⟨"PurseCard$Row", "size", "()I"⟩ prog_4_method_2_code (1 : Nat) (Option.some FieldType.int) ∈ mWS := mw1 206 (by decide +kernel) rfl
theorem q_207 : Cond.methodLink "PurseCard" (46 : Nat) ⟨"PurseCard$Row", "clear", "()V"⟩ ∈ mWS := mw1 207 (by decide +kernel) rfl
theorem q_208 : Cond.instanceMethod ⟨"PurseCard$Row", "clear", "()V"⟩ ∈ mWS := mw1 208 (by decide +kernel) rfl
theorem q_209 : Cond.selects "PurseCard$Row" ⟨"PurseCard$Row", "clear", "()V"⟩ ⟨"PurseCard$Row", "clear", "()V"⟩ ∈ mWS := mw1 209 (by decide +kernel) rfl
theorem q_210 : Cond.code ⟨"PurseCard$Row", "clear", "()V"⟩ prog_4_method_3_code (1 : Nat) (Option.none : Option FieldType) ∈ mWS := mw1 210 (by decide +kernel) rfl
theorem q_211 : Cond.methodLink "PurseCardLaw" (31 : Nat) ⟨"PurseCard", "send", "()I"⟩ ∈ mWS := mw1 211 (by decide +kernel) rfl
theorem q_212 : Cond.instanceMethod ⟨"PurseCard", "send", "()I"⟩ ∈ mWS := mw1 212 (by decide +kernel) rfl
theorem q_213 : Cond.selects "PurseCard" ⟨"PurseCard", "send", "()I"⟩ ⟨"PurseCard", "send", "()I"⟩ ∈ mWS := mw1 213 (by decide +kernel) rfl
theorem q_214 : Cond.code ⟨"PurseCard", "send", "()I"⟩ prog_1_method_4_code (1 : Nat) (Option.some FieldType.int) ∈ mWS := mw1 214 (by decide +kernel) rfl
theorem q_215 : Cond.methodLink "PurseCard" (49 : Nat) ⟨"PurseCard$Card", "obey", "(LPurseCard$Row;LPurseCard$Row;)I"⟩ ∈ mWS := mw1 215 (by decide +kernel) rfl
theorem q_216 : Cond.instanceMethod ⟨"PurseCard$Card", "obey", "(LPurseCard$Row;LPurseCard$Row;)I"⟩ ∈ mWS := mw1 216 (by decide +kernel) rfl
theorem q_217 : Cond.selects "PurseCard$Card" ⟨"PurseCard$Card", "obey", "(LPurseCard$Row;LPurseCard$Row;)I"⟩ ⟨"PurseCard$Card", "obey", "(LPurseCard$Row;LPurseCard$Row;)I"⟩ ∈ mWS := mw1 217 (by decide +kernel) rfl
theorem q_218 : Cond.code ⟨"PurseCard$Card", "obey", "(LPurseCard$Row;LPurseCard$Row;)I"⟩ prog_2_method_2_code (4 : Nat) (Option.some FieldType.int) ∈ mWS := mw1 218 (by decide +kernel) rfl
theorem q_219 : Cond.methodLink "PurseCard$Card" (64 : Nat) ⟨"PurseCard$Row", "clear", "()V"⟩ ∈ mWS := mw1 219 (by decide +kernel) rfl
theorem q_220 : Cond.methodLink "PurseCard$Card" (67 : Nat) ⟨"PurseCard$Card", "firstFault", "(LPurseCard$Row;)I"⟩ ∈ mWS := mw1 220 (by decide +kernel) rfl
theorem q_222 : Cond.instanceMethod ⟨"PurseCard$Card", "firstFault", "(LPurseCard$Row;)I"⟩ ∈ mWS := mw1 222 (by decide +kernel) rfl
theorem q_223 : Cond.code ⟨"PurseCard$Card", "firstFault", "(LPurseCard$Row;)I"⟩ prog_2_method_3_code (3 : Nat) (Option.some FieldType.int) ∈ mWS := mw1 223 (by decide +kernel) rfl
theorem q_224 : Cond.methodLink "PurseCard$Card" (94 : Nat) ⟨"PurseCard$Card", "isWellFormed", "(LPurseCard$Row;)Z"⟩ ∈ mWS := mw1 224 (by decide +kernel) rfl
theorem q_225 : Cond.static ⟨"PurseCard$Card", "isWellFormed", "(LPurseCard$Row;)Z"⟩ ∈ mWS := mw1 225 (by decide +kernel) rfl
theorem q_226 : Cond.code ⟨"PurseCard$Card", "isWellFormed", "(LPurseCard$Row;)Z"⟩ prog_2_method_4_code (2 : Nat) (Option.some FieldType.boolean) ∈ mWS := mw1 226 (by decide +kernel) rfl
theorem q_227 : Cond.methodLink "PurseCard$Card" (120 : Nat) ⟨"PurseCard$Row", "size", "()I"⟩ ∈ mWS := mw1 227 (by decide +kernel) rfl
theorem q_228 : Cond.methodLink "PurseCard$Card" (98 : Nat) ⟨"PurseCard$Row", "at", "(I)I"⟩ ∈ mWS := mw1 228 (by decide +kernel) rfl
theorem q_229 : Cond.instanceMethod ⟨"PurseCard$Row", "at", "(I)I"⟩ ∈ mWS := mw1 229 (by decide +kernel) rfl
theorem q_230 : Cond.selects "PurseCard$Row" ⟨"PurseCard$Row", "at", "(I)I"⟩ ⟨"PurseCard$Row", "at", "(I)I"⟩ ∈ mWS := mw1 230 (by decide +kernel) rfl
theorem q_231 : Cond.code ⟨"PurseCard$Row", "at", "(I)I"⟩ prog_4_method_4_code (2 : Nat) (Option.some FieldType.int) ∈ mWS := mw1 231 (by decide +kernel) rfl
theorem q_232 : Cond.methodLink "PurseCard$Card" (72 : Nat) ⟨"PurseCard$Card", "instructionOf", "(LPurseCard$Row;)I"⟩ ∈ mWS := mw1 232 (by decide +kernel) rfl
theorem q_233 : Cond.static ⟨"PurseCard$Card", "instructionOf", "(LPurseCard$Row;)I"⟩ ∈ mWS := mw1 233 (by decide +kernel) rfl
theorem q_234 : Cond.code ⟨"PurseCard$Card", "instructionOf", "(LPurseCard$Row;)I"⟩ prog_2_method_5_code (1 : Nat) (Option.some FieldType.int) ∈ mWS := mw1 234 (by decide +kernel) rfl
theorem q_235 : Cond.methodLink "PurseCard$Card" (124 : Nat) ⟨"PurseCard$Row", "numberAt", "(II)J"⟩ ∈ mWS := mw1 235 (by decide +kernel) rfl
theorem q_236 : Cond.instanceMethod ⟨"PurseCard$Row", "numberAt", "(II)J"⟩ ∈ mWS := mw1 236 (by decide +kernel) rfl
theorem q_237 : Cond.selects "PurseCard$Row" ⟨"PurseCard$Row", "numberAt", "(II)J"⟩ ⟨"PurseCard$Row", "numberAt", "(II)J"⟩ ∈ mWS := mw1 237 (by decide +kernel) rfl
theorem q_238 : Cond.code ⟨"PurseCard$Row", "numberAt", "(II)J"⟩ prog_4_method_8_code (6 : Nat) (Option.some FieldType.long) ∈ mWS := mw1 238 (by decide +kernel) rfl
theorem q_239 : Cond.constantLong "PurseCard$Row" (27 : Nat) (256 : Int64) ∈ mWS := mw1 239 (by decide +kernel) rfl
theorem q_240 : Cond.methodLink "PurseCard$Row" (19 : Nat) ⟨"PurseCard$Row", "at", "(I)I"⟩ ∈ mWS := mw2 0 (by decide +kernel) rfl
theorem q_241 : Cond.methodLink "PurseCard$Card" (102 : Nat) ⟨"PurseCard$Card", "isKnown", "(I)Z"⟩ ∈ mWS := mw2 1 (by decide +kernel) rfl
theorem q_242 : Cond.static ⟨"PurseCard$Card", "isKnown", "(I)Z"⟩ ∈ mWS := mw2 2 (by decide +kernel) rfl
theorem q_243 : Cond.code ⟨"PurseCard$Card", "isKnown", "(I)Z"⟩ prog_2_method_7_code (1 : Nat) (Option.some FieldType.boolean) ∈ mWS := mw2 3 (by decide +kernel) rfl
theorem q_244 : Cond.methodLink "PurseCard$Card" (106 : Nat) ⟨"PurseCard$Card", "takesParameters", "(III)Z"⟩ ∈ mWS := mw2 4 (by decide +kernel) rfl
theorem q_245 : Cond.static ⟨"PurseCard$Card", "takesParameters", "(III)Z"⟩ ∈ mWS := mw2 5 (by decide +kernel) rfl
theorem q_246 : Cond.code ⟨"PurseCard$Card", "takesParameters", "(III)Z"⟩ prog_2_method_8_code (3 : Nat) (Option.some FieldType.boolean) ∈ mWS := mw2 6 (by decide +kernel) rfl
theorem q_247 : Cond.methodLink "PurseCard$Card" (110 : Nat) ⟨"PurseCard$Card", "fitsStage", "(I)Z"⟩ ∈ mWS := mw2 7 (by decide +kernel) rfl
theorem q_249 : Cond.instanceMethod ⟨"PurseCard$Card", "fitsStage", "(I)Z"⟩ ∈ mWS := mw2 9 (by decide +kernel) rfl
theorem q_250 : Cond.code ⟨"PurseCard$Card", "fitsStage", "(I)Z"⟩ prog_2_method_9_code (2 : Nat) (Option.some FieldType.boolean) ∈ mWS := mw2 10 (by decide +kernel) rfl
theorem q_251 : Cond.constant "PurseCard$Card" (128 : Nat) (65535 : Int32) ∈ mWS := mw2 11 (by decide +kernel) rfl
theorem q_252 : Cond.methodLink "PurseCard$Card" (113 : Nat) ⟨"PurseCard$Card", "dataSize", "(LPurseCard$Row;)I"⟩ ∈ mWS := mw2 12 (by decide +kernel) rfl
theorem q_253 : Cond.static ⟨"PurseCard$Card", "dataSize", "(LPurseCard$Row;)I"⟩ ∈ mWS := mw2 13 (by decide +kernel) rfl
theorem q_254 : Cond.code ⟨"PurseCard$Card", "dataSize", "(LPurseCard$Row;)I"⟩ prog_2_method_6_code (1 : Nat) (Option.some FieldType.int) ∈ mWS := mw2 14 (by decide +kernel) rfl
theorem q_255 : Cond.methodLink "PurseCard$Card" (116 : Nat) ⟨"PurseCard$Card", "takesData", "(II)Z"⟩ ∈ mWS := mw2 15 (by decide +kernel) rfl
theorem q_257 : Cond.instanceMethod ⟨"PurseCard$Card", "takesData", "(II)Z"⟩ ∈ mWS := mw2 17 (by decide +kernel) rfl
theorem q_258 : Cond.code ⟨"PurseCard$Card", "takesData", "(II)Z"⟩ prog_2_method_10_code (3 : Nat) (Option.some FieldType.boolean) ∈ mWS := mw2 18 (by decide +kernel) rfl
theorem q_259 : Cond.constant "PurseCard$Card" (71 : Nat) (36864 : Int32) ∈ mWS := mw2 19 (by decide +kernel) rfl
theorem q_260 : Cond.methodLink "PurseCard$Card" (75 : Nat) ⟨"PurseCard$Card", "select", "(LPurseCard$Row;LPurseCard$Row;)I"⟩ ∈ mWS := mw2 20 (by decide +kernel) rfl
theorem q_262 : Cond.instanceMethod ⟨"PurseCard$Card", "select", "(LPurseCard$Row;LPurseCard$Row;)I"⟩ ∈ mWS := mw2 22 (by decide +kernel) rfl
theorem q_263 : Cond.code ⟨"PurseCard$Card", "select", "(LPurseCard$Row;LPurseCard$Row;)I"⟩ prog_2_method_11_code (7 : Nat) (Option.some FieldType.int) ∈ mWS := mw2 23 (by decide +kernel) rfl
theorem q_264 : Cond.methodLink "PurseCard$Card" (129 : Nat) ⟨"PurseCard$Row", "openTag", "(I)I"⟩ ∈ mWS := mw2 24 (by decide +kernel) rfl
theorem q_265 : Cond.instanceMethod ⟨"PurseCard$Row", "openTag", "(I)I"⟩ ∈ mWS := mw2 25 (by decide +kernel) rfl
theorem q_266 : Cond.selects "PurseCard$Row" ⟨"PurseCard$Row", "openTag", "(I)I"⟩ ⟨"PurseCard$Row", "openTag", "(I)I"⟩ ∈ mWS := mw2 26 (by decide +kernel) rfl
theorem q_267 : Cond.code ⟨"PurseCard$Row", "openTag", "(I)I"⟩ prog_4_method_9_code (2 : Nat) (Option.some FieldType.int) ∈ mWS := mw2 27 (by decide +kernel) rfl
theorem q_268 : Cond.methodLink "PurseCard$Card" (132 : Nat) ⟨"PurseCard$Row", "addRow", "(LPurseCard$Row;)V"⟩ ∈ mWS := mw2 28 (by decide +kernel) rfl
theorem q_269 : Cond.instanceMethod ⟨"PurseCard$Row", "addRow", "(LPurseCard$Row;)V"⟩ ∈ mWS := mw2 29 (by decide +kernel) rfl
theorem q_270 : Cond.selects "PurseCard$Row" ⟨"PurseCard$Row", "addRow", "(LPurseCard$Row;)V"⟩ ⟨"PurseCard$Row", "addRow", "(LPurseCard$Row;)V"⟩ ∈ mWS := mw2 30 (by decide +kernel) rfl
theorem q_271 : Cond.code ⟨"PurseCard$Row", "addRow", "(LPurseCard$Row;)V"⟩ prog_4_method_6_code (3 : Nat) (Option.none : Option FieldType) ∈ mWS := mw2 31 (by decide +kernel) rfl
theorem q_272 : Cond.methodLink "PurseCard$Card" (136 : Nat) ⟨"PurseCard$Row", "closeTag", "(I)V"⟩ ∈ mWS := mw2 32 (by decide +kernel) rfl
theorem q_273 : Cond.instanceMethod ⟨"PurseCard$Row", "closeTag", "(I)V"⟩ ∈ mWS := mw2 33 (by decide +kernel) rfl
theorem q_274 : Cond.selects "PurseCard$Row" ⟨"PurseCard$Row", "closeTag", "(I)V"⟩ ⟨"PurseCard$Row", "closeTag", "(I)V"⟩ ∈ mWS := mw2 34 (by decide +kernel) rfl
theorem q_275 : Cond.code ⟨"PurseCard$Row", "closeTag", "(I)V"⟩ prog_4_method_10_code (2 : Nat) (Option.none : Option FieldType) ∈ mWS := mw2 35 (by decide +kernel) rfl
theorem q_276 : Cond.constantLong "PurseCard$Card" (139 : Nat) (1128354372 : Int64) ∈ mWS := mw2 36 (by decide +kernel) rfl
theorem q_277 : Cond.methodLink "PurseCard$Card" (141 : Nat) ⟨"PurseCard$Row", "addTagged", "(IJI)V"⟩ ∈ mWS := mw2 37 (by decide +kernel) rfl
theorem q_278 : Cond.instanceMethod ⟨"PurseCard$Row", "addTagged", "(IJI)V"⟩ ∈ mWS := mw2 38 (by decide +kernel) rfl
theorem q_279 : Cond.selects "PurseCard$Row" ⟨"PurseCard$Row", "addTagged", "(IJI)V"⟩ ⟨"PurseCard$Row", "addTagged", "(IJI)V"⟩ ∈ mWS := mw2 39 (by decide +kernel) rfl
theorem q_280 : Cond.code ⟨"PurseCard$Row", "addTagged", "(IJI)V"⟩ prog_4_method_11_code (6 : Nat) (Option.none : Option FieldType) ∈ mWS := mw2 40 (by decide +kernel) rfl
theorem q_281 : Cond.methodLink "PurseCard$Row" (29 : Nat) ⟨"PurseCard$Row", "openTag", "(I)I"⟩ ∈ mWS := mw2 41 (by decide +kernel) rfl
theorem q_282 : Cond.methodLink "PurseCard$Row" (32 : Nat) ⟨"PurseCard$Row", "addNumber", "(JI)V"⟩ ∈ mWS := mw2 42 (by decide +kernel) rfl
theorem q_283 : Cond.methodLink "PurseCard$Row" (36 : Nat) ⟨"PurseCard$Row", "closeTag", "(I)V"⟩ ∈ mWS := mw2 43 (by decide +kernel) rfl
theorem q_284 : Cond.constant "PurseCard$Card" (145 : Nat) (40760 : Int32) ∈ mWS := mw2 44 (by decide +kernel) rfl
theorem q_285 : Cond.constantLong "PurseCard$Card" (146 : Nat) (10420742 : Int64) ∈ mWS := mw2 45 (by decide +kernel) rfl
theorem q_286 : Cond.methodLink "PurseCard$Card" (79 : Nat) ⟨"PurseCard$Card", "ready", "(LPurseCard$Row;LPurseCard$Row;)I"⟩ ∈ mWS := mw2 46 (by decide +kernel) rfl
theorem q_288 : Cond.instanceMethod ⟨"PurseCard$Card", "ready", "(LPurseCard$Row;LPurseCard$Row;)I"⟩ ∈ mWS := mw2 48 (by decide +kernel) rfl
theorem q_289 : Cond.code ⟨"PurseCard$Card", "ready", "(LPurseCard$Row;LPurseCard$Row;)I"⟩ prog_2_method_12_code (5 : Nat) (Option.some FieldType.int) ∈ mWS := mw2 49 (by decide +kernel) rfl
theorem q_290 : Cond.constantLong "PurseCard$Card" (148 : Nat) (33542 : Int64) ∈ mWS := mw2 50 (by decide +kernel) rfl
theorem q_291 : Cond.constantLong "PurseCard$Card" (150 : Nat) (6144 : Int64) ∈ mWS := mw2 51 (by decide +kernel) rfl
theorem q_292 : Cond.methodLink "PurseCard$Card" (152 : Nat) ⟨"PurseCard$Files", "count", "(I)I"⟩ ∈ mWS := mw2 52 (by decide +kernel) rfl
theorem q_293 : Cond.instanceMethod ⟨"PurseCard$Files", "count", "(I)I"⟩ ∈ mWS := mw2 53 (by decide +kernel) rfl
theorem q_294 : Cond.selects "PurseCard$Files" ⟨"PurseCard$Files", "count", "(I)I"⟩ ⟨"PurseCard$Files", "count", "(I)I"⟩ ∈ mWS := mw2 54 (by decide +kernel) rfl
theorem q_295 : Cond.code ⟨"PurseCard$Files", "count", "(I)I"⟩ prog_3_method_2_code (2 : Nat) (Option.some FieldType.int) ∈ mWS := mw2 55 (by decide +kernel) rfl
theorem q_296 : Cond.methodLink "PurseCard$Card" (155 : Nat) ⟨"PurseCard$Row", "add", "(I)Z"⟩ ∈ mWS := mw2 56 (by decide +kernel) rfl
theorem q_297 : Cond.methodLink "PurseCard$Card" (82 : Nat) ⟨"PurseCard$Card", "read", "(LPurseCard$Row;LPurseCard$Row;)I"⟩ ∈ mWS := mw2 57 (by decide +kernel) rfl
theorem q_299 : Cond.instanceMethod ⟨"PurseCard$Card", "read", "(LPurseCard$Row;LPurseCard$Row;)I"⟩ ∈ mWS := mw2 59 (by decide +kernel) rfl
theorem q_300 : Cond.code ⟨"PurseCard$Card", "read", "(LPurseCard$Row;LPurseCard$Row;)I"⟩ prog_2_method_13_code (6 : Nat) (Option.some FieldType.int) ∈ mWS := mw2 60 (by decide +kernel) rfl
theorem q_301 : Cond.methodLink "PurseCard$Card" (158 : Nat) ⟨"PurseCard$Files", "copy", "(IILPurseCard$Row;)V"⟩ ∈ mWS := mw2 61 (by decide +kernel) rfl
theorem q_302 : Cond.instanceMethod ⟨"PurseCard$Files", "copy", "(IILPurseCard$Row;)V"⟩ ∈ mWS := mw2 62 (by decide +kernel) rfl
theorem q_303 : Cond.selects "PurseCard$Files" ⟨"PurseCard$Files", "copy", "(IILPurseCard$Row;)V"⟩ ⟨"PurseCard$Files", "copy", "(IILPurseCard$Row;)V"⟩ ∈ mWS := mw2 63 (by decide +kernel) rfl
theorem q_304 : Cond.code ⟨"PurseCard$Files", "copy", "(IILPurseCard$Row;)V"⟩ prog_3_method_4_code (6 : Nat) (Option.none : Option FieldType) ∈ mWS := mw2 64 (by decide +kernel) rfl
theorem q_305 : Cond.methodLink "PurseCard$Files" (21 : Nat) ⟨"PurseCard$Files", "count", "(I)I"⟩ ∈ mWS := mw2 65 (by decide +kernel) rfl
theorem q_306 : Cond.methodLink "PurseCard$Files" (34 : Nat) ⟨"PurseCard$Row", "add", "(I)Z"⟩ ∈ mWS := mw2 66 (by decide +kernel) rfl
theorem q_307 : Cond.methodLink "PurseCard$Card" (85 : Nat) ⟨"PurseCard$Card", "prove", "(LPurseCard$Row;)I"⟩ ∈ mWS := mw2 67 (by decide +kernel) rfl
theorem q_309 : Cond.instanceMethod ⟨"PurseCard$Card", "prove", "(LPurseCard$Row;)I"⟩ ∈ mWS := mw2 69 (by decide +kernel) rfl
theorem q_310 : Cond.code ⟨"PurseCard$Card", "prove", "(LPurseCard$Row;)I"⟩ prog_2_method_14_code (2 : Nat) (Option.some FieldType.int) ∈ mWS := mw2 70 (by decide +kernel) rfl
theorem q_311 : Cond.methodLink "PurseCard$Card" (162 : Nat) ⟨"PurseCard$Card", "holdsDigits", "(LPurseCard$Row;)Z"⟩ ∈ mWS := mw2 71 (by decide +kernel) rfl
theorem q_312 : Cond.static ⟨"PurseCard$Card", "holdsDigits", "(LPurseCard$Row;)Z"⟩ ∈ mWS := mw2 72 (by decide +kernel) rfl
theorem q_313 : Cond.code ⟨"PurseCard$Card", "holdsDigits", "(LPurseCard$Row;)Z"⟩ prog_2_method_15_code (2 : Nat) (Option.some FieldType.boolean) ∈ mWS := mw2 73 (by decide +kernel) rfl
theorem q_314 : Cond.methodLink "PurseCard$Card" (165 : Nat) ⟨"PurseCard$Card", "digitsOf", "(I)I"⟩ ∈ mWS := mw2 74 (by decide +kernel) rfl
theorem q_315 : Cond.static ⟨"PurseCard$Card", "digitsOf", "(I)I"⟩ ∈ mWS := mw2 75 (by decide +kernel) rfl
theorem q_316 : Cond.code ⟨"PurseCard$Card", "digitsOf", "(I)I"⟩ prog_2_method_16_code (3 : Nat) (Option.some FieldType.int) ∈ mWS := mw2 76 (by decide +kernel) rfl
theorem q_317 : Cond.methodLink "PurseCard$Card" (88 : Nat) ⟨"PurseCard$Card", "tell", "(LPurseCard$Row;LPurseCard$Row;)I"⟩ ∈ mWS := mw2 77 (by decide +kernel) rfl
theorem q_319 : Cond.instanceMethod ⟨"PurseCard$Card", "tell", "(LPurseCard$Row;LPurseCard$Row;)I"⟩ ∈ mWS := mw2 79 (by decide +kernel) rfl
theorem q_320 : Cond.code ⟨"PurseCard$Card", "tell", "(LPurseCard$Row;LPurseCard$Row;)I"⟩ prog_2_method_17_code (3 : Nat) (Option.some FieldType.int) ∈ mWS := mw2 80 (by decide +kernel) rfl
theorem q_321 : Cond.constant "PurseCard$Card" (168 : Nat) (40758 : Int32) ∈ mWS := mw2 81 (by decide +kernel) rfl
theorem q_322 : Cond.constant "PurseCard$Card" (169 : Nat) (40727 : Int32) ∈ mWS := mw2 82 (by decide +kernel) rfl
theorem q_323 : Cond.methodLink "PurseCard$Card" (91 : Nat) ⟨"PurseCard$Card", "giveSeal", "(LPurseCard$Row;LPurseCard$Row;)I"⟩ ∈ mWS := mw2 83 (by decide +kernel) rfl
theorem q_325 : Cond.instanceMethod ⟨"PurseCard$Card", "giveSeal", "(LPurseCard$Row;LPurseCard$Row;)I"⟩ ∈ mWS := mw2 85 (by decide +kernel) rfl
theorem q_326 : Cond.code ⟨"PurseCard$Card", "giveSeal", "(LPurseCard$Row;LPurseCard$Row;)I"⟩ prog_2_method_18_code (11 : Nat) (Option.some FieldType.int) ∈ mWS := mw2 86 (by decide +kernel) rfl
theorem q_327 : Cond.methodLink "PurseCard$Card" (170 : Nat) ⟨"PurseCard$Card", "decide", "(IJJ)I"⟩ ∈ mWS := mw2 87 (by decide +kernel) rfl
theorem q_329 : Cond.instanceMethod ⟨"PurseCard$Card", "decide", "(IJJ)I"⟩ ∈ mWS := mw2 89 (by decide +kernel) rfl
theorem q_330 : Cond.code ⟨"PurseCard$Card", "decide", "(IJJ)I"⟩ prog_2_method_19_code (6 : Nat) (Option.some FieldType.int) ∈ mWS := mw2 90 (by decide +kernel) rfl
theorem q_331 : Cond.constantLong "PurseCard$Card" (186 : Nat) (12336 : Int64) ∈ mWS := mw2 91 (by decide +kernel) rfl
theorem q_332 : Cond.methodLink "PurseCard$Card" (174 : Nat) ⟨"PurseCard$Sealer", "payment", "(JJJIZ)LPurseCard$Row;"⟩ ∈ mWS := mw2 92 (by decide +kernel) rfl
theorem q_333 : Cond.instanceMethod ⟨"PurseCard$Sealer", "payment", "(JJJIZ)LPurseCard$Row;"⟩ ∈ mWS := mw2 93 (by decide +kernel) rfl
theorem q_334 : Cond.selects "PurseCard$Sealer" ⟨"PurseCard$Sealer", "payment", "(JJJIZ)LPurseCard$Row;"⟩ ⟨"PurseCard$Sealer", "payment", "(JJJIZ)LPurseCard$Row;"⟩ ∈ mWS := mw2 94 (by decide +kernel) rfl
theorem q_335 : Cond.code ⟨"PurseCard$Sealer", "payment", "(JJJIZ)LPurseCard$Row;"⟩ prog_5_method_3_code (9 : Nat) (Option.some (FieldType.object "PurseCard$Row")) ∈ mWS := mw2 95 (by decide +kernel) rfl
theorem q_336 : Cond.methodLink "PurseCard$Sealer" (56 : Nat) ⟨"PurseCard$Row", "clear", "()V"⟩ ∈ mWS := mw2 96 (by decide +kernel) rfl
theorem q_337 : Cond.methodLink "PurseCard$Sealer" (59 : Nat) ⟨"PurseCard$Row", "addNumber", "(JI)V"⟩ ∈ mWS := mw2 97 (by decide +kernel) rfl
theorem q_338 : Cond.methodLink "PurseCard$Sealer" (63 : Nat) ⟨"PurseCard$Row", "add", "(I)Z"⟩ ∈ mWS := mw2 98 (by decide +kernel) rfl
theorem q_339 : Cond.methodLink "PurseCard$Card" (178 : Nat) ⟨"PurseCard$Sealer", "run", "(LPurseCard$Row;)V"⟩ ∈ mWS := mw2 99 (by decide +kernel) rfl
theorem q_340 : Cond.instanceMethod ⟨"PurseCard$Sealer", "run", "(LPurseCard$Row;)V"⟩ ∈ mWS := mw2 100 (by decide +kernel) rfl
theorem q_341 : Cond.selects "PurseCard$Sealer" ⟨"PurseCard$Sealer", "run", "(LPurseCard$Row;)V"⟩ ⟨"PurseCard$Sealer", "run", "(LPurseCard$Row;)V"⟩ ∈ mWS := mw2 101 (by decide +kernel) rfl
theorem q_342 : Cond.code ⟨"PurseCard$Sealer", "run", "(LPurseCard$Row;)V"⟩ prog_5_method_4_code (9 : Nat) (Option.none : Option FieldType) ∈ mWS := mw2 102 (by decide +kernel) rfl
theorem q_343 : Cond.methodLink "PurseCard$Sealer" (67 : Nat) ⟨"PurseCard$Row", "size", "()I"⟩ ∈ mWS := mw2 103 (by decide +kernel) rfl
theorem q_344 : Cond.methodLink "PurseCard$Sealer" (71 : Nat) ⟨"PurseCard$Row", "at", "(I)I"⟩ ∈ mWS := mw2 104 (by decide +kernel) rfl
theorem q_345 : Cond.constant "PurseCard$Card" (181 : Nat) (40743 : Int32) ∈ mWS := mw2 105 (by decide +kernel) rfl
theorem q_346 : Cond.constant "PurseCard$Card" (182 : Nat) (40742 : Int32) ∈ mWS := mw2 106 (by decide +kernel) rfl
theorem q_347 : Cond.methodLink "PurseCard$Card" (183 : Nat) ⟨"PurseCard$Sealer", "byteAt", "(I)I"⟩ ∈ mWS := mw2 107 (by decide +kernel) rfl
theorem q_348 : Cond.instanceMethod ⟨"PurseCard$Sealer", "byteAt", "(I)I"⟩ ∈ mWS := mw2 108 (by decide +kernel) rfl
theorem q_349 : Cond.selects "PurseCard$Sealer" ⟨"PurseCard$Sealer", "byteAt", "(I)I"⟩ ⟨"PurseCard$Sealer", "byteAt", "(I)I"⟩ ∈ mWS := mw2 109 (by decide +kernel) rfl
theorem q_350 : Cond.code ⟨"PurseCard$Sealer", "byteAt", "(I)I"⟩ prog_5_method_5_code (2 : Nat) (Option.some FieldType.int) ∈ mWS := mw2 110 (by decide +kernel) rfl
theorem q_351 : Cond.methodLink "PurseCardLaw" (35 : Nat) ⟨"PurseCard", "answered", "()I"⟩ ∈ mWS := mw2 111 (by decide +kernel) rfl
theorem q_352 : Cond.instanceMethod ⟨"PurseCard", "answered", "()I"⟩ ∈ mWS := mw2 112 (by decide +kernel) rfl
theorem q_353 : Cond.selects "PurseCard" ⟨"PurseCard", "answered", "()I"⟩ ⟨"PurseCard", "answered", "()I"⟩ ∈ mWS := mw2 113 (by decide +kernel) rfl
theorem q_354 : Cond.code ⟨"PurseCard", "answered", "()I"⟩ prog_1_method_5_code (1 : Nat) (Option.some FieldType.int) ∈ mWS := mw2 114 (by decide +kernel) rfl
theorem q_355 : Cond.methodLink "PurseCardLaw" (39 : Nat) ⟨"PurseCard", "answer", "(I)I"⟩ ∈ mWS := mw2 115 (by decide +kernel) rfl
theorem q_356 : Cond.instanceMethod ⟨"PurseCard", "answer", "(I)I"⟩ ∈ mWS := mw2 116 (by decide +kernel) rfl
theorem q_357 : Cond.selects "PurseCard" ⟨"PurseCard", "answer", "(I)I"⟩ ⟨"PurseCard", "answer", "(I)I"⟩ ∈ mWS := mw2 117 (by decide +kernel) rfl
theorem q_358 : Cond.code ⟨"PurseCard", "answer", "(I)I"⟩ prog_1_method_6_code (2 : Nat) (Option.some FieldType.int) ∈ mWS := mw2 118 (by decide +kernel) rfl
theorem q_359 : Cond.methodLink "PurseCard" (53 : Nat) ⟨"PurseCard$Row", "at", "(I)I"⟩ ∈ mWS := mw2 119 (by decide +kernel) rfl
theorem q_360 : Cond.methodLink "PurseCardLaw" (44 : Nat) ⟨"PurseCard", "find", "(I)I"⟩ ∈ mWS := mw2 120 (by decide +kernel) rfl
theorem q_361 : Cond.instanceMethod ⟨"PurseCard", "find", "(I)I"⟩ ∈ mWS := mw2 121 (by decide +kernel) rfl
theorem q_362 : Cond.selects "PurseCard" ⟨"PurseCard", "find", "(I)I"⟩ ⟨"PurseCard", "find", "(I)I"⟩ ∈ mWS := mw2 122 (by decide +kernel) rfl
theorem q_363 : Cond.code ⟨"PurseCard", "find", "(I)I"⟩ prog_1_method_7_code (2 : Nat) (Option.some FieldType.int) ∈ mWS := mw2 123 (by decide +kernel) rfl
theorem q_364 : Cond.methodLink "PurseCard" (57 : Nat) ⟨"PurseCard$TagSearch", "placeOf", "(ILPurseCard$Row;)I"⟩ ∈ mWS := mw2 124 (by decide +kernel) rfl
theorem q_365 : Cond.instanceMethod ⟨"PurseCard$TagSearch", "placeOf", "(ILPurseCard$Row;)I"⟩ ∈ mWS := mw2 125 (by decide +kernel) rfl
theorem q_366 : Cond.selects "PurseCard$TagSearch" ⟨"PurseCard$TagSearch", "placeOf", "(ILPurseCard$Row;)I"⟩ ⟨"PurseCard$TagSearch", "placeOf", "(ILPurseCard$Row;)I"⟩ ∈ mWS := mw2 126 (by decide +kernel) rfl
theorem q_367 : Cond.code ⟨"PurseCard$TagSearch", "placeOf", "(ILPurseCard$Row;)I"⟩ prog_6_method_2_code (10 : Nat) (Option.some FieldType.int) ∈ mWS := mw2 127 (by decide +kernel) rfl
theorem q_368 : Cond.methodLink "PurseCard$TagSearch" (15 : Nat) ⟨"PurseCard$Row", "size", "()I"⟩ ∈ mWS := mw2 128 (by decide +kernel) rfl
theorem q_369 : Cond.methodLink "PurseCard$TagSearch" (21 : Nat) ⟨"PurseCard$Row", "at", "(I)I"⟩ ∈ mWS := mw2 129 (by decide +kernel) rfl
theorem q_370 : Cond.methodLink "PurseCardLaw" (48 : Nat) ⟨"PurseCard", "keep", "(I)I"⟩ ∈ mWS := mw2 130 (by decide +kernel) rfl
theorem q_371 : Cond.instanceMethod ⟨"PurseCard", "keep", "(I)I"⟩ ∈ mWS := mw2 131 (by decide +kernel) rfl
theorem q_372 : Cond.selects "PurseCard" ⟨"PurseCard", "keep", "(I)I"⟩ ⟨"PurseCard", "keep", "(I)I"⟩ ∈ mWS := mw2 132 (by decide +kernel) rfl
theorem q_373 : Cond.code ⟨"PurseCard", "keep", "(I)I"⟩ prog_1_method_8_code (2 : Nat) (Option.some FieldType.int) ∈ mWS := mw2 133 (by decide +kernel) rfl
theorem q_374 : Cond.methodLink "PurseCard" (65 : Nat) ⟨"PurseCard$Files", "store", "(ILPurseCard$Row;)Z"⟩ ∈ mWS := mw2 134 (by decide +kernel) rfl
theorem q_375 : Cond.instanceMethod ⟨"PurseCard$Files", "store", "(ILPurseCard$Row;)Z"⟩ ∈ mWS := mw2 135 (by decide +kernel) rfl
theorem q_376 : Cond.selects "PurseCard$Files" ⟨"PurseCard$Files", "store", "(ILPurseCard$Row;)Z"⟩ ⟨"PurseCard$Files", "store", "(ILPurseCard$Row;)Z"⟩ ∈ mWS := mw2 136 (by decide +kernel) rfl
theorem q_377 : Cond.code ⟨"PurseCard$Files", "store", "(ILPurseCard$Row;)Z"⟩ prog_3_method_3_code (5 : Nat) (Option.some FieldType.boolean) ∈ mWS := mw2 137 (by decide +kernel) rfl
theorem q_378 : Cond.methodLink "PurseCard$Files" (25 : Nat) ⟨"PurseCard$Row", "size", "()I"⟩ ∈ mWS := mw2 138 (by decide +kernel) rfl
theorem q_379 : Cond.methodLink "PurseCard$Files" (31 : Nat) ⟨"PurseCard$Row", "at", "(I)I"⟩ ∈ mWS := mw2 139 (by decide +kernel) rfl
theorem q_380 : Cond.methodLink "PurseCard" (71 : Nat) ⟨"PurseCard$Files", "count", "(I)I"⟩ ∈ mWS := mw2 140 (by decide +kernel) rfl
theorem q_381 : Cond.methodLink "PurseCardLaw" (54 : Nat) ⟨"PurseCard", "key", "(JJ)V"⟩ ∈ mWS := mw2 141 (by decide +kernel) rfl
theorem q_382 : Cond.instanceMethod ⟨"PurseCard", "key", "(JJ)V"⟩ ∈ mWS := mw2 142 (by decide +kernel) rfl
theorem q_383 : Cond.selects "PurseCard" ⟨"PurseCard", "key", "(JJ)V"⟩ ⟨"PurseCard", "key", "(JJ)V"⟩ ∈ mWS := mw2 143 (by decide +kernel) rfl
theorem q_384 : Cond.code ⟨"PurseCard", "key", "(JJ)V"⟩ prog_1_method_9_code (5 : Nat) (Option.none : Option FieldType) ∈ mWS := mw2 144 (by decide +kernel) rfl
theorem q_385 : Cond.methodLink "PurseCard" (78 : Nat) ⟨"PurseCard$Sealer", "takeKey", "(JJ)V"⟩ ∈ mWS := mw2 145 (by decide +kernel) rfl
theorem q_386 : Cond.methodLink "PurseCardLaw" (59 : Nat) ⟨"PurseCard", "code", "(I)Z"⟩ ∈ mWS := mw2 146 (by decide +kernel) rfl
theorem q_387 : Cond.instanceMethod ⟨"PurseCard", "code", "(I)Z"⟩ ∈ mWS := mw2 147 (by decide +kernel) rfl
theorem q_388 : Cond.selects "PurseCard" ⟨"PurseCard", "code", "(I)Z"⟩ ⟨"PurseCard", "code", "(I)Z"⟩ ∈ mWS := mw2 148 (by decide +kernel) rfl
theorem q_389 : Cond.code ⟨"PurseCard", "code", "(I)Z"⟩ prog_1_method_10_code (2 : Nat) (Option.some FieldType.boolean) ∈ mWS := mw2 149 (by decide +kernel) rfl
theorem q_390 : Cond.methodLink "PurseCardLaw" (63 : Nat) ⟨"PurseCard", "advance", "(I)Z"⟩ ∈ mWS := mw2 150 (by decide +kernel) rfl
theorem q_391 : Cond.instanceMethod ⟨"PurseCard", "advance", "(I)Z"⟩ ∈ mWS := mw2 151 (by decide +kernel) rfl
theorem q_392 : Cond.selects "PurseCard" ⟨"PurseCard", "advance", "(I)Z"⟩ ⟨"PurseCard", "advance", "(I)Z"⟩ ∈ mWS := mw2 152 (by decide +kernel) rfl
theorem q_393 : Cond.code ⟨"PurseCard", "advance", "(I)Z"⟩ prog_1_method_11_code (2 : Nat) (Option.some FieldType.boolean) ∈ mWS := mw2 153 (by decide +kernel) rfl
theorem q_394 : Cond.constant "PurseCard" (94 : Nat) (65535 : Int32) ∈ mWS := mw2 154 (by decide +kernel) rfl
theorem q_395 : Cond.methodLink "PurseCardLaw" (67 : Nat) ⟨"PurseCard", "seal", "(I)I"⟩ ∈ mWS := mw2 155 (by decide +kernel) rfl
theorem q_396 : Cond.instanceMethod ⟨"PurseCard", "seal", "(I)I"⟩ ∈ mWS := mw2 156 (by decide +kernel) rfl
theorem q_397 : Cond.selects "PurseCard" ⟨"PurseCard", "seal", "(I)I"⟩ ⟨"PurseCard", "seal", "(I)I"⟩ ∈ mWS := mw2 157 (by decide +kernel) rfl
theorem q_398 : Cond.code ⟨"PurseCard", "seal", "(I)I"⟩ prog_1_method_12_code (2 : Nat) (Option.some FieldType.int) ∈ mWS := mw2 158 (by decide +kernel) rfl
theorem q_399 : Cond.methodLink "PurseCard" (95 : Nat) ⟨"PurseCard$Sealer", "run", "(LPurseCard$Row;)V"⟩ ∈ mWS := mw2 159 (by decide +kernel) rfl
theorem q_400 : Cond.methodLink "PurseCard" (99 : Nat) ⟨"PurseCard$Sealer", "byteAt", "(I)I"⟩ ∈ mWS := mw2 160 (by decide +kernel) rfl
theorem q_401 : Cond.methodLink "PurseCardLaw" (71 : Nat) ⟨"PurseCard", "genuine", "(JIZ)Z"⟩ ∈ mWS := mw2 161 (by decide +kernel) rfl
theorem q_402 : Cond.instanceMethod ⟨"PurseCard", "genuine", "(JIZ)Z"⟩ ∈ mWS := mw2 162 (by decide +kernel) rfl
theorem q_403 : Cond.selects "PurseCard" ⟨"PurseCard", "genuine", "(JIZ)Z"⟩ ⟨"PurseCard", "genuine", "(JIZ)Z"⟩ ∈ mWS := mw2 163 (by decide +kernel) rfl
theorem q_404 : Cond.code ⟨"PurseCard", "genuine", "(JIZ)Z"⟩ prog_1_method_13_code (10 : Nat) (Option.some FieldType.boolean) ∈ mWS := mw2 164 (by decide +kernel) rfl
theorem q_405 : Cond.methodLink "PurseCard" (102 : Nat) ⟨"PurseCard", "isAmount", "(J)Z"⟩ ∈ mWS := mw2 165 (by decide +kernel) rfl
theorem q_406 : Cond.static ⟨"PurseCard", "isAmount", "(J)Z"⟩ ∈ mWS := mw2 166 (by decide +kernel) rfl
theorem q_407 : Cond.code ⟨"PurseCard", "isAmount", "(J)Z"⟩ prog_1_method_18_code (2 : Nat) (Option.some FieldType.boolean) ∈ mWS := mw2 167 (by decide +kernel) rfl
theorem q_408 : Cond.constantLong "PurseCard" (147 : Nat) (281474976710655 : Int64) ∈ mWS := mw2 168 (by decide +kernel) rfl
theorem q_409 : Cond.constant "PurseCard" (106 : Nat) (40743 : Int32) ∈ mWS := mw2 169 (by decide +kernel) rfl
theorem q_410 : Cond.methodLink "PurseCard" (107 : Nat) ⟨"PurseCard", "placeOfSized", "(II)I"⟩ ∈ mWS := mw2 170 (by decide +kernel) rfl
theorem q_412 : Cond.instanceMethod ⟨"PurseCard", "placeOfSized", "(II)I"⟩ ∈ mWS := mw2 172 (by decide +kernel) rfl
theorem q_413 : Cond.code ⟨"PurseCard", "placeOfSized", "(II)I"⟩ prog_1_method_19_code (4 : Nat) (Option.some FieldType.int) ∈ mWS := mw2 173 (by decide +kernel) rfl
theorem q_414 : Cond.constant "PurseCard" (111 : Nat) (40758 : Int32) ∈ mWS := mw2 174 (by decide +kernel) rfl
theorem q_415 : Cond.constant "PurseCard" (112 : Nat) (40742 : Int32) ∈ mWS := mw2 175 (by decide +kernel) rfl
theorem q_416 : Cond.methodLink "PurseCard" (113 : Nat) ⟨"PurseCard$Row", "numberAt", "(II)J"⟩ ∈ mWS := mw2 176 (by decide +kernel) rfl
theorem q_417 : Cond.methodLink "PurseCard" (117 : Nat) ⟨"PurseCard$Sealer", "payment", "(JJJIZ)LPurseCard$Row;"⟩ ∈ mWS := mw2 177 (by decide +kernel) rfl
theorem q_418 : Cond.methodLink "PurseCardLaw" (76 : Nat) ⟨"PurseCard", "pay", "(JJIIZ)I"⟩ ∈ mWS := mw2 178 (by decide +kernel) rfl
theorem q_419 : Cond.instanceMethod ⟨"PurseCard", "pay", "(JJIIZ)I"⟩ ∈ mWS := mw2 179 (by decide +kernel) rfl
theorem q_420 : Cond.selects "PurseCard" ⟨"PurseCard", "pay", "(JJIIZ)I"⟩ ⟨"PurseCard", "pay", "(JJIIZ)I"⟩ ∈ mWS := mw2 180 (by decide +kernel) rfl
theorem q_421 : Cond.code ⟨"PurseCard", "pay", "(JJIIZ)I"⟩ prog_1_method_14_code (11 : Nat) (Option.some FieldType.int) ∈ mWS := mw2 181 (by decide +kernel) rfl
theorem q_422 : Cond.methodLink "PurseCard" (121 : Nat) ⟨"PurseCard", "openPayment", "(J)I"⟩ ∈ mWS := mw2 182 (by decide +kernel) rfl
theorem q_424 : Cond.instanceMethod ⟨"PurseCard", "openPayment", "(J)I"⟩ ∈ mWS := mw2 184 (by decide +kernel) rfl
theorem q_425 : Cond.code ⟨"PurseCard", "openPayment", "(J)I"⟩ prog_1_method_21_code (4 : Nat) (Option.some FieldType.int) ∈ mWS := mw2 185 (by decide +kernel) rfl
theorem q_426 : Cond.methodLink "PurseCard" (149 : Nat) ⟨"PurseCard", "typeHead", "(IIII)V"⟩ ∈ mWS := mw2 186 (by decide +kernel) rfl
theorem q_428 : Cond.instanceMethod ⟨"PurseCard", "typeHead", "(IIII)V"⟩ ∈ mWS := mw2 188 (by decide +kernel) rfl
theorem q_429 : Cond.code ⟨"PurseCard", "typeHead", "(IIII)V"⟩ prog_1_method_25_code (5 : Nat) (Option.none : Option FieldType) ∈ mWS := mw2 189 (by decide +kernel) rfl
theorem q_430 : Cond.methodLink "PurseCard" (162 : Nat) ⟨"PurseCard$Row", "addNumber", "(JI)V"⟩ ∈ mWS := mw2 190 (by decide +kernel) rfl
theorem q_431 : Cond.methodLink "PurseCard" (156 : Nat) ⟨"PurseCard$Row", "addRow", "(LPurseCard$Row;)V"⟩ ∈ mWS := mw2 191 (by decide +kernel) rfl
theorem q_432 : Cond.constant "PurseCard" (125 : Nat) (36864 : Int32) ∈ mWS := mw2 192 (by decide +kernel) rfl
theorem q_433 : Cond.constant "PurseCard" (159 : Nat) (32936 : Int32) ∈ mWS := mw2 193 (by decide +kernel) rfl
theorem q_434 : Cond.constantLong "PurseCard" (160 : Nat) (33542 : Int64) ∈ mWS := mw2 194 (by decide +kernel) rfl
theorem q_435 : Cond.methodLink "PurseCard" (126 : Nat) ⟨"PurseCard", "readRecords", "()I"⟩ ∈ mWS := mw2 195 (by decide +kernel) rfl
theorem q_437 : Cond.instanceMethod ⟨"PurseCard", "readRecords", "()I"⟩ ∈ mWS := mw2 197 (by decide +kernel) rfl
theorem q_438 : Cond.code ⟨"PurseCard", "readRecords", "()I"⟩ prog_1_method_22_code (4 : Nat) (Option.some FieldType.int) ∈ mWS := mw2 198 (by decide +kernel) rfl
theorem q_439 : Cond.methodLink "PurseCard" (129 : Nat) ⟨"PurseCard", "provePin", "(I)I"⟩ ∈ mWS := mw2 199 (by decide +kernel) rfl
theorem q_441 : Cond.instanceMethod ⟨"PurseCard", "provePin", "(I)I"⟩ ∈ mWS := mw2 201 (by decide +kernel) rfl
theorem q_442 : Cond.code ⟨"PurseCard", "provePin", "(I)I"⟩ prog_1_method_23_code (3 : Nat) (Option.some FieldType.int) ∈ mWS := mw2 202 (by decide +kernel) rfl
theorem q_443 : Cond.constant "PurseCard" (132 : Nat) (65520 : Int32) ∈ mWS := mw2 203 (by decide +kernel) rfl
theorem q_444 : Cond.methodLink "PurseCard" (133 : Nat) ⟨"PurseCard", "typeSeal", "(IJII)V"⟩ ∈ mWS := mw2 204 (by decide +kernel) rfl
theorem q_446 : Cond.instanceMethod ⟨"PurseCard", "typeSeal", "(IJII)V"⟩ ∈ mWS := mw2 206 (by decide +kernel) rfl
theorem q_447 : Cond.code ⟨"PurseCard", "typeSeal", "(IJII)V"⟩ prog_1_method_24_code (6 : Nat) (Option.none : Option FieldType) ∈ mWS := mw2 207 (by decide +kernel) rfl
theorem q_448 : Cond.constant "PurseCard" (166 : Nat) (32942 : Int32) ∈ mWS := mw2 208 (by decide +kernel) rfl
theorem q_449 : Cond.methodLink "PurseCard" (137 : Nat) ⟨"PurseCard", "givenByCard", "()I"⟩ ∈ mWS := mw2 209 (by decide +kernel) rfl
theorem q_451 : Cond.instanceMethod ⟨"PurseCard", "givenByCard", "()I"⟩ ∈ mWS := mw2 211 (by decide +kernel) rfl
theorem q_452 : Cond.code ⟨"PurseCard", "givenByCard", "()I"⟩ prog_1_method_20_code (1 : Nat) (Option.some FieldType.int) ∈ mWS := mw2 212 (by decide +kernel) rfl
theorem q_453 : Cond.methodLink "PurseCard" (140 : Nat) ⟨"PurseCard", "genuine", "(JIZ)Z"⟩ ∈ mWS := mw2 213 (by decide +kernel) rfl
theorem q_454 : Cond.methodLink "PurseCardLaw" (81 : Nat) ⟨"PurseCard", "stage", "()I"⟩ ∈ mWS := mw2 214 (by decide +kernel) rfl
theorem q_455 : Cond.instanceMethod ⟨"PurseCard", "stage", "()I"⟩ ∈ mWS := mw2 215 (by decide +kernel) rfl
theorem q_456 : Cond.selects "PurseCard" ⟨"PurseCard", "stage", "()I"⟩ ⟨"PurseCard", "stage", "()I"⟩ ∈ mWS := mw2 216 (by decide +kernel) rfl
theorem q_457 : Cond.code ⟨"PurseCard", "stage", "()I"⟩ prog_1_method_15_code (1 : Nat) (Option.some FieldType.int) ∈ mWS := mw2 217 (by decide +kernel) rfl
theorem q_458 : Cond.methodLink "PurseCardLaw" (85 : Nat) ⟨"PurseCard", "counter", "()I"⟩ ∈ mWS := mw2 218 (by decide +kernel) rfl
theorem q_459 : Cond.instanceMethod ⟨"PurseCard", "counter", "()I"⟩ ∈ mWS := mw2 219 (by decide +kernel) rfl
theorem q_460 : Cond.selects "PurseCard" ⟨"PurseCard", "counter", "()I"⟩ ⟨"PurseCard", "counter", "()I"⟩ ∈ mWS := mw2 220 (by decide +kernel) rfl
theorem q_461 : Cond.code ⟨"PurseCard", "counter", "()I"⟩ prog_1_method_16_code (1 : Nat) (Option.some FieldType.int) ∈ mWS := mw2 221 (by decide +kernel) rfl
theorem q_462 : Cond.methodLink "PurseCardLaw" (89 : Nat) ⟨"PurseCard", "tries", "()I"⟩ ∈ mWS := mw2 222 (by decide +kernel) rfl
theorem q_463 : Cond.instanceMethod ⟨"PurseCard", "tries", "()I"⟩ ∈ mWS := mw2 223 (by decide +kernel) rfl
theorem q_464 : Cond.selects "PurseCard" ⟨"PurseCard", "tries", "()I"⟩ ⟨"PurseCard", "tries", "()I"⟩ ∈ mWS := mw2 224 (by decide +kernel) rfl
theorem q_465 : Cond.code ⟨"PurseCard", "tries", "()I"⟩ prog_1_method_17_code (1 : Nat) (Option.some FieldType.int) ∈ mWS := mw2 225 (by decide +kernel) rfl
theorem q_466 : Cond.methodLink "PurseCardLaw" (9 : Nat) ⟨"PurseCardLaw", "cell", "([II)I"⟩ ∈ mWS := mw2 226 (by decide +kernel) rfl
theorem q_467 : Cond.static ⟨"PurseCardLaw", "cell", "([II)I"⟩ ∈ mWS := mw2 227 (by decide +kernel) rfl
theorem q_468 : Cond.code ⟨"PurseCardLaw", "cell", "([II)I"⟩ method_2_code (2 : Nat) (Option.some FieldType.int) ∈ mWS := mw2 228 (by decide +kernel) rfl
theorem q_469 : Cond.classLink "PurseCardLaw" (18 : Nat) "PurseCardModel" ∈ mWS := mw2 229 (by decide +kernel) rfl
theorem q_470 : Cond.instantiable "PurseCardModel" (25 : Nat) ∈ mWS := mw2 230 (by decide +kernel) rfl
theorem q_471 : Cond.methodLink "PurseCardLaw" (20 : Nat) ⟨"PurseCardModel", "<init>", "(I)V"⟩ ∈ mWS := mw2 231 (by decide +kernel) rfl
theorem q_472 : Cond.instanceMethod ⟨"PurseCardModel", "<init>", "(I)V"⟩ ∈ mWS := mw2 232 (by decide +kernel) rfl
theorem q_473 : Cond.code ⟨"PurseCardModel", "<init>", "(I)V"⟩ prog_8_method_1_code (3 : Nat) (Option.none : Option FieldType) ∈ mWS := mw2 233 (by decide +kernel) rfl
theorem q_474 : Cond.methodLink "PurseCardModel" (1 : Nat) ⟨"java/lang/Object", "<init>", "()V"⟩ ∈ mWS := mw2 234 (by decide +kernel) rfl
theorem q_475 : Cond.methodLink "PurseCardModel" (65 : Nat) ⟨"PurseCardModel", "substitute", "(I)I"⟩ ∈ mWS := mw2 235 (by decide +kernel) rfl
theorem q_476 : Cond.static ⟨"PurseCardModel", "substitute", "(I)I"⟩ ∈ mWS := mw2 236 (by decide +kernel) rfl
theorem q_477 : Cond.code ⟨"PurseCardModel", "substitute", "(I)I"⟩ prog_8_method_4_code (5 : Nat) (Option.some FieldType.int) ∈ mWS := mw2 237 (by decide +kernel) rfl
theorem q_478 : Cond.methodLink "PurseCardModel" (76 : Nat) ⟨"PurseCardModel", "inverse", "(I)I"⟩ ∈ mWS := mw2 238 (by decide +kernel) rfl
theorem q_479 : Cond.static ⟨"PurseCardModel", "inverse", "(I)I"⟩ ∈ mWS := mw2 239 (by decide +kernel) rfl
theorem q_480 : Cond.code ⟨"PurseCardModel", "inverse", "(I)I"⟩ prog_8_method_3_code (3 : Nat) (Option.some FieldType.int) ∈ mWS := mw3 0 (by decide +kernel) rfl
theorem q_481 : Cond.methodLink "PurseCardModel" (72 : Nat) ⟨"PurseCardModel", "times", "(II)I"⟩ ∈ mWS := mw3 1 (by decide +kernel) rfl
theorem q_482 : Cond.static ⟨"PurseCardModel", "times", "(II)I"⟩ ∈ mWS := mw3 2 (by decide +kernel) rfl
theorem q_483 : Cond.code ⟨"PurseCardModel", "times", "(II)I"⟩ prog_8_method_2_code (5 : Nat) (Option.some FieldType.int) ∈ mWS := mw3 3 (by decide +kernel) rfl
theorem q_484 : Cond.methodLink "PurseCardModel" (69 : Nat) ⟨"PurseCardModel", "expand", "()V"⟩ ∈ mWS := mw3 4 (by decide +kernel) rfl
theorem q_486 : Cond.instanceMethod ⟨"PurseCardModel", "expand", "()V"⟩ ∈ mWS := mw3 6 (by decide +kernel) rfl
theorem q_487 : Cond.code ⟨"PurseCardModel", "expand", "()V"⟩ prog_8_method_5_code (6 : Nat) (Option.none : Option FieldType) ∈ mWS := mw3 7 (by decide +kernel) rfl
theorem q_488 : Cond.fieldLink "PurseCardModel" (7 : Nat) "PurseCardModel" "key" "[I" ∈ mWS := mw3 8 (by decide +kernel) rfl
theorem q_489 : Cond.fieldLink "PurseCardModel" (13 : Nat) "PurseCardModel" "digits" "[I" ∈ mWS := mw3 9 (by decide +kernel) rfl
theorem q_490 : Cond.fieldLink "PurseCardModel" (16 : Nat) "PurseCardModel" "name" "[I" ∈ mWS := mw3 10 (by decide +kernel) rfl
theorem q_491 : Cond.fieldLink "PurseCardModel" (19 : Nat) "PurseCardModel" "records" "[I" ∈ mWS := mw3 11 (by decide +kernel) rfl
theorem q_492 : Cond.fieldLink "PurseCardModel" (22 : Nat) "PurseCardModel" "recordLength" "[I" ∈ mWS := mw3 12 (by decide +kernel) rfl
theorem q_493 : Cond.fieldLink "PurseCardModel" (25 : Nat) "PurseCardModel" "recordByte" "[I" ∈ mWS := mw3 13 (by decide +kernel) rfl
theorem q_494 : Cond.fieldLink "PurseCardModel" (112 : Nat) "PurseCardModel" "counter" "I" ∈ mWS := mw3 14 (by decide +kernel) rfl
theorem q_495 : Cond.fieldLink "PurseCardModel" (28 : Nat) "PurseCardModel" "tries" "I" ∈ mWS := mw3 15 (by decide +kernel) rfl
theorem q_496 : Cond.fieldLink "PurseCardModel" (173 : Nat) "PurseCardModel" "alone" "I" ∈ mWS := mw3 16 (by decide +kernel) rfl
theorem q_497 : Cond.fieldLink "PurseCardModel" (109 : Nat) "PurseCardModel" "stage" "I" ∈ mWS := mw3 17 (by decide +kernel) rfl
theorem q_498 : Cond.fieldLink "PurseCardModel" (162 : Nat) "PurseCardModel" "amount" "J" ∈ mWS := mw3 18 (by decide +kernel) rfl
theorem q_499 : Cond.fieldLink "PurseCardModel" (166 : Nat) "PurseCardModel" "proven" "Z" ∈ mWS := mw3 19 (by decide +kernel) rfl
theorem q_500 : Cond.fieldLink "PurseCardModel" (97 : Nat) "PurseCardModel" "typed" "I" ∈ mWS := mw3 20 (by decide +kernel) rfl
theorem q_501 : Cond.fieldLink "PurseCardModel" (32 : Nat) "PurseCardModel" "row" "[I" ∈ mWS := mw3 21 (by decide +kernel) rfl
theorem q_502 : Cond.fieldLink "PurseCardModel" (100 : Nat) "PurseCardModel" "size" "I" ∈ mWS := mw3 22 (by decide +kernel) rfl
theorem q_503 : Cond.fieldLink "PurseCardModel" (35 : Nat) "PurseCardModel" "out" "[I" ∈ mWS := mw3 23 (by decide +kernel) rfl
theorem q_504 : Cond.fieldLink "PurseCardModel" (38 : Nat) "PurseCardModel" "entries" "[I" ∈ mWS := mw3 24 (by decide +kernel) rfl
theorem q_505 : Cond.fieldLink "PurseCardModel" (41 : Nat) "PurseCardModel" "table" "[I" ∈ mWS := mw3 25 (by decide +kernel) rfl
theorem q_506 : Cond.fieldLink "PurseCardModel" (44 : Nat) "PurseCardModel" "round" "[I" ∈ mWS := mw3 26 (by decide +kernel) rfl
theorem q_507 : Cond.fieldLink "PurseCardModel" (47 : Nat) "PurseCardModel" "block" "[I" ∈ mWS := mw3 27 (by decide +kernel) rfl
theorem q_508 : Cond.fieldLink "PurseCardModel" (50 : Nat) "PurseCardModel" "moved" "[I" ∈ mWS := mw3 28 (by decide +kernel) rfl
theorem q_509 : Cond.fieldLink "PurseCardModel" (53 : Nat) "PurseCardModel" "sealed" "[I" ∈ mWS := mw3 29 (by decide +kernel) rfl
theorem q_510 : Cond.fieldLink "PurseCardModel" (56 : Nat) "PurseCardModel" "result" "[I" ∈ mWS := mw3 30 (by decide +kernel) rfl
theorem q_511 : Cond.fieldLink "PurseCardModel" (59 : Nat) "PurseCardModel" "mask" "[I" ∈ mWS := mw3 31 (by decide +kernel) rfl
theorem q_512 : Cond.fieldLink "PurseCardModel" (62 : Nat) "PurseCardModel" "ends" "[I" ∈ mWS := mw3 32 (by decide +kernel) rfl
theorem q_513 : Cond.lays "PurseCardModel" "PurseCardModel" "key" "[I" ∈ mWS := mw3 33 (by decide +kernel) rfl
theorem q_515 : Cond.lays "PurseCardModel" "PurseCardModel" "digits" "[I" ∈ mWS := mw3 35 (by decide +kernel) rfl
theorem q_517 : Cond.lays "PurseCardModel" "PurseCardModel" "name" "[I" ∈ mWS := mw3 37 (by decide +kernel) rfl
theorem q_519 : Cond.lays "PurseCardModel" "PurseCardModel" "records" "[I" ∈ mWS := mw3 39 (by decide +kernel) rfl
theorem q_521 : Cond.lays "PurseCardModel" "PurseCardModel" "recordLength" "[I" ∈ mWS := mw3 41 (by decide +kernel) rfl
theorem q_523 : Cond.lays "PurseCardModel" "PurseCardModel" "recordByte" "[I" ∈ mWS := mw3 43 (by decide +kernel) rfl
theorem q_525 : Cond.lays "PurseCardModel" "PurseCardModel" "counter" "I" ∈ mWS := mw3 45 (by decide +kernel) rfl
theorem q_527 : Cond.lays "PurseCardModel" "PurseCardModel" "tries" "I" ∈ mWS := mw3 47 (by decide +kernel) rfl
theorem q_529 : Cond.lays "PurseCardModel" "PurseCardModel" "alone" "I" ∈ mWS := mw3 49 (by decide +kernel) rfl
theorem q_531 : Cond.lays "PurseCardModel" "PurseCardModel" "stage" "I" ∈ mWS := mw3 51 (by decide +kernel) rfl
theorem q_533 : Cond.lays "PurseCardModel" "PurseCardModel" "amount" "J" ∈ mWS := mw3 53 (by decide +kernel) rfl
theorem q_535 : Cond.lays "PurseCardModel" "PurseCardModel" "proven" "Z" ∈ mWS := mw3 55 (by decide +kernel) rfl
theorem q_537 : Cond.lays "PurseCardModel" "PurseCardModel" "typed" "I" ∈ mWS := mw3 57 (by decide +kernel) rfl
theorem q_539 : Cond.lays "PurseCardModel" "PurseCardModel" "row" "[I" ∈ mWS := mw3 59 (by decide +kernel) rfl
theorem q_541 : Cond.lays "PurseCardModel" "PurseCardModel" "size" "I" ∈ mWS := mw3 61 (by decide +kernel) rfl
theorem q_543 : Cond.lays "PurseCardModel" "PurseCardModel" "out" "[I" ∈ mWS := mw3 63 (by decide +kernel) rfl
theorem q_545 : Cond.lays "PurseCardModel" "PurseCardModel" "entries" "[I" ∈ mWS := mw3 65 (by decide +kernel) rfl
theorem q_547 : Cond.lays "PurseCardModel" "PurseCardModel" "table" "[I" ∈ mWS := mw3 67 (by decide +kernel) rfl
theorem q_549 : Cond.lays "PurseCardModel" "PurseCardModel" "round" "[I" ∈ mWS := mw3 69 (by decide +kernel) rfl
theorem q_551 : Cond.lays "PurseCardModel" "PurseCardModel" "block" "[I" ∈ mWS := mw3 71 (by decide +kernel) rfl
theorem q_553 : Cond.lays "PurseCardModel" "PurseCardModel" "moved" "[I" ∈ mWS := mw3 73 (by decide +kernel) rfl
theorem q_555 : Cond.lays "PurseCardModel" "PurseCardModel" "sealed" "[I" ∈ mWS := mw3 75 (by decide +kernel) rfl
theorem q_557 : Cond.lays "PurseCardModel" "PurseCardModel" "result" "[I" ∈ mWS := mw3 77 (by decide +kernel) rfl
theorem q_559 : Cond.lays "PurseCardModel" "PurseCardModel" "mask" "[I" ∈ mWS := mw3 79 (by decide +kernel) rfl
theorem q_561 : Cond.lays "PurseCardModel" "PurseCardModel" "ends" "[I" ∈ mWS := mw3 81 (by decide +kernel) rfl
theorem q_564 : Cond.methodLink "PurseCardLaw" (25 : Nat) ⟨"PurseCardModel", "put", "(I)Z"⟩ ∈ mWS := mw3 84 (by decide +kernel) rfl
theorem q_565 : Cond.instanceMethod ⟨"PurseCardModel", "put", "(I)Z"⟩ ∈ mWS := mw3 85 (by decide +kernel) rfl
theorem q_566 : Cond.selects "PurseCardModel" ⟨"PurseCardModel", "put", "(I)Z"⟩ ⟨"PurseCardModel", "put", "(I)Z"⟩ ∈ mWS := mw3 86 (by decide +kernel) rfl
theorem q_567 : Cond.code ⟨"PurseCardModel", "put", "(I)Z"⟩ prog_8_method_12_code (2 : Nat) (Option.some FieldType.boolean) ∈ mWS := mw3 87 (by decide +kernel) rfl
theorem q_568 : Cond.methodLink "PurseCardLaw" (30 : Nat) ⟨"PurseCardModel", "wipe", "()I"⟩ ∈ mWS := mw3 88 (by decide +kernel) rfl
theorem q_569 : Cond.instanceMethod ⟨"PurseCardModel", "wipe", "()I"⟩ ∈ mWS := mw3 89 (by decide +kernel) rfl
theorem q_570 : Cond.selects "PurseCardModel" ⟨"PurseCardModel", "wipe", "()I"⟩ ⟨"PurseCardModel", "wipe", "()I"⟩ ∈ mWS := mw3 90 (by decide +kernel) rfl
theorem q_571 : Cond.code ⟨"PurseCardModel", "wipe", "()I"⟩ prog_8_method_13_code (2 : Nat) (Option.some FieldType.int) ∈ mWS := mw3 91 (by decide +kernel) rfl
theorem q_572 : Cond.methodLink "PurseCardLaw" (38 : Nat) ⟨"PurseCardModel", "answered", "()I"⟩ ∈ mWS := mw3 92 (by decide +kernel) rfl
theorem q_573 : Cond.instanceMethod ⟨"PurseCardModel", "answered", "()I"⟩ ∈ mWS := mw3 93 (by decide +kernel) rfl
theorem q_574 : Cond.selects "PurseCardModel" ⟨"PurseCardModel", "answered", "()I"⟩ ⟨"PurseCardModel", "answered", "()I"⟩ ∈ mWS := mw3 94 (by decide +kernel) rfl
theorem q_575 : Cond.code ⟨"PurseCardModel", "answered", "()I"⟩ prog_8_method_16_code (1 : Nat) (Option.some FieldType.int) ∈ mWS := mw3 95 (by decide +kernel) rfl
theorem q_576 : Cond.methodLink "PurseCardLaw" (43 : Nat) ⟨"PurseCardModel", "answer", "(I)I"⟩ ∈ mWS := mw3 96 (by decide +kernel) rfl
theorem q_577 : Cond.instanceMethod ⟨"PurseCardModel", "answer", "(I)I"⟩ ∈ mWS := mw3 97 (by decide +kernel) rfl
theorem q_578 : Cond.selects "PurseCardModel" ⟨"PurseCardModel", "answer", "(I)I"⟩ ⟨"PurseCardModel", "answer", "(I)I"⟩ ∈ mWS := mw3 98 (by decide +kernel) rfl
theorem q_579 : Cond.code ⟨"PurseCardModel", "answer", "(I)I"⟩ prog_8_method_17_code (2 : Nat) (Option.some FieldType.int) ∈ mWS := mw3 99 (by decide +kernel) rfl
theorem q_580 : Cond.methodLink "PurseCardLaw" (34 : Nat) ⟨"PurseCardModel", "send", "()I"⟩ ∈ mWS := mw3 100 (by decide +kernel) rfl
theorem q_581 : Cond.instanceMethod ⟨"PurseCardModel", "send", "()I"⟩ ∈ mWS := mw3 101 (by decide +kernel) rfl
theorem q_582 : Cond.selects "PurseCardModel" ⟨"PurseCardModel", "send", "()I"⟩ ⟨"PurseCardModel", "send", "()I"⟩ ∈ mWS := mw3 102 (by decide +kernel) rfl
theorem q_583 : Cond.code ⟨"PurseCardModel", "send", "()I"⟩ prog_8_method_23_code (2 : Nat) (Option.some FieldType.int) ∈ mWS := mw3 103 (by decide +kernel) rfl
theorem q_584 : Cond.methodLink "PurseCardModel" (148 : Nat) ⟨"PurseCardModel", "take", "()I"⟩ ∈ mWS := mw3 104 (by decide +kernel) rfl
theorem q_586 : Cond.instanceMethod ⟨"PurseCardModel", "take", "()I"⟩ ∈ mWS := mw3 106 (by decide +kernel) rfl
theorem q_587 : Cond.code ⟨"PurseCardModel", "take", "()I"⟩ prog_8_method_22_code (2 : Nat) (Option.some FieldType.int) ∈ mWS := mw3 107 (by decide +kernel) rfl
theorem q_588 : Cond.methodLink "PurseCardModel" (116 : Nat) ⟨"PurseCardModel", "command", "()I"⟩ ∈ mWS := mw3 108 (by decide +kernel) rfl
theorem q_590 : Cond.instanceMethod ⟨"PurseCardModel", "command", "()I"⟩ ∈ mWS := mw3 110 (by decide +kernel) rfl
theorem q_591 : Cond.code ⟨"PurseCardModel", "command", "()I"⟩ prog_8_method_18_code (2 : Nat) (Option.some FieldType.int) ∈ mWS := mw3 111 (by decide +kernel) rfl
theorem q_592 : Cond.constant "PurseCardModel" (106 : Nat) (32936 : Int32) ∈ mWS := mw3 112 (by decide +kernel) rfl
theorem q_593 : Cond.constant "PurseCardModel" (107 : Nat) (32970 : Int32) ∈ mWS := mw3 113 (by decide +kernel) rfl
theorem q_594 : Cond.constant "PurseCardModel" (108 : Nat) (32942 : Int32) ∈ mWS := mw3 114 (by decide +kernel) rfl
theorem q_595 : Cond.methodLink "PurseCardModel" (120 : Nat) ⟨"PurseCardModel", "parametersFit", "(I)Z"⟩ ∈ mWS := mw3 115 (by decide +kernel) rfl
theorem q_597 : Cond.instanceMethod ⟨"PurseCardModel", "parametersFit", "(I)Z"⟩ ∈ mWS := mw3 117 (by decide +kernel) rfl
theorem q_598 : Cond.code ⟨"PurseCardModel", "parametersFit", "(I)Z"⟩ prog_8_method_19_code (4 : Nat) (Option.some FieldType.boolean) ∈ mWS := mw3 118 (by decide +kernel) rfl
theorem q_599 : Cond.methodLink "PurseCardModel" (124 : Nat) ⟨"PurseCardModel", "stageFits", "(I)Z"⟩ ∈ mWS := mw3 119 (by decide +kernel) rfl
theorem q_601 : Cond.instanceMethod ⟨"PurseCardModel", "stageFits", "(I)Z"⟩ ∈ mWS := mw3 121 (by decide +kernel) rfl
theorem q_602 : Cond.code ⟨"PurseCardModel", "stageFits", "(I)Z"⟩ prog_8_method_20_code (2 : Nat) (Option.some FieldType.boolean) ∈ mWS := mw3 122 (by decide +kernel) rfl
theorem q_603 : Cond.constant "PurseCardModel" (115 : Nat) (65535 : Int32) ∈ mWS := mw3 123 (by decide +kernel) rfl
theorem q_604 : Cond.methodLink "PurseCardModel" (127 : Nat) ⟨"PurseCardModel", "lengthFits", "(I)Z"⟩ ∈ mWS := mw3 124 (by decide +kernel) rfl
theorem q_606 : Cond.instanceMethod ⟨"PurseCardModel", "lengthFits", "(I)Z"⟩ ∈ mWS := mw3 126 (by decide +kernel) rfl
theorem q_607 : Cond.code ⟨"PurseCardModel", "lengthFits", "(I)Z"⟩ prog_8_method_21_code (3 : Nat) (Option.some FieldType.boolean) ∈ mWS := mw3 127 (by decide +kernel) rfl
theorem q_608 : Cond.methodLink "PurseCardModel" (130 : Nat) ⟨"PurseCardModel", "select", "()I"⟩ ∈ mWS := mw3 128 (by decide +kernel) rfl
theorem q_610 : Cond.instanceMethod ⟨"PurseCardModel", "select", "()I"⟩ ∈ mWS := mw3 130 (by decide +kernel) rfl
theorem q_611 : Cond.code ⟨"PurseCardModel", "select", "()I"⟩ prog_8_method_24_code (3 : Nat) (Option.some FieldType.int) ∈ mWS := mw3 131 (by decide +kernel) rfl
theorem q_612 : Cond.methodLink "PurseCardModel" (151 : Nat) ⟨"PurseCardModel", "say2", "(II)V"⟩ ∈ mWS := mw3 132 (by decide +kernel) rfl
theorem q_614 : Cond.instanceMethod ⟨"PurseCardModel", "say2", "(II)V"⟩ ∈ mWS := mw3 134 (by decide +kernel) rfl
theorem q_615 : Cond.code ⟨"PurseCardModel", "say2", "(II)V"⟩ prog_8_method_15_code (3 : Nat) (Option.none : Option FieldType) ∈ mWS := mw3 135 (by decide +kernel) rfl
theorem q_616 : Cond.methodLink "PurseCardModel" (103 : Nat) ⟨"PurseCardModel", "say", "(I)V"⟩ ∈ mWS := mw3 136 (by decide +kernel) rfl
theorem q_618 : Cond.instanceMethod ⟨"PurseCardModel", "say", "(I)V"⟩ ∈ mWS := mw3 138 (by decide +kernel) rfl
theorem q_619 : Cond.code ⟨"PurseCardModel", "say", "(I)V"⟩ prog_8_method_14_code (2 : Nat) (Option.none : Option FieldType) ∈ mWS := mw3 139 (by decide +kernel) rfl
theorem q_620 : Cond.constant "PurseCardModel" (155 : Nat) (36864 : Int32) ∈ mWS := mw3 140 (by decide +kernel) rfl
theorem q_621 : Cond.methodLink "PurseCardModel" (133 : Nat) ⟨"PurseCardModel", "ready", "()I"⟩ ∈ mWS := mw3 141 (by decide +kernel) rfl
theorem q_623 : Cond.instanceMethod ⟨"PurseCardModel", "ready", "()I"⟩ ∈ mWS := mw3 143 (by decide +kernel) rfl
theorem q_624 : Cond.code ⟨"PurseCardModel", "ready", "()I"⟩ prog_8_method_26_code (3 : Nat) (Option.some FieldType.int) ∈ mWS := mw3 144 (by decide +kernel) rfl
theorem q_625 : Cond.methodLink "PurseCardModel" (158 : Nat) ⟨"PurseCardModel", "sixFrom", "(I)J"⟩ ∈ mWS := mw3 145 (by decide +kernel) rfl
theorem q_627 : Cond.instanceMethod ⟨"PurseCardModel", "sixFrom", "(I)J"⟩ ∈ mWS := mw3 147 (by decide +kernel) rfl
theorem q_628 : Cond.code ⟨"PurseCardModel", "sixFrom", "(I)J"⟩ prog_8_method_25_code (5 : Nat) (Option.some FieldType.long) ∈ mWS := mw3 148 (by decide +kernel) rfl
theorem q_629 : Cond.constantLong "PurseCardModel" (156 : Nat) (256 : Int64) ∈ mWS := mw3 149 (by decide +kernel) rfl
theorem q_630 : Cond.methodLink "PurseCardModel" (136 : Nat) ⟨"PurseCardModel", "readRecord", "()I"⟩ ∈ mWS := mw3 150 (by decide +kernel) rfl
theorem q_632 : Cond.instanceMethod ⟨"PurseCardModel", "readRecord", "()I"⟩ ∈ mWS := mw3 152 (by decide +kernel) rfl
theorem q_633 : Cond.code ⟨"PurseCardModel", "readRecord", "()I"⟩ prog_8_method_27_code (5 : Nat) (Option.some FieldType.int) ∈ mWS := mw3 153 (by decide +kernel) rfl
theorem q_634 : Cond.methodLink "PurseCardModel" (139 : Nat) ⟨"PurseCardModel", "prove", "()I"⟩ ∈ mWS := mw3 154 (by decide +kernel) rfl
theorem q_636 : Cond.instanceMethod ⟨"PurseCardModel", "prove", "()I"⟩ ∈ mWS := mw3 156 (by decide +kernel) rfl
theorem q_637 : Cond.code ⟨"PurseCardModel", "prove", "()I"⟩ prog_8_method_29_code (4 : Nat) (Option.some FieldType.int) ∈ mWS := mw3 157 (by decide +kernel) rfl
theorem q_638 : Cond.methodLink "PurseCardModel" (170 : Nat) ⟨"PurseCardModel", "half", "(I)I"⟩ ∈ mWS := mw3 158 (by decide +kernel) rfl
theorem q_640 : Cond.instanceMethod ⟨"PurseCardModel", "half", "(I)I"⟩ ∈ mWS := mw3 160 (by decide +kernel) rfl
theorem q_641 : Cond.code ⟨"PurseCardModel", "half", "(I)I"⟩ prog_8_method_28_code (3 : Nat) (Option.some FieldType.int) ∈ mWS := mw3 161 (by decide +kernel) rfl
theorem q_642 : Cond.methodLink "PurseCardModel" (142 : Nat) ⟨"PurseCardModel", "tell", "()I"⟩ ∈ mWS := mw3 162 (by decide +kernel) rfl
theorem q_644 : Cond.instanceMethod ⟨"PurseCardModel", "tell", "()I"⟩ ∈ mWS := mw3 164 (by decide +kernel) rfl
theorem q_645 : Cond.code ⟨"PurseCardModel", "tell", "()I"⟩ prog_8_method_30_code (2 : Nat) (Option.some FieldType.int) ∈ mWS := mw3 165 (by decide +kernel) rfl
theorem q_646 : Cond.methodLink "PurseCardModel" (145 : Nat) ⟨"PurseCardModel", "give", "()I"⟩ ∈ mWS := mw3 166 (by decide +kernel) rfl
theorem q_648 : Cond.instanceMethod ⟨"PurseCardModel", "give", "()I"⟩ ∈ mWS := mw3 168 (by decide +kernel) rfl
theorem q_649 : Cond.code ⟨"PurseCardModel", "give", "()I"⟩ prog_8_method_32_code (4 : Nat) (Option.some FieldType.int) ∈ mWS := mw3 169 (by decide +kernel) rfl
theorem q_650 : Cond.methodLink "PurseCardModel" (176 : Nat) ⟨"PurseCardModel", "given", "()I"⟩ ∈ mWS := mw3 170 (by decide +kernel) rfl
theorem q_652 : Cond.instanceMethod ⟨"PurseCardModel", "given", "()I"⟩ ∈ mWS := mw3 172 (by decide +kernel) rfl
theorem q_653 : Cond.code ⟨"PurseCardModel", "given", "()I"⟩ prog_8_method_31_code (2 : Nat) (Option.some FieldType.int) ∈ mWS := mw3 173 (by decide +kernel) rfl
theorem q_654 : Cond.methodLink "PurseCardModel" (179 : Nat) ⟨"PurseCardModel", "sealPayment", "(JIIIZ)V"⟩ ∈ mWS := mw3 174 (by decide +kernel) rfl
theorem q_656 : Cond.instanceMethod ⟨"PurseCardModel", "sealPayment", "(JIIIZ)V"⟩ ∈ mWS := mw3 176 (by decide +kernel) rfl
theorem q_657 : Cond.code ⟨"PurseCardModel", "sealPayment", "(JIIIZ)V"⟩ prog_8_method_11_code (8 : Nat) (Option.none : Option FieldType) ∈ mWS := mw3 177 (by decide +kernel) rfl
theorem q_658 : Cond.constantLong "PurseCardModel" (92 : Nat) (255 : Int64) ∈ mWS := mw3 178 (by decide +kernel) rfl
theorem q_659 : Cond.methodLink "PurseCardModel" (94 : Nat) ⟨"PurseCardModel", "makeSeal", "(I)V"⟩ ∈ mWS := mw3 179 (by decide +kernel) rfl
theorem q_661 : Cond.instanceMethod ⟨"PurseCardModel", "makeSeal", "(I)V"⟩ ∈ mWS := mw3 181 (by decide +kernel) rfl
theorem q_662 : Cond.code ⟨"PurseCardModel", "makeSeal", "(I)V"⟩ prog_8_method_10_code (8 : Nat) (Option.none : Option FieldType) ∈ mWS := mw3 182 (by decide +kernel) rfl
theorem q_663 : Cond.methodLink "PurseCardModel" (86 : Nat) ⟨"PurseCardModel", "encipher", "()V"⟩ ∈ mWS := mw3 183 (by decide +kernel) rfl
theorem q_665 : Cond.instanceMethod ⟨"PurseCardModel", "encipher", "()V"⟩ ∈ mWS := mw3 185 (by decide +kernel) rfl
theorem q_666 : Cond.code ⟨"PurseCardModel", "encipher", "()V"⟩ prog_8_method_8_code (5 : Nat) (Option.none : Option FieldType) ∈ mWS := mw3 186 (by decide +kernel) rfl
theorem q_667 : Cond.methodLink "PurseCardModel" (79 : Nat) ⟨"PurseCardModel", "combineKey", "(I)V"⟩ ∈ mWS := mw3 187 (by decide +kernel) rfl
theorem q_669 : Cond.instanceMethod ⟨"PurseCardModel", "combineKey", "(I)V"⟩ ∈ mWS := mw3 189 (by decide +kernel) rfl
theorem q_670 : Cond.code ⟨"PurseCardModel", "combineKey", "(I)V"⟩ prog_8_method_6_code (3 : Nat) (Option.none : Option FieldType) ∈ mWS := mw3 190 (by decide +kernel) rfl
theorem q_671 : Cond.methodLink "PurseCardModel" (83 : Nat) ⟨"PurseCardModel", "mixRows", "()V"⟩ ∈ mWS := mw3 191 (by decide +kernel) rfl
theorem q_673 : Cond.instanceMethod ⟨"PurseCardModel", "mixRows", "()V"⟩ ∈ mWS := mw3 193 (by decide +kernel) rfl
theorem q_674 : Cond.code ⟨"PurseCardModel", "mixRows", "()V"⟩ prog_8_method_7_code (3 : Nat) (Option.none : Option FieldType) ∈ mWS := mw3 194 (by decide +kernel) rfl
theorem q_675 : Cond.methodLink "PurseCardModel" (89 : Nat) ⟨"PurseCardModel", "doubleMask", "()V"⟩ ∈ mWS := mw3 195 (by decide +kernel) rfl
theorem q_677 : Cond.instanceMethod ⟨"PurseCardModel", "doubleMask", "()V"⟩ ∈ mWS := mw3 197 (by decide +kernel) rfl
theorem q_678 : Cond.code ⟨"PurseCardModel", "doubleMask", "()V"⟩ prog_8_method_9_code (4 : Nat) (Option.none : Option FieldType) ∈ mWS := mw3 198 (by decide +kernel) rfl
theorem q_679 : Cond.methodLink "PurseCardLaw" (47 : Nat) ⟨"PurseCardModel", "find", "(I)I"⟩ ∈ mWS := mw3 199 (by decide +kernel) rfl
theorem q_680 : Cond.instanceMethod ⟨"PurseCardModel", "find", "(I)I"⟩ ∈ mWS := mw3 200 (by decide +kernel) rfl
theorem q_681 : Cond.selects "PurseCardModel" ⟨"PurseCardModel", "find", "(I)I"⟩ ⟨"PurseCardModel", "find", "(I)I"⟩ ∈ mWS := mw3 201 (by decide +kernel) rfl
theorem q_682 : Cond.code ⟨"PurseCardModel", "find", "(I)I"⟩ prog_8_method_33_code (9 : Nat) (Option.some FieldType.int) ∈ mWS := mw3 202 (by decide +kernel) rfl
theorem q_683 : Cond.methodLink "PurseCardLaw" (51 : Nat) ⟨"PurseCardModel", "keep", "(I)I"⟩ ∈ mWS := mw3 203 (by decide +kernel) rfl
theorem q_684 : Cond.instanceMethod ⟨"PurseCardModel", "keep", "(I)I"⟩ ∈ mWS := mw3 204 (by decide +kernel) rfl
theorem q_685 : Cond.selects "PurseCardModel" ⟨"PurseCardModel", "keep", "(I)I"⟩ ⟨"PurseCardModel", "keep", "(I)I"⟩ ∈ mWS := mw3 205 (by decide +kernel) rfl
theorem q_686 : Cond.code ⟨"PurseCardModel", "keep", "(I)I"⟩ prog_8_method_34_code (5 : Nat) (Option.some FieldType.int) ∈ mWS := mw3 206 (by decide +kernel) rfl
theorem q_687 : Cond.methodLink "PurseCardLaw" (58 : Nat) ⟨"PurseCardModel", "key", "(JJ)V"⟩ ∈ mWS := mw3 207 (by decide +kernel) rfl
theorem q_688 : Cond.instanceMethod ⟨"PurseCardModel", "key", "(JJ)V"⟩ ∈ mWS := mw3 208 (by decide +kernel) rfl
theorem q_689 : Cond.selects "PurseCardModel" ⟨"PurseCardModel", "key", "(JJ)V"⟩ ⟨"PurseCardModel", "key", "(JJ)V"⟩ ∈ mWS := mw3 209 (by decide +kernel) rfl
theorem q_690 : Cond.code ⟨"PurseCardModel", "key", "(JJ)V"⟩ prog_8_method_35_code (6 : Nat) (Option.none : Option FieldType) ∈ mWS := mw3 210 (by decide +kernel) rfl
theorem q_691 : Cond.methodLink "PurseCardLaw" (62 : Nat) ⟨"PurseCardModel", "code", "(I)Z"⟩ ∈ mWS := mw3 211 (by decide +kernel) rfl
theorem q_692 : Cond.instanceMethod ⟨"PurseCardModel", "code", "(I)Z"⟩ ∈ mWS := mw3 212 (by decide +kernel) rfl
theorem q_693 : Cond.selects "PurseCardModel" ⟨"PurseCardModel", "code", "(I)Z"⟩ ⟨"PurseCardModel", "code", "(I)Z"⟩ ∈ mWS := mw3 213 (by decide +kernel) rfl
theorem q_694 : Cond.code ⟨"PurseCardModel", "code", "(I)Z"⟩ prog_8_method_36_code (2 : Nat) (Option.some FieldType.boolean) ∈ mWS := mw3 214 (by decide +kernel) rfl
theorem q_695 : Cond.methodLink "PurseCardLaw" (66 : Nat) ⟨"PurseCardModel", "advance", "(I)Z"⟩ ∈ mWS := mw3 215 (by decide +kernel) rfl
theorem q_696 : Cond.instanceMethod ⟨"PurseCardModel", "advance", "(I)Z"⟩ ∈ mWS := mw3 216 (by decide +kernel) rfl
theorem q_697 : Cond.selects "PurseCardModel" ⟨"PurseCardModel", "advance", "(I)Z"⟩ ⟨"PurseCardModel", "advance", "(I)Z"⟩ ∈ mWS := mw3 217 (by decide +kernel) rfl
theorem q_698 : Cond.code ⟨"PurseCardModel", "advance", "(I)Z"⟩ prog_8_method_37_code (2 : Nat) (Option.some FieldType.boolean) ∈ mWS := mw3 218 (by decide +kernel) rfl
theorem q_699 : Cond.methodLink "PurseCardLaw" (70 : Nat) ⟨"PurseCardModel", "seal", "(I)I"⟩ ∈ mWS := mw3 219 (by decide +kernel) rfl
theorem q_700 : Cond.instanceMethod ⟨"PurseCardModel", "seal", "(I)I"⟩ ∈ mWS := mw3 220 (by decide +kernel) rfl
theorem q_701 : Cond.selects "PurseCardModel" ⟨"PurseCardModel", "seal", "(I)I"⟩ ⟨"PurseCardModel", "seal", "(I)I"⟩ ∈ mWS := mw3 221 (by decide +kernel) rfl
theorem q_702 : Cond.code ⟨"PurseCardModel", "seal", "(I)I"⟩ prog_8_method_38_code (3 : Nat) (Option.some FieldType.int) ∈ mWS := mw3 222 (by decide +kernel) rfl
theorem q_703 : Cond.methodLink "PurseCardLaw" (75 : Nat) ⟨"PurseCardModel", "genuine", "(JIZ)Z"⟩ ∈ mWS := mw3 223 (by decide +kernel) rfl
theorem q_704 : Cond.instanceMethod ⟨"PurseCardModel", "genuine", "(JIZ)Z"⟩ ∈ mWS := mw3 224 (by decide +kernel) rfl
theorem q_705 : Cond.selects "PurseCardModel" ⟨"PurseCardModel", "genuine", "(JIZ)Z"⟩ ⟨"PurseCardModel", "genuine", "(JIZ)Z"⟩ ∈ mWS := mw3 225 (by decide +kernel) rfl
theorem q_706 : Cond.code ⟨"PurseCardModel", "genuine", "(JIZ)Z"⟩ prog_8_method_41_code (10 : Nat) (Option.some FieldType.boolean) ∈ mWS := mw3 226 (by decide +kernel) rfl
theorem q_707 : Cond.constant "PurseCardModel" (188 : Nat) (40743 : Int32) ∈ mWS := mw3 227 (by decide +kernel) rfl
theorem q_708 : Cond.methodLink "PurseCardModel" (189 : Nat) ⟨"PurseCardModel", "bytesOf", "(II)I"⟩ ∈ mWS := mw3 228 (by decide +kernel) rfl
theorem q_710 : Cond.instanceMethod ⟨"PurseCardModel", "bytesOf", "(II)I"⟩ ∈ mWS := mw3 230 (by decide +kernel) rfl
theorem q_711 : Cond.code ⟨"PurseCardModel", "bytesOf", "(II)I"⟩ prog_8_method_40_code (4 : Nat) (Option.some FieldType.int) ∈ mWS := mw3 231 (by decide +kernel) rfl
theorem q_712 : Cond.methodLink "PurseCardModel" (185 : Nat) ⟨"PurseCardModel", "find", "(I)I"⟩ ∈ mWS := mw3 232 (by decide +kernel) rfl
theorem q_713 : Cond.constant "PurseCardModel" (192 : Nat) (40758 : Int32) ∈ mWS := mw3 233 (by decide +kernel) rfl
theorem q_714 : Cond.constant "PurseCardModel" (193 : Nat) (40742 : Int32) ∈ mWS := mw3 234 (by decide +kernel) rfl
theorem q_715 : Cond.methodLink "PurseCardModel" (194 : Nat) ⟨"PurseCardModel", "isAmount", "(J)Z"⟩ ∈ mWS := mw3 235 (by decide +kernel) rfl
theorem q_716 : Cond.static ⟨"PurseCardModel", "isAmount", "(J)Z"⟩ ∈ mWS := mw3 236 (by decide +kernel) rfl
theorem q_717 : Cond.code ⟨"PurseCardModel", "isAmount", "(J)Z"⟩ prog_8_method_39_code (2 : Nat) (Option.some FieldType.boolean) ∈ mWS := mw3 237 (by decide +kernel) rfl
theorem q_718 : Cond.constantLong "PurseCardModel" (183 : Nat) (281474976710655 : Int64) ∈ mWS := mw3 238 (by decide +kernel) rfl
theorem q_719 : Cond.methodLink "PurseCardLaw" (80 : Nat) ⟨"PurseCardModel", "pay", "(JJIIZ)I"⟩ ∈ mWS := mw3 239 (by decide +kernel) rfl
theorem q_720 : Cond.instanceMethod ⟨"PurseCardModel", "pay", "(JJIIZ)I"⟩ ∈ mWS := mw4 0 (by decide +kernel) rfl
theorem q_721 : Cond.selects "PurseCardModel" ⟨"PurseCardModel", "pay", "(JJIIZ)I"⟩ ⟨"PurseCardModel", "pay", "(JJIIZ)I"⟩ ∈ mWS := mw4 1 (by decide +kernel) rfl
theorem q_722 : Cond.code ⟨"PurseCardModel", "pay", "(JJIIZ)I"⟩ prog_8_method_51_code (12 : Nat) (Option.some FieldType.int) ∈ mWS := mw4 2 (by decide +kernel) rfl
theorem q_723 : Cond.methodLink "PurseCardModel" (212 : Nat) ⟨"PurseCardModel", "sendSelect", "()I"⟩ ∈ mWS := mw4 3 (by decide +kernel) rfl
theorem q_725 : Cond.instanceMethod ⟨"PurseCardModel", "sendSelect", "()I"⟩ ∈ mWS := mw4 5 (by decide +kernel) rfl
theorem q_726 : Cond.code ⟨"PurseCardModel", "sendSelect", "()I"⟩ prog_8_method_46_code (2 : Nat) (Option.some FieldType.int) ∈ mWS := mw4 6 (by decide +kernel) rfl
theorem q_727 : Cond.methodLink "PurseCardModel" (201 : Nat) ⟨"PurseCardModel", "begin", "(IIII)V"⟩ ∈ mWS := mw4 7 (by decide +kernel) rfl
theorem q_729 : Cond.instanceMethod ⟨"PurseCardModel", "begin", "(IIII)V"⟩ ∈ mWS := mw4 9 (by decide +kernel) rfl
theorem q_730 : Cond.code ⟨"PurseCardModel", "begin", "(IIII)V"⟩ prog_8_method_43_code (5 : Nat) (Option.none : Option FieldType) ∈ mWS := mw4 10 (by decide +kernel) rfl
theorem q_731 : Cond.methodLink "PurseCardModel" (198 : Nat) ⟨"PurseCardModel", "type", "(I)V"⟩ ∈ mWS := mw4 11 (by decide +kernel) rfl
theorem q_733 : Cond.instanceMethod ⟨"PurseCardModel", "type", "(I)V"⟩ ∈ mWS := mw4 13 (by decide +kernel) rfl
theorem q_734 : Cond.code ⟨"PurseCardModel", "type", "(I)V"⟩ prog_8_method_42_code (2 : Nat) (Option.none : Option FieldType) ∈ mWS := mw4 14 (by decide +kernel) rfl
theorem q_735 : Cond.methodLink "PurseCardModel" (209 : Nat) ⟨"PurseCardModel", "send", "()I"⟩ ∈ mWS := mw4 15 (by decide +kernel) rfl
theorem q_736 : Cond.methodLink "PurseCardModel" (215 : Nat) ⟨"PurseCardModel", "sendReady", "(J)I"⟩ ∈ mWS := mw4 16 (by decide +kernel) rfl
theorem q_738 : Cond.instanceMethod ⟨"PurseCardModel", "sendReady", "(J)I"⟩ ∈ mWS := mw4 18 (by decide +kernel) rfl
theorem q_739 : Cond.code ⟨"PurseCardModel", "sendReady", "(J)I"⟩ prog_8_method_47_code (3 : Nat) (Option.some FieldType.int) ∈ mWS := mw4 19 (by decide +kernel) rfl
theorem q_740 : Cond.methodLink "PurseCardModel" (205 : Nat) ⟨"PurseCardModel", "typeSix", "(J)V"⟩ ∈ mWS := mw4 20 (by decide +kernel) rfl
theorem q_742 : Cond.instanceMethod ⟨"PurseCardModel", "typeSix", "(J)V"⟩ ∈ mWS := mw4 22 (by decide +kernel) rfl
theorem q_743 : Cond.code ⟨"PurseCardModel", "typeSix", "(J)V"⟩ prog_8_method_44_code (4 : Nat) (Option.none : Option FieldType) ∈ mWS := mw4 23 (by decide +kernel) rfl
theorem q_744 : Cond.methodLink "PurseCardModel" (219 : Nat) ⟨"PurseCardModel", "readAll", "()I"⟩ ∈ mWS := mw4 24 (by decide +kernel) rfl
theorem q_746 : Cond.instanceMethod ⟨"PurseCardModel", "readAll", "()I"⟩ ∈ mWS := mw4 26 (by decide +kernel) rfl
theorem q_747 : Cond.code ⟨"PurseCardModel", "readAll", "()I"⟩ prog_8_method_48_code (5 : Nat) (Option.some FieldType.int) ∈ mWS := mw4 27 (by decide +kernel) rfl
theorem q_748 : Cond.methodLink "PurseCardModel" (222 : Nat) ⟨"PurseCardModel", "sendProve", "(I)I"⟩ ∈ mWS := mw4 28 (by decide +kernel) rfl
theorem q_750 : Cond.instanceMethod ⟨"PurseCardModel", "sendProve", "(I)I"⟩ ∈ mWS := mw4 30 (by decide +kernel) rfl
theorem q_751 : Cond.code ⟨"PurseCardModel", "sendProve", "(I)I"⟩ prog_8_method_49_code (3 : Nat) (Option.some FieldType.int) ∈ mWS := mw4 31 (by decide +kernel) rfl
theorem q_752 : Cond.methodLink "PurseCardModel" (225 : Nat) ⟨"PurseCardModel", "sendSeal", "(IJII)I"⟩ ∈ mWS := mw4 32 (by decide +kernel) rfl
theorem q_754 : Cond.instanceMethod ⟨"PurseCardModel", "sendSeal", "(IJII)I"⟩ ∈ mWS := mw4 34 (by decide +kernel) rfl
theorem q_755 : Cond.code ⟨"PurseCardModel", "sendSeal", "(IJII)I"⟩ prog_8_method_45_code (7 : Nat) (Option.some FieldType.int) ∈ mWS := mw4 35 (by decide +kernel) rfl
theorem q_756 : Cond.methodLink "PurseCardModel" (229 : Nat) ⟨"PurseCardModel", "cryptogram", "()I"⟩ ∈ mWS := mw4 36 (by decide +kernel) rfl
theorem q_758 : Cond.instanceMethod ⟨"PurseCardModel", "cryptogram", "()I"⟩ ∈ mWS := mw4 38 (by decide +kernel) rfl
theorem q_759 : Cond.code ⟨"PurseCardModel", "cryptogram", "()I"⟩ prog_8_method_50_code (2 : Nat) (Option.some FieldType.int) ∈ mWS := mw4 39 (by decide +kernel) rfl
theorem q_760 : Cond.methodLink "PurseCardModel" (232 : Nat) ⟨"PurseCardModel", "genuine", "(JIZ)Z"⟩ ∈ mWS := mw4 40 (by decide +kernel) rfl
theorem q_761 : Cond.methodLink "PurseCardLaw" (84 : Nat) ⟨"PurseCardModel", "stage", "()I"⟩ ∈ mWS := mw4 41 (by decide +kernel) rfl
theorem q_762 : Cond.instanceMethod ⟨"PurseCardModel", "stage", "()I"⟩ ∈ mWS := mw4 42 (by decide +kernel) rfl
theorem q_763 : Cond.selects "PurseCardModel" ⟨"PurseCardModel", "stage", "()I"⟩ ⟨"PurseCardModel", "stage", "()I"⟩ ∈ mWS := mw4 43 (by decide +kernel) rfl
theorem q_764 : Cond.code ⟨"PurseCardModel", "stage", "()I"⟩ prog_8_method_52_code (1 : Nat) (Option.some FieldType.int) ∈ mWS := mw4 44 (by decide +kernel) rfl
theorem q_765 : Cond.methodLink "PurseCardLaw" (88 : Nat) ⟨"PurseCardModel", "counter", "()I"⟩ ∈ mWS := mw4 45 (by decide +kernel) rfl
theorem q_766 : Cond.instanceMethod ⟨"PurseCardModel", "counter", "()I"⟩ ∈ mWS := mw4 46 (by decide +kernel) rfl
theorem q_767 : Cond.selects "PurseCardModel" ⟨"PurseCardModel", "counter", "()I"⟩ ⟨"PurseCardModel", "counter", "()I"⟩ ∈ mWS := mw4 47 (by decide +kernel) rfl
theorem q_768 : Cond.code ⟨"PurseCardModel", "counter", "()I"⟩ prog_8_method_53_code (1 : Nat) (Option.some FieldType.int) ∈ mWS := mw4 48 (by decide +kernel) rfl
theorem q_769 : Cond.methodLink "PurseCardLaw" (92 : Nat) ⟨"PurseCardModel", "tries", "()I"⟩ ∈ mWS := mw4 49 (by decide +kernel) rfl
theorem q_770 : Cond.instanceMethod ⟨"PurseCardModel", "tries", "()I"⟩ ∈ mWS := mw4 50 (by decide +kernel) rfl
theorem q_771 : Cond.selects "PurseCardModel" ⟨"PurseCardModel", "tries", "()I"⟩ ⟨"PurseCardModel", "tries", "()I"⟩ ∈ mWS := mw4 51 (by decide +kernel) rfl
theorem q_772 : Cond.code ⟨"PurseCardModel", "tries", "()I"⟩ prog_8_method_54_code (1 : Nat) (Option.some FieldType.int) ∈ mWS := mw4 52 (by decide +kernel) rfl
theorem q_773 : Cond.constantLong "PurseCardLaw" (52 : Nat) (4294967295 : Int64) ∈ mWS := mw4 53 (by decide +kernel) rfl
def mWN : List Cond := [Cond.methodLinkNest "PurseCard" (26 : Nat) ⟨"PurseCard$TagSearch", "<init>", "()V"⟩ "PurseCard", Cond.methodLinkNest "PurseCard$Card" (22 : Nat) ⟨"PurseCard$Files", "<init>", "()V"⟩ "PurseCard", Cond.fieldLinkNest "PurseCard" (153 : Nat) "PurseCard$Card" "name" "LPurseCard$Row;" "PurseCard", Cond.fieldLinkNest "PurseCard" (61 : Nat) "PurseCard$Card" "files" "LPurseCard$Files;" "PurseCard", Cond.fieldLinkNest "PurseCard" (74 : Nat) "PurseCard$Card" "sealer" "LPurseCard$Sealer;" "PurseCard", Cond.fieldLinkNest "PurseCard" (84 : Nat) "PurseCard$Card" "code" "I" "PurseCard", Cond.fieldLinkNest "PurseCard" (91 : Nat) "PurseCard$Card" "counter" "I" "PurseCard", Cond.fieldLinkNest "PurseCard" (88 : Nat) "PurseCard$Card" "tries" "I" "PurseCard", Cond.fieldLinkNest "PurseCard" (144 : Nat) "PurseCard$Card" "stage" "I" "PurseCard"]
theorem q_34 : Cond.methodLinkNest "PurseCard" (26 : Nat) ⟨"PurseCard$TagSearch", "<init>", "()V"⟩ "PurseCard" ∈ mWN := List.mem_of_getElem? (i := 0) rfl
theorem q_52 : Cond.methodLinkNest "PurseCard$Card" (22 : Nat) ⟨"PurseCard$Files", "<init>", "()V"⟩ "PurseCard" ∈ mWN := List.mem_of_getElem? (i := 1) rfl
theorem q_141 : Cond.fieldLinkNest "PurseCard" (153 : Nat) "PurseCard$Card" "name" "LPurseCard$Row;" "PurseCard" ∈ mWN := List.mem_of_getElem? (i := 2) rfl
theorem q_143 : Cond.fieldLinkNest "PurseCard" (61 : Nat) "PurseCard$Card" "files" "LPurseCard$Files;" "PurseCard" ∈ mWN := List.mem_of_getElem? (i := 3) rfl
theorem q_145 : Cond.fieldLinkNest "PurseCard" (74 : Nat) "PurseCard$Card" "sealer" "LPurseCard$Sealer;" "PurseCard" ∈ mWN := List.mem_of_getElem? (i := 4) rfl
theorem q_147 : Cond.fieldLinkNest "PurseCard" (84 : Nat) "PurseCard$Card" "code" "I" "PurseCard" ∈ mWN := List.mem_of_getElem? (i := 5) rfl
theorem q_149 : Cond.fieldLinkNest "PurseCard" (91 : Nat) "PurseCard$Card" "counter" "I" "PurseCard" ∈ mWN := List.mem_of_getElem? (i := 6) rfl
theorem q_151 : Cond.fieldLinkNest "PurseCard" (88 : Nat) "PurseCard$Card" "tries" "I" "PurseCard" ∈ mWN := List.mem_of_getElem? (i := 7) rfl
theorem q_154 : Cond.fieldLinkNest "PurseCard" (144 : Nat) "PurseCard$Card" "stage" "I" "PurseCard" ∈ mWN := List.mem_of_getElem? (i := 8) rfl
/-- the nest words hold -/
def mNs (U : State) : Prop := ∀ w ∈ mWN, va_Nw w U
theorem mNs_warm {s U : State} (hW : s.WarmedH U.vm) (h : mNs s) : mNs U := by
  intro w hw
  have h1 := h w hw
  simp only [mWN, List.mem_cons, List.not_mem_nil, or_false] at hw
  rcases hw with rfl | rfl | rfl | rfl | rfl | rfl | rfl | rfl | rfl
  · exact va_Nw.warmM hW h1
  · exact va_Nw.warmM hW h1
  · exact va_Nw.warmF hW h1
  · exact va_Nw.warmF hW h1
  · exact va_Nw.warmF hW h1
  · exact va_Nw.warmF hW h1
  · exact va_Nw.warmF hW h1
  · exact va_Nw.warmF hW h1
  · exact va_Nw.warmF hW h1
theorem mNs_same {s U : State} (hv : s.vm = U.vm) (h : mNs s) : mNs U := by
  intro w hw
  have h1 := h w hw
  simp only [mWN, List.mem_cons, List.not_mem_nil, or_false] at hw
  rcases hw with rfl | rfl | rfl | rfl | rfl | rfl | rfl | rfl | rfl <;> exact va_Nw.same rfl hv h1
theorem mWN_in : ∀ w ∈ mWN, w ∈ lw_tbl := by
  intro w hw
  simp only [mWN, List.mem_cons, List.not_mem_nil, or_false] at hw
  rcases hw with rfl | rfl | rfl | rfl | rfl | rfl | rfl | rfl | rfl
  · exact List.mem_append_right _ (List.mem_of_getElem? (i := 34) (by decide +kernel))
  · exact List.mem_append_right _ (List.mem_of_getElem? (i := 52) (by decide +kernel))
  · exact List.mem_append_right _ (List.mem_of_getElem? (i := 141) (by decide +kernel))
  · exact List.mem_append_right _ (List.mem_of_getElem? (i := 143) (by decide +kernel))
  · exact List.mem_append_right _ (List.mem_of_getElem? (i := 145) (by decide +kernel))
  · exact List.mem_append_right _ (List.mem_of_getElem? (i := 147) (by decide +kernel))
  · exact List.mem_append_right _ (List.mem_of_getElem? (i := 149) (by decide +kernel))
  · exact List.mem_append_right _ (List.mem_of_getElem? (i := 151) (by decide +kernel))
  · exact List.mem_append_right _ (List.mem_of_getElem? (i := 154) (by decide +kernel))
theorem mWN_ot : ∀ w ∈ mWN, w.onTables = true := by
  intro w hw
  simp only [mWN, List.mem_cons, List.not_mem_nil, or_false] at hw
  rcases hw with rfl | rfl | rfl | rfl | rfl | rfl | rfl | rfl | rfl <;> rfl
theorem mws {w : Cond} (i : Nat) (h : (k2_sels lw_privs)[i]? = some w) (h2 : mOkW w = true) : w ∈ mWS := List.mem_filter.mpr ⟨List.mem_append_left _ (List.mem_of_getElem? h), h2⟩
theorem qs_Sea_growRoundKeys : Cond.selects "PurseCard$Sealer" ⟨"PurseCard$Sealer", "growRoundKeys", "()V"⟩ ⟨"PurseCard$Sealer", "growRoundKeys", "()V"⟩ ∈ mWS := mws 0 (by decide +kernel) rfl
theorem qs_Sea_encipher : Cond.selects "PurseCard$Sealer" ⟨"PurseCard$Sealer", "encipher", "()V"⟩ ⟨"PurseCard$Sealer", "encipher", "()V"⟩ ∈ mWS := mws 1 (by decide +kernel) rfl
theorem qs_Sea_combineRoundKey : Cond.selects "PurseCard$Sealer" ⟨"PurseCard$Sealer", "combineRoundKey", "(I)V"⟩ ⟨"PurseCard$Sealer", "combineRoundKey", "(I)V"⟩ ∈ mWS := mws 2 (by decide +kernel) rfl
theorem qs_Sea_substituteAndTurn : Cond.selects "PurseCard$Sealer" ⟨"PurseCard$Sealer", "substituteAndTurn", "()V"⟩ ⟨"PurseCard$Sealer", "substituteAndTurn", "()V"⟩ ∈ mWS := mws 3 (by decide +kernel) rfl
theorem qs_Sea_mixColumns : Cond.selects "PurseCard$Sealer" ⟨"PurseCard$Sealer", "mixColumns", "()V"⟩ ⟨"PurseCard$Sealer", "mixColumns", "()V"⟩ ∈ mWS := mws 4 (by decide +kernel) rfl
theorem qs_Crd_firstFault : Cond.selects "PurseCard$Card" ⟨"PurseCard$Card", "firstFault", "(LPurseCard$Row;)I"⟩ ⟨"PurseCard$Card", "firstFault", "(LPurseCard$Row;)I"⟩ ∈ mWS := mws 5 (by decide +kernel) rfl
theorem qs_Crd_fitsStage : Cond.selects "PurseCard$Card" ⟨"PurseCard$Card", "fitsStage", "(I)Z"⟩ ⟨"PurseCard$Card", "fitsStage", "(I)Z"⟩ ∈ mWS := mws 6 (by decide +kernel) rfl
theorem qs_Crd_takesData : Cond.selects "PurseCard$Card" ⟨"PurseCard$Card", "takesData", "(II)Z"⟩ ⟨"PurseCard$Card", "takesData", "(II)Z"⟩ ∈ mWS := mws 7 (by decide +kernel) rfl
theorem qs_Crd_select : Cond.selects "PurseCard$Card" ⟨"PurseCard$Card", "select", "(LPurseCard$Row;LPurseCard$Row;)I"⟩ ⟨"PurseCard$Card", "select", "(LPurseCard$Row;LPurseCard$Row;)I"⟩ ∈ mWS := mws 8 (by decide +kernel) rfl
theorem qs_Crd_ready : Cond.selects "PurseCard$Card" ⟨"PurseCard$Card", "ready", "(LPurseCard$Row;LPurseCard$Row;)I"⟩ ⟨"PurseCard$Card", "ready", "(LPurseCard$Row;LPurseCard$Row;)I"⟩ ∈ mWS := mws 9 (by decide +kernel) rfl
theorem qs_Crd_read : Cond.selects "PurseCard$Card" ⟨"PurseCard$Card", "read", "(LPurseCard$Row;LPurseCard$Row;)I"⟩ ⟨"PurseCard$Card", "read", "(LPurseCard$Row;LPurseCard$Row;)I"⟩ ∈ mWS := mws 10 (by decide +kernel) rfl
theorem qs_Crd_prove : Cond.selects "PurseCard$Card" ⟨"PurseCard$Card", "prove", "(LPurseCard$Row;)I"⟩ ⟨"PurseCard$Card", "prove", "(LPurseCard$Row;)I"⟩ ∈ mWS := mws 11 (by decide +kernel) rfl
theorem qs_Crd_tell : Cond.selects "PurseCard$Card" ⟨"PurseCard$Card", "tell", "(LPurseCard$Row;LPurseCard$Row;)I"⟩ ⟨"PurseCard$Card", "tell", "(LPurseCard$Row;LPurseCard$Row;)I"⟩ ∈ mWS := mws 12 (by decide +kernel) rfl
theorem qs_Crd_giveSeal : Cond.selects "PurseCard$Card" ⟨"PurseCard$Card", "giveSeal", "(LPurseCard$Row;LPurseCard$Row;)I"⟩ ⟨"PurseCard$Card", "giveSeal", "(LPurseCard$Row;LPurseCard$Row;)I"⟩ ∈ mWS := mws 13 (by decide +kernel) rfl
theorem qs_Crd_decide : Cond.selects "PurseCard$Card" ⟨"PurseCard$Card", "decide", "(IJJ)I"⟩ ⟨"PurseCard$Card", "decide", "(IJJ)I"⟩ ∈ mWS := mws 14 (by decide +kernel) rfl
theorem qs_Pur_placeOfSized : Cond.selects "PurseCard" ⟨"PurseCard", "placeOfSized", "(II)I"⟩ ⟨"PurseCard", "placeOfSized", "(II)I"⟩ ∈ mWS := mws 15 (by decide +kernel) rfl
theorem qs_Pur_openPayment : Cond.selects "PurseCard" ⟨"PurseCard", "openPayment", "(J)I"⟩ ⟨"PurseCard", "openPayment", "(J)I"⟩ ∈ mWS := mws 16 (by decide +kernel) rfl
theorem qs_Pur_typeHead : Cond.selects "PurseCard" ⟨"PurseCard", "typeHead", "(IIII)V"⟩ ⟨"PurseCard", "typeHead", "(IIII)V"⟩ ∈ mWS := mws 17 (by decide +kernel) rfl
theorem qs_Pur_readRecords : Cond.selects "PurseCard" ⟨"PurseCard", "readRecords", "()I"⟩ ⟨"PurseCard", "readRecords", "()I"⟩ ∈ mWS := mws 18 (by decide +kernel) rfl
theorem qs_Pur_provePin : Cond.selects "PurseCard" ⟨"PurseCard", "provePin", "(I)I"⟩ ⟨"PurseCard", "provePin", "(I)I"⟩ ∈ mWS := mws 19 (by decide +kernel) rfl
theorem qs_Pur_typeSeal : Cond.selects "PurseCard" ⟨"PurseCard", "typeSeal", "(IJII)V"⟩ ⟨"PurseCard", "typeSeal", "(IJII)V"⟩ ∈ mWS := mws 20 (by decide +kernel) rfl
theorem qs_Pur_givenByCard : Cond.selects "PurseCard" ⟨"PurseCard", "givenByCard", "()I"⟩ ⟨"PurseCard", "givenByCard", "()I"⟩ ∈ mWS := mws 21 (by decide +kernel) rfl
theorem qs_Mod_expand : Cond.selects "PurseCardModel" ⟨"PurseCardModel", "expand", "()V"⟩ ⟨"PurseCardModel", "expand", "()V"⟩ ∈ mWS := mws 22 (by decide +kernel) rfl
theorem qs_Mod_take : Cond.selects "PurseCardModel" ⟨"PurseCardModel", "take", "()I"⟩ ⟨"PurseCardModel", "take", "()I"⟩ ∈ mWS := mws 23 (by decide +kernel) rfl
theorem qs_Mod_command : Cond.selects "PurseCardModel" ⟨"PurseCardModel", "command", "()I"⟩ ⟨"PurseCardModel", "command", "()I"⟩ ∈ mWS := mws 24 (by decide +kernel) rfl
theorem qs_Mod_parametersFit : Cond.selects "PurseCardModel" ⟨"PurseCardModel", "parametersFit", "(I)Z"⟩ ⟨"PurseCardModel", "parametersFit", "(I)Z"⟩ ∈ mWS := mws 25 (by decide +kernel) rfl
theorem qs_Mod_stageFits : Cond.selects "PurseCardModel" ⟨"PurseCardModel", "stageFits", "(I)Z"⟩ ⟨"PurseCardModel", "stageFits", "(I)Z"⟩ ∈ mWS := mws 26 (by decide +kernel) rfl
theorem qs_Mod_lengthFits : Cond.selects "PurseCardModel" ⟨"PurseCardModel", "lengthFits", "(I)Z"⟩ ⟨"PurseCardModel", "lengthFits", "(I)Z"⟩ ∈ mWS := mws 27 (by decide +kernel) rfl
theorem qs_Mod_select : Cond.selects "PurseCardModel" ⟨"PurseCardModel", "select", "()I"⟩ ⟨"PurseCardModel", "select", "()I"⟩ ∈ mWS := mws 28 (by decide +kernel) rfl
theorem qs_Mod_say2 : Cond.selects "PurseCardModel" ⟨"PurseCardModel", "say2", "(II)V"⟩ ⟨"PurseCardModel", "say2", "(II)V"⟩ ∈ mWS := mws 29 (by decide +kernel) rfl
theorem qs_Mod_say : Cond.selects "PurseCardModel" ⟨"PurseCardModel", "say", "(I)V"⟩ ⟨"PurseCardModel", "say", "(I)V"⟩ ∈ mWS := mws 30 (by decide +kernel) rfl
theorem qs_Mod_ready : Cond.selects "PurseCardModel" ⟨"PurseCardModel", "ready", "()I"⟩ ⟨"PurseCardModel", "ready", "()I"⟩ ∈ mWS := mws 31 (by decide +kernel) rfl
theorem qs_Mod_sixFrom : Cond.selects "PurseCardModel" ⟨"PurseCardModel", "sixFrom", "(I)J"⟩ ⟨"PurseCardModel", "sixFrom", "(I)J"⟩ ∈ mWS := mws 32 (by decide +kernel) rfl
theorem qs_Mod_readRecord : Cond.selects "PurseCardModel" ⟨"PurseCardModel", "readRecord", "()I"⟩ ⟨"PurseCardModel", "readRecord", "()I"⟩ ∈ mWS := mws 33 (by decide +kernel) rfl
theorem qs_Mod_prove : Cond.selects "PurseCardModel" ⟨"PurseCardModel", "prove", "()I"⟩ ⟨"PurseCardModel", "prove", "()I"⟩ ∈ mWS := mws 34 (by decide +kernel) rfl
theorem qs_Mod_half : Cond.selects "PurseCardModel" ⟨"PurseCardModel", "half", "(I)I"⟩ ⟨"PurseCardModel", "half", "(I)I"⟩ ∈ mWS := mws 35 (by decide +kernel) rfl
theorem qs_Mod_tell : Cond.selects "PurseCardModel" ⟨"PurseCardModel", "tell", "()I"⟩ ⟨"PurseCardModel", "tell", "()I"⟩ ∈ mWS := mws 36 (by decide +kernel) rfl
theorem qs_Mod_give : Cond.selects "PurseCardModel" ⟨"PurseCardModel", "give", "()I"⟩ ⟨"PurseCardModel", "give", "()I"⟩ ∈ mWS := mws 37 (by decide +kernel) rfl
theorem qs_Mod_given : Cond.selects "PurseCardModel" ⟨"PurseCardModel", "given", "()I"⟩ ⟨"PurseCardModel", "given", "()I"⟩ ∈ mWS := mws 38 (by decide +kernel) rfl
theorem qs_Mod_sealPayment : Cond.selects "PurseCardModel" ⟨"PurseCardModel", "sealPayment", "(JIIIZ)V"⟩ ⟨"PurseCardModel", "sealPayment", "(JIIIZ)V"⟩ ∈ mWS := mws 39 (by decide +kernel) rfl
theorem qs_Mod_makeSeal : Cond.selects "PurseCardModel" ⟨"PurseCardModel", "makeSeal", "(I)V"⟩ ⟨"PurseCardModel", "makeSeal", "(I)V"⟩ ∈ mWS := mws 40 (by decide +kernel) rfl
theorem qs_Mod_encipher : Cond.selects "PurseCardModel" ⟨"PurseCardModel", "encipher", "()V"⟩ ⟨"PurseCardModel", "encipher", "()V"⟩ ∈ mWS := mws 41 (by decide +kernel) rfl
theorem qs_Mod_combineKey : Cond.selects "PurseCardModel" ⟨"PurseCardModel", "combineKey", "(I)V"⟩ ⟨"PurseCardModel", "combineKey", "(I)V"⟩ ∈ mWS := mws 42 (by decide +kernel) rfl
theorem qs_Mod_mixRows : Cond.selects "PurseCardModel" ⟨"PurseCardModel", "mixRows", "()V"⟩ ⟨"PurseCardModel", "mixRows", "()V"⟩ ∈ mWS := mws 43 (by decide +kernel) rfl
theorem qs_Mod_doubleMask : Cond.selects "PurseCardModel" ⟨"PurseCardModel", "doubleMask", "()V"⟩ ⟨"PurseCardModel", "doubleMask", "()V"⟩ ∈ mWS := mws 44 (by decide +kernel) rfl
theorem qs_Mod_bytesOf : Cond.selects "PurseCardModel" ⟨"PurseCardModel", "bytesOf", "(II)I"⟩ ⟨"PurseCardModel", "bytesOf", "(II)I"⟩ ∈ mWS := mws 45 (by decide +kernel) rfl
theorem qs_Mod_sendSelect : Cond.selects "PurseCardModel" ⟨"PurseCardModel", "sendSelect", "()I"⟩ ⟨"PurseCardModel", "sendSelect", "()I"⟩ ∈ mWS := mws 46 (by decide +kernel) rfl
theorem qs_Mod_begin : Cond.selects "PurseCardModel" ⟨"PurseCardModel", "begin", "(IIII)V"⟩ ⟨"PurseCardModel", "begin", "(IIII)V"⟩ ∈ mWS := mws 47 (by decide +kernel) rfl
theorem qs_Mod_type : Cond.selects "PurseCardModel" ⟨"PurseCardModel", "type", "(I)V"⟩ ⟨"PurseCardModel", "type", "(I)V"⟩ ∈ mWS := mws 48 (by decide +kernel) rfl
theorem qs_Mod_sendReady : Cond.selects "PurseCardModel" ⟨"PurseCardModel", "sendReady", "(J)I"⟩ ⟨"PurseCardModel", "sendReady", "(J)I"⟩ ∈ mWS := mws 49 (by decide +kernel) rfl
theorem qs_Mod_typeSix : Cond.selects "PurseCardModel" ⟨"PurseCardModel", "typeSix", "(J)V"⟩ ⟨"PurseCardModel", "typeSix", "(J)V"⟩ ∈ mWS := mws 50 (by decide +kernel) rfl
theorem qs_Mod_readAll : Cond.selects "PurseCardModel" ⟨"PurseCardModel", "readAll", "()I"⟩ ⟨"PurseCardModel", "readAll", "()I"⟩ ∈ mWS := mws 51 (by decide +kernel) rfl
theorem qs_Mod_sendProve : Cond.selects "PurseCardModel" ⟨"PurseCardModel", "sendProve", "(I)I"⟩ ⟨"PurseCardModel", "sendProve", "(I)I"⟩ ∈ mWS := mws 52 (by decide +kernel) rfl
theorem qs_Mod_sendSeal : Cond.selects "PurseCardModel" ⟨"PurseCardModel", "sendSeal", "(IJII)I"⟩ ⟨"PurseCardModel", "sendSeal", "(IJII)I"⟩ ∈ mWS := mws 53 (by decide +kernel) rfl
theorem qs_Mod_cryptogram : Cond.selects "PurseCardModel" ⟨"PurseCardModel", "cryptogram", "()I"⟩ ⟨"PurseCardModel", "cryptogram", "()I"⟩ ∈ mWS := mws 54 (by decide +kernel) rfl
/-- the static table S -/
def mSb : List Int32 := [99, 124, 119, 123, 242, 107, 111, 197, 48, 1, 103, 43, 254, 215, 171, 118, 202, 130, 201, 125, 250, 89, 71, 240, 173, 212, 162, 175, 156, 164, 114, 192, 183, 253, 147, 38, 54, 63, 247, 204, 52, 165, 229, 241, 113, 216, 49, 21, 4, 199, 35, 195, 24, 150, 5, 154, 7, 18, 128, 226, 235, 39, 178, 117, 9, 131, 44, 26, 27, 110, 90, 160, 82, 59, 214, 179, 41, 227, 47, 132, 83, 209, 0, 237, 32, 252, 177, 91, 106, 203, 190, 57, 74, 76, 88, 207, 208, 239, 170, 251, 67, 77, 51, 133, 69, 249, 2, 127, 80, 60, 159, 168, 81, 163, 64, 143, 146, 157, 56, 245, 188, 182, 218, 33, 16, 255, 243, 210, 205, 12, 19, 236, 95, 151, 68, 23, 196, 167, 126, 61, 100, 93, 25, 115, 96, 129, 79, 220, 34, 42, 144, 136, 70, 238, 184, 20, 222, 94, 11, 219, 224, 50, 58, 10, 73, 6, 36, 92, 194, 211, 172, 98, 145, 149, 228, 121, 231, 200, 55, 109, 141, 213, 78, 169, 108, 86, 244, 234, 101, 122, 174, 8, 186, 120, 37, 46, 28, 166, 180, 198, 232, 221, 116, 31, 75, 189, 139, 138, 112, 62, 181, 102, 72, 3, 246, 14, 97, 53, 87, 185, 134, 193, 29, 158, 225, 248, 152, 17, 105, 217, 142, 148, 155, 30, 135, 233, 206, 85, 40, 223, 140, 161, 137, 13, 191, 230, 66, 104, 65, 153, 45, 15, 176, 84, 187, 22]
def mSf (j : Nat) : Int32 := mSb.getD j 0
/-- static tables: their class, field, length, contents -/
abbrev mStat : List (String × String × Nat × (Nat → Int32)) := [("PurseCard$Sealer", "S", 256, mSf)]
def mFd (own : String) (idx ci k : Nat) : Prop := ∃ q : vw_C, vwCl[ci]? = some q ∧ k < q.2.2 ∧ (q.2.1 k).1 = q.1 ∧ (Cond.fieldLink own idx q.1 (q.2.1 k).2.1 (q.2.1 k).2.2.1 ∈ mWS ∨ ∃ host, Cond.fieldLinkNest own idx q.1 (q.2.1 k).2.1 (q.2.1 k).2.2.1 host ∈ mWN)
/-- a field that is written: its type; final or not -/
def mFt (ci k : Nat) (ty : FieldType) (fin : Bool) : Prop := ∃ q : vw_C, vwCl[ci]? = some q ∧ parseFieldDescriptor (q.2.1 k).2.2.1 = some ty ∧ (q.2.1 k).2.2.2 = fin
/-- what every call needs of its callee -/
def mCw (J : mM) (n : Nat) : Prop := Cond.code J.1 J.2.1 J.2.2.1 J.2.2.2 ∈ mWS ∧ Cond.initialized J.1.cls ∈ mWS ∧ (J.1.cls ≠ "java/lang/invoke/MethodHandle" ∧ J.1.cls ≠ "java/lang/invoke/VarHandle" ∧ (parseMethodDescriptor J.1.desc).map (fun d => d.parameters.length) = some n)
theorem fd_Row_15 : mFd "PurseCard$Row" 15 0 0 := ⟨_, rfl, by decide, rfl, Or.inl q_24⟩
theorem fd_Row_9 : mFd "PurseCard$Row" 9 0 1 := ⟨_, rfl, by decide, rfl, Or.inl q_25⟩
theorem fd_Tag_9 : mFd "PurseCard$TagSearch" 9 1 0 := ⟨_, rfl, by decide, rfl, Or.inl q_38⟩
theorem fd_Fil_9 : mFd "PurseCard$Files" 9 2 0 := ⟨_, rfl, by decide, rfl, Or.inl q_56⟩
theorem fd_Fil_15 : mFd "PurseCard$Files" 15 2 1 := ⟨_, rfl, by decide, rfl, Or.inl q_57⟩
theorem fd_Fil_18 : mFd "PurseCard$Files" 18 2 2 := ⟨_, rfl, by decide, rfl, Or.inl q_58⟩
theorem fd_Sea_11 : mFd "PurseCard$Sealer" 11 3 0 := ⟨_, rfl, by decide, rfl, Or.inl q_112⟩
theorem fd_Sea_15 : mFd "PurseCard$Sealer" 15 3 1 := ⟨_, rfl, by decide, rfl, Or.inl q_113⟩
theorem fd_Sea_18 : mFd "PurseCard$Sealer" 18 3 2 := ⟨_, rfl, by decide, rfl, Or.inl q_114⟩
theorem fd_Sea_21 : mFd "PurseCard$Sealer" 21 3 3 := ⟨_, rfl, by decide, rfl, Or.inl q_115⟩
theorem fd_Sea_24 : mFd "PurseCard$Sealer" 24 3 4 := ⟨_, rfl, by decide, rfl, Or.inl q_116⟩
theorem fd_Sea_32 : mFd "PurseCard$Sealer" 32 3 5 := ⟨_, rfl, by decide, rfl, Or.inl q_117⟩
theorem fd_Crd_14 : mFd "PurseCard$Card" 14 4 0 := ⟨_, rfl, by decide, rfl, Or.inl q_140⟩
theorem fd_Pur_153 : mFd "PurseCard" 153 4 0 := ⟨_, rfl, by decide, rfl, Or.inr ⟨_, q_141⟩⟩
theorem fd_Crd_23 : mFd "PurseCard$Card" 23 4 1 := ⟨_, rfl, by decide, rfl, Or.inl q_142⟩
theorem fd_Pur_61 : mFd "PurseCard" 61 4 1 := ⟨_, rfl, by decide, rfl, Or.inr ⟨_, q_143⟩⟩
theorem fd_Crd_30 : mFd "PurseCard$Card" 30 4 2 := ⟨_, rfl, by decide, rfl, Or.inl q_144⟩
theorem fd_Pur_74 : mFd "PurseCard" 74 4 2 := ⟨_, rfl, by decide, rfl, Or.inr ⟨_, q_145⟩⟩
theorem fd_Crd_34 : mFd "PurseCard$Card" 34 4 3 := ⟨_, rfl, by decide, rfl, Or.inl q_146⟩
theorem fd_Pur_84 : mFd "PurseCard" 84 4 3 := ⟨_, rfl, by decide, rfl, Or.inr ⟨_, q_147⟩⟩
theorem fd_Crd_38 : mFd "PurseCard$Card" 38 4 4 := ⟨_, rfl, by decide, rfl, Or.inl q_148⟩
theorem fd_Pur_91 : mFd "PurseCard" 91 4 4 := ⟨_, rfl, by decide, rfl, Or.inr ⟨_, q_149⟩⟩
theorem fd_Crd_41 : mFd "PurseCard$Card" 41 4 5 := ⟨_, rfl, by decide, rfl, Or.inl q_150⟩
theorem fd_Pur_88 : mFd "PurseCard" 88 4 5 := ⟨_, rfl, by decide, rfl, Or.inr ⟨_, q_151⟩⟩
theorem fd_Crd_44 : mFd "PurseCard$Card" 44 4 6 := ⟨_, rfl, by decide, rfl, Or.inl q_152⟩
theorem fd_Crd_47 : mFd "PurseCard$Card" 47 4 7 := ⟨_, rfl, by decide, rfl, Or.inl q_153⟩
theorem fd_Pur_144 : mFd "PurseCard" 144 4 7 := ⟨_, rfl, by decide, rfl, Or.inr ⟨_, q_154⟩⟩
theorem fd_Crd_50 : mFd "PurseCard$Card" 50 4 8 := ⟨_, rfl, by decide, rfl, Or.inl q_155⟩
theorem fd_Crd_54 : mFd "PurseCard$Card" 54 4 9 := ⟨_, rfl, by decide, rfl, Or.inl q_156⟩
theorem fd_Pur_14 : mFd "PurseCard" 14 5 0 := ⟨_, rfl, by decide, rfl, Or.inl q_178⟩
theorem fd_Pur_18 : mFd "PurseCard" 18 5 1 := ⟨_, rfl, by decide, rfl, Or.inl q_179⟩
theorem fd_Pur_21 : mFd "PurseCard" 21 5 2 := ⟨_, rfl, by decide, rfl, Or.inl q_180⟩
theorem fd_Pur_27 : mFd "PurseCard" 27 5 3 := ⟨_, rfl, by decide, rfl, Or.inl q_181⟩
theorem fd_Pur_34 : mFd "PurseCard" 34 5 4 := ⟨_, rfl, by decide, rfl, Or.inl q_182⟩
theorem fd_Mod_7 : mFd "PurseCardModel" 7 6 0 := ⟨_, rfl, by decide, rfl, Or.inl q_488⟩
theorem fd_Mod_13 : mFd "PurseCardModel" 13 6 1 := ⟨_, rfl, by decide, rfl, Or.inl q_489⟩
theorem fd_Mod_16 : mFd "PurseCardModel" 16 6 2 := ⟨_, rfl, by decide, rfl, Or.inl q_490⟩
theorem fd_Mod_19 : mFd "PurseCardModel" 19 6 3 := ⟨_, rfl, by decide, rfl, Or.inl q_491⟩
theorem fd_Mod_22 : mFd "PurseCardModel" 22 6 4 := ⟨_, rfl, by decide, rfl, Or.inl q_492⟩
theorem fd_Mod_25 : mFd "PurseCardModel" 25 6 5 := ⟨_, rfl, by decide, rfl, Or.inl q_493⟩
theorem fd_Mod_112 : mFd "PurseCardModel" 112 6 6 := ⟨_, rfl, by decide, rfl, Or.inl q_494⟩
theorem fd_Mod_28 : mFd "PurseCardModel" 28 6 7 := ⟨_, rfl, by decide, rfl, Or.inl q_495⟩
theorem fd_Mod_173 : mFd "PurseCardModel" 173 6 8 := ⟨_, rfl, by decide, rfl, Or.inl q_496⟩
theorem fd_Mod_109 : mFd "PurseCardModel" 109 6 9 := ⟨_, rfl, by decide, rfl, Or.inl q_497⟩
theorem fd_Mod_162 : mFd "PurseCardModel" 162 6 10 := ⟨_, rfl, by decide, rfl, Or.inl q_498⟩
theorem fd_Mod_166 : mFd "PurseCardModel" 166 6 11 := ⟨_, rfl, by decide, rfl, Or.inl q_499⟩
theorem fd_Mod_97 : mFd "PurseCardModel" 97 6 12 := ⟨_, rfl, by decide, rfl, Or.inl q_500⟩
theorem fd_Mod_32 : mFd "PurseCardModel" 32 6 13 := ⟨_, rfl, by decide, rfl, Or.inl q_501⟩
theorem fd_Mod_100 : mFd "PurseCardModel" 100 6 14 := ⟨_, rfl, by decide, rfl, Or.inl q_502⟩
theorem fd_Mod_35 : mFd "PurseCardModel" 35 6 15 := ⟨_, rfl, by decide, rfl, Or.inl q_503⟩
theorem fd_Mod_38 : mFd "PurseCardModel" 38 6 16 := ⟨_, rfl, by decide, rfl, Or.inl q_504⟩
theorem fd_Mod_41 : mFd "PurseCardModel" 41 6 17 := ⟨_, rfl, by decide, rfl, Or.inl q_505⟩
theorem fd_Mod_44 : mFd "PurseCardModel" 44 6 18 := ⟨_, rfl, by decide, rfl, Or.inl q_506⟩
theorem fd_Mod_47 : mFd "PurseCardModel" 47 6 19 := ⟨_, rfl, by decide, rfl, Or.inl q_507⟩
theorem fd_Mod_50 : mFd "PurseCardModel" 50 6 20 := ⟨_, rfl, by decide, rfl, Or.inl q_508⟩
theorem fd_Mod_53 : mFd "PurseCardModel" 53 6 21 := ⟨_, rfl, by decide, rfl, Or.inl q_509⟩
theorem fd_Mod_56 : mFd "PurseCardModel" 56 6 22 := ⟨_, rfl, by decide, rfl, Or.inl q_510⟩
theorem fd_Mod_59 : mFd "PurseCardModel" 59 6 23 := ⟨_, rfl, by decide, rfl, Or.inl q_511⟩
theorem fd_Mod_62 : mFd "PurseCardModel" 62 6 24 := ⟨_, rfl, by decide, rfl, Or.inl q_512⟩
theorem ft_Row_0 : mFt 0 0 (.array .int) true := ⟨_, rfl, by decide +kernel, rfl⟩
theorem ft_Row_1 : mFt 0 1 (.int) false := ⟨_, rfl, by decide +kernel, rfl⟩
theorem ft_Tag_0 : mFt 1 0 (.array .int) true := ⟨_, rfl, by decide +kernel, rfl⟩
theorem ft_Fil_0 : mFt 2 0 (.array .int) true := ⟨_, rfl, by decide +kernel, rfl⟩
theorem ft_Fil_1 : mFt 2 1 (.array .int) true := ⟨_, rfl, by decide +kernel, rfl⟩
theorem ft_Fil_2 : mFt 2 2 (.array .int) true := ⟨_, rfl, by decide +kernel, rfl⟩
theorem ft_Sea_0 : mFt 3 0 (.array .int) true := ⟨_, rfl, by decide +kernel, rfl⟩
theorem ft_Sea_1 : mFt 3 1 (.array .int) true := ⟨_, rfl, by decide +kernel, rfl⟩
theorem ft_Sea_2 : mFt 3 2 (.array .int) true := ⟨_, rfl, by decide +kernel, rfl⟩
theorem ft_Sea_3 : mFt 3 3 (.array .int) true := ⟨_, rfl, by decide +kernel, rfl⟩
theorem ft_Sea_4 : mFt 3 4 (.array .int) true := ⟨_, rfl, by decide +kernel, rfl⟩
theorem ft_Sea_5 : mFt 3 5 (.object "PurseCard$Row") true := ⟨_, rfl, by decide +kernel, rfl⟩
theorem ft_Crd_0 : mFt 4 0 (.object "PurseCard$Row") true := ⟨_, rfl, by decide +kernel, rfl⟩
theorem ft_Crd_1 : mFt 4 1 (.object "PurseCard$Files") true := ⟨_, rfl, by decide +kernel, rfl⟩
theorem ft_Crd_2 : mFt 4 2 (.object "PurseCard$Sealer") true := ⟨_, rfl, by decide +kernel, rfl⟩
theorem ft_Crd_3 : mFt 4 3 (.int) false := ⟨_, rfl, by decide +kernel, rfl⟩
theorem ft_Crd_4 : mFt 4 4 (.int) false := ⟨_, rfl, by decide +kernel, rfl⟩
theorem ft_Crd_5 : mFt 4 5 (.int) false := ⟨_, rfl, by decide +kernel, rfl⟩
theorem ft_Crd_6 : mFt 4 6 (.int) false := ⟨_, rfl, by decide +kernel, rfl⟩
theorem ft_Crd_7 : mFt 4 7 (.int) false := ⟨_, rfl, by decide +kernel, rfl⟩
theorem ft_Crd_8 : mFt 4 8 (.long) false := ⟨_, rfl, by decide +kernel, rfl⟩
theorem ft_Crd_9 : mFt 4 9 (.boolean) false := ⟨_, rfl, by decide +kernel, rfl⟩
theorem ft_Pur_0 : mFt 5 0 (.object "PurseCard$Row") true := ⟨_, rfl, by decide +kernel, rfl⟩
theorem ft_Pur_1 : mFt 5 1 (.object "PurseCard$Row") true := ⟨_, rfl, by decide +kernel, rfl⟩
theorem ft_Pur_2 : mFt 5 2 (.object "PurseCard$Row") true := ⟨_, rfl, by decide +kernel, rfl⟩
theorem ft_Pur_3 : mFt 5 3 (.object "PurseCard$TagSearch") true := ⟨_, rfl, by decide +kernel, rfl⟩
theorem ft_Pur_4 : mFt 5 4 (.object "PurseCard$Card") true := ⟨_, rfl, by decide +kernel, rfl⟩
theorem ft_Mod_0 : mFt 6 0 (.array .int) false := ⟨_, rfl, by decide +kernel, rfl⟩
theorem ft_Mod_1 : mFt 6 1 (.array .int) false := ⟨_, rfl, by decide +kernel, rfl⟩
theorem ft_Mod_2 : mFt 6 2 (.array .int) false := ⟨_, rfl, by decide +kernel, rfl⟩
theorem ft_Mod_3 : mFt 6 3 (.array .int) false := ⟨_, rfl, by decide +kernel, rfl⟩
theorem ft_Mod_4 : mFt 6 4 (.array .int) false := ⟨_, rfl, by decide +kernel, rfl⟩
theorem ft_Mod_5 : mFt 6 5 (.array .int) false := ⟨_, rfl, by decide +kernel, rfl⟩
theorem ft_Mod_6 : mFt 6 6 (.int) false := ⟨_, rfl, by decide +kernel, rfl⟩
theorem ft_Mod_7 : mFt 6 7 (.int) false := ⟨_, rfl, by decide +kernel, rfl⟩
theorem ft_Mod_8 : mFt 6 8 (.int) false := ⟨_, rfl, by decide +kernel, rfl⟩
theorem ft_Mod_9 : mFt 6 9 (.int) false := ⟨_, rfl, by decide +kernel, rfl⟩
theorem ft_Mod_10 : mFt 6 10 (.long) false := ⟨_, rfl, by decide +kernel, rfl⟩
theorem ft_Mod_11 : mFt 6 11 (.boolean) false := ⟨_, rfl, by decide +kernel, rfl⟩
theorem ft_Mod_12 : mFt 6 12 (.int) false := ⟨_, rfl, by decide +kernel, rfl⟩
theorem ft_Mod_13 : mFt 6 13 (.array .int) false := ⟨_, rfl, by decide +kernel, rfl⟩
theorem ft_Mod_14 : mFt 6 14 (.int) false := ⟨_, rfl, by decide +kernel, rfl⟩
theorem ft_Mod_15 : mFt 6 15 (.array .int) false := ⟨_, rfl, by decide +kernel, rfl⟩
theorem ft_Mod_16 : mFt 6 16 (.array .int) false := ⟨_, rfl, by decide +kernel, rfl⟩
theorem ft_Mod_17 : mFt 6 17 (.array .int) false := ⟨_, rfl, by decide +kernel, rfl⟩
theorem ft_Mod_18 : mFt 6 18 (.array .int) false := ⟨_, rfl, by decide +kernel, rfl⟩
theorem ft_Mod_19 : mFt 6 19 (.array .int) false := ⟨_, rfl, by decide +kernel, rfl⟩
theorem ft_Mod_20 : mFt 6 20 (.array .int) false := ⟨_, rfl, by decide +kernel, rfl⟩
theorem ft_Mod_21 : mFt 6 21 (.array .int) false := ⟨_, rfl, by decide +kernel, rfl⟩
theorem ft_Mod_22 : mFt 6 22 (.array .int) false := ⟨_, rfl, by decide +kernel, rfl⟩
theorem ft_Mod_23 : mFt 6 23 (.array .int) false := ⟨_, rfl, by decide +kernel, rfl⟩
theorem ft_Mod_24 : mFt 6 24 (.array .int) false := ⟨_, rfl, by decide +kernel, rfl⟩
theorem cw_Pur_init : mCw M_Pur_init 1 := ⟨q_14, q_1, by decide +kernel⟩
theorem cw_Row_init : mCw M_Row_init 1 := ⟨q_22, q_2, by decide +kernel⟩
theorem cw_Tag_init : mCw M_Tag_init 0 := ⟨q_36, q_3, by decide +kernel⟩
theorem cw_Crd_init : mCw M_Crd_init 1 := ⟨q_46, q_4, by decide +kernel⟩
theorem cw_Fil_init : mCw M_Fil_init 0 := ⟨q_54, q_5, by decide +kernel⟩
theorem cw_Sea_init : mCw M_Sea_init 0 := ⟨q_70, q_6, by decide +kernel⟩
theorem cw_Sea_takeKey : mCw M_Sea_takeKey 2 := ⟨q_77, q_6, by decide +kernel⟩
theorem cw_Sea_growRoundKeys : mCw M_Sea_growRoundKeys 0 := ⟨q_81, q_6, by decide +kernel⟩
theorem cw_Sea_twice : mCw M_Sea_twice 1 := ⟨q_86, q_6, by decide +kernel⟩
theorem cw_Arr_fill : mCw M_Arr_fill 2 := ⟨q_89, q_7, by decide +kernel⟩
theorem cw_Sea_encipher : mCw M_Sea_encipher 0 := ⟨q_93, q_6, by decide +kernel⟩
theorem cw_Sea_combineRoundKey : mCw M_Sea_combineRoundKey 1 := ⟨q_97, q_6, by decide +kernel⟩
theorem cw_Sea_substituteAndTurn : mCw M_Sea_substituteAndTurn 0 := ⟨q_101, q_6, by decide +kernel⟩
theorem cw_Sea_mixColumns : mCw M_Sea_mixColumns 0 := ⟨q_108, q_6, by decide +kernel⟩
theorem cw_Sea_doubleRow : mCw M_Sea_doubleRow 2 := ⟨q_111, q_6, by decide +kernel⟩
theorem cw_Row_addNumber : mCw M_Row_addNumber 2 := ⟨q_135, q_2, by decide +kernel⟩
theorem cw_Row_add : mCw M_Row_add 1 := ⟨q_139, q_2, by decide +kernel⟩
theorem cw_Pur_put : mCw M_Pur_put 1 := ⟨q_197, q_1, by decide +kernel⟩
theorem cw_Pur_wipe : mCw M_Pur_wipe 0 := ⟨q_202, q_1, by decide +kernel⟩
theorem cw_Row_size : mCw M_Row_size 0 := ⟨q_206, q_2, by decide +kernel⟩
theorem cw_Row_clear : mCw M_Row_clear 0 := ⟨q_210, q_2, by decide +kernel⟩
theorem cw_Pur_send : mCw M_Pur_send 0 := ⟨q_214, q_1, by decide +kernel⟩
theorem cw_Crd_obey : mCw M_Crd_obey 2 := ⟨q_218, q_4, by decide +kernel⟩
theorem cw_Crd_firstFault : mCw M_Crd_firstFault 1 := ⟨q_223, q_4, by decide +kernel⟩
theorem cw_Crd_isWellFormed : mCw M_Crd_isWellFormed 1 := ⟨q_226, q_4, by decide +kernel⟩
theorem cw_Row_at : mCw M_Row_at 1 := ⟨q_231, q_2, by decide +kernel⟩
theorem cw_Crd_instructionOf : mCw M_Crd_instructionOf 1 := ⟨q_234, q_4, by decide +kernel⟩
theorem cw_Row_numberAt : mCw M_Row_numberAt 2 := ⟨q_238, q_2, by decide +kernel⟩
theorem cw_Crd_isKnown : mCw M_Crd_isKnown 1 := ⟨q_243, q_4, by decide +kernel⟩
theorem cw_Crd_takesParameters : mCw M_Crd_takesParameters 3 := ⟨q_246, q_4, by decide +kernel⟩
theorem cw_Crd_fitsStage : mCw M_Crd_fitsStage 1 := ⟨q_250, q_4, by decide +kernel⟩
theorem cw_Crd_dataSize : mCw M_Crd_dataSize 1 := ⟨q_254, q_4, by decide +kernel⟩
theorem cw_Crd_takesData : mCw M_Crd_takesData 2 := ⟨q_258, q_4, by decide +kernel⟩
theorem cw_Crd_select : mCw M_Crd_select 2 := ⟨q_263, q_4, by decide +kernel⟩
theorem cw_Row_openTag : mCw M_Row_openTag 1 := ⟨q_267, q_2, by decide +kernel⟩
theorem cw_Row_addRow : mCw M_Row_addRow 1 := ⟨q_271, q_2, by decide +kernel⟩
theorem cw_Row_closeTag : mCw M_Row_closeTag 1 := ⟨q_275, q_2, by decide +kernel⟩
theorem cw_Row_addTagged : mCw M_Row_addTagged 3 := ⟨q_280, q_2, by decide +kernel⟩
theorem cw_Crd_ready : mCw M_Crd_ready 2 := ⟨q_289, q_4, by decide +kernel⟩
theorem cw_Fil_count : mCw M_Fil_count 1 := ⟨q_295, q_5, by decide +kernel⟩
theorem cw_Crd_read : mCw M_Crd_read 2 := ⟨q_300, q_4, by decide +kernel⟩
theorem cw_Fil_copy : mCw M_Fil_copy 3 := ⟨q_304, q_5, by decide +kernel⟩
theorem cw_Crd_prove : mCw M_Crd_prove 1 := ⟨q_310, q_4, by decide +kernel⟩
theorem cw_Crd_holdsDigits : mCw M_Crd_holdsDigits 1 := ⟨q_313, q_4, by decide +kernel⟩
theorem cw_Crd_digitsOf : mCw M_Crd_digitsOf 1 := ⟨q_316, q_4, by decide +kernel⟩
theorem cw_Crd_tell : mCw M_Crd_tell 2 := ⟨q_320, q_4, by decide +kernel⟩
theorem cw_Crd_giveSeal : mCw M_Crd_giveSeal 2 := ⟨q_326, q_4, by decide +kernel⟩
theorem cw_Crd_decide : mCw M_Crd_decide 3 := ⟨q_330, q_4, by decide +kernel⟩
theorem cw_Sea_payment : mCw M_Sea_payment 5 := ⟨q_335, q_6, by decide +kernel⟩
theorem cw_Sea_run : mCw M_Sea_run 1 := ⟨q_342, q_6, by decide +kernel⟩
theorem cw_Sea_byteAt : mCw M_Sea_byteAt 1 := ⟨q_350, q_6, by decide +kernel⟩
theorem cw_Pur_answered : mCw M_Pur_answered 0 := ⟨q_354, q_1, by decide +kernel⟩
theorem cw_Pur_answer : mCw M_Pur_answer 1 := ⟨q_358, q_1, by decide +kernel⟩
theorem cw_Pur_find : mCw M_Pur_find 1 := ⟨q_363, q_1, by decide +kernel⟩
theorem cw_Tag_placeOf : mCw M_Tag_placeOf 2 := ⟨q_367, q_3, by decide +kernel⟩
theorem cw_Pur_keep : mCw M_Pur_keep 1 := ⟨q_373, q_1, by decide +kernel⟩
theorem cw_Fil_store : mCw M_Fil_store 2 := ⟨q_377, q_5, by decide +kernel⟩
theorem cw_Pur_key : mCw M_Pur_key 2 := ⟨q_384, q_1, by decide +kernel⟩
theorem cw_Pur_code : mCw M_Pur_code 1 := ⟨q_389, q_1, by decide +kernel⟩
theorem cw_Pur_advance : mCw M_Pur_advance 1 := ⟨q_393, q_1, by decide +kernel⟩
theorem cw_Pur_seal : mCw M_Pur_seal 1 := ⟨q_398, q_1, by decide +kernel⟩
theorem cw_Pur_genuine : mCw M_Pur_genuine 3 := ⟨q_404, q_1, by decide +kernel⟩
theorem cw_Pur_isAmount : mCw M_Pur_isAmount 1 := ⟨q_407, q_1, by decide +kernel⟩
theorem cw_Pur_placeOfSized : mCw M_Pur_placeOfSized 2 := ⟨q_413, q_1, by decide +kernel⟩
theorem cw_Pur_pay : mCw M_Pur_pay 5 := ⟨q_421, q_1, by decide +kernel⟩
theorem cw_Pur_openPayment : mCw M_Pur_openPayment 1 := ⟨q_425, q_1, by decide +kernel⟩
theorem cw_Pur_typeHead : mCw M_Pur_typeHead 4 := ⟨q_429, q_1, by decide +kernel⟩
theorem cw_Pur_readRecords : mCw M_Pur_readRecords 0 := ⟨q_438, q_1, by decide +kernel⟩
theorem cw_Pur_provePin : mCw M_Pur_provePin 1 := ⟨q_442, q_1, by decide +kernel⟩
theorem cw_Pur_typeSeal : mCw M_Pur_typeSeal 4 := ⟨q_447, q_1, by decide +kernel⟩
theorem cw_Pur_givenByCard : mCw M_Pur_givenByCard 0 := ⟨q_452, q_1, by decide +kernel⟩
theorem cw_Pur_stage : mCw M_Pur_stage 0 := ⟨q_457, q_1, by decide +kernel⟩
theorem cw_Pur_counter : mCw M_Pur_counter 0 := ⟨q_461, q_1, by decide +kernel⟩
theorem cw_Pur_tries : mCw M_Pur_tries 0 := ⟨q_465, q_1, by decide +kernel⟩
theorem cw_Law_cell : mCw M_Law_cell 2 := ⟨q_468, q_0, by decide +kernel⟩
theorem cw_Mod_init : mCw M_Mod_init 1 := ⟨q_473, q_9, by decide +kernel⟩
theorem cw_Mod_substitute : mCw M_Mod_substitute 1 := ⟨q_477, q_9, by decide +kernel⟩
theorem cw_Mod_inverse : mCw M_Mod_inverse 1 := ⟨q_480, q_9, by decide +kernel⟩
theorem cw_Mod_times : mCw M_Mod_times 2 := ⟨q_483, q_9, by decide +kernel⟩
theorem cw_Mod_expand : mCw M_Mod_expand 0 := ⟨q_487, q_9, by decide +kernel⟩
theorem cw_Mod_put : mCw M_Mod_put 1 := ⟨q_567, q_9, by decide +kernel⟩
theorem cw_Mod_wipe : mCw M_Mod_wipe 0 := ⟨q_571, q_9, by decide +kernel⟩
theorem cw_Mod_answered : mCw M_Mod_answered 0 := ⟨q_575, q_9, by decide +kernel⟩
theorem cw_Mod_answer : mCw M_Mod_answer 1 := ⟨q_579, q_9, by decide +kernel⟩
theorem cw_Mod_send : mCw M_Mod_send 0 := ⟨q_583, q_9, by decide +kernel⟩
theorem cw_Mod_take : mCw M_Mod_take 0 := ⟨q_587, q_9, by decide +kernel⟩
theorem cw_Mod_command : mCw M_Mod_command 0 := ⟨q_591, q_9, by decide +kernel⟩
theorem cw_Mod_parametersFit : mCw M_Mod_parametersFit 1 := ⟨q_598, q_9, by decide +kernel⟩
theorem cw_Mod_stageFits : mCw M_Mod_stageFits 1 := ⟨q_602, q_9, by decide +kernel⟩
theorem cw_Mod_lengthFits : mCw M_Mod_lengthFits 1 := ⟨q_607, q_9, by decide +kernel⟩
theorem cw_Mod_select : mCw M_Mod_select 0 := ⟨q_611, q_9, by decide +kernel⟩
theorem cw_Mod_say2 : mCw M_Mod_say2 2 := ⟨q_615, q_9, by decide +kernel⟩
theorem cw_Mod_say : mCw M_Mod_say 1 := ⟨q_619, q_9, by decide +kernel⟩
theorem cw_Mod_ready : mCw M_Mod_ready 0 := ⟨q_624, q_9, by decide +kernel⟩
theorem cw_Mod_sixFrom : mCw M_Mod_sixFrom 1 := ⟨q_628, q_9, by decide +kernel⟩
theorem cw_Mod_readRecord : mCw M_Mod_readRecord 0 := ⟨q_633, q_9, by decide +kernel⟩
theorem cw_Mod_prove : mCw M_Mod_prove 0 := ⟨q_637, q_9, by decide +kernel⟩
theorem cw_Mod_half : mCw M_Mod_half 1 := ⟨q_641, q_9, by decide +kernel⟩
theorem cw_Mod_tell : mCw M_Mod_tell 0 := ⟨q_645, q_9, by decide +kernel⟩
theorem cw_Mod_give : mCw M_Mod_give 0 := ⟨q_649, q_9, by decide +kernel⟩
theorem cw_Mod_given : mCw M_Mod_given 0 := ⟨q_653, q_9, by decide +kernel⟩
theorem cw_Mod_sealPayment : mCw M_Mod_sealPayment 5 := ⟨q_657, q_9, by decide +kernel⟩
theorem cw_Mod_makeSeal : mCw M_Mod_makeSeal 1 := ⟨q_662, q_9, by decide +kernel⟩
theorem cw_Mod_encipher : mCw M_Mod_encipher 0 := ⟨q_666, q_9, by decide +kernel⟩
theorem cw_Mod_combineKey : mCw M_Mod_combineKey 1 := ⟨q_670, q_9, by decide +kernel⟩
theorem cw_Mod_mixRows : mCw M_Mod_mixRows 0 := ⟨q_674, q_9, by decide +kernel⟩
theorem cw_Mod_doubleMask : mCw M_Mod_doubleMask 0 := ⟨q_678, q_9, by decide +kernel⟩
theorem cw_Mod_find : mCw M_Mod_find 1 := ⟨q_682, q_9, by decide +kernel⟩
theorem cw_Mod_keep : mCw M_Mod_keep 1 := ⟨q_686, q_9, by decide +kernel⟩
theorem cw_Mod_key : mCw M_Mod_key 2 := ⟨q_690, q_9, by decide +kernel⟩
theorem cw_Mod_code : mCw M_Mod_code 1 := ⟨q_694, q_9, by decide +kernel⟩
theorem cw_Mod_advance : mCw M_Mod_advance 1 := ⟨q_698, q_9, by decide +kernel⟩
theorem cw_Mod_seal : mCw M_Mod_seal 1 := ⟨q_702, q_9, by decide +kernel⟩
theorem cw_Mod_genuine : mCw M_Mod_genuine 3 := ⟨q_706, q_9, by decide +kernel⟩
theorem cw_Mod_bytesOf : mCw M_Mod_bytesOf 2 := ⟨q_711, q_9, by decide +kernel⟩
theorem cw_Mod_isAmount : mCw M_Mod_isAmount 1 := ⟨q_717, q_9, by decide +kernel⟩
theorem cw_Mod_pay : mCw M_Mod_pay 5 := ⟨q_722, q_9, by decide +kernel⟩
theorem cw_Mod_sendSelect : mCw M_Mod_sendSelect 0 := ⟨q_726, q_9, by decide +kernel⟩
theorem cw_Mod_begin : mCw M_Mod_begin 4 := ⟨q_730, q_9, by decide +kernel⟩
theorem cw_Mod_type : mCw M_Mod_type 1 := ⟨q_734, q_9, by decide +kernel⟩
theorem cw_Mod_sendReady : mCw M_Mod_sendReady 1 := ⟨q_739, q_9, by decide +kernel⟩
theorem cw_Mod_typeSix : mCw M_Mod_typeSix 1 := ⟨q_743, q_9, by decide +kernel⟩
theorem cw_Mod_readAll : mCw M_Mod_readAll 0 := ⟨q_747, q_9, by decide +kernel⟩
theorem cw_Mod_sendProve : mCw M_Mod_sendProve 1 := ⟨q_751, q_9, by decide +kernel⟩
theorem cw_Mod_sendSeal : mCw M_Mod_sendSeal 4 := ⟨q_755, q_9, by decide +kernel⟩
theorem cw_Mod_cryptogram : mCw M_Mod_cryptogram 0 := ⟨q_759, q_9, by decide +kernel⟩
theorem cw_Mod_stage : mCw M_Mod_stage 0 := ⟨q_764, q_9, by decide +kernel⟩
theorem cw_Mod_counter : mCw M_Mod_counter 0 := ⟨q_768, q_9, by decide +kernel⟩
theorem cw_Mod_tries : mCw M_Mod_tries 0 := ⟨q_772, q_9, by decide +kernel⟩
theorem mCl_Row : ∀ w ∈ u_ws "PurseCard$Row" T_Row 2, w ∈ mWS := by
  intro w hw
  simp only [u_ws, List.range_succ_eq_map, List.range_zero, List.map_cons, List.map_nil, List.mem_cons, List.not_mem_nil, or_false, u_lay, T_Row, Nat.succ_eq_add_one] at hw
  rcases hw with rfl | rfl
  · exact q_26
  · exact q_28
theorem mCl_Tag : ∀ w ∈ u_ws "PurseCard$TagSearch" T_Tag 1, w ∈ mWS := by
  intro w hw
  simp only [u_ws, List.range_succ_eq_map, List.range_zero, List.map_cons, List.map_nil, List.mem_cons, List.not_mem_nil, or_false, u_lay, T_Tag, Nat.succ_eq_add_one] at hw
  rcases hw with rfl
  · exact q_39
theorem mCl_Fil : ∀ w ∈ u_ws "PurseCard$Files" T_Fil 3, w ∈ mWS := by
  intro w hw
  simp only [u_ws, List.range_succ_eq_map, List.range_zero, List.map_cons, List.map_nil, List.mem_cons, List.not_mem_nil, or_false, u_lay, T_Fil, Nat.succ_eq_add_one] at hw
  rcases hw with rfl | rfl | rfl
  · exact q_59
  · exact q_61
  · exact q_63
theorem mCl_Sea : ∀ w ∈ u_ws "PurseCard$Sealer" T_Sea 6, w ∈ mWS := by
  intro w hw
  simp only [u_ws, List.range_succ_eq_map, List.range_zero, List.map_cons, List.map_nil, List.mem_cons, List.not_mem_nil, or_false, u_lay, T_Sea, Nat.succ_eq_add_one] at hw
  rcases hw with rfl | rfl | rfl | rfl | rfl | rfl
  · exact q_118
  · exact q_120
  · exact q_122
  · exact q_124
  · exact q_126
  · exact q_128
theorem mCl_Crd : ∀ w ∈ u_ws "PurseCard$Card" T_Crd 10, w ∈ mWS := by
  intro w hw
  simp only [u_ws, List.range_succ_eq_map, List.range_zero, List.map_cons, List.map_nil, List.mem_cons, List.not_mem_nil, or_false, u_lay, T_Crd, Nat.succ_eq_add_one] at hw
  rcases hw with rfl | rfl | rfl | rfl | rfl | rfl | rfl | rfl | rfl | rfl
  · exact q_157
  · exact q_159
  · exact q_161
  · exact q_163
  · exact q_165
  · exact q_167
  · exact q_169
  · exact q_171
  · exact q_173
  · exact q_175
theorem mCl_Pur : ∀ w ∈ u_ws "PurseCard" T_Pur 5, w ∈ mWS := by
  intro w hw
  simp only [u_ws, List.range_succ_eq_map, List.range_zero, List.map_cons, List.map_nil, List.mem_cons, List.not_mem_nil, or_false, u_lay, T_Pur, Nat.succ_eq_add_one] at hw
  rcases hw with rfl | rfl | rfl | rfl | rfl
  · exact q_183
  · exact q_185
  · exact q_187
  · exact q_189
  · exact q_191
theorem mCl_Mod : ∀ w ∈ u_ws "PurseCardModel" T_Mod 25, w ∈ mWS := by
  intro w hw
  simp only [u_ws, List.range_succ_eq_map, List.range_zero, List.map_cons, List.map_nil, List.mem_cons, List.not_mem_nil, or_false, u_lay, T_Mod, Nat.succ_eq_add_one] at hw
  rcases hw with rfl | rfl | rfl | rfl | rfl | rfl | rfl | rfl | rfl | rfl | rfl | rfl | rfl | rfl | rfl | rfl | rfl | rfl | rfl | rfl | rfl | rfl | rfl | rfl | rfl
  · exact q_513
  · exact q_515
  · exact q_517
  · exact q_519
  · exact q_521
  · exact q_523
  · exact q_525
  · exact q_527
  · exact q_529
  · exact q_531
  · exact q_533
  · exact q_535
  · exact q_537
  · exact q_539
  · exact q_541
  · exact q_543
  · exact q_545
  · exact q_547
  · exact q_549
  · exact q_551
  · exact q_553
  · exact q_555
  · exact q_557
  · exact q_559
  · exact q_561
theorem mCls_ok : ∀ (ci : Nat) (q : vw_C), vwCl[ci]? = some q → ∃ ty0 : Nat → FieldType, (∀ k, k < q.2.2 → parseFieldDescriptor (q.2.1 k).2.2.1 = some (ty0 k)) ∧ (∀ a, a < q.2.2 → ∀ b, b < q.2.2 → a ≠ b → (q.2.1 a).2.1 ≠ (q.2.1 b).2.1) ∧ (∀ w ∈ u_ws q.1 q.2.1 q.2.2, w ∈ mWS) := by
  intro ci q hq
  match ci, hq with
  | 0, hq => cases hq; exact ⟨t_Row, t_Row_ok, n_Row, mCl_Row⟩
  | 1, hq => cases hq; exact ⟨t_Tag, t_Tag_ok, n_Tag, mCl_Tag⟩
  | 2, hq => cases hq; exact ⟨t_Fil, t_Fil_ok, n_Fil, mCl_Fil⟩
  | 3, hq => cases hq; exact ⟨t_Sea, t_Sea_ok, n_Sea, mCl_Sea⟩
  | 4, hq => cases hq; exact ⟨t_Crd, t_Crd_ok, n_Crd, mCl_Crd⟩
  | 5, hq => cases hq; exact ⟨t_Pur, t_Pur_ok, n_Pur, mCl_Pur⟩
  | 6, hq => cases hq; exact ⟨t_Mod, t_Mod_ok, n_Mod, mCl_Mod⟩
  | k + 7, hq => simp [vwCl] at hq
