theorem tw_0 : Cond.initialized "BoundedCodesLaw" ∈ TB := tb_t 0 rfl rfl
theorem tw_1 : Cond.initialized "BoundedCodes" ∈ TB := tb_t 1 rfl rfl
theorem tw_2 : Cond.initialized "BoundedCodes$Making" ∈ TB := tb_t 2 rfl rfl
theorem tw_3 : Cond.initialized "BoundedCodes$WaitingBits" ∈ TB := tb_t 3 rfl rfl
theorem tw_4 : Cond.initialized "BoundedCodes$Table" ∈ TB := tb_t 4 rfl rfl
theorem tw_5 : Cond.initialized "java/lang/Math" ∈ TB := tb_t 5 rfl rfl
theorem tw_6 : Cond.initialized "BoundedCodesModel" ∈ TB := tb_t 6 rfl rfl
theorem tw_7 : Cond.initialized "java/lang/Throwable" ∈ TB := tb_t 7 rfl rfl
theorem tw_8 : Cond.initialized "java/lang/Exception" ∈ TB := tb_t 8 rfl rfl
theorem tw_9 : Cond.initialized "java/lang/RuntimeException" ∈ TB := tb_t 9 rfl rfl
theorem tw_10 : Cond.initialized "java/lang/IndexOutOfBoundsException" ∈ TB := tb_t 10 rfl rfl
theorem tw_11 : Cond.initialized "java/lang/IllegalArgumentException" ∈ TB := tb_t 11 rfl rfl
theorem tw_12 : Cond.initialized "java/lang/IllegalStateException" ∈ TB := tb_t 12 rfl rfl
theorem tw_13 : Cond.classLink "BoundedCodesLaw" 8 "BoundedCodes" ∈ TB := tb_t 13 rfl rfl
theorem tw_14 : Cond.instantiable "BoundedCodes" 8 ∈ TB := tb_t 14 rfl rfl
theorem tw_15 : Cond.methodLink "BoundedCodesLaw" 56 y_B_init ∈ TB := tb_t 15 rfl rfl
theorem tw_16 : Cond.instanceMethod y_B_init ∈ TB := tb_t 16 rfl rfl
theorem tw_17 : k_B_init ∈ TB := tb_t 17 rfl rfl
theorem tw_18 : Cond.methodLink "BoundedCodes" 1 ⟨"java/lang/Object", "<init>", "()V"⟩ ∈ TB := tb_t 18 rfl rfl
theorem tw_19 : Cond.instanceMethod ⟨"java/lang/Object", "<init>", "()V"⟩ ∈ TB := tb_t 19 rfl rfl
theorem tw_20 : Cond.code ⟨"java/lang/Object", "<init>", "()V"⟩ object_method_1_code 1 (Option.none : Option Jvm.ClassFile.FieldType) ∈ TB := tb_t 20 rfl rfl
theorem tw_21 : Cond.classLink "BoundedCodes" 7 "BoundedCodes$Making" ∈ TB := tb_t 21 rfl rfl
theorem tw_22 : Cond.instantiable "BoundedCodes$Making" 6 ∈ TB := tb_t 22 rfl rfl
theorem tn_23 : Cond.methodLinkNest "BoundedCodes" 9 y_K_init "BoundedCodes" ∈ lw_tbl := List.mem_append_right _ (List.mem_of_getElem? (i := 23) rfl)
theorem tw_24 : Cond.instanceMethod y_K_init ∈ TB := tb_t 24 rfl rfl
theorem tw_25 : k_K_init ∈ TB := tb_t 25 rfl rfl
theorem tw_26 : Cond.methodLink "BoundedCodes$Making" 3 ⟨"java/lang/Object", "<init>", "()V"⟩ ∈ TB := tb_t 26 rfl rfl
theorem tw_27 : Cond.classLink "BoundedCodes$Making" 15 "[[I" ∈ TB := tb_t 27 rfl rfl
theorem tn_28 : Cond.arrayOver (Jvm.ClassFile.FieldType.array Jvm.ClassFile.FieldType.int) ∈ lw_tbl := List.mem_append_right _ (List.mem_of_getElem? (i := 28) rfl)
theorem tw_29 : Cond.fieldLink "BoundedCodes$Making" 9 "BoundedCodes$Making" "order" "[I" ∈ TB := tb_t 29 rfl rfl
theorem tw_30 : Cond.fieldLink "BoundedCodes$Making" 17 "BoundedCodes$Making" "placeOf" "[[I" ∈ TB := tb_t 30 rfl rfl
theorem tw_31 : Cond.fieldLink "BoundedCodes$Making" 20 "BoundedCodes$Making" "row" "[J" ∈ TB := tb_t 31 rfl rfl
theorem tw_32 : Cond.fieldLink "BoundedCodes$Making" 24 "BoundedCodes$Making" "nextRow" "[J" ∈ TB := tb_t 32 rfl rfl
theorem tw_33 : Cond.fieldLink "BoundedCodes$Making" 27 "BoundedCodes$Making" "rowSize" "I" ∈ TB := tb_t 33 rfl rfl
theorem tw_34 : Cond.fieldLink "BoundedCodes$Making" 31 "BoundedCodes$Making" "counted" "I" ∈ TB := tb_t 34 rfl rfl
theorem tw_35 : Cond.laysFinal "BoundedCodes$Making" "BoundedCodes$Making" "order" "[I" ∈ TB := tb_t 35 rfl rfl
theorem tw_36 : Cond.soleField "BoundedCodes$Making" "order" ∈ TB := tb_t 36 rfl rfl
theorem tw_37 : Cond.laysFinal "BoundedCodes$Making" "BoundedCodes$Making" "placeOf" "[[I" ∈ TB := tb_t 37 rfl rfl
theorem tw_38 : Cond.soleField "BoundedCodes$Making" "placeOf" ∈ TB := tb_t 38 rfl rfl
theorem tw_39 : Cond.lays "BoundedCodes$Making" "BoundedCodes$Making" "row" "[J" ∈ TB := tb_t 39 rfl rfl
theorem tw_40 : Cond.soleField "BoundedCodes$Making" "row" ∈ TB := tb_t 40 rfl rfl
theorem tw_41 : Cond.lays "BoundedCodes$Making" "BoundedCodes$Making" "nextRow" "[J" ∈ TB := tb_t 41 rfl rfl
theorem tw_42 : Cond.soleField "BoundedCodes$Making" "nextRow" ∈ TB := tb_t 42 rfl rfl
theorem tw_43 : Cond.lays "BoundedCodes$Making" "BoundedCodes$Making" "rowSize" "I" ∈ TB := tb_t 43 rfl rfl
theorem tw_44 : Cond.soleField "BoundedCodes$Making" "rowSize" ∈ TB := tb_t 44 rfl rfl
theorem tw_45 : Cond.lays "BoundedCodes$Making" "BoundedCodes$Making" "counted" "I" ∈ TB := tb_t 45 rfl rfl
theorem tw_46 : Cond.soleField "BoundedCodes$Making" "counted" ∈ TB := tb_t 46 rfl rfl
theorem tw_47 : Cond.superclass "BoundedCodes$Making" "java/lang/Object" ∈ TB := tb_t 47 rfl rfl
theorem tw_48 : Cond.arrayClass Jvm.ClassFile.FieldType.int ∈ TB := tb_t 48 rfl rfl
theorem tw_49 : Cond.arrayClass Jvm.ClassFile.FieldType.long ∈ TB := tb_t 49 rfl rfl
theorem tw_50 : Cond.classLink "BoundedCodes" 16 "BoundedCodes$WaitingBits" ∈ TB := tb_t 50 rfl rfl
theorem tw_51 : Cond.instantiable "BoundedCodes$WaitingBits" 3 ∈ TB := tb_t 51 rfl rfl
theorem tn_52 : Cond.methodLinkNest "BoundedCodes" 18 y_G_init "BoundedCodes" ∈ lw_tbl := List.mem_append_right _ (List.mem_of_getElem? (i := 52) rfl)
theorem tw_53 : Cond.instanceMethod y_G_init ∈ TB := tb_t 53 rfl rfl
theorem tw_54 : k_G_init ∈ TB := tb_t 54 rfl rfl
theorem tw_55 : Cond.methodLink "BoundedCodes$WaitingBits" 3 ⟨"java/lang/Object", "<init>", "()V"⟩ ∈ TB := tb_t 55 rfl rfl
theorem tw_56 : Cond.fieldLink "BoundedCodes$WaitingBits" 9 "BoundedCodes$WaitingBits" "ring" "[I" ∈ TB := tb_t 56 rfl rfl
theorem tw_57 : Cond.fieldLink "BoundedCodes$WaitingBits" 15 "BoundedCodes$WaitingBits" "start" "I" ∈ TB := tb_t 57 rfl rfl
theorem tw_58 : Cond.fieldLink "BoundedCodes$WaitingBits" 19 "BoundedCodes$WaitingBits" "size" "I" ∈ TB := tb_t 58 rfl rfl
theorem tn_59 : Cond.fieldLinkNest "BoundedCodes" 119 "BoundedCodes$WaitingBits" "size" "I" "BoundedCodes" ∈ lw_tbl := List.mem_append_right _ (List.mem_of_getElem? (i := 59) rfl)
theorem tw_60 : Cond.laysFinal "BoundedCodes$WaitingBits" "BoundedCodes$WaitingBits" "ring" "[I" ∈ TB := tb_t 60 rfl rfl
theorem tw_61 : Cond.soleField "BoundedCodes$WaitingBits" "ring" ∈ TB := tb_t 61 rfl rfl
theorem tw_62 : Cond.lays "BoundedCodes$WaitingBits" "BoundedCodes$WaitingBits" "start" "I" ∈ TB := tb_t 62 rfl rfl
theorem tw_63 : Cond.soleField "BoundedCodes$WaitingBits" "start" ∈ TB := tb_t 63 rfl rfl
theorem tw_64 : Cond.lays "BoundedCodes$WaitingBits" "BoundedCodes$WaitingBits" "size" "I" ∈ TB := tb_t 64 rfl rfl
theorem tw_65 : Cond.soleField "BoundedCodes$WaitingBits" "size" ∈ TB := tb_t 65 rfl rfl
theorem tw_66 : Cond.superclass "BoundedCodes$WaitingBits" "java/lang/Object" ∈ TB := tb_t 66 rfl rfl
theorem tw_67 : Cond.classLink "BoundedCodes" 42 "BoundedCodes$Table" ∈ TB := tb_t 67 rfl rfl
theorem tw_68 : Cond.instantiable "BoundedCodes$Table" 6 ∈ TB := tb_t 68 rfl rfl
theorem tw_69 : Cond.methodLink "BoundedCodes" 44 ⟨"java/lang/Math", "floorMod", "(II)I"⟩ ∈ TB := tb_t 69 rfl rfl
theorem tw_70 : Cond.static ⟨"java/lang/Math", "floorMod", "(II)I"⟩ ∈ TB := tb_t 70 rfl rfl
theorem tw_71 : Cond.code ⟨"java/lang/Math", "floorMod", "(II)I"⟩ prog_11_method_50_code 3 (Option.some Jvm.ClassFile.FieldType.int) ∈ TB := tb_t 71 rfl rfl
theorem tw_72 : Cond.methodLink "BoundedCodes" 50 y_T_init ∈ TB := tb_t 72 rfl rfl
theorem tw_73 : Cond.instanceMethod y_T_init ∈ TB := tb_t 73 rfl rfl
theorem tw_74 : k_T_init ∈ TB := tb_t 74 rfl rfl
theorem tw_75 : Cond.methodLink "BoundedCodes$Table" 3 ⟨"java/lang/Object", "<init>", "()V"⟩ ∈ TB := tb_t 75 rfl rfl
theorem tw_76 : Cond.fieldLink "BoundedCodes$Table" 28 "BoundedCodes$Table" "rule" "I" ∈ TB := tb_t 76 rfl rfl
theorem tw_77 : Cond.fieldLink "BoundedCodes$Table" 9 "BoundedCodes$Table" "lengthOf" "[I" ∈ TB := tb_t 77 rfl rfl
theorem tn_78 : Cond.fieldLinkNest "BoundedCodes" 78 "BoundedCodes$Table" "lengthOf" "[I" "BoundedCodes" ∈ lw_tbl := List.mem_append_right _ (List.mem_of_getElem? (i := 78) rfl)
theorem tw_79 : Cond.fieldLink "BoundedCodes$Table" 15 "BoundedCodes$Table" "codeOf" "[I" ∈ TB := tb_t 79 rfl rfl
theorem tn_80 : Cond.fieldLinkNest "BoundedCodes" 93 "BoundedCodes$Table" "codeOf" "[I" "BoundedCodes" ∈ lw_tbl := List.mem_append_right _ (List.mem_of_getElem? (i := 80) rfl)
theorem tw_81 : Cond.fieldLink "BoundedCodes$Table" 18 "BoundedCodes$Table" "sharing" "[I" ∈ TB := tb_t 81 rfl rfl
theorem tw_82 : Cond.fieldLink "BoundedCodes$Table" 21 "BoundedCodes$Table" "nextCode" "[I" ∈ TB := tb_t 82 rfl rfl
theorem tw_83 : Cond.fieldLink "BoundedCodes$Table" 24 "BoundedCodes$Table" "fill" "I" ∈ TB := tb_t 83 rfl rfl
theorem tw_84 : Cond.laysFinal "BoundedCodes$Table" "BoundedCodes$Table" "rule" "I" ∈ TB := tb_t 84 rfl rfl
theorem tw_85 : Cond.soleField "BoundedCodes$Table" "rule" ∈ TB := tb_t 85 rfl rfl
theorem tw_86 : Cond.laysFinal "BoundedCodes$Table" "BoundedCodes$Table" "lengthOf" "[I" ∈ TB := tb_t 86 rfl rfl
theorem tw_87 : Cond.soleField "BoundedCodes$Table" "lengthOf" ∈ TB := tb_t 87 rfl rfl
theorem tw_88 : Cond.laysFinal "BoundedCodes$Table" "BoundedCodes$Table" "codeOf" "[I" ∈ TB := tb_t 88 rfl rfl
theorem tw_89 : Cond.soleField "BoundedCodes$Table" "codeOf" ∈ TB := tb_t 89 rfl rfl
theorem tw_90 : Cond.laysFinal "BoundedCodes$Table" "BoundedCodes$Table" "sharing" "[I" ∈ TB := tb_t 90 rfl rfl
theorem tw_91 : Cond.soleField "BoundedCodes$Table" "sharing" ∈ TB := tb_t 91 rfl rfl
theorem tw_92 : Cond.laysFinal "BoundedCodes$Table" "BoundedCodes$Table" "nextCode" "[I" ∈ TB := tb_t 92 rfl rfl
theorem tw_93 : Cond.soleField "BoundedCodes$Table" "nextCode" ∈ TB := tb_t 93 rfl rfl
theorem tw_94 : Cond.lays "BoundedCodes$Table" "BoundedCodes$Table" "fill" "I" ∈ TB := tb_t 94 rfl rfl
theorem tw_95 : Cond.soleField "BoundedCodes$Table" "fill" ∈ TB := tb_t 95 rfl rfl
theorem tw_96 : Cond.superclass "BoundedCodes$Table" "java/lang/Object" ∈ TB := tb_t 96 rfl rfl
theorem tw_97 : Cond.methodLink "BoundedCodes" 57 y_B_dropAllRanges ∈ TB := tb_t 97 rfl rfl
theorem tw_99 : Cond.instanceMethod y_B_dropAllRanges ∈ TB := tb_t 99 rfl rfl
theorem tw_100 : k_B_dropAllRanges ∈ TB := tb_t 100 rfl rfl
theorem tw_101 : Cond.methodLink "BoundedCodes" 98 y_B_dropRange ∈ TB := tb_t 101 rfl rfl
theorem tw_103 : Cond.instanceMethod y_B_dropRange ∈ TB := tb_t 103 rfl rfl
theorem tw_104 : k_B_dropRange ∈ TB := tb_t 104 rfl rfl
theorem tw_105 : Cond.fieldLink "BoundedCodes" 53 "BoundedCodes" "table" "LBoundedCodes$Table;" ∈ TB := tb_t 105 rfl rfl
theorem tw_106 : Cond.fieldLink "BoundedCodes" 10 "BoundedCodes" "making" "LBoundedCodes$Making;" ∈ TB := tb_t 106 rfl rfl
theorem tw_107 : Cond.fieldLink "BoundedCodes" 19 "BoundedCodes" "bits" "LBoundedCodes$WaitingBits;" ∈ TB := tb_t 107 rfl rfl
theorem tw_108 : Cond.fieldLink "BoundedCodes" 23 "BoundedCodes" "countOf" "[J" ∈ TB := tb_t 108 rfl rfl
theorem tw_109 : Cond.fieldLink "BoundedCodes" 27 "BoundedCodes" "lowOf" "[I" ∈ TB := tb_t 109 rfl rfl
theorem tw_110 : Cond.fieldLink "BoundedCodes" 31 "BoundedCodes" "extraOf" "[I" ∈ TB := tb_t 110 rfl rfl
theorem tw_111 : Cond.fieldLink "BoundedCodes" 34 "BoundedCodes" "wasRead" "Z" ∈ TB := tb_t 111 rfl rfl
theorem tw_112 : Cond.fieldLink "BoundedCodes" 38 "BoundedCodes" "lastValue" "J" ∈ TB := tb_t 112 rfl rfl
theorem tw_113 : Cond.laysFinal "BoundedCodes" "BoundedCodes" "table" "LBoundedCodes$Table;" ∈ TB := tb_t 113 rfl rfl
theorem tw_114 : Cond.soleField "BoundedCodes" "table" ∈ TB := tb_t 114 rfl rfl
theorem tw_115 : Cond.laysFinal "BoundedCodes" "BoundedCodes" "making" "LBoundedCodes$Making;" ∈ TB := tb_t 115 rfl rfl
theorem tw_116 : Cond.soleField "BoundedCodes" "making" ∈ TB := tb_t 116 rfl rfl
theorem tw_117 : Cond.laysFinal "BoundedCodes" "BoundedCodes" "bits" "LBoundedCodes$WaitingBits;" ∈ TB := tb_t 117 rfl rfl
theorem tw_118 : Cond.soleField "BoundedCodes" "bits" ∈ TB := tb_t 118 rfl rfl
theorem tw_119 : Cond.laysFinal "BoundedCodes" "BoundedCodes" "countOf" "[J" ∈ TB := tb_t 119 rfl rfl
theorem tw_120 : Cond.soleField "BoundedCodes" "countOf" ∈ TB := tb_t 120 rfl rfl
theorem tw_121 : Cond.laysFinal "BoundedCodes" "BoundedCodes" "lowOf" "[I" ∈ TB := tb_t 121 rfl rfl
theorem tw_122 : Cond.soleField "BoundedCodes" "lowOf" ∈ TB := tb_t 122 rfl rfl
theorem tw_123 : Cond.laysFinal "BoundedCodes" "BoundedCodes" "extraOf" "[I" ∈ TB := tb_t 123 rfl rfl
theorem tw_124 : Cond.soleField "BoundedCodes" "extraOf" ∈ TB := tb_t 124 rfl rfl
theorem tw_125 : Cond.lays "BoundedCodes" "BoundedCodes" "wasRead" "Z" ∈ TB := tb_t 125 rfl rfl
theorem tw_126 : Cond.soleField "BoundedCodes" "wasRead" ∈ TB := tb_t 126 rfl rfl
theorem tw_127 : Cond.lays "BoundedCodes" "BoundedCodes" "lastValue" "J" ∈ TB := tb_t 127 rfl rfl
theorem tw_128 : Cond.soleField "BoundedCodes" "lastValue" ∈ TB := tb_t 128 rfl rfl
theorem tw_129 : Cond.superclass "BoundedCodes" "java/lang/Object" ∈ TB := tb_t 129 rfl rfl
theorem tw_130 : Cond.methodLink "BoundedCodesLaw" 89 y_B_check ∈ TB := tb_t 130 rfl rfl
theorem tw_131 : Cond.instanceMethod y_B_check ∈ TB := tb_t 131 rfl rfl
theorem tw_132 : Cond.selects "BoundedCodes" y_B_check y_B_check ∈ TB := tb_t 132 rfl rfl
theorem tw_133 : k_B_check ∈ TB := tb_t 133 rfl rfl
theorem tw_134 : Cond.methodLink "BoundedCodes" 109 y_T_state ∈ TB := tb_t 134 rfl rfl
theorem tw_135 : Cond.instanceMethod y_T_state ∈ TB := tb_t 135 rfl rfl
theorem tw_136 : Cond.selects "BoundedCodes$Table" y_T_state y_T_state ∈ TB := tb_t 136 rfl rfl
theorem tw_137 : k_T_state ∈ TB := tb_t 137 rfl rfl
theorem tw_138 : Cond.constant "BoundedCodes$Table" 31 (65536 : Int32) ∈ TB := tb_t 138 rfl rfl
theorem tw_139 : Cond.methodLink "BoundedCodesLaw" 103 y_B_waiting ∈ TB := tb_t 139 rfl rfl
theorem tw_140 : Cond.instanceMethod y_B_waiting ∈ TB := tb_t 140 rfl rfl
theorem tw_141 : Cond.selects "BoundedCodes" y_B_waiting y_B_waiting ∈ TB := tb_t 141 rfl rfl
theorem tw_142 : k_B_waiting ∈ TB := tb_t 142 rfl rfl
theorem tw_143 : Cond.methodLink "BoundedCodesLaw" 107 y_B_sum ∈ TB := tb_t 143 rfl rfl
theorem tw_144 : Cond.instanceMethod y_B_sum ∈ TB := tb_t 144 rfl rfl
theorem tw_145 : Cond.selects "BoundedCodes" y_B_sum y_B_sum ∈ TB := tb_t 145 rfl rfl
theorem tw_146 : k_B_sum ∈ TB := tb_t 146 rfl rfl
theorem tw_147 : Cond.methodLink "BoundedCodesLaw" 111 y_B_lengths ∈ TB := tb_t 147 rfl rfl
theorem tw_148 : Cond.instanceMethod y_B_lengths ∈ TB := tb_t 148 rfl rfl
theorem tw_149 : Cond.selects "BoundedCodes" y_B_lengths y_B_lengths ∈ TB := tb_t 149 rfl rfl
theorem tw_150 : k_B_lengths ∈ TB := tb_t 150 rfl rfl
theorem tw_151 : Cond.methodLink "BoundedCodes" 139 y_T_endOfLengths ∈ TB := tb_t 151 rfl rfl
theorem tw_152 : Cond.instanceMethod y_T_endOfLengths ∈ TB := tb_t 152 rfl rfl
theorem tw_153 : Cond.selects "BoundedCodes$Table" y_T_endOfLengths y_T_endOfLengths ∈ TB := tb_t 153 rfl rfl
theorem tw_154 : k_T_endOfLengths ∈ TB := tb_t 154 rfl rfl
theorem tw_155 : Cond.methodLink "BoundedCodes" 142 y_B_numberTold ∈ TB := tb_t 155 rfl rfl
theorem tw_157 : Cond.instanceMethod y_B_numberTold ∈ TB := tb_t 157 rfl rfl
theorem tw_158 : k_B_numberTold ∈ TB := tb_t 158 rfl rfl
theorem tw_159 : Cond.methodLink "BoundedCodes" 161 y_T_runOf ∈ TB := tb_t 159 rfl rfl
theorem tw_160 : Cond.instanceMethod y_T_runOf ∈ TB := tb_t 160 rfl rfl
theorem tw_161 : Cond.selects "BoundedCodes$Table" y_T_runOf y_T_runOf ∈ TB := tb_t 161 rfl rfl
theorem tw_162 : k_T_runOf ∈ TB := tb_t 162 rfl rfl
theorem tw_163 : Cond.methodLink "BoundedCodes" 165 ⟨"java/lang/Math", "min", "(II)I"⟩ ∈ TB := tb_t 163 rfl rfl
theorem tw_164 : Cond.static ⟨"java/lang/Math", "min", "(II)I"⟩ ∈ TB := tb_t 164 rfl rfl
theorem tw_165 : Cond.code ⟨"java/lang/Math", "min", "(II)I"⟩ prog_11_method_69_code 2 (Option.some Jvm.ClassFile.FieldType.int) ∈ TB := tb_t 165 rfl rfl
theorem tw_166 : Cond.methodLink "BoundedCodes" 145 y_B_lengthsToldBy ∈ TB := tb_t 166 rfl rfl
theorem tw_167 : Cond.static y_B_lengthsToldBy ∈ TB := tb_t 167 rfl rfl
theorem tw_168 : k_B_lengthsToldBy ∈ TB := tb_t 168 rfl rfl
theorem tw_169 : Cond.methodLink "BoundedCodesLaw" 115 y_B_clear ∈ TB := tb_t 169 rfl rfl
theorem tw_170 : Cond.instanceMethod y_B_clear ∈ TB := tb_t 170 rfl rfl
theorem tw_171 : Cond.selects "BoundedCodes" y_B_clear y_B_clear ∈ TB := tb_t 171 rfl rfl
theorem tw_172 : k_B_clear ∈ TB := tb_t 172 rfl rfl
theorem tw_173 : Cond.methodLink "BoundedCodes" 85 y_T_renew ∈ TB := tb_t 173 rfl rfl
theorem tw_174 : Cond.instanceMethod y_T_renew ∈ TB := tb_t 174 rfl rfl
theorem tw_175 : Cond.selects "BoundedCodes$Table" y_T_renew y_T_renew ∈ TB := tb_t 175 rfl rfl
theorem tw_176 : k_T_renew ∈ TB := tb_t 176 rfl rfl
theorem tw_177 : Cond.methodLink "BoundedCodes$Table" 32 y_T_countSharing ∈ TB := tb_t 177 rfl rfl
theorem tw_179 : Cond.instanceMethod y_T_countSharing ∈ TB := tb_t 179 rfl rfl
theorem tw_180 : k_T_countSharing ∈ TB := tb_t 180 rfl rfl
theorem tw_181 : Cond.methodLink "BoundedCodes$Table" 35 y_T_giveCodes ∈ TB := tb_t 181 rfl rfl
theorem tw_183 : Cond.instanceMethod y_T_giveCodes ∈ TB := tb_t 183 rfl rfl
theorem tw_184 : k_T_giveCodes ∈ TB := tb_t 184 rfl rfl
theorem tw_185 : Cond.methodLink "BoundedCodes$Table" 38 y_T_startLongestFirst ∈ TB := tb_t 185 rfl rfl
theorem tw_187 : Cond.instanceMethod y_T_startLongestFirst ∈ TB := tb_t 187 rfl rfl
theorem tw_188 : k_T_startLongestFirst ∈ TB := tb_t 188 rfl rfl
theorem tw_189 : Cond.methodLink "BoundedCodes$Table" 41 y_T_startShortestFirst ∈ TB := tb_t 189 rfl rfl
theorem tw_191 : Cond.instanceMethod y_T_startShortestFirst ∈ TB := tb_t 191 rfl rfl
theorem tw_192 : k_T_startShortestFirst ∈ TB := tb_t 192 rfl rfl
theorem tw_193 : Cond.methodLink "BoundedCodes$Table" 44 y_T_takeCode ∈ TB := tb_t 193 rfl rfl
theorem tw_195 : Cond.instanceMethod y_T_takeCode ∈ TB := tb_t 195 rfl rfl
theorem tw_196 : k_T_takeCode ∈ TB := tb_t 196 rfl rfl
theorem tw_197 : Cond.methodLink "BoundedCodes" 130 y_G_drop ∈ TB := tb_t 197 rfl rfl
theorem tw_198 : Cond.instanceMethod y_G_drop ∈ TB := tb_t 198 rfl rfl
theorem tw_199 : Cond.selects "BoundedCodes$WaitingBits" y_G_drop y_G_drop ∈ TB := tb_t 199 rfl rfl
theorem tw_200 : k_G_drop ∈ TB := tb_t 200 rfl rfl
theorem tw_201 : Cond.methodLink "BoundedCodesLaw" 50 y_L_cell ∈ TB := tb_t 201 rfl rfl
theorem tw_202 : Cond.static y_L_cell ∈ TB := tb_t 202 rfl rfl
theorem tw_203 : k_L_cell ∈ TB := tb_t 203 rfl rfl
theorem tw_204 : Cond.methodLink "BoundedCodesLaw" 64 y_L_count ∈ TB := tb_t 204 rfl rfl
theorem tw_205 : Cond.static y_L_count ∈ TB := tb_t 205 rfl rfl
theorem tw_206 : k_L_count ∈ TB := tb_t 206 rfl rfl
theorem tw_207 : Cond.classLink "BoundedCodesLaw" 13 "java/lang/IndexOutOfBoundsException" ∈ TB := tb_t 207 rfl rfl
theorem tw_208 : Cond.classLink "BoundedCodesLaw" 15 "java/lang/IllegalArgumentException" ∈ TB := tb_t 208 rfl rfl
theorem tw_209 : Cond.methodLink "BoundedCodesLaw" 7 y_B_count ∈ TB := tb_t 209 rfl rfl
theorem tw_210 : Cond.instanceMethod y_B_count ∈ TB := tb_t 210 rfl rfl
theorem tw_211 : Cond.selects "BoundedCodes" y_B_count y_B_count ∈ TB := tb_t 211 rfl rfl
theorem tw_212 : k_B_count ∈ TB := tb_t 212 rfl rfl
theorem tw_213 : Cond.methodLink "BoundedCodes" 60 y_B_needSymbol ∈ TB := tb_t 213 rfl rfl
theorem tw_214 : Cond.static y_B_needSymbol ∈ TB := tb_t 214 rfl rfl
theorem tw_215 : k_B_needSymbol ∈ TB := tb_t 215 rfl rfl
theorem tw_216 : Cond.classLink "BoundedCodes" 148 "java/lang/IndexOutOfBoundsException" ∈ TB := tb_t 216 rfl rfl
theorem tw_217 : Cond.instantiable "java/lang/IndexOutOfBoundsException" 6 ∈ TB := tb_t 217 rfl rfl
theorem tn_218 : Cond.castable "java/lang/IndexOutOfBoundsException" "java/lang/IndexOutOfBoundsException" ∈ lw_tbl := List.mem_append_right _ (List.mem_of_getElem? (i := 218) rfl)
theorem tw_225 : Cond.selects "java/lang/IndexOutOfBoundsException" ⟨"java/lang/Throwable", "fillInStackTrace", "(I)Ljava/lang/Throwable;"⟩ ⟨"java/lang/Throwable", "fillInStackTrace", "(I)Ljava/lang/Throwable;"⟩ ∈ TB := tb_t 225 rfl rfl
theorem tw_226 : Cond.selects "java/lang/IndexOutOfBoundsException" ⟨"java/lang/Throwable", "fillInStackTrace", "()Ljava/lang/Throwable;"⟩ ⟨"java/lang/Throwable", "fillInStackTrace", "()Ljava/lang/Throwable;"⟩ ∈ TB := tb_t 226 rfl rfl
theorem tw_227 : Cond.lays "java/lang/IndexOutOfBoundsException" "java/lang/Throwable" "cause" "Ljava/lang/Throwable;" ∈ TB := tb_t 227 rfl rfl
theorem tw_228 : Cond.lays "java/lang/Throwable" "java/lang/Throwable" "cause" "Ljava/lang/Throwable;" ∈ TB := tb_t 228 rfl rfl
theorem tw_229 : Cond.lays "java/lang/IndexOutOfBoundsException" "java/lang/Throwable" "stackTrace" "[Ljava/lang/StackTraceElement;" ∈ TB := tb_t 229 rfl rfl
theorem tw_230 : Cond.lays "java/lang/Throwable" "java/lang/Throwable" "stackTrace" "[Ljava/lang/StackTraceElement;" ∈ TB := tb_t 230 rfl rfl
theorem tw_231 : Cond.lays "java/lang/IndexOutOfBoundsException" "java/lang/Throwable" "suppressedExceptions" "Ljava/util/List;" ∈ TB := tb_t 231 rfl rfl
theorem tw_232 : Cond.lays "java/lang/Throwable" "java/lang/Throwable" "suppressedExceptions" "Ljava/util/List;" ∈ TB := tb_t 232 rfl rfl
theorem tw_233 : Cond.lays "java/lang/IndexOutOfBoundsException" "java/lang/Throwable" "detailMessage" "Ljava/lang/String;" ∈ TB := tb_t 233 rfl rfl
theorem tw_234 : Cond.lays "java/lang/Throwable" "java/lang/Throwable" "detailMessage" "Ljava/lang/String;" ∈ TB := tb_t 234 rfl rfl
theorem tw_235 : Cond.lays "java/lang/IndexOutOfBoundsException" "java/lang/Throwable" "backtrace" "Ljava/lang/Object;" ∈ TB := tb_t 235 rfl rfl
theorem tw_236 : Cond.lays "java/lang/Throwable" "java/lang/Throwable" "backtrace" "Ljava/lang/Object;" ∈ TB := tb_t 236 rfl rfl
theorem tw_237 : Cond.fieldLink "java/lang/Throwable" 198 "java/lang/Throwable" "backtrace" "Ljava/lang/Object;" ∈ TB := tb_t 237 rfl rfl
theorem tw_238 : Cond.superclass "java/lang/Throwable" "java/lang/Object" ∈ TB := tb_t 238 rfl rfl
theorem tw_239 : Cond.instanceMethod ⟨"java/lang/Throwable", "<init>", "()V"⟩ ∈ TB := tb_t 239 rfl rfl
theorem tw_240 : Cond.code ⟨"java/lang/Throwable", "<init>", "()V"⟩ prog_14_method_1_code 1 (Option.none : Option Jvm.ClassFile.FieldType) ∈ TB := tb_t 240 rfl rfl
theorem tw_241 : Cond.methodLink "java/lang/Throwable" 1 ⟨"java/lang/Object", "<init>", "()V"⟩ ∈ TB := tb_t 241 rfl rfl
theorem tw_242 : Cond.fieldLink "java/lang/Throwable" 13 "java/lang/Throwable" "UNASSIGNED_STACK" "[Ljava/lang/StackTraceElement;" ∈ TB := tb_t 242 rfl rfl
theorem tn_243 : Cond.laysStatic "java/lang/Throwable" "UNASSIGNED_STACK" "[Ljava/lang/StackTraceElement;" ∈ lw_tbl := List.mem_append_right _ (List.mem_of_getElem? (i := 243) rfl)
theorem tw_244 : Cond.fieldLink "java/lang/Throwable" 20 "java/lang/Throwable" "SUPPRESSED_SENTINEL" "Ljava/util/List;" ∈ TB := tb_t 244 rfl rfl
theorem tn_245 : Cond.laysStatic "java/lang/Throwable" "SUPPRESSED_SENTINEL" "Ljava/util/List;" ∈ lw_tbl := List.mem_append_right _ (List.mem_of_getElem? (i := 245) rfl)
theorem tw_246 : Cond.methodLink "java/lang/Throwable" 27 ⟨"java/lang/Throwable", "fillInStackTrace", "()Ljava/lang/Throwable;"⟩ ∈ TB := tb_t 246 rfl rfl
theorem tw_247 : Cond.instanceMethod ⟨"java/lang/Throwable", "fillInStackTrace", "()Ljava/lang/Throwable;"⟩ ∈ TB := tb_t 247 rfl rfl
theorem tw_248 : Cond.sameMethod "java/lang/Throwable" "java/lang/Throwable" "fillInStackTrace" "()Ljava/lang/Throwable;" ∈ TB := tb_t 248 rfl rfl
theorem tw_249 : Cond.selects "java/lang/IllegalArgumentException" ⟨"java/lang/Throwable", "fillInStackTrace", "()Ljava/lang/Throwable;"⟩ ⟨"java/lang/Throwable", "fillInStackTrace", "()Ljava/lang/Throwable;"⟩ ∈ TB := tb_t 249 rfl rfl
theorem tw_250 : Cond.selects "java/lang/IllegalStateException" ⟨"java/lang/Throwable", "fillInStackTrace", "()Ljava/lang/Throwable;"⟩ ⟨"java/lang/Throwable", "fillInStackTrace", "()Ljava/lang/Throwable;"⟩ ∈ TB := tb_t 250 rfl rfl
theorem tw_251 : Cond.codeSync ⟨"java/lang/Throwable", "fillInStackTrace", "()Ljava/lang/Throwable;"⟩ prog_14_method_18_code 1 (Option.some (Jvm.ClassFile.FieldType.object "java/lang/Throwable")) ∈ TB := tb_t 251 rfl rfl
theorem tw_252 : Cond.methodLink "java/lang/Throwable" 202 ⟨"java/lang/Throwable", "fillInStackTrace", "(I)Ljava/lang/Throwable;"⟩ ∈ TB := tb_t 252 rfl rfl
theorem tw_254 : Cond.instanceMethod ⟨"java/lang/Throwable", "fillInStackTrace", "(I)Ljava/lang/Throwable;"⟩ ∈ TB := tb_t 254 rfl rfl
theorem tw_255 : Cond.instantiable "java/lang/Throwable" 6 ∈ TB := tb_t 255 rfl rfl
theorem tw_256 : Cond.native ⟨"java/lang/Throwable", "fillInStackTrace", "(I)Ljava/lang/Throwable;"⟩ ∈ TB := tb_t 256 rfl rfl
theorem tn_257 : Cond.stringRef "BoundedCodes" 150 "there is no such symbol" ∈ lw_tbl := List.mem_append_right _ (List.mem_of_getElem? (i := 257) rfl)
theorem tw_258 : Cond.methodLink "BoundedCodes" 152 ⟨"java/lang/IndexOutOfBoundsException", "<init>", "(Ljava/lang/String;)V"⟩ ∈ TB := tb_t 258 rfl rfl
theorem tw_259 : Cond.instanceMethod ⟨"java/lang/IndexOutOfBoundsException", "<init>", "(Ljava/lang/String;)V"⟩ ∈ TB := tb_t 259 rfl rfl
theorem tw_260 : Cond.code ⟨"java/lang/IndexOutOfBoundsException", "<init>", "(Ljava/lang/String;)V"⟩ prog_10_method_2_code 2 (Option.none : Option Jvm.ClassFile.FieldType) ∈ TB := tb_t 260 rfl rfl
theorem tw_261 : Cond.methodLink "java/lang/IndexOutOfBoundsException" 7 ⟨"java/lang/RuntimeException", "<init>", "(Ljava/lang/String;)V"⟩ ∈ TB := tb_t 261 rfl rfl
theorem tw_262 : Cond.instanceMethod ⟨"java/lang/RuntimeException", "<init>", "(Ljava/lang/String;)V"⟩ ∈ TB := tb_t 262 rfl rfl
theorem tw_263 : Cond.code ⟨"java/lang/RuntimeException", "<init>", "(Ljava/lang/String;)V"⟩ prog_12_method_2_code 2 (Option.none : Option Jvm.ClassFile.FieldType) ∈ TB := tb_t 263 rfl rfl
theorem tw_264 : Cond.methodLink "java/lang/RuntimeException" 7 ⟨"java/lang/Exception", "<init>", "(Ljava/lang/String;)V"⟩ ∈ TB := tb_t 264 rfl rfl
theorem tw_265 : Cond.instanceMethod ⟨"java/lang/Exception", "<init>", "(Ljava/lang/String;)V"⟩ ∈ TB := tb_t 265 rfl rfl
theorem tw_266 : Cond.code ⟨"java/lang/Exception", "<init>", "(Ljava/lang/String;)V"⟩ prog_7_method_2_code 2 (Option.none : Option Jvm.ClassFile.FieldType) ∈ TB := tb_t 266 rfl rfl
theorem tw_267 : Cond.methodLink "java/lang/Exception" 7 ⟨"java/lang/Throwable", "<init>", "(Ljava/lang/String;)V"⟩ ∈ TB := tb_t 267 rfl rfl
theorem tw_268 : Cond.instanceMethod ⟨"java/lang/Throwable", "<init>", "(Ljava/lang/String;)V"⟩ ∈ TB := tb_t 268 rfl rfl
theorem tw_269 : Cond.code ⟨"java/lang/Throwable", "<init>", "(Ljava/lang/String;)V"⟩ prog_14_method_2_code 2 (Option.none : Option Jvm.ClassFile.FieldType) ∈ TB := tb_t 269 rfl rfl
theorem tw_270 : Cond.fieldLink "java/lang/Throwable" 198 "java/lang/Throwable" "backtrace" "Ljava/lang/Object;" ∈ TB := tb_t 270 rfl rfl
theorem tw_271 : Cond.fieldLink "java/lang/Throwable" 31 "java/lang/Throwable" "detailMessage" "Ljava/lang/String;" ∈ TB := tb_t 271 rfl rfl
theorem tw_272 : Cond.fieldLink "java/lang/Throwable" 7 "java/lang/Throwable" "cause" "Ljava/lang/Throwable;" ∈ TB := tb_t 272 rfl rfl
theorem tw_273 : Cond.fieldLink "java/lang/Throwable" 17 "java/lang/Throwable" "stackTrace" "[Ljava/lang/StackTraceElement;" ∈ TB := tb_t 273 rfl rfl
theorem tw_274 : Cond.fieldLink "java/lang/Throwable" 24 "java/lang/Throwable" "suppressedExceptions" "Ljava/util/List;" ∈ TB := tb_t 274 rfl rfl
theorem tw_275 : Cond.soleField "java/lang/Throwable" "backtrace" ∈ TB := tb_t 275 rfl rfl
theorem tw_276 : Cond.soleField "java/lang/Throwable" "detailMessage" ∈ TB := tb_t 276 rfl rfl
theorem tw_277 : Cond.soleField "java/lang/Throwable" "cause" ∈ TB := tb_t 277 rfl rfl
theorem tw_278 : Cond.soleField "java/lang/Throwable" "stackTrace" ∈ TB := tb_t 278 rfl rfl
theorem tw_279 : Cond.lays "java/lang/IndexOutOfBoundsException" "java/lang/Throwable" "depth" "I" ∈ TB := tb_t 279 rfl rfl
theorem tw_280 : Cond.soleField "java/lang/Throwable" "depth" ∈ TB := tb_t 280 rfl rfl
theorem tw_281 : Cond.soleField "java/lang/Throwable" "suppressedExceptions" ∈ TB := tb_t 281 rfl rfl
theorem tw_282 : Cond.superclass "java/lang/IndexOutOfBoundsException" "java/lang/RuntimeException" ∈ TB := tb_t 282 rfl rfl
theorem tw_283 : Cond.arrayClass Jvm.ClassFile.FieldType.byte ∈ TB := tb_t 283 rfl rfl
theorem tw_284 : Cond.constantLong "BoundedCodes" 63 (1000000000 : Int64) ∈ TB := tb_t 284 rfl rfl
theorem tw_285 : Cond.classLink "BoundedCodes" 65 "java/lang/IllegalArgumentException" ∈ TB := tb_t 285 rfl rfl
theorem tw_286 : Cond.instantiable "java/lang/IllegalArgumentException" 6 ∈ TB := tb_t 286 rfl rfl
theorem tn_287 : Cond.castable "java/lang/IllegalArgumentException" "java/lang/IllegalArgumentException" ∈ lw_tbl := List.mem_append_right _ (List.mem_of_getElem? (i := 287) rfl)
theorem tw_288 : Cond.selects "java/lang/IllegalArgumentException" ⟨"java/lang/Throwable", "fillInStackTrace", "(I)Ljava/lang/Throwable;"⟩ ⟨"java/lang/Throwable", "fillInStackTrace", "(I)Ljava/lang/Throwable;"⟩ ∈ TB := tb_t 288 rfl rfl
theorem tw_289 : Cond.lays "java/lang/IllegalArgumentException" "java/lang/Throwable" "cause" "Ljava/lang/Throwable;" ∈ TB := tb_t 289 rfl rfl
theorem tw_290 : Cond.lays "java/lang/IllegalArgumentException" "java/lang/Throwable" "stackTrace" "[Ljava/lang/StackTraceElement;" ∈ TB := tb_t 290 rfl rfl
theorem tw_291 : Cond.lays "java/lang/IllegalArgumentException" "java/lang/Throwable" "suppressedExceptions" "Ljava/util/List;" ∈ TB := tb_t 291 rfl rfl
theorem tw_292 : Cond.lays "java/lang/IllegalArgumentException" "java/lang/Throwable" "detailMessage" "Ljava/lang/String;" ∈ TB := tb_t 292 rfl rfl
theorem tw_293 : Cond.lays "java/lang/IllegalArgumentException" "java/lang/Throwable" "backtrace" "Ljava/lang/Object;" ∈ TB := tb_t 293 rfl rfl
theorem tn_294 : Cond.stringRef "BoundedCodes" 67 "the count is not 0 .. 1000000000" ∈ lw_tbl := List.mem_append_right _ (List.mem_of_getElem? (i := 294) rfl)
theorem tw_295 : Cond.methodLink "BoundedCodes" 69 ⟨"java/lang/IllegalArgumentException", "<init>", "(Ljava/lang/String;)V"⟩ ∈ TB := tb_t 295 rfl rfl
theorem tw_296 : Cond.instanceMethod ⟨"java/lang/IllegalArgumentException", "<init>", "(Ljava/lang/String;)V"⟩ ∈ TB := tb_t 296 rfl rfl
theorem tw_297 : Cond.code ⟨"java/lang/IllegalArgumentException", "<init>", "(Ljava/lang/String;)V"⟩ prog_8_method_2_code 2 (Option.none : Option Jvm.ClassFile.FieldType) ∈ TB := tb_t 297 rfl rfl
theorem tw_298 : Cond.methodLink "java/lang/IllegalArgumentException" 7 ⟨"java/lang/RuntimeException", "<init>", "(Ljava/lang/String;)V"⟩ ∈ TB := tb_t 298 rfl rfl
theorem tw_299 : Cond.lays "java/lang/IllegalArgumentException" "java/lang/Throwable" "depth" "I" ∈ TB := tb_t 299 rfl rfl
theorem tw_300 : Cond.superclass "java/lang/IllegalArgumentException" "java/lang/RuntimeException" ∈ TB := tb_t 300 rfl rfl
theorem tw_301 : Cond.methodLink "BoundedCodesLaw" 71 y_L_make ∈ TB := tb_t 301 rfl rfl
theorem tw_302 : Cond.static y_L_make ∈ TB := tb_t 302 rfl rfl
theorem tw_303 : k_L_make ∈ TB := tb_t 303 rfl rfl
theorem tw_304 : Cond.methodLink "BoundedCodesLaw" 17 y_B_make ∈ TB := tb_t 304 rfl rfl
theorem tw_305 : Cond.instanceMethod y_B_make ∈ TB := tb_t 305 rfl rfl
theorem tw_306 : Cond.selects "BoundedCodes" y_B_make y_B_make ∈ TB := tb_t 306 rfl rfl
theorem tw_307 : k_B_make ∈ TB := tb_t 307 rfl rfl
theorem tn_308 : Cond.stringRef "BoundedCodes" 72 "the most is not 1 .. 16" ∈ lw_tbl := List.mem_append_right _ (List.mem_of_getElem? (i := 308) rfl)
theorem tw_309 : Cond.methodLink "BoundedCodes" 74 y_K_sortSymbols ∈ TB := tb_t 309 rfl rfl
theorem tw_310 : Cond.instanceMethod y_K_sortSymbols ∈ TB := tb_t 310 rfl rfl
theorem tw_311 : Cond.selects "BoundedCodes$Making" y_K_sortSymbols y_K_sortSymbols ∈ TB := tb_t 311 rfl rfl
theorem tw_312 : k_K_sortSymbols ∈ TB := tb_t 312 rfl rfl
theorem tw_313 : Cond.methodLink "BoundedCodes$Making" 34 y_K_insert ∈ TB := tb_t 313 rfl rfl
theorem tw_315 : Cond.instanceMethod y_K_insert ∈ TB := tb_t 315 rfl rfl
theorem tw_316 : k_K_insert ∈ TB := tb_t 316 rfl rfl
theorem tw_317 : Cond.methodLink "BoundedCodes" 81 y_K_makeLengths ∈ TB := tb_t 317 rfl rfl
theorem tw_318 : Cond.instanceMethod y_K_makeLengths ∈ TB := tb_t 318 rfl rfl
theorem tw_319 : Cond.selects "BoundedCodes$Making" y_K_makeLengths y_K_makeLengths ∈ TB := tb_t 319 rfl rfl
theorem tw_320 : k_K_makeLengths ∈ TB := tb_t 320 rfl rfl
theorem tw_321 : Cond.methodLink "BoundedCodes$Making" 38 y_K_buildRow ∈ TB := tb_t 321 rfl rfl
theorem tw_323 : Cond.instanceMethod y_K_buildRow ∈ TB := tb_t 323 rfl rfl
theorem tw_324 : k_K_buildRow ∈ TB := tb_t 324 rfl rfl
theorem tw_325 : Cond.constantLong "BoundedCodes$Making" 47 (9223372036854775807 : Int64) ∈ TB := tb_t 325 rfl rfl
theorem tw_326 : Cond.methodLink "BoundedCodes$Making" 41 y_K_countTaken ∈ TB := tb_t 326 rfl rfl
theorem tw_328 : Cond.instanceMethod y_K_countTaken ∈ TB := tb_t 328 rfl rfl
theorem tw_329 : k_K_countTaken ∈ TB := tb_t 329 rfl rfl
theorem tw_330 : Cond.methodLink "BoundedCodesLaw" 75 y_L_length ∈ TB := tb_t 330 rfl rfl
theorem tw_331 : Cond.static y_L_length ∈ TB := tb_t 331 rfl rfl
theorem tw_332 : k_L_length ∈ TB := tb_t 332 rfl rfl
theorem tw_333 : Cond.methodLink "BoundedCodesLaw" 21 y_B_length ∈ TB := tb_t 333 rfl rfl
theorem tw_334 : Cond.instanceMethod y_B_length ∈ TB := tb_t 334 rfl rfl
theorem tw_335 : Cond.selects "BoundedCodes" y_B_length y_B_length ∈ TB := tb_t 335 rfl rfl
theorem tw_336 : k_B_length ∈ TB := tb_t 336 rfl rfl
theorem tw_337 : Cond.methodLink "BoundedCodesLaw" 78 y_L_code ∈ TB := tb_t 337 rfl rfl
theorem tw_338 : Cond.static y_L_code ∈ TB := tb_t 338 rfl rfl
theorem tw_339 : k_L_code ∈ TB := tb_t 339 rfl rfl
theorem tw_340 : Cond.classLink "BoundedCodesLaw" 28 "java/lang/IllegalStateException" ∈ TB := tb_t 340 rfl rfl
theorem tw_341 : Cond.methodLink "BoundedCodesLaw" 24 y_B_code ∈ TB := tb_t 341 rfl rfl
theorem tw_342 : Cond.instanceMethod y_B_code ∈ TB := tb_t 342 rfl rfl
theorem tw_343 : Cond.selects "BoundedCodes" y_B_code y_B_code ∈ TB := tb_t 343 rfl rfl
theorem tw_344 : k_B_code ∈ TB := tb_t 344 rfl rfl
theorem tw_345 : Cond.methodLink "BoundedCodes" 88 y_B_needCodes ∈ TB := tb_t 345 rfl rfl
theorem tw_347 : Cond.instanceMethod y_B_needCodes ∈ TB := tb_t 347 rfl rfl
theorem tw_348 : k_B_needCodes ∈ TB := tb_t 348 rfl rfl
theorem tw_349 : Cond.classLink "BoundedCodes" 153 "java/lang/IllegalStateException" ∈ TB := tb_t 349 rfl rfl
theorem tw_350 : Cond.instantiable "java/lang/IllegalStateException" 6 ∈ TB := tb_t 350 rfl rfl
set_option maxRecDepth 10000 in
theorem tn_351 : Cond.castable "java/lang/IllegalStateException" "java/lang/IllegalStateException" ∈ lw_tbl := List.mem_append_right _ (List.mem_of_getElem? (i := 351) rfl)
set_option maxRecDepth 10000 in
theorem tw_352 : Cond.selects "java/lang/IllegalStateException" ⟨"java/lang/Throwable", "fillInStackTrace", "(I)Ljava/lang/Throwable;"⟩ ⟨"java/lang/Throwable", "fillInStackTrace", "(I)Ljava/lang/Throwable;"⟩ ∈ TB := tb_t 352 rfl rfl
set_option maxRecDepth 10000 in
theorem tw_353 : Cond.lays "java/lang/IllegalStateException" "java/lang/Throwable" "cause" "Ljava/lang/Throwable;" ∈ TB := tb_t 353 rfl rfl
set_option maxRecDepth 10000 in
theorem tw_354 : Cond.lays "java/lang/IllegalStateException" "java/lang/Throwable" "stackTrace" "[Ljava/lang/StackTraceElement;" ∈ TB := tb_t 354 rfl rfl
set_option maxRecDepth 10000 in
theorem tw_355 : Cond.lays "java/lang/IllegalStateException" "java/lang/Throwable" "suppressedExceptions" "Ljava/util/List;" ∈ TB := tb_t 355 rfl rfl
set_option maxRecDepth 10000 in
theorem tw_356 : Cond.lays "java/lang/IllegalStateException" "java/lang/Throwable" "detailMessage" "Ljava/lang/String;" ∈ TB := tb_t 356 rfl rfl
set_option maxRecDepth 10000 in
theorem tw_357 : Cond.lays "java/lang/IllegalStateException" "java/lang/Throwable" "backtrace" "Ljava/lang/Object;" ∈ TB := tb_t 357 rfl rfl
set_option maxRecDepth 10000 in
theorem tn_358 : Cond.stringRef "BoundedCodes" 155 "the table is over-full" ∈ lw_tbl := List.mem_append_right _ (List.mem_of_getElem? (i := 358) rfl)
set_option maxRecDepth 10000 in
theorem tw_359 : Cond.methodLink "BoundedCodes" 157 ⟨"java/lang/IllegalStateException", "<init>", "(Ljava/lang/String;)V"⟩ ∈ TB := tb_t 359 rfl rfl
set_option maxRecDepth 10000 in
theorem tw_360 : Cond.instanceMethod ⟨"java/lang/IllegalStateException", "<init>", "(Ljava/lang/String;)V"⟩ ∈ TB := tb_t 360 rfl rfl
set_option maxRecDepth 10000 in
theorem tw_361 : Cond.code ⟨"java/lang/IllegalStateException", "<init>", "(Ljava/lang/String;)V"⟩ prog_9_method_2_code 2 (Option.none : Option Jvm.ClassFile.FieldType) ∈ TB := tb_t 361 rfl rfl
set_option maxRecDepth 10000 in
theorem tw_362 : Cond.methodLink "java/lang/IllegalStateException" 7 ⟨"java/lang/RuntimeException", "<init>", "(Ljava/lang/String;)V"⟩ ∈ TB := tb_t 362 rfl rfl
set_option maxRecDepth 10000 in
theorem tw_363 : Cond.lays "java/lang/IllegalStateException" "java/lang/Throwable" "depth" "I" ∈ TB := tb_t 363 rfl rfl
set_option maxRecDepth 10000 in
theorem tw_364 : Cond.superclass "java/lang/IllegalStateException" "java/lang/RuntimeException" ∈ TB := tb_t 364 rfl rfl
set_option maxRecDepth 10000 in
theorem tw_365 : Cond.constantLong "BoundedCodes" 91 (-1 : Int64) ∈ TB := tb_t 365 rfl rfl
set_option maxRecDepth 10000 in
theorem tw_366 : Cond.methodLink "BoundedCodesLaw" 81 y_L_given ∈ TB := tb_t 366 rfl rfl
set_option maxRecDepth 10000 in
theorem tw_367 : Cond.static y_L_given ∈ TB := tb_t 367 rfl rfl
set_option maxRecDepth 10000 in
theorem tw_368 : k_L_given ∈ TB := tb_t 368 rfl rfl
set_option maxRecDepth 10000 in
theorem tw_369 : Cond.methodLink "BoundedCodesLaw" 30 y_B_given ∈ TB := tb_t 369 rfl rfl
set_option maxRecDepth 10000 in
theorem tw_370 : Cond.instanceMethod y_B_given ∈ TB := tb_t 370 rfl rfl
set_option maxRecDepth 10000 in
theorem tw_371 : Cond.selects "BoundedCodes" y_B_given y_B_given ∈ TB := tb_t 371 rfl rfl
set_option maxRecDepth 10000 in
theorem tw_372 : k_B_given ∈ TB := tb_t 372 rfl rfl
set_option maxRecDepth 10000 in
theorem tn_373 : Cond.stringRef "BoundedCodes" 96 "the length is not 0 .. 16" ∈ lw_tbl := List.mem_append_right _ (List.mem_of_getElem? (i := 373) rfl)
set_option maxRecDepth 10000 in
theorem tw_374 : Cond.methodLink "BoundedCodes" 101 y_B_tellLength ∈ TB := tb_t 374 rfl rfl
set_option maxRecDepth 10000 in
theorem tw_376 : Cond.instanceMethod y_B_tellLength ∈ TB := tb_t 376 rfl rfl
set_option maxRecDepth 10000 in
theorem tw_377 : k_B_tellLength ∈ TB := tb_t 377 rfl rfl
set_option maxRecDepth 10000 in
theorem tw_378 : Cond.methodLink "BoundedCodesLaw" 85 y_L_range ∈ TB := tb_t 378 rfl rfl
set_option maxRecDepth 10000 in
theorem tw_379 : Cond.static y_L_range ∈ TB := tb_t 379 rfl rfl
set_option maxRecDepth 10000 in
theorem tw_380 : k_L_range ∈ TB := tb_t 380 rfl rfl
set_option maxRecDepth 10000 in
theorem tw_381 : Cond.methodLink "BoundedCodesLaw" 34 y_B_range ∈ TB := tb_t 381 rfl rfl
set_option maxRecDepth 10000 in
theorem tw_382 : Cond.instanceMethod y_B_range ∈ TB := tb_t 382 rfl rfl
set_option maxRecDepth 10000 in
theorem tw_383 : Cond.selects "BoundedCodes" y_B_range y_B_range ∈ TB := tb_t 383 rfl rfl
set_option maxRecDepth 10000 in
theorem tw_384 : k_B_range ∈ TB := tb_t 384 rfl rfl
set_option maxRecDepth 10000 in
theorem tn_385 : Cond.stringRef "BoundedCodes" 105 "the length is not 1 .. 16" ∈ lw_tbl := List.mem_append_right _ (List.mem_of_getElem? (i := 385) rfl)
set_option maxRecDepth 10000 in
theorem tn_386 : Cond.stringRef "BoundedCodes" 107 "the extra bits are not -32 .. 32" ∈ lw_tbl := List.mem_append_right _ (List.mem_of_getElem? (i := 386) rfl)
set_option maxRecDepth 10000 in
theorem tw_387 : Cond.methodLink "BoundedCodesLaw" 93 y_L_feed ∈ TB := tb_t 387 rfl rfl
set_option maxRecDepth 10000 in
theorem tw_388 : Cond.static y_L_feed ∈ TB := tb_t 388 rfl rfl
set_option maxRecDepth 10000 in
theorem tw_389 : k_L_feed ∈ TB := tb_t 389 rfl rfl
set_option maxRecDepth 10000 in
theorem tw_390 : Cond.methodLink "BoundedCodesLaw" 38 y_B_feed ∈ TB := tb_t 390 rfl rfl
set_option maxRecDepth 10000 in
theorem tw_391 : Cond.instanceMethod y_B_feed ∈ TB := tb_t 391 rfl rfl
set_option maxRecDepth 10000 in
theorem tw_392 : Cond.selects "BoundedCodes" y_B_feed y_B_feed ∈ TB := tb_t 392 rfl rfl
set_option maxRecDepth 10000 in
theorem tw_393 : k_B_feed ∈ TB := tb_t 393 rfl rfl
set_option maxRecDepth 10000 in
theorem tn_394 : Cond.stringRef "BoundedCodes" 113 "the bit is not 0 or 1" ∈ lw_tbl := List.mem_append_right _ (List.mem_of_getElem? (i := 394) rfl)
set_option maxRecDepth 10000 in
theorem tw_395 : Cond.methodLink "BoundedCodes" 115 y_G_append ∈ TB := tb_t 395 rfl rfl
set_option maxRecDepth 10000 in
theorem tw_396 : Cond.instanceMethod y_G_append ∈ TB := tb_t 396 rfl rfl
set_option maxRecDepth 10000 in
theorem tw_397 : Cond.selects "BoundedCodes$WaitingBits" y_G_append y_G_append ∈ TB := tb_t 397 rfl rfl
set_option maxRecDepth 10000 in
theorem tw_398 : k_G_append ∈ TB := tb_t 398 rfl rfl
set_option maxRecDepth 10000 in
theorem tw_399 : Cond.methodLink "BoundedCodesLaw" 96 y_L_read ∈ TB := tb_t 399 rfl rfl
set_option maxRecDepth 10000 in
theorem tw_400 : Cond.static y_L_read ∈ TB := tb_t 400 rfl rfl
set_option maxRecDepth 10000 in
theorem tw_401 : k_L_read ∈ TB := tb_t 401 rfl rfl
set_option maxRecDepth 10000 in
theorem tw_402 : Cond.methodLink "BoundedCodesLaw" 42 y_B_read ∈ TB := tb_t 402 rfl rfl
set_option maxRecDepth 10000 in
theorem tw_403 : Cond.instanceMethod y_B_read ∈ TB := tb_t 403 rfl rfl
set_option maxRecDepth 10000 in
theorem tw_404 : Cond.selects "BoundedCodes" y_B_read y_B_read ∈ TB := tb_t 404 rfl rfl
set_option maxRecDepth 10000 in
theorem tw_405 : k_B_read ∈ TB := tb_t 405 rfl rfl
set_option maxRecDepth 10000 in
theorem tw_406 : Cond.methodLink "BoundedCodes" 123 y_G_number ∈ TB := tb_t 406 rfl rfl
set_option maxRecDepth 10000 in
theorem tw_407 : Cond.instanceMethod y_G_number ∈ TB := tb_t 407 rfl rfl
set_option maxRecDepth 10000 in
theorem tw_408 : Cond.selects "BoundedCodes$WaitingBits" y_G_number y_G_number ∈ TB := tb_t 408 rfl rfl
set_option maxRecDepth 10000 in
theorem tw_409 : k_G_number ∈ TB := tb_t 409 rfl rfl
set_option maxRecDepth 10000 in
theorem tw_410 : Cond.constantLong "BoundedCodes$WaitingBits" 22 (2 : Int64) ∈ TB := tb_t 410 rfl rfl
set_option maxRecDepth 10000 in
theorem tw_411 : Cond.methodLink "BoundedCodes" 127 y_T_symbolBegunBy ∈ TB := tb_t 411 rfl rfl
set_option maxRecDepth 10000 in
theorem tw_412 : Cond.instanceMethod y_T_symbolBegunBy ∈ TB := tb_t 412 rfl rfl
set_option maxRecDepth 10000 in
theorem tw_413 : Cond.selects "BoundedCodes$Table" y_T_symbolBegunBy y_T_symbolBegunBy ∈ TB := tb_t 413 rfl rfl
set_option maxRecDepth 10000 in
theorem tw_414 : k_T_symbolBegunBy ∈ TB := tb_t 414 rfl rfl
set_option maxRecDepth 10000 in
theorem tw_415 : Cond.methodLink "BoundedCodes" 133 y_B_takeSymbol ∈ TB := tb_t 415 rfl rfl
set_option maxRecDepth 10000 in
theorem tw_417 : Cond.instanceMethod y_B_takeSymbol ∈ TB := tb_t 417 rfl rfl
set_option maxRecDepth 10000 in
theorem tw_418 : k_B_takeSymbol ∈ TB := tb_t 418 rfl rfl
set_option maxRecDepth 10000 in
theorem tw_419 : Cond.methodLink "BoundedCodes" 158 ⟨"java/lang/Math", "abs", "(I)I"⟩ ∈ TB := tb_t 419 rfl rfl
set_option maxRecDepth 10000 in
theorem tw_420 : Cond.static ⟨"java/lang/Math", "abs", "(I)I"⟩ ∈ TB := tb_t 420 rfl rfl
set_option maxRecDepth 10000 in
theorem tw_421 : Cond.code ⟨"java/lang/Math", "abs", "(I)I"⟩ prog_11_method_59_code 1 (Option.some Jvm.ClassFile.FieldType.int) ∈ TB := tb_t 421 rfl rfl
set_option maxRecDepth 10000 in
theorem tw_422 : Cond.methodLink "BoundedCodesLaw" 100 y_L_last ∈ TB := tb_t 422 rfl rfl
set_option maxRecDepth 10000 in
theorem tw_423 : Cond.static y_L_last ∈ TB := tb_t 423 rfl rfl
set_option maxRecDepth 10000 in
theorem tw_424 : k_L_last ∈ TB := tb_t 424 rfl rfl
set_option maxRecDepth 10000 in
theorem tw_425 : Cond.methodLink "BoundedCodesLaw" 46 y_B_last ∈ TB := tb_t 425 rfl rfl
set_option maxRecDepth 10000 in
theorem tw_426 : Cond.instanceMethod y_B_last ∈ TB := tb_t 426 rfl rfl
set_option maxRecDepth 10000 in
theorem tw_427 : Cond.selects "BoundedCodes" y_B_last y_B_last ∈ TB := tb_t 427 rfl rfl
set_option maxRecDepth 10000 in
theorem tw_428 : k_B_last ∈ TB := tb_t 428 rfl rfl
set_option maxRecDepth 10000 in
theorem tn_429 : Cond.stringRef "BoundedCodes" 137 "no symbol was read" ∈ lw_tbl := List.mem_append_right _ (List.mem_of_getElem? (i := 429) rfl)
set_option maxRecDepth 10000 in
theorem tw_430 : Cond.classLink "BoundedCodesLaw" 59 "BoundedCodesModel" ∈ TB := tb_t 430 rfl rfl
set_option maxRecDepth 10000 in
theorem tw_431 : Cond.instantiable "BoundedCodesModel" 17 ∈ TB := tb_t 431 rfl rfl
set_option maxRecDepth 10000 in
theorem tw_432 : Cond.methodLink "BoundedCodesLaw" 61 y_M_init ∈ TB := tb_t 432 rfl rfl
set_option maxRecDepth 10000 in
theorem tw_433 : Cond.instanceMethod y_M_init ∈ TB := tb_t 433 rfl rfl
set_option maxRecDepth 10000 in
theorem tw_434 : k_M_init ∈ TB := tb_t 434 rfl rfl
set_option maxRecDepth 10000 in
theorem tw_435 : Cond.methodLink "BoundedCodesModel" 1 ⟨"java/lang/Object", "<init>", "()V"⟩ ∈ TB := tb_t 435 rfl rfl
set_option maxRecDepth 10000 in
theorem tw_436 : Cond.fieldLink "BoundedCodesModel" 52 "BoundedCodesModel" "code" "I" ∈ TB := tb_t 436 rfl rfl
set_option maxRecDepth 10000 in
theorem tw_437 : Cond.fieldLink "BoundedCodesModel" 48 "BoundedCodesModel" "rule" "I" ∈ TB := tb_t 437 rfl rfl
set_option maxRecDepth 10000 in
theorem tw_438 : Cond.fieldLink "BoundedCodesModel" 7 "BoundedCodesModel" "count" "[J" ∈ TB := tb_t 438 rfl rfl
set_option maxRecDepth 10000 in
theorem tw_439 : Cond.fieldLink "BoundedCodesModel" 13 "BoundedCodesModel" "length" "[I" ∈ TB := tb_t 439 rfl rfl
set_option maxRecDepth 10000 in
theorem tw_440 : Cond.fieldLink "BoundedCodesModel" 17 "BoundedCodesModel" "ranged" "[Z" ∈ TB := tb_t 440 rfl rfl
set_option maxRecDepth 10000 in
theorem tw_441 : Cond.fieldLink "BoundedCodesModel" 21 "BoundedCodesModel" "low" "[I" ∈ TB := tb_t 441 rfl rfl
set_option maxRecDepth 10000 in
theorem tw_442 : Cond.fieldLink "BoundedCodesModel" 24 "BoundedCodesModel" "extra" "[I" ∈ TB := tb_t 442 rfl rfl
set_option maxRecDepth 10000 in
theorem tw_443 : Cond.fieldLink "BoundedCodesModel" 27 "BoundedCodesModel" "bits" "[I" ∈ TB := tb_t 443 rfl rfl
set_option maxRecDepth 10000 in
theorem tw_444 : Cond.fieldLink "BoundedCodesModel" 82 "BoundedCodesModel" "waits" "I" ∈ TB := tb_t 444 rfl rfl
set_option maxRecDepth 10000 in
theorem tw_445 : Cond.fieldLink "BoundedCodesModel" 99 "BoundedCodesModel" "wasRead" "Z" ∈ TB := tb_t 445 rfl rfl
set_option maxRecDepth 10000 in
theorem tw_446 : Cond.fieldLink "BoundedCodesModel" 103 "BoundedCodesModel" "value" "J" ∈ TB := tb_t 446 rfl rfl
set_option maxRecDepth 10000 in
theorem tw_447 : Cond.fieldLink "BoundedCodesModel" 30 "BoundedCodesModel" "order" "[I" ∈ TB := tb_t 447 rfl rfl
set_option maxRecDepth 10000 in
theorem tw_448 : Cond.fieldLink "BoundedCodesModel" 33 "BoundedCodesModel" "row" "[I" ∈ TB := tb_t 448 rfl rfl
set_option maxRecDepth 10000 in
theorem tw_449 : Cond.fieldLink "BoundedCodesModel" 36 "BoundedCodesModel" "size" "[I" ∈ TB := tb_t 449 rfl rfl
set_option maxRecDepth 10000 in
theorem tw_450 : Cond.fieldLink "BoundedCodesModel" 39 "BoundedCodesModel" "sum" "[J" ∈ TB := tb_t 450 rfl rfl
set_option maxRecDepth 10000 in
theorem tw_451 : Cond.fieldLink "BoundedCodesModel" 42 "BoundedCodesModel" "before" "[J" ∈ TB := tb_t 451 rfl rfl
set_option maxRecDepth 10000 in
theorem tw_452 : Cond.fieldLink "BoundedCodesModel" 45 "BoundedCodesModel" "codes" "[I" ∈ TB := tb_t 452 rfl rfl
set_option maxRecDepth 10000 in
theorem tw_453 : Cond.lays "BoundedCodesModel" "BoundedCodesModel" "code" "I" ∈ TB := tb_t 453 rfl rfl
set_option maxRecDepth 10000 in
theorem tw_454 : Cond.soleField "BoundedCodesModel" "code" ∈ TB := tb_t 454 rfl rfl
set_option maxRecDepth 10000 in
theorem tw_455 : Cond.laysFinal "BoundedCodesModel" "BoundedCodesModel" "rule" "I" ∈ TB := tb_t 455 rfl rfl
set_option maxRecDepth 10000 in
theorem tw_456 : Cond.soleField "BoundedCodesModel" "rule" ∈ TB := tb_t 456 rfl rfl
set_option maxRecDepth 10000 in
theorem tw_457 : Cond.laysFinal "BoundedCodesModel" "BoundedCodesModel" "count" "[J" ∈ TB := tb_t 457 rfl rfl
set_option maxRecDepth 10000 in
theorem tw_458 : Cond.soleField "BoundedCodesModel" "count" ∈ TB := tb_t 458 rfl rfl
set_option maxRecDepth 10000 in
theorem tw_459 : Cond.laysFinal "BoundedCodesModel" "BoundedCodesModel" "length" "[I" ∈ TB := tb_t 459 rfl rfl
set_option maxRecDepth 10000 in
theorem tw_460 : Cond.soleField "BoundedCodesModel" "length" ∈ TB := tb_t 460 rfl rfl
set_option maxRecDepth 10000 in
theorem tw_461 : Cond.laysFinal "BoundedCodesModel" "BoundedCodesModel" "ranged" "[Z" ∈ TB := tb_t 461 rfl rfl
set_option maxRecDepth 10000 in
theorem tw_462 : Cond.soleField "BoundedCodesModel" "ranged" ∈ TB := tb_t 462 rfl rfl
set_option maxRecDepth 10000 in
theorem tw_463 : Cond.laysFinal "BoundedCodesModel" "BoundedCodesModel" "low" "[I" ∈ TB := tb_t 463 rfl rfl
set_option maxRecDepth 10000 in
theorem tw_464 : Cond.soleField "BoundedCodesModel" "low" ∈ TB := tb_t 464 rfl rfl
set_option maxRecDepth 10000 in
theorem tw_465 : Cond.laysFinal "BoundedCodesModel" "BoundedCodesModel" "extra" "[I" ∈ TB := tb_t 465 rfl rfl
set_option maxRecDepth 10000 in
theorem tw_466 : Cond.soleField "BoundedCodesModel" "extra" ∈ TB := tb_t 466 rfl rfl
set_option maxRecDepth 10000 in
theorem tw_467 : Cond.laysFinal "BoundedCodesModel" "BoundedCodesModel" "bits" "[I" ∈ TB := tb_t 467 rfl rfl
set_option maxRecDepth 10000 in
theorem tw_468 : Cond.soleField "BoundedCodesModel" "bits" ∈ TB := tb_t 468 rfl rfl
set_option maxRecDepth 10000 in
theorem tw_469 : Cond.lays "BoundedCodesModel" "BoundedCodesModel" "waits" "I" ∈ TB := tb_t 469 rfl rfl
set_option maxRecDepth 10000 in
theorem tw_470 : Cond.soleField "BoundedCodesModel" "waits" ∈ TB := tb_t 470 rfl rfl
set_option maxRecDepth 10000 in
theorem tw_471 : Cond.lays "BoundedCodesModel" "BoundedCodesModel" "wasRead" "Z" ∈ TB := tb_t 471 rfl rfl
set_option maxRecDepth 10000 in
theorem tw_472 : Cond.soleField "BoundedCodesModel" "wasRead" ∈ TB := tb_t 472 rfl rfl
set_option maxRecDepth 10000 in
theorem tw_473 : Cond.lays "BoundedCodesModel" "BoundedCodesModel" "value" "J" ∈ TB := tb_t 473 rfl rfl
set_option maxRecDepth 10000 in
theorem tw_474 : Cond.soleField "BoundedCodesModel" "value" ∈ TB := tb_t 474 rfl rfl
set_option maxRecDepth 10000 in
theorem tw_475 : Cond.laysFinal "BoundedCodesModel" "BoundedCodesModel" "order" "[I" ∈ TB := tb_t 475 rfl rfl
set_option maxRecDepth 10000 in
theorem tw_476 : Cond.soleField "BoundedCodesModel" "order" ∈ TB := tb_t 476 rfl rfl
set_option maxRecDepth 10000 in
theorem tw_477 : Cond.laysFinal "BoundedCodesModel" "BoundedCodesModel" "row" "[I" ∈ TB := tb_t 477 rfl rfl
set_option maxRecDepth 10000 in
theorem tw_478 : Cond.soleField "BoundedCodesModel" "row" ∈ TB := tb_t 478 rfl rfl
set_option maxRecDepth 10000 in
theorem tw_479 : Cond.laysFinal "BoundedCodesModel" "BoundedCodesModel" "size" "[I" ∈ TB := tb_t 479 rfl rfl
set_option maxRecDepth 10000 in
theorem tw_480 : Cond.soleField "BoundedCodesModel" "size" ∈ TB := tb_t 480 rfl rfl
set_option maxRecDepth 10000 in
theorem tw_481 : Cond.laysFinal "BoundedCodesModel" "BoundedCodesModel" "sum" "[J" ∈ TB := tb_t 481 rfl rfl
set_option maxRecDepth 10000 in
theorem tw_482 : Cond.soleField "BoundedCodesModel" "sum" ∈ TB := tb_t 482 rfl rfl
set_option maxRecDepth 10000 in
theorem tw_483 : Cond.laysFinal "BoundedCodesModel" "BoundedCodesModel" "before" "[J" ∈ TB := tb_t 483 rfl rfl
set_option maxRecDepth 10000 in
theorem tw_484 : Cond.soleField "BoundedCodesModel" "before" ∈ TB := tb_t 484 rfl rfl
set_option maxRecDepth 10000 in
theorem tw_485 : Cond.laysFinal "BoundedCodesModel" "BoundedCodesModel" "codes" "[I" ∈ TB := tb_t 485 rfl rfl
set_option maxRecDepth 10000 in
theorem tw_486 : Cond.soleField "BoundedCodesModel" "codes" ∈ TB := tb_t 486 rfl rfl
set_option maxRecDepth 10000 in
theorem tw_487 : Cond.superclass "BoundedCodesModel" "java/lang/Object" ∈ TB := tb_t 487 rfl rfl
set_option maxRecDepth 10000 in
theorem tw_488 : Cond.arrayClass Jvm.ClassFile.FieldType.boolean ∈ TB := tb_t 488 rfl rfl
set_option maxRecDepth 10000 in
theorem tw_489 : Cond.methodLink "BoundedCodesLaw" 68 y_M_thrown ∈ TB := tb_t 489 rfl rfl
set_option maxRecDepth 10000 in
theorem tw_490 : Cond.instanceMethod y_M_thrown ∈ TB := tb_t 490 rfl rfl
set_option maxRecDepth 10000 in
theorem tw_491 : Cond.selects "BoundedCodesModel" y_M_thrown y_M_thrown ∈ TB := tb_t 491 rfl rfl
set_option maxRecDepth 10000 in
theorem tw_492 : k_M_thrown ∈ TB := tb_t 492 rfl rfl
set_option maxRecDepth 10000 in
theorem tw_493 : Cond.methodLink "BoundedCodesLaw" 67 y_M_count ∈ TB := tb_t 493 rfl rfl
set_option maxRecDepth 10000 in
theorem tw_494 : Cond.instanceMethod y_M_count ∈ TB := tb_t 494 rfl rfl
set_option maxRecDepth 10000 in
theorem tw_495 : Cond.selects "BoundedCodesModel" y_M_count y_M_count ∈ TB := tb_t 495 rfl rfl
set_option maxRecDepth 10000 in
theorem tw_496 : k_M_count ∈ TB := tb_t 496 rfl rfl
set_option maxRecDepth 10000 in
theorem tw_497 : Cond.methodLink "BoundedCodesModel" 55 y_M_isSymbol ∈ TB := tb_t 497 rfl rfl
set_option maxRecDepth 10000 in
theorem tw_498 : Cond.static y_M_isSymbol ∈ TB := tb_t 498 rfl rfl
set_option maxRecDepth 10000 in
theorem tw_499 : k_M_isSymbol ∈ TB := tb_t 499 rfl rfl
set_option maxRecDepth 10000 in
theorem tw_500 : Cond.constantLong "BoundedCodesModel" 59 (1000000000 : Int64) ∈ TB := tb_t 500 rfl rfl
set_option maxRecDepth 10000 in
theorem tw_501 : Cond.methodLink "BoundedCodesModel" 61 y_M_fails ∈ TB := tb_t 501 rfl rfl
set_option maxRecDepth 10000 in
theorem tw_503 : Cond.instanceMethod y_M_fails ∈ TB := tb_t 503 rfl rfl
set_option maxRecDepth 10000 in
theorem tw_504 : k_M_fails ∈ TB := tb_t 504 rfl rfl
set_option maxRecDepth 10000 in
theorem tw_505 : Cond.methodLink "BoundedCodesLaw" 74 y_M_make ∈ TB := tb_t 505 rfl rfl
set_option maxRecDepth 10000 in
theorem tw_506 : Cond.instanceMethod y_M_make ∈ TB := tb_t 506 rfl rfl
set_option maxRecDepth 10000 in
theorem tw_507 : Cond.selects "BoundedCodesModel" y_M_make y_M_make ∈ TB := tb_t 507 rfl rfl
set_option maxRecDepth 10000 in
theorem tw_508 : k_M_make ∈ TB := tb_t 508 rfl rfl
set_option maxRecDepth 10000 in
theorem tw_509 : Cond.methodLink "BoundedCodesModel" 65 y_M_sort ∈ TB := tb_t 509 rfl rfl
set_option maxRecDepth 10000 in
theorem tw_511 : Cond.instanceMethod y_M_sort ∈ TB := tb_t 511 rfl rfl
set_option maxRecDepth 10000 in
theorem tw_512 : k_M_sort ∈ TB := tb_t 512 rfl rfl
set_option maxRecDepth 10000 in
theorem tw_513 : Cond.methodLink "BoundedCodesModel" 69 y_M_pack ∈ TB := tb_t 513 rfl rfl
set_option maxRecDepth 10000 in
theorem tw_515 : Cond.instanceMethod y_M_pack ∈ TB := tb_t 515 rfl rfl
set_option maxRecDepth 10000 in
theorem tw_516 : k_M_pack ∈ TB := tb_t 516 rfl rfl
set_option maxRecDepth 10000 in
theorem tw_517 : Cond.methodLink "BoundedCodesLaw" 77 y_M_length ∈ TB := tb_t 517 rfl rfl
set_option maxRecDepth 10000 in
theorem tw_518 : Cond.instanceMethod y_M_length ∈ TB := tb_t 518 rfl rfl
set_option maxRecDepth 10000 in
theorem tw_519 : Cond.selects "BoundedCodesModel" y_M_length y_M_length ∈ TB := tb_t 519 rfl rfl
set_option maxRecDepth 10000 in
theorem tw_520 : k_M_length ∈ TB := tb_t 520 rfl rfl
set_option maxRecDepth 10000 in
theorem tw_521 : Cond.methodLink "BoundedCodesLaw" 92 y_M_check ∈ TB := tb_t 521 rfl rfl
set_option maxRecDepth 10000 in
theorem tw_522 : Cond.instanceMethod y_M_check ∈ TB := tb_t 522 rfl rfl
set_option maxRecDepth 10000 in
theorem tw_523 : Cond.selects "BoundedCodesModel" y_M_check y_M_check ∈ TB := tb_t 523 rfl rfl
set_option maxRecDepth 10000 in
theorem tw_524 : k_M_check ∈ TB := tb_t 524 rfl rfl
set_option maxRecDepth 10000 in
theorem tw_525 : Cond.methodLink "BoundedCodesModel" 74 y_M_fill ∈ TB := tb_t 525 rfl rfl
set_option maxRecDepth 10000 in
theorem tw_527 : Cond.instanceMethod y_M_fill ∈ TB := tb_t 527 rfl rfl
set_option maxRecDepth 10000 in
theorem tw_528 : k_M_fill ∈ TB := tb_t 528 rfl rfl
set_option maxRecDepth 10000 in
theorem tw_529 : Cond.constant "BoundedCodesModel" 73 (65536 : Int32) ∈ TB := tb_t 529 rfl rfl
set_option maxRecDepth 10000 in
theorem tw_530 : Cond.methodLink "BoundedCodesLaw" 84 y_M_given ∈ TB := tb_t 530 rfl rfl
set_option maxRecDepth 10000 in
theorem tw_531 : Cond.instanceMethod y_M_given ∈ TB := tb_t 531 rfl rfl
set_option maxRecDepth 10000 in
theorem tw_532 : Cond.selects "BoundedCodesModel" y_M_given y_M_given ∈ TB := tb_t 532 rfl rfl
set_option maxRecDepth 10000 in
theorem tw_533 : k_M_given ∈ TB := tb_t 533 rfl rfl
set_option maxRecDepth 10000 in
theorem tw_534 : Cond.methodLink "BoundedCodesLaw" 88 y_M_range ∈ TB := tb_t 534 rfl rfl
set_option maxRecDepth 10000 in
theorem tw_535 : Cond.instanceMethod y_M_range ∈ TB := tb_t 535 rfl rfl
set_option maxRecDepth 10000 in
theorem tw_536 : Cond.selects "BoundedCodesModel" y_M_range y_M_range ∈ TB := tb_t 536 rfl rfl
set_option maxRecDepth 10000 in
theorem tw_537 : k_M_range ∈ TB := tb_t 537 rfl rfl
set_option maxRecDepth 10000 in
theorem tw_538 : Cond.methodLink "BoundedCodesLaw" 80 y_M_code ∈ TB := tb_t 538 rfl rfl
set_option maxRecDepth 10000 in
theorem tw_539 : Cond.instanceMethod y_M_code ∈ TB := tb_t 539 rfl rfl
set_option maxRecDepth 10000 in
theorem tw_540 : Cond.selects "BoundedCodesModel" y_M_code y_M_code ∈ TB := tb_t 540 rfl rfl
set_option maxRecDepth 10000 in
theorem tw_541 : k_M_code ∈ TB := tb_t 541 rfl rfl
set_option maxRecDepth 10000 in
theorem tw_542 : Cond.methodLink "BoundedCodesModel" 77 y_M_makeCodes ∈ TB := tb_t 542 rfl rfl
set_option maxRecDepth 10000 in
theorem tw_544 : Cond.instanceMethod y_M_makeCodes ∈ TB := tb_t 544 rfl rfl
set_option maxRecDepth 10000 in
theorem tw_545 : k_M_makeCodes ∈ TB := tb_t 545 rfl rfl
set_option maxRecDepth 10000 in
theorem tw_546 : Cond.constantLong "BoundedCodesModel" 80 (-1 : Int64) ∈ TB := tb_t 546 rfl rfl
set_option maxRecDepth 10000 in
theorem tw_547 : Cond.methodLink "BoundedCodesLaw" 95 y_M_feed ∈ TB := tb_t 547 rfl rfl
set_option maxRecDepth 10000 in
theorem tw_548 : Cond.instanceMethod y_M_feed ∈ TB := tb_t 548 rfl rfl
set_option maxRecDepth 10000 in
theorem tw_549 : Cond.selects "BoundedCodesModel" y_M_feed y_M_feed ∈ TB := tb_t 549 rfl rfl
set_option maxRecDepth 10000 in
theorem tw_550 : k_M_feed ∈ TB := tb_t 550 rfl rfl
set_option maxRecDepth 10000 in
theorem tw_551 : Cond.methodLink "BoundedCodesLaw" 99 y_M_read ∈ TB := tb_t 551 rfl rfl
set_option maxRecDepth 10000 in
theorem tw_552 : Cond.instanceMethod y_M_read ∈ TB := tb_t 552 rfl rfl
set_option maxRecDepth 10000 in
theorem tw_553 : Cond.selects "BoundedCodesModel" y_M_read y_M_read ∈ TB := tb_t 553 rfl rfl
set_option maxRecDepth 10000 in
theorem tw_554 : k_M_read ∈ TB := tb_t 554 rfl rfl
set_option maxRecDepth 10000 in
theorem tw_555 : Cond.methodLink "BoundedCodesModel" 85 y_M_begins ∈ TB := tb_t 555 rfl rfl
set_option maxRecDepth 10000 in
theorem tw_557 : Cond.instanceMethod y_M_begins ∈ TB := tb_t 557 rfl rfl
set_option maxRecDepth 10000 in
theorem tw_558 : k_M_begins ∈ TB := tb_t 558 rfl rfl
set_option maxRecDepth 10000 in
theorem tw_559 : Cond.methodLink "BoundedCodesModel" 89 y_M_take ∈ TB := tb_t 559 rfl rfl
set_option maxRecDepth 10000 in
theorem tw_561 : Cond.instanceMethod y_M_take ∈ TB := tb_t 561 rfl rfl
set_option maxRecDepth 10000 in
theorem tw_562 : k_M_take ∈ TB := tb_t 562 rfl rfl
set_option maxRecDepth 10000 in
theorem tw_563 : Cond.constantLong "BoundedCodesModel" 97 (2 : Int64) ∈ TB := tb_t 563 rfl rfl
set_option maxRecDepth 10000 in
theorem tw_564 : Cond.methodLink "BoundedCodesModel" 93 y_M_drop ∈ TB := tb_t 564 rfl rfl
set_option maxRecDepth 10000 in
theorem tw_566 : Cond.instanceMethod y_M_drop ∈ TB := tb_t 566 rfl rfl
set_option maxRecDepth 10000 in
theorem tw_567 : k_M_drop ∈ TB := tb_t 567 rfl rfl
set_option maxRecDepth 10000 in
theorem tw_568 : Cond.methodLink "BoundedCodesLaw" 102 y_M_last ∈ TB := tb_t 568 rfl rfl
set_option maxRecDepth 10000 in
theorem tw_569 : Cond.instanceMethod y_M_last ∈ TB := tb_t 569 rfl rfl
set_option maxRecDepth 10000 in
theorem tw_570 : Cond.selects "BoundedCodesModel" y_M_last y_M_last ∈ TB := tb_t 570 rfl rfl
set_option maxRecDepth 10000 in
theorem tw_571 : k_M_last ∈ TB := tb_t 571 rfl rfl
set_option maxRecDepth 10000 in
theorem tw_572 : Cond.methodLink "BoundedCodesLaw" 106 y_M_waiting ∈ TB := tb_t 572 rfl rfl
set_option maxRecDepth 10000 in
theorem tw_573 : Cond.instanceMethod y_M_waiting ∈ TB := tb_t 573 rfl rfl
set_option maxRecDepth 10000 in
theorem tw_574 : Cond.selects "BoundedCodesModel" y_M_waiting y_M_waiting ∈ TB := tb_t 574 rfl rfl
set_option maxRecDepth 10000 in
theorem tw_575 : k_M_waiting ∈ TB := tb_t 575 rfl rfl
set_option maxRecDepth 10000 in
theorem tw_576 : Cond.methodLink "BoundedCodesLaw" 110 y_M_sum ∈ TB := tb_t 576 rfl rfl
set_option maxRecDepth 10000 in
theorem tw_577 : Cond.instanceMethod y_M_sum ∈ TB := tb_t 577 rfl rfl
set_option maxRecDepth 10000 in
theorem tw_578 : Cond.selects "BoundedCodesModel" y_M_sum y_M_sum ∈ TB := tb_t 578 rfl rfl
set_option maxRecDepth 10000 in
theorem tw_579 : k_M_sum ∈ TB := tb_t 579 rfl rfl
set_option maxRecDepth 10000 in
theorem tw_580 : Cond.methodLink "BoundedCodesLaw" 114 y_M_lengths ∈ TB := tb_t 580 rfl rfl
set_option maxRecDepth 10000 in
theorem tw_581 : Cond.instanceMethod y_M_lengths ∈ TB := tb_t 581 rfl rfl
set_option maxRecDepth 10000 in
theorem tw_582 : Cond.selects "BoundedCodesModel" y_M_lengths y_M_lengths ∈ TB := tb_t 582 rfl rfl
set_option maxRecDepth 10000 in
theorem tw_583 : k_M_lengths ∈ TB := tb_t 583 rfl rfl
set_option maxRecDepth 10000 in
theorem tw_584 : Cond.methodLink "BoundedCodesLaw" 118 y_M_clear ∈ TB := tb_t 584 rfl rfl
set_option maxRecDepth 10000 in
theorem tw_585 : Cond.instanceMethod y_M_clear ∈ TB := tb_t 585 rfl rfl
set_option maxRecDepth 10000 in
theorem tw_586 : Cond.selects "BoundedCodesModel" y_M_clear y_M_clear ∈ TB := tb_t 586 rfl rfl
set_option maxRecDepth 10000 in
theorem tw_587 : k_M_clear ∈ TB := tb_t 587 rfl rfl
set_option maxRecDepth 10000 in
theorem tw_588 : Cond.constantLong "BoundedCodesLaw" 62 (4294967295 : Int64) ∈ TB := tb_t 588 rfl rfl
set_option maxRecDepth 10000 in
theorem tw_589 : Cond.sameMethod "java/lang/Throwable" "java/lang/Throwable" "fillInStackTrace" "(I)Ljava/lang/Throwable;" ∈ TB := tb_t 589 rfl rfl
theorem ts_0 : Cond.selects "BoundedCodes" y_B_dropAllRanges y_B_dropAllRanges ∈ TB := tb_s 0 rfl rfl
theorem ts_1 : Cond.selects "BoundedCodes" y_B_dropRange y_B_dropRange ∈ TB := tb_s 1 rfl rfl
theorem ts_2 : Cond.selects "BoundedCodes" y_B_numberTold y_B_numberTold ∈ TB := tb_s 2 rfl rfl
theorem ts_3 : Cond.selects "BoundedCodes$Table" y_T_countSharing y_T_countSharing ∈ TB := tb_s 3 rfl rfl
theorem ts_4 : Cond.selects "BoundedCodes$Table" y_T_giveCodes y_T_giveCodes ∈ TB := tb_s 4 rfl rfl
theorem ts_5 : Cond.selects "BoundedCodes$Table" y_T_startLongestFirst y_T_startLongestFirst ∈ TB := tb_s 5 rfl rfl
theorem ts_6 : Cond.selects "BoundedCodes$Table" y_T_startShortestFirst y_T_startShortestFirst ∈ TB := tb_s 6 rfl rfl
theorem ts_7 : Cond.selects "BoundedCodes$Table" y_T_takeCode y_T_takeCode ∈ TB := tb_s 7 rfl rfl
theorem ts_8 : Cond.selects "java/lang/Throwable" ⟨"java/lang/Throwable", "fillInStackTrace", "(I)Ljava/lang/Throwable;"⟩ ⟨"java/lang/Throwable", "fillInStackTrace", "(I)Ljava/lang/Throwable;"⟩ ∈ TB := tb_s 8 rfl rfl
theorem ts_9 : Cond.selects "BoundedCodes$Making" y_K_insert y_K_insert ∈ TB := tb_s 9 rfl rfl
theorem ts_10 : Cond.selects "BoundedCodes$Making" y_K_buildRow y_K_buildRow ∈ TB := tb_s 10 rfl rfl
theorem ts_11 : Cond.selects "BoundedCodes$Making" y_K_countTaken y_K_countTaken ∈ TB := tb_s 11 rfl rfl
theorem ts_12 : Cond.selects "BoundedCodes" y_B_needCodes y_B_needCodes ∈ TB := tb_s 12 rfl rfl
theorem ts_13 : Cond.selects "BoundedCodes" y_B_tellLength y_B_tellLength ∈ TB := tb_s 13 rfl rfl
theorem ts_14 : Cond.selects "BoundedCodes" y_B_takeSymbol y_B_takeSymbol ∈ TB := tb_s 14 rfl rfl
theorem ts_15 : Cond.selects "BoundedCodesModel" y_M_fails y_M_fails ∈ TB := tb_s 15 rfl rfl
theorem ts_16 : Cond.selects "BoundedCodesModel" y_M_sort y_M_sort ∈ TB := tb_s 16 rfl rfl
theorem ts_17 : Cond.selects "BoundedCodesModel" y_M_pack y_M_pack ∈ TB := tb_s 17 rfl rfl
theorem ts_18 : Cond.selects "BoundedCodesModel" y_M_fill y_M_fill ∈ TB := tb_s 18 rfl rfl
theorem ts_19 : Cond.selects "BoundedCodesModel" y_M_makeCodes y_M_makeCodes ∈ TB := tb_s 19 rfl rfl
theorem ts_20 : Cond.selects "BoundedCodesModel" y_M_begins y_M_begins ∈ TB := tb_s 20 rfl rfl
theorem ts_21 : Cond.selects "BoundedCodesModel" y_M_take y_M_take ∈ TB := tb_s 21 rfl rfl
theorem ts_22 : Cond.selects "BoundedCodesModel" y_M_drop y_M_drop ∈ TB := tb_s 22 rfl rfl
theorem inK : ∀ w ∈ u_ws RK FK 6, w ∈ TB := by
  intro w h
  obtain ⟨k, hk, rfl⟩ := List.mem_map.mp h
  have hk := List.mem_range.mp hk
  match k, hk with
  | 0, _ => exact tw_35
  | 1, _ => exact tw_37
  | 2, _ => exact tw_39
  | 3, _ => exact tw_41
  | 4, _ => exact tw_43
  | 5, _ => exact tw_45
  | k + 6, hk => exact absurd hk (by omega)
theorem inT : ∀ w ∈ u_ws RT FT 6, w ∈ TB := by
  intro w h
  obtain ⟨k, hk, rfl⟩ := List.mem_map.mp h
  have hk := List.mem_range.mp hk
  match k, hk with
  | 0, _ => exact tw_84
  | 1, _ => exact tw_86
  | 2, _ => exact tw_88
  | 3, _ => exact tw_90
  | 4, _ => exact tw_92
  | 5, _ => exact tw_94
  | k + 6, hk => exact absurd hk (by omega)
theorem inG : ∀ w ∈ u_ws RG FG 3, w ∈ TB := by
  intro w h
  obtain ⟨k, hk, rfl⟩ := List.mem_map.mp h
  have hk := List.mem_range.mp hk
  match k, hk with
  | 0, _ => exact tw_60
  | 1, _ => exact tw_62
  | 2, _ => exact tw_64
  | k + 3, hk => exact absurd hk (by omega)
theorem inB : ∀ w ∈ u_ws RB FB 8, w ∈ TB := by
  intro w h
  obtain ⟨k, hk, rfl⟩ := List.mem_map.mp h
  have hk := List.mem_range.mp hk
  match k, hk with
  | 0, _ => exact tw_113
  | 1, _ => exact tw_115
  | 2, _ => exact tw_117
  | 3, _ => exact tw_119
  | 4, _ => exact tw_121
  | 5, _ => exact tw_123
  | 6, _ => exact tw_125
  | 7, _ => exact tw_127
  | k + 8, hk => exact absurd hk (by omega)
theorem inM : ∀ w ∈ u_ws RM FM 17, w ∈ TB := by
  intro w h
  obtain ⟨k, hk, rfl⟩ := List.mem_map.mp h
  have hk := List.mem_range.mp hk
  match k, hk with
  | 0, _ => exact tw_453
  | 1, _ => exact tw_455
  | 2, _ => exact tw_457
  | 3, _ => exact tw_459
  | 4, _ => exact tw_461
  | 5, _ => exact tw_463
  | 6, _ => exact tw_465
  | 7, _ => exact tw_467
  | 8, _ => exact tw_469
  | 9, _ => exact tw_471
  | 10, _ => exact tw_473
  | 11, _ => exact tw_475
  | 12, _ => exact tw_477
  | 13, _ => exact tw_479
  | 14, _ => exact tw_481
  | 15, _ => exact tw_483
  | 16, _ => exact tw_485
  | k + 17, hk => exact absurd hk (by omega)
