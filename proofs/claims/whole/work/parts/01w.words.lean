theorem dn_w_0 : (.initialized "DocumentChipLaw" : Cond) ∈ dc_W := dc_in (List.mem_of_getElem? (i := 0) (by decide +kernel)) rfl
theorem dn_w_1 : (.initialized "DocumentChip" : Cond) ∈ dc_W := dc_in (List.mem_of_getElem? (i := 1) (by decide +kernel)) rfl
theorem dn_w_2 : (.initialized "DocumentChip$Row" : Cond) ∈ dc_W := dc_in (List.mem_of_getElem? (i := 2) (by decide +kernel)) rfl
theorem dn_w_3 : (.initialized "DocumentChip$Chip" : Cond) ∈ dc_W := dc_in (List.mem_of_getElem? (i := 3) (by decide +kernel)) rfl
theorem dn_w_4 : (.initialized "DocumentChip$Access" : Cond) ∈ dc_W := dc_in (List.mem_of_getElem? (i := 4) (by decide +kernel)) rfl
theorem dn_w_5 : (.initialized "DocumentChip$Session" : Cond) ∈ dc_W := dc_in (List.mem_of_getElem? (i := 5) (by decide +kernel)) rfl
theorem dn_w_6 : (.initialized "DocumentChip$Line" : Cond) ∈ dc_W := dc_in (List.mem_of_getElem? (i := 6) (by decide +kernel)) rfl
theorem dn_w_7 : (.initialized "java/lang/Math" : Cond) ∈ dc_W := dc_in (List.mem_of_getElem? (i := 7) (by decide +kernel)) rfl
theorem dn_w_8 : (.initialized "DocumentChip$Codes" : Cond) ∈ dc_W := dc_in (List.mem_of_getElem? (i := 8) (by decide +kernel)) rfl
theorem dn_w_9 : (.initialized "DocumentChip$Desk" : Cond) ∈ dc_W := dc_in (List.mem_of_getElem? (i := 9) (by decide +kernel)) rfl
theorem dn_w_10 : (.initialized "DocumentChip$Signers" : Cond) ∈ dc_W := dc_in (List.mem_of_getElem? (i := 10) (by decide +kernel)) rfl
theorem dn_w_11 : (.initialized "DocumentChip$Way" : Cond) ∈ dc_W := dc_in (List.mem_of_getElem? (i := 11) (by decide +kernel)) rfl
theorem dn_w_12 : (.initialized "DocumentChipModel" : Cond) ∈ dc_W := dc_in (List.mem_of_getElem? (i := 12) (by decide +kernel)) rfl
theorem dn_w_13 : (.initialized "java/lang/Throwable" : Cond) ∈ dc_W := dc_in (List.mem_of_getElem? (i := 13) (by decide +kernel)) rfl
theorem dn_w_14 : (.initialized "java/lang/Exception" : Cond) ∈ dc_W := dc_in (List.mem_of_getElem? (i := 14) (by decide +kernel)) rfl
theorem dn_w_15 : (.initialized "java/lang/RuntimeException" : Cond) ∈ dc_W := dc_in (List.mem_of_getElem? (i := 15) (by decide +kernel)) rfl
theorem dn_w_16 : (.initialized "java/lang/IndexOutOfBoundsException" : Cond) ∈ dc_W := dc_in (List.mem_of_getElem? (i := 16) (by decide +kernel)) rfl
theorem dn_w_17 : (.initialized "java/lang/IllegalStateException" : Cond) ∈ dc_W := dc_in (List.mem_of_getElem? (i := 17) (by decide +kernel)) rfl
theorem dn_w_18 : (.initialized "java/lang/IllegalArgumentException" : Cond) ∈ dc_W := dc_in (List.mem_of_getElem? (i := 18) (by decide +kernel)) rfl
theorem dn_w_19 : (.initialized "java/lang/UnsupportedOperationException" : Cond) ∈ dc_W := dc_in (List.mem_of_getElem? (i := 19) (by decide +kernel)) rfl
theorem dn_w_20 : (.initialized "java/util/NoSuchElementException" : Cond) ∈ dc_W := dc_in (List.mem_of_getElem? (i := 20) (by decide +kernel)) rfl
theorem dn_w_21 : (.classLink "DocumentChipLaw" 8 "DocumentChip" : Cond) ∈ dc_W := dc_in (List.mem_of_getElem? (i := 21) (by decide +kernel)) rfl
theorem dn_w_22 : (.instantiable "DocumentChip" 5 : Cond) ∈ dc_W := dc_in (List.mem_of_getElem? (i := 22) (by decide +kernel)) rfl
theorem dn_w_23 : (.methodLink "DocumentChipLaw" 61 dn_y_Doc_init : Cond) ∈ dc_W := dc_in (List.mem_of_getElem? (i := 23) (by decide +kernel)) rfl
theorem dn_w_24 : (.instanceMethod dn_y_Doc_init : Cond) ∈ dc_W := dc_in (List.mem_of_getElem? (i := 24) (by decide +kernel)) rfl
theorem dn_w_25 : (.code dn_y_Doc_init prog_1_method_1_code 4 (Option.none : Option FieldType) : Cond) ∈ dc_W := dc_in (List.mem_of_getElem? (i := 25) (by decide +kernel)) rfl
theorem dn_w_26 : (.methodLink "DocumentChip" 1 ⟨"java/lang/Object", "<init>", "()V"⟩ : Cond) ∈ dc_W := dc_in (List.mem_of_getElem? (i := 26) (by decide +kernel)) rfl
theorem dn_w_27 : (.instanceMethod ⟨"java/lang/Object", "<init>", "()V"⟩ : Cond) ∈ dc_W := dc_in (List.mem_of_getElem? (i := 27) (by decide +kernel)) rfl
theorem dn_w_28 : (.code ⟨"java/lang/Object", "<init>", "()V"⟩ object_method_1_code 1 (Option.none : Option FieldType) : Cond) ∈ dc_W := dc_in (List.mem_of_getElem? (i := 28) (by decide +kernel)) rfl
theorem dn_w_29 : (.classLink "DocumentChip" 7 "DocumentChip$Row" : Cond) ∈ dc_W := dc_in (List.mem_of_getElem? (i := 29) (by decide +kernel)) rfl
theorem dn_w_30 : (.instantiable "DocumentChip$Row" 2 : Cond) ∈ dc_W := dc_in (List.mem_of_getElem? (i := 30) (by decide +kernel)) rfl
theorem dn_w_31 : (.methodLink "DocumentChip" 11 dn_y_Row_init : Cond) ∈ dc_W := dc_in (List.mem_of_getElem? (i := 31) (by decide +kernel)) rfl
theorem dn_w_32 : (.instanceMethod dn_y_Row_init : Cond) ∈ dc_W := dc_in (List.mem_of_getElem? (i := 32) (by decide +kernel)) rfl
theorem dn_w_33 : (.code dn_y_Row_init prog_7_method_1_code 2 (Option.none : Option FieldType) : Cond) ∈ dc_W := dc_in (List.mem_of_getElem? (i := 33) (by decide +kernel)) rfl
theorem dn_w_34 : (.methodLink "DocumentChip$Row" 1 ⟨"java/lang/Object", "<init>", "()V"⟩ : Cond) ∈ dc_W := dc_in (List.mem_of_getElem? (i := 34) (by decide +kernel)) rfl
theorem dn_w_35 : (.fieldLink "DocumentChip$Row" 7 "DocumentChip$Row" "words" "[J" : Cond) ∈ dc_W := dc_in (List.mem_of_getElem? (i := 35) (by decide +kernel)) rfl
theorem dn_w_36 : (.fieldLink "DocumentChip$Row" 13 "DocumentChip$Row" "size" "I" : Cond) ∈ dc_W := dc_in (List.mem_of_getElem? (i := 36) (by decide +kernel)) rfl
theorem dn_w_42 : (.arrayClass FieldType.long : Cond) ∈ dc_W := dc_in (List.mem_of_getElem? (i := 42) (by decide +kernel)) rfl
theorem dn_w_43 : (.classLink "DocumentChip" 26 "DocumentChip$Chip" : Cond) ∈ dc_W := dc_in (List.mem_of_getElem? (i := 43) (by decide +kernel)) rfl
theorem dn_w_44 : (.instantiable "DocumentChip$Chip" 9 : Cond) ∈ dc_W := dc_in (List.mem_of_getElem? (i := 44) (by decide +kernel)) rfl
theorem dn_w_45 : (.methodLink "DocumentChip" 28 dn_y_Chip_init : Cond) ∈ dc_W := dc_in (List.mem_of_getElem? (i := 45) (by decide +kernel)) rfl
theorem dn_w_46 : (.instanceMethod dn_y_Chip_init : Cond) ∈ dc_W := dc_in (List.mem_of_getElem? (i := 46) (by decide +kernel)) rfl
theorem dn_w_47 : (.code dn_y_Chip_init prog_3_method_1_code 6 (Option.none : Option FieldType) : Cond) ∈ dc_W := dc_in (List.mem_of_getElem? (i := 47) (by decide +kernel)) rfl
theorem dn_w_48 : (.methodLink "DocumentChip$Chip" 3 ⟨"java/lang/Object", "<init>", "()V"⟩ : Cond) ∈ dc_W := dc_in (List.mem_of_getElem? (i := 48) (by decide +kernel)) rfl
theorem dn_w_49 : (.classLink "DocumentChip$Chip" 9 "DocumentChip$Access" : Cond) ∈ dc_W := dc_in (List.mem_of_getElem? (i := 49) (by decide +kernel)) rfl
theorem dn_w_50 : (.instantiable "DocumentChip$Access" 2 : Cond) ∈ dc_W := dc_in (List.mem_of_getElem? (i := 50) (by decide +kernel)) rfl
theorem dn_w_52 : (.instanceMethod dn_y_Access_init : Cond) ∈ dc_W := dc_in (List.mem_of_getElem? (i := 52) (by decide +kernel)) rfl
theorem dn_w_53 : (.code dn_y_Access_init prog_2_method_1_code 1 (Option.none : Option FieldType) : Cond) ∈ dc_W := dc_in (List.mem_of_getElem? (i := 53) (by decide +kernel)) rfl
theorem dn_w_54 : (.methodLink "DocumentChip$Access" 1 ⟨"java/lang/Object", "<init>", "()V"⟩ : Cond) ∈ dc_W := dc_in (List.mem_of_getElem? (i := 54) (by decide +kernel)) rfl
theorem dn_w_55 : (.fieldLink "DocumentChip$Access" 13 "DocumentChip$Access" "cipherKey" "J" : Cond) ∈ dc_W := dc_in (List.mem_of_getElem? (i := 55) (by decide +kernel)) rfl
theorem dn_w_56 : (.fieldLink "DocumentChip$Access" 21 "DocumentChip$Access" "sealKey" "J" : Cond) ∈ dc_W := dc_in (List.mem_of_getElem? (i := 56) (by decide +kernel)) rfl
theorem dn_w_62 : (.classLink "DocumentChip$Chip" 18 "DocumentChip$Session" : Cond) ∈ dc_W := dc_in (List.mem_of_getElem? (i := 62) (by decide +kernel)) rfl
theorem dn_w_63 : (.instantiable "DocumentChip$Session" 4 : Cond) ∈ dc_W := dc_in (List.mem_of_getElem? (i := 63) (by decide +kernel)) rfl
theorem dn_w_65 : (.instanceMethod dn_y_Session_init : Cond) ∈ dc_W := dc_in (List.mem_of_getElem? (i := 65) (by decide +kernel)) rfl
theorem dn_w_66 : (.code dn_y_Session_init prog_8_method_1_code 1 (Option.none : Option FieldType) : Cond) ∈ dc_W := dc_in (List.mem_of_getElem? (i := 66) (by decide +kernel)) rfl
theorem dn_w_67 : (.methodLink "DocumentChip$Session" 3 ⟨"java/lang/Object", "<init>", "()V"⟩ : Cond) ∈ dc_W := dc_in (List.mem_of_getElem? (i := 67) (by decide +kernel)) rfl
theorem dn_w_68 : (.fieldLink "DocumentChip$Session" 9 "DocumentChip$Session" "open" "Z" : Cond) ∈ dc_W := dc_in (List.mem_of_getElem? (i := 68) (by decide +kernel)) rfl
theorem dn_w_71 : (.fieldLink "DocumentChip$Session" 21 "DocumentChip$Session" "cipherKey" "J" : Cond) ∈ dc_W := dc_in (List.mem_of_getElem? (i := 71) (by decide +kernel)) rfl
theorem dn_w_72 : (.fieldLink "DocumentChip$Session" 27 "DocumentChip$Session" "sealKey" "J" : Cond) ∈ dc_W := dc_in (List.mem_of_getElem? (i := 72) (by decide +kernel)) rfl
theorem dn_w_73 : (.fieldLink "DocumentChip$Session" 33 "DocumentChip$Session" "counter" "J" : Cond) ∈ dc_W := dc_in (List.mem_of_getElem? (i := 73) (by decide +kernel)) rfl
theorem dn_w_83 : (.classLink "DocumentChip$Chip" 25 "DocumentChip$Row" : Cond) ∈ dc_W := dc_in (List.mem_of_getElem? (i := 83) (by decide +kernel)) rfl
theorem dn_w_85 : (.classLink "DocumentChip$Chip" 35 "DocumentChip$Line" : Cond) ∈ dc_W := dc_in (List.mem_of_getElem? (i := 85) (by decide +kernel)) rfl
theorem dn_w_86 : (.instantiable "DocumentChip$Line" 2 : Cond) ∈ dc_W := dc_in (List.mem_of_getElem? (i := 86) (by decide +kernel)) rfl
theorem dn_w_88 : (.instanceMethod dn_y_Line_init : Cond) ∈ dc_W := dc_in (List.mem_of_getElem? (i := 88) (by decide +kernel)) rfl
theorem dn_w_89 : (.code dn_y_Line_init prog_6_method_1_code 1 (Option.none : Option FieldType) : Cond) ∈ dc_W := dc_in (List.mem_of_getElem? (i := 89) (by decide +kernel)) rfl
theorem dn_w_90 : (.methodLink "DocumentChip$Line" 1 ⟨"java/lang/Object", "<init>", "()V"⟩ : Cond) ∈ dc_W := dc_in (List.mem_of_getElem? (i := 90) (by decide +kernel)) rfl
theorem dn_w_91 : (.fieldLink "DocumentChip$Line" 9 "DocumentChip$Line" "values" "[I" : Cond) ∈ dc_W := dc_in (List.mem_of_getElem? (i := 91) (by decide +kernel)) rfl
theorem dn_w_92 : (.fieldLink "DocumentChip$Line" 13 "DocumentChip$Line" "digits" "[I" : Cond) ∈ dc_W := dc_in (List.mem_of_getElem? (i := 92) (by decide +kernel)) rfl
theorem dn_w_98 : (.arrayClass FieldType.int : Cond) ∈ dc_W := dc_in (List.mem_of_getElem? (i := 98) (by decide +kernel)) rfl
theorem dn_w_99 : (.methodLink "DocumentChip$Chip" 38 dn_y_Line_putFitting : Cond) ∈ dc_W := dc_in (List.mem_of_getElem? (i := 99) (by decide +kernel)) rfl
theorem dn_w_100 : (.instanceMethod dn_y_Line_putFitting : Cond) ∈ dc_W := dc_in (List.mem_of_getElem? (i := 100) (by decide +kernel)) rfl
theorem dn_w_101 : (.selects "DocumentChip$Line" dn_y_Line_putFitting dn_y_Line_putFitting : Cond) ∈ dc_W := dc_in (List.mem_of_getElem? (i := 101) (by decide +kernel)) rfl
theorem dn_w_102 : (.code dn_y_Line_putFitting prog_6_method_6_code 4 (Option.none : Option FieldType) : Cond) ∈ dc_W := dc_in (List.mem_of_getElem? (i := 102) (by decide +kernel)) rfl
theorem dn_w_103 : (.methodLink "DocumentChip$Line" 16 dn_y_Line_isField : Cond) ∈ dc_W := dc_in (List.mem_of_getElem? (i := 103) (by decide +kernel)) rfl
theorem dn_w_104 : (.static dn_y_Line_isField : Cond) ∈ dc_W := dc_in (List.mem_of_getElem? (i := 104) (by decide +kernel)) rfl
theorem dn_w_105 : (.code dn_y_Line_isField prog_6_method_2_code 1 (Option.some FieldType.boolean) : Cond) ∈ dc_W := dc_in (List.mem_of_getElem? (i := 105) (by decide +kernel)) rfl
theorem dn_w_106 : (.fieldLink "DocumentChip$Line" 20 "DocumentChip$Line" "LIMITS" "[I" : Cond) ∈ dc_W := dc_in (List.mem_of_getElem? (i := 106) (by decide +kernel)) rfl
theorem dn_w_108 : (.methodLink "DocumentChip$Line" 26 ⟨"java/lang/Math", "abs", "(I)I"⟩ : Cond) ∈ dc_W := dc_in (List.mem_of_getElem? (i := 108) (by decide +kernel)) rfl
theorem dn_w_109 : (.static ⟨"java/lang/Math", "abs", "(I)I"⟩ : Cond) ∈ dc_W := dc_in (List.mem_of_getElem? (i := 109) (by decide +kernel)) rfl
theorem dn_w_110 : (.code ⟨"java/lang/Math", "abs", "(I)I"⟩ prog_17_method_59_code 1 (Option.some FieldType.int) : Cond) ∈ dc_W := dc_in (List.mem_of_getElem? (i := 110) (by decide +kernel)) rfl
theorem dn_w_111 : (.fieldLink "DocumentChip$Line" 32 "DocumentChip$Line" "WIDTHS" "[I" : Cond) ∈ dc_W := dc_in (List.mem_of_getElem? (i := 111) (by decide +kernel)) rfl
theorem dn_w_113 : (.methodLink "DocumentChip$Line" 35 dn_y_Line_rightDigit : Cond) ∈ dc_W := dc_in (List.mem_of_getElem? (i := 113) (by decide +kernel)) rfl
theorem dn_w_114 : (.static dn_y_Line_rightDigit : Cond) ∈ dc_W := dc_in (List.mem_of_getElem? (i := 114) (by decide +kernel)) rfl
theorem dn_w_115 : (.code dn_y_Line_rightDigit prog_6_method_4_code 5 (Option.some FieldType.int) : Cond) ∈ dc_W := dc_in (List.mem_of_getElem? (i := 115) (by decide +kernel)) rfl
theorem dn_w_116 : (.fieldLink "DocumentChip$Line" 23 "DocumentChip$Line" "WEIGHTS" "[I" : Cond) ∈ dc_W := dc_in (List.mem_of_getElem? (i := 116) (by decide +kernel)) rfl
theorem dn_w_118 : (.methodLink "DocumentChip$Line" 39 dn_y_Line_put : Cond) ∈ dc_W := dc_in (List.mem_of_getElem? (i := 118) (by decide +kernel)) rfl
theorem dn_w_119 : (.instanceMethod dn_y_Line_put : Cond) ∈ dc_W := dc_in (List.mem_of_getElem? (i := 119) (by decide +kernel)) rfl
theorem dn_w_120 : (.selects "DocumentChip$Line" dn_y_Line_put dn_y_Line_put : Cond) ∈ dc_W := dc_in (List.mem_of_getElem? (i := 120) (by decide +kernel)) rfl
theorem dn_w_121 : (.code dn_y_Line_put prog_6_method_5_code 4 (Option.none : Option FieldType) : Cond) ∈ dc_W := dc_in (List.mem_of_getElem? (i := 121) (by decide +kernel)) rfl
theorem dn_w_122 : (.methodLink "DocumentChip$Chip" 42 dn_y_Line_seed : Cond) ∈ dc_W := dc_in (List.mem_of_getElem? (i := 122) (by decide +kernel)) rfl
theorem dn_w_123 : (.instanceMethod dn_y_Line_seed : Cond) ∈ dc_W := dc_in (List.mem_of_getElem? (i := 123) (by decide +kernel)) rfl
theorem dn_w_124 : (.selects "DocumentChip$Line" dn_y_Line_seed dn_y_Line_seed : Cond) ∈ dc_W := dc_in (List.mem_of_getElem? (i := 124) (by decide +kernel)) rfl
theorem dn_w_125 : (.code dn_y_Line_seed prog_6_method_10_code 1 (Option.some FieldType.long) : Cond) ∈ dc_W := dc_in (List.mem_of_getElem? (i := 125) (by decide +kernel)) rfl
theorem dn_w_126 : (.methodLink "DocumentChip$Line" 48 dn_y_Line_word : Cond) ∈ dc_W := dc_in (List.mem_of_getElem? (i := 126) (by decide +kernel)) rfl
theorem dn_w_127 : (.instanceMethod dn_y_Line_word : Cond) ∈ dc_W := dc_in (List.mem_of_getElem? (i := 127) (by decide +kernel)) rfl
theorem dn_w_128 : (.selects "DocumentChip$Line" dn_y_Line_word dn_y_Line_word : Cond) ∈ dc_W := dc_in (List.mem_of_getElem? (i := 128) (by decide +kernel)) rfl
theorem dn_w_129 : (.code dn_y_Line_word prog_6_method_9_code 2 (Option.some FieldType.long) : Cond) ∈ dc_W := dc_in (List.mem_of_getElem? (i := 129) (by decide +kernel)) rfl
theorem dn_w_130 : (.constantLong "DocumentChip$Line" 46 10 : Cond) ∈ dc_W := dc_in (List.mem_of_getElem? (i := 130) (by decide +kernel)) rfl
theorem dn_w_131 : (.methodLink "DocumentChip$Line" 52 dn_y_Codes_digestOfThree : Cond) ∈ dc_W := dc_in (List.mem_of_getElem? (i := 131) (by decide +kernel)) rfl
theorem dn_w_132 : (.static dn_y_Codes_digestOfThree : Cond) ∈ dc_W := dc_in (List.mem_of_getElem? (i := 132) (by decide +kernel)) rfl
theorem dn_w_133 : (.code dn_y_Codes_digestOfThree prog_4_method_3_code 6 (Option.some FieldType.long) : Cond) ∈ dc_W := dc_in (List.mem_of_getElem? (i := 133) (by decide +kernel)) rfl
theorem dn_w_134 : (.methodLink "DocumentChip$Codes" 15 dn_y_Codes_digestOfTwo : Cond) ∈ dc_W := dc_in (List.mem_of_getElem? (i := 134) (by decide +kernel)) rfl
theorem dn_w_135 : (.static dn_y_Codes_digestOfTwo : Cond) ∈ dc_W := dc_in (List.mem_of_getElem? (i := 135) (by decide +kernel)) rfl
theorem dn_w_136 : (.code dn_y_Codes_digestOfTwo prog_4_method_2_code 4 (Option.some FieldType.long) : Cond) ∈ dc_W := dc_in (List.mem_of_getElem? (i := 136) (by decide +kernel)) rfl
theorem dn_w_137 : (.constantLong "DocumentChip$Codes" 9 2611923443488327891 : Cond) ∈ dc_W := dc_in (List.mem_of_getElem? (i := 137) (by decide +kernel)) rfl
theorem dn_w_138 : (.methodLink "DocumentChip$Codes" 11 dn_y_Codes_mix : Cond) ∈ dc_W := dc_in (List.mem_of_getElem? (i := 138) (by decide +kernel)) rfl
theorem dn_w_139 : (.static dn_y_Codes_mix : Cond) ∈ dc_W := dc_in (List.mem_of_getElem? (i := 139) (by decide +kernel)) rfl
theorem dn_w_140 : (.code dn_y_Codes_mix prog_4_method_6_code 6 (Option.some FieldType.long) : Cond) ∈ dc_W := dc_in (List.mem_of_getElem? (i := 140) (by decide +kernel)) rfl
theorem dn_w_141 : (.constantLong "DocumentChip$Codes" 32 (-7046029254386353131) : Cond) ∈ dc_W := dc_in (List.mem_of_getElem? (i := 141) (by decide +kernel)) rfl
theorem dn_w_142 : (.methodLink "DocumentChip$Chip" 46 dn_y_Access_derive : Cond) ∈ dc_W := dc_in (List.mem_of_getElem? (i := 142) (by decide +kernel)) rfl
theorem dn_w_143 : (.instanceMethod dn_y_Access_derive : Cond) ∈ dc_W := dc_in (List.mem_of_getElem? (i := 143) (by decide +kernel)) rfl
theorem dn_w_144 : (.selects "DocumentChip$Access" dn_y_Access_derive dn_y_Access_derive : Cond) ∈ dc_W := dc_in (List.mem_of_getElem? (i := 144) (by decide +kernel)) rfl
theorem dn_w_145 : (.code dn_y_Access_derive prog_2_method_2_code 3 (Option.none : Option FieldType) : Cond) ∈ dc_W := dc_in (List.mem_of_getElem? (i := 145) (by decide +kernel)) rfl
theorem dn_w_146 : (.methodLink "DocumentChip$Access" 7 dn_y_Codes_digestOfTwo : Cond) ∈ dc_W := dc_in (List.mem_of_getElem? (i := 146) (by decide +kernel)) rfl
theorem dn_w_147 : (.constantLong "DocumentChip$Access" 19 2 : Cond) ∈ dc_W := dc_in (List.mem_of_getElem? (i := 147) (by decide +kernel)) rfl
theorem dn_w_148 : (.methodLink "DocumentChip$Chip" 50 dn_y_Row_init : Cond) ∈ dc_W := dc_in (List.mem_of_getElem? (i := 148) (by decide +kernel)) rfl
theorem dn_w_149 : (.fieldLink "DocumentChip$Chip" 12 "DocumentChip$Chip" "access" "LDocumentChip$Access;" : Cond) ∈ dc_W := dc_in (List.mem_of_getElem? (i := 149) (by decide +kernel)) rfl
theorem dn_w_150 : (.fieldLink "DocumentChip$Chip" 21 "DocumentChip$Chip" "session" "LDocumentChip$Session;" : Cond) ∈ dc_W := dc_in (List.mem_of_getElem? (i := 150) (by decide +kernel)) rfl
theorem dn_w_152 : (.fieldLink "DocumentChip$Chip" 27 "DocumentChip$Chip" "files" "[LDocumentChip$Row;" : Cond) ∈ dc_W := dc_in (List.mem_of_getElem? (i := 152) (by decide +kernel)) rfl
theorem dn_w_155 : (.fieldLink "DocumentChip$Chip" 78 "DocumentChip$Chip" "asked" "Z" : Cond) ∈ dc_W := dc_in (List.mem_of_getElem? (i := 155) (by decide +kernel)) rfl
theorem dn_w_157 : (.fieldLink "DocumentChip$Chip" 85 "DocumentChip$Chip" "challengeWord" "J" : Cond) ∈ dc_W := dc_in (List.mem_of_getElem? (i := 157) (by decide +kernel)) rfl
theorem dn_w_158 : (.fieldLink "DocumentChip$Chip" 31 "DocumentChip$Chip" "selected" "I" : Cond) ∈ dc_W := dc_in (List.mem_of_getElem? (i := 158) (by decide +kernel)) rfl
theorem dn_w_160 : (.fieldLink "DocumentChip$Chip" 134 "DocumentChip$Chip" "done" "I" : Cond) ∈ dc_W := dc_in (List.mem_of_getElem? (i := 160) (by decide +kernel)) rfl
theorem dn_w_162 : (.fieldLink "DocumentChip$Chip" 53 "DocumentChip$Chip" "q" "J" : Cond) ∈ dc_W := dc_in (List.mem_of_getElem? (i := 162) (by decide +kernel)) rfl
theorem dn_w_163 : (.fieldLink "DocumentChip$Chip" 57 "DocumentChip$Chip" "j" "J" : Cond) ∈ dc_W := dc_in (List.mem_of_getElem? (i := 163) (by decide +kernel)) rfl
theorem dn_w_183 : (.classLink "DocumentChip" 35 "DocumentChip$Desk" : Cond) ∈ dc_W := dc_in (List.mem_of_getElem? (i := 183) (by decide +kernel)) rfl
theorem dn_w_184 : (.instantiable "DocumentChip$Desk" 12 : Cond) ∈ dc_W := dc_in (List.mem_of_getElem? (i := 184) (by decide +kernel)) rfl
theorem dn_w_185 : (.methodLink "DocumentChip" 37 dn_y_Desk_init : Cond) ∈ dc_W := dc_in (List.mem_of_getElem? (i := 185) (by decide +kernel)) rfl
theorem dn_w_186 : (.instanceMethod dn_y_Desk_init : Cond) ∈ dc_W := dc_in (List.mem_of_getElem? (i := 186) (by decide +kernel)) rfl
theorem dn_w_187 : (.code dn_y_Desk_init prog_5_method_1_code 3 (Option.none : Option FieldType) : Cond) ∈ dc_W := dc_in (List.mem_of_getElem? (i := 187) (by decide +kernel)) rfl
theorem dn_w_188 : (.methodLink "DocumentChip$Desk" 3 ⟨"java/lang/Object", "<init>", "()V"⟩ : Cond) ∈ dc_W := dc_in (List.mem_of_getElem? (i := 188) (by decide +kernel)) rfl
theorem dn_w_189 : (.classLink "DocumentChip$Desk" 9 "DocumentChip$Line" : Cond) ∈ dc_W := dc_in (List.mem_of_getElem? (i := 189) (by decide +kernel)) rfl
theorem dn_w_191 : (.classLink "DocumentChip$Desk" 18 "DocumentChip$Signers" : Cond) ∈ dc_W := dc_in (List.mem_of_getElem? (i := 191) (by decide +kernel)) rfl
theorem dn_w_192 : (.instantiable "DocumentChip$Signers" 4 : Cond) ∈ dc_W := dc_in (List.mem_of_getElem? (i := 192) (by decide +kernel)) rfl
theorem dn_w_194 : (.instanceMethod dn_y_Signers_init : Cond) ∈ dc_W := dc_in (List.mem_of_getElem? (i := 194) (by decide +kernel)) rfl
theorem dn_w_195 : (.code dn_y_Signers_init prog_9_method_1_code 1 (Option.none : Option FieldType) : Cond) ∈ dc_W := dc_in (List.mem_of_getElem? (i := 195) (by decide +kernel)) rfl
theorem dn_w_196 : (.methodLink "DocumentChip$Signers" 1 ⟨"java/lang/Object", "<init>", "()V"⟩ : Cond) ∈ dc_W := dc_in (List.mem_of_getElem? (i := 196) (by decide +kernel)) rfl
theorem dn_w_197 : (.fieldLink "DocumentChip$Signers" 9 "DocumentChip$Signers" "names" "[J" : Cond) ∈ dc_W := dc_in (List.mem_of_getElem? (i := 197) (by decide +kernel)) rfl
theorem dn_w_198 : (.fieldLink "DocumentChip$Signers" 13 "DocumentChip$Signers" "moduli" "[I" : Cond) ∈ dc_W := dc_in (List.mem_of_getElem? (i := 198) (by decide +kernel)) rfl
theorem dn_w_199 : (.fieldLink "DocumentChip$Signers" 17 "DocumentChip$Signers" "exponents" "[I" : Cond) ∈ dc_W := dc_in (List.mem_of_getElem? (i := 199) (by decide +kernel)) rfl
theorem dn_w_200 : (.fieldLink "DocumentChip$Signers" 20 "DocumentChip$Signers" "count" "I" : Cond) ∈ dc_W := dc_in (List.mem_of_getElem? (i := 200) (by decide +kernel)) rfl
theorem dn_w_210 : (.classLink "DocumentChip$Desk" 25 "DocumentChip$Way" : Cond) ∈ dc_W := dc_in (List.mem_of_getElem? (i := 210) (by decide +kernel)) rfl
theorem dn_w_211 : (.instantiable "DocumentChip$Way" 5 : Cond) ∈ dc_W := dc_in (List.mem_of_getElem? (i := 211) (by decide +kernel)) rfl
theorem dn_w_213 : (.instanceMethod dn_y_Way_init : Cond) ∈ dc_W := dc_in (List.mem_of_getElem? (i := 213) (by decide +kernel)) rfl
theorem dn_w_214 : (.code dn_y_Way_init prog_10_method_1_code 1 (Option.none : Option FieldType) : Cond) ∈ dc_W := dc_in (List.mem_of_getElem? (i := 214) (by decide +kernel)) rfl
theorem dn_w_215 : (.methodLink "DocumentChip$Way" 1 ⟨"java/lang/Object", "<init>", "()V"⟩ : Cond) ∈ dc_W := dc_in (List.mem_of_getElem? (i := 215) (by decide +kernel)) rfl
theorem dn_w_216 : (.fieldLink "DocumentChip$Way" 9 "DocumentChip$Way" "atMessage" "[I" : Cond) ∈ dc_W := dc_in (List.mem_of_getElem? (i := 216) (by decide +kernel)) rfl
theorem dn_w_217 : (.fieldLink "DocumentChip$Way" 13 "DocumentChip$Way" "atWord" "[I" : Cond) ∈ dc_W := dc_in (List.mem_of_getElem? (i := 217) (by decide +kernel)) rfl
theorem dn_w_218 : (.fieldLink "DocumentChip$Way" 16 "DocumentChip$Way" "masks" "[J" : Cond) ∈ dc_W := dc_in (List.mem_of_getElem? (i := 218) (by decide +kernel)) rfl
theorem dn_w_219 : (.fieldLink "DocumentChip$Way" 20 "DocumentChip$Way" "told" "I" : Cond) ∈ dc_W := dc_in (List.mem_of_getElem? (i := 219) (by decide +kernel)) rfl
theorem dn_w_220 : (.fieldLink "DocumentChip$Way" 28 "DocumentChip$Way" "carried" "I" : Cond) ∈ dc_W := dc_in (List.mem_of_getElem? (i := 220) (by decide +kernel)) rfl
theorem dn_w_232 : (.classLink "DocumentChip$Desk" 32 "DocumentChip$Access" : Cond) ∈ dc_W := dc_in (List.mem_of_getElem? (i := 232) (by decide +kernel)) rfl
theorem dn_w_234 : (.classLink "DocumentChip$Desk" 39 "DocumentChip$Session" : Cond) ∈ dc_W := dc_in (List.mem_of_getElem? (i := 234) (by decide +kernel)) rfl
theorem dn_w_236 : (.classLink "DocumentChip$Desk" 46 "DocumentChip$Row" : Cond) ∈ dc_W := dc_in (List.mem_of_getElem? (i := 236) (by decide +kernel)) rfl
theorem dn_w_237 : (.methodLink "DocumentChip$Desk" 48 dn_y_Row_init : Cond) ∈ dc_W := dc_in (List.mem_of_getElem? (i := 237) (by decide +kernel)) rfl
theorem dn_w_238 : (.fieldLink "DocumentChip$Desk" 62 "DocumentChip$Desk" "chip" "LDocumentChip$Chip;" : Cond) ∈ dc_W := dc_in (List.mem_of_getElem? (i := 238) (by decide +kernel)) rfl
theorem dn_w_239 : (.fieldLink "DocumentChip$Desk" 12 "DocumentChip$Desk" "printed" "LDocumentChip$Line;" : Cond) ∈ dc_W := dc_in (List.mem_of_getElem? (i := 239) (by decide +kernel)) rfl
theorem dn_w_241 : (.fieldLink "DocumentChip$Desk" 21 "DocumentChip$Desk" "signers" "LDocumentChip$Signers;" : Cond) ∈ dc_W := dc_in (List.mem_of_getElem? (i := 241) (by decide +kernel)) rfl
theorem dn_w_243 : (.fieldLink "DocumentChip$Desk" 28 "DocumentChip$Desk" "way" "LDocumentChip$Way;" : Cond) ∈ dc_W := dc_in (List.mem_of_getElem? (i := 243) (by decide +kernel)) rfl
theorem dn_w_245 : (.fieldLink "DocumentChip$Desk" 35 "DocumentChip$Desk" "access" "LDocumentChip$Access;" : Cond) ∈ dc_W := dc_in (List.mem_of_getElem? (i := 245) (by decide +kernel)) rfl
theorem dn_w_246 : (.fieldLink "DocumentChip$Desk" 42 "DocumentChip$Desk" "session" "LDocumentChip$Session;" : Cond) ∈ dc_W := dc_in (List.mem_of_getElem? (i := 246) (by decide +kernel)) rfl
theorem dn_w_247 : (.fieldLink "DocumentChip$Desk" 51 "DocumentChip$Desk" "toChip" "LDocumentChip$Row;" : Cond) ∈ dc_W := dc_in (List.mem_of_getElem? (i := 247) (by decide +kernel)) rfl
theorem dn_w_248 : (.fieldLink "DocumentChip$Desk" 55 "DocumentChip$Desk" "toDesk" "LDocumentChip$Row;" : Cond) ∈ dc_W := dc_in (List.mem_of_getElem? (i := 248) (by decide +kernel)) rfl
theorem dn_w_249 : (.fieldLink "DocumentChip$Desk" 58 "DocumentChip$Desk" "files" "[LDocumentChip$Row;" : Cond) ∈ dc_W := dc_in (List.mem_of_getElem? (i := 249) (by decide +kernel)) rfl
theorem dn_w_251 : (.fieldLink "DocumentChip$Desk" 79 "DocumentChip$Desk" "genuine" "Z" : Cond) ∈ dc_W := dc_in (List.mem_of_getElem? (i := 251) (by decide +kernel)) rfl
theorem dn_w_253 : (.fieldLink "DocumentChip$Desk" 66 "DocumentChip$Desk" "t" "J" : Cond) ∈ dc_W := dc_in (List.mem_of_getElem? (i := 253) (by decide +kernel)) rfl
theorem dn_w_254 : (.fieldLink "DocumentChip$Desk" 70 "DocumentChip$Desk" "k" "J" : Cond) ∈ dc_W := dc_in (List.mem_of_getElem? (i := 254) (by decide +kernel)) rfl
theorem dn_w_280 : (.fieldLink "DocumentChip" 31 "DocumentChip" "document" "LDocumentChip$Chip;" : Cond) ∈ dc_W := dc_in (List.mem_of_getElem? (i := 280) (by decide +kernel)) rfl
theorem dn_w_281 : (.fieldLink "DocumentChip" 40 "DocumentChip" "desk" "LDocumentChip$Desk;" : Cond) ∈ dc_W := dc_in (List.mem_of_getElem? (i := 281) (by decide +kernel)) rfl
theorem dn_w_282 : (.fieldLink "DocumentChip" 14 "DocumentChip" "proof" "LDocumentChip$Row;" : Cond) ∈ dc_W := dc_in (List.mem_of_getElem? (i := 282) (by decide +kernel)) rfl
theorem dn_w_283 : (.fieldLink "DocumentChip" 20 "DocumentChip" "proofReply" "LDocumentChip$Row;" : Cond) ∈ dc_W := dc_in (List.mem_of_getElem? (i := 283) (by decide +kernel)) rfl
theorem dn_w_284 : (.fieldLink "DocumentChip" 23 "DocumentChip" "latestAnswer" "LDocumentChip$Row;" : Cond) ∈ dc_W := dc_in (List.mem_of_getElem? (i := 284) (by decide +kernel)) rfl
theorem dn_w_296 : (.methodLink "DocumentChipLaw" 69 dn_y_Doc_digest : Cond) ∈ dc_W := dc_in (List.mem_of_getElem? (i := 296) (by decide +kernel)) rfl
theorem dn_w_297 : (.instanceMethod dn_y_Doc_digest : Cond) ∈ dc_W := dc_in (List.mem_of_getElem? (i := 297) (by decide +kernel)) rfl
theorem dn_w_298 : (.selects "DocumentChip" dn_y_Doc_digest dn_y_Doc_digest : Cond) ∈ dc_W := dc_in (List.mem_of_getElem? (i := 298) (by decide +kernel)) rfl
theorem dn_w_299 : (.code dn_y_Doc_digest prog_1_method_2_code 5 (Option.some FieldType.long) : Cond) ∈ dc_W := dc_in (List.mem_of_getElem? (i := 299) (by decide +kernel)) rfl
theorem dn_w_300 : (.methodLink "DocumentChip" 44 dn_y_Codes_digestOfTwo : Cond) ∈ dc_W := dc_in (List.mem_of_getElem? (i := 300) (by decide +kernel)) rfl
theorem dn_w_301 : (.methodLink "DocumentChipLaw" 74 dn_y_Doc_cipher : Cond) ∈ dc_W := dc_in (List.mem_of_getElem? (i := 301) (by decide +kernel)) rfl
theorem dn_w_302 : (.instanceMethod dn_y_Doc_cipher : Cond) ∈ dc_W := dc_in (List.mem_of_getElem? (i := 302) (by decide +kernel)) rfl
theorem dn_w_303 : (.selects "DocumentChip" dn_y_Doc_cipher dn_y_Doc_cipher : Cond) ∈ dc_W := dc_in (List.mem_of_getElem? (i := 303) (by decide +kernel)) rfl
theorem dn_w_304 : (.code dn_y_Doc_cipher prog_1_method_3_code 5 (Option.some FieldType.long) : Cond) ∈ dc_W := dc_in (List.mem_of_getElem? (i := 304) (by decide +kernel)) rfl
theorem dn_w_305 : (.methodLink "DocumentChip" 50 dn_y_Codes_encipher : Cond) ∈ dc_W := dc_in (List.mem_of_getElem? (i := 305) (by decide +kernel)) rfl
theorem dn_w_306 : (.static dn_y_Codes_encipher : Cond) ∈ dc_W := dc_in (List.mem_of_getElem? (i := 306) (by decide +kernel)) rfl
theorem dn_w_307 : (.code dn_y_Codes_encipher prog_4_method_7_code 8 (Option.some FieldType.long) : Cond) ∈ dc_W := dc_in (List.mem_of_getElem? (i := 307) (by decide +kernel)) rfl
theorem dn_w_308 : (.methodLink "DocumentChip$Codes" 34 dn_y_Codes_scramble : Cond) ∈ dc_W := dc_in (List.mem_of_getElem? (i := 308) (by decide +kernel)) rfl
theorem dn_w_309 : (.static dn_y_Codes_scramble : Cond) ∈ dc_W := dc_in (List.mem_of_getElem? (i := 309) (by decide +kernel)) rfl
theorem dn_w_310 : (.code dn_y_Codes_scramble prog_4_method_9_code 5 (Option.some FieldType.int) : Cond) ∈ dc_W := dc_in (List.mem_of_getElem? (i := 310) (by decide +kernel)) rfl
theorem dn_w_311 : (.constant "DocumentChip$Codes" 41 (-1640531527) : Cond) ∈ dc_W := dc_in (List.mem_of_getElem? (i := 311) (by decide +kernel)) rfl
theorem dn_w_312 : (.methodLink "DocumentChip$Codes" 38 dn_y_Codes_joined : Cond) ∈ dc_W := dc_in (List.mem_of_getElem? (i := 312) (by decide +kernel)) rfl
theorem dn_w_313 : (.static dn_y_Codes_joined : Cond) ∈ dc_W := dc_in (List.mem_of_getElem? (i := 313) (by decide +kernel)) rfl
theorem dn_w_314 : (.code dn_y_Codes_joined prog_4_method_10_code 4 (Option.some FieldType.long) : Cond) ∈ dc_W := dc_in (List.mem_of_getElem? (i := 314) (by decide +kernel)) rfl
theorem dn_w_315 : (.constantLong "DocumentChip$Codes" 42 4294967295 : Cond) ∈ dc_W := dc_in (List.mem_of_getElem? (i := 315) (by decide +kernel)) rfl
theorem dn_w_316 : (.methodLink "DocumentChipLaw" 86 dn_y_Doc_sign : Cond) ∈ dc_W := dc_in (List.mem_of_getElem? (i := 316) (by decide +kernel)) rfl
theorem dn_w_317 : (.instanceMethod dn_y_Doc_sign : Cond) ∈ dc_W := dc_in (List.mem_of_getElem? (i := 317) (by decide +kernel)) rfl
theorem dn_w_318 : (.selects "DocumentChip" dn_y_Doc_sign dn_y_Doc_sign : Cond) ∈ dc_W := dc_in (List.mem_of_getElem? (i := 318) (by decide +kernel)) rfl
theorem dn_w_319 : (.code dn_y_Doc_sign prog_1_method_5_code 3 (Option.some FieldType.long) : Cond) ∈ dc_W := dc_in (List.mem_of_getElem? (i := 319) (by decide +kernel)) rfl
theorem dn_w_320 : (.methodLink "DocumentChip" 85 dn_y_Chip_putSigned : Cond) ∈ dc_W := dc_in (List.mem_of_getElem? (i := 320) (by decide +kernel)) rfl
theorem dn_w_321 : (.instanceMethod dn_y_Chip_putSigned : Cond) ∈ dc_W := dc_in (List.mem_of_getElem? (i := 321) (by decide +kernel)) rfl
theorem dn_w_322 : (.selects "DocumentChip$Chip" dn_y_Chip_putSigned dn_y_Chip_putSigned : Cond) ∈ dc_W := dc_in (List.mem_of_getElem? (i := 322) (by decide +kernel)) rfl
theorem dn_w_323 : (.code dn_y_Chip_putSigned prog_3_method_3_code 4 (Option.some FieldType.long) : Cond) ∈ dc_W := dc_in (List.mem_of_getElem? (i := 323) (by decide +kernel)) rfl
theorem dn_w_324 : (.methodLink "DocumentChip$Chip" 60 dn_y_Row_clear : Cond) ∈ dc_W := dc_in (List.mem_of_getElem? (i := 324) (by decide +kernel)) rfl
theorem dn_w_325 : (.instanceMethod dn_y_Row_clear : Cond) ∈ dc_W := dc_in (List.mem_of_getElem? (i := 325) (by decide +kernel)) rfl
theorem dn_w_326 : (.selects "DocumentChip$Row" dn_y_Row_clear dn_y_Row_clear : Cond) ∈ dc_W := dc_in (List.mem_of_getElem? (i := 326) (by decide +kernel)) rfl
theorem dn_w_327 : (.code dn_y_Row_clear prog_7_method_7_code 1 (Option.none : Option FieldType) : Cond) ∈ dc_W := dc_in (List.mem_of_getElem? (i := 327) (by decide +kernel)) rfl
theorem dn_w_328 : (.methodLink "DocumentChip$Chip" 63 dn_y_Codes_digestOfRow : Cond) ∈ dc_W := dc_in (List.mem_of_getElem? (i := 328) (by decide +kernel)) rfl
theorem dn_w_329 : (.static dn_y_Codes_digestOfRow : Cond) ∈ dc_W := dc_in (List.mem_of_getElem? (i := 329) (by decide +kernel)) rfl
theorem dn_w_330 : (.code dn_y_Codes_digestOfRow prog_4_method_4_code 4 (Option.some FieldType.long) : Cond) ∈ dc_W := dc_in (List.mem_of_getElem? (i := 330) (by decide +kernel)) rfl
theorem dn_w_331 : (.methodLink "DocumentChip$Codes" 18 dn_y_Row_size : Cond) ∈ dc_W := dc_in (List.mem_of_getElem? (i := 331) (by decide +kernel)) rfl
theorem dn_w_332 : (.instanceMethod dn_y_Row_size : Cond) ∈ dc_W := dc_in (List.mem_of_getElem? (i := 332) (by decide +kernel)) rfl
theorem dn_w_333 : (.selects "DocumentChip$Row" dn_y_Row_size dn_y_Row_size : Cond) ∈ dc_W := dc_in (List.mem_of_getElem? (i := 333) (by decide +kernel)) rfl
theorem dn_w_334 : (.code dn_y_Row_size prog_7_method_2_code 1 (Option.some FieldType.int) : Cond) ∈ dc_W := dc_in (List.mem_of_getElem? (i := 334) (by decide +kernel)) rfl
theorem dn_w_335 : (.methodLink "DocumentChip$Codes" 24 dn_y_Row_get : Cond) ∈ dc_W := dc_in (List.mem_of_getElem? (i := 335) (by decide +kernel)) rfl
theorem dn_w_336 : (.instanceMethod dn_y_Row_get : Cond) ∈ dc_W := dc_in (List.mem_of_getElem? (i := 336) (by decide +kernel)) rfl
theorem dn_w_337 : (.selects "DocumentChip$Row" dn_y_Row_get dn_y_Row_get : Cond) ∈ dc_W := dc_in (List.mem_of_getElem? (i := 337) (by decide +kernel)) rfl
theorem dn_w_338 : (.code dn_y_Row_get prog_7_method_5_code 2 (Option.some FieldType.long) : Cond) ∈ dc_W := dc_in (List.mem_of_getElem? (i := 338) (by decide +kernel)) rfl
theorem dn_w_339 : (.methodLink "DocumentChip$Row" 17 dn_y_Row_has : Cond) ∈ dc_W := dc_in (List.mem_of_getElem? (i := 339) (by decide +kernel)) rfl
theorem dn_w_340 : (.instanceMethod dn_y_Row_has : Cond) ∈ dc_W := dc_in (List.mem_of_getElem? (i := 340) (by decide +kernel)) rfl
theorem dn_w_341 : (.selects "DocumentChip$Row" dn_y_Row_has dn_y_Row_has : Cond) ∈ dc_W := dc_in (List.mem_of_getElem? (i := 341) (by decide +kernel)) rfl
theorem dn_w_342 : (.code dn_y_Row_has prog_7_method_4_code 2 (Option.some FieldType.boolean) : Cond) ∈ dc_W := dc_in (List.mem_of_getElem? (i := 342) (by decide +kernel)) rfl
theorem dn_w_343 : (.methodLink "DocumentChip$Chip" 69 dn_y_Row_add : Cond) ∈ dc_W := dc_in (List.mem_of_getElem? (i := 343) (by decide +kernel)) rfl
theorem dn_w_344 : (.instanceMethod dn_y_Row_add : Cond) ∈ dc_W := dc_in (List.mem_of_getElem? (i := 344) (by decide +kernel)) rfl
theorem dn_w_345 : (.selects "DocumentChip$Row" dn_y_Row_add dn_y_Row_add : Cond) ∈ dc_W := dc_in (List.mem_of_getElem? (i := 345) (by decide +kernel)) rfl
theorem dn_w_346 : (.code dn_y_Row_add prog_7_method_8_code 3 (Option.none : Option FieldType) : Cond) ∈ dc_W := dc_in (List.mem_of_getElem? (i := 346) (by decide +kernel)) rfl
theorem dn_w_347 : (.methodLink "DocumentChip$Row" 25 dn_y_Row_isFull : Cond) ∈ dc_W := dc_in (List.mem_of_getElem? (i := 347) (by decide +kernel)) rfl
theorem dn_w_348 : (.instanceMethod dn_y_Row_isFull : Cond) ∈ dc_W := dc_in (List.mem_of_getElem? (i := 348) (by decide +kernel)) rfl
theorem dn_w_349 : (.selects "DocumentChip$Row" dn_y_Row_isFull dn_y_Row_isFull : Cond) ∈ dc_W := dc_in (List.mem_of_getElem? (i := 349) (by decide +kernel)) rfl
theorem dn_w_350 : (.code dn_y_Row_isFull prog_7_method_3_code 1 (Option.some FieldType.boolean) : Cond) ∈ dc_W := dc_in (List.mem_of_getElem? (i := 350) (by decide +kernel)) rfl
theorem dn_w_351 : (.methodLink "DocumentChip$Chip" 72 dn_y_Codes_signedNumber : Cond) ∈ dc_W := dc_in (List.mem_of_getElem? (i := 351) (by decide +kernel)) rfl
theorem dn_w_352 : (.static dn_y_Codes_signedNumber : Cond) ∈ dc_W := dc_in (List.mem_of_getElem? (i := 352) (by decide +kernel)) rfl
theorem dn_w_353 : (.code dn_y_Codes_signedNumber prog_4_method_5_code 1 (Option.some FieldType.long) : Cond) ∈ dc_W := dc_in (List.mem_of_getElem? (i := 353) (by decide +kernel)) rfl
theorem dn_w_354 : (.methodLink "DocumentChip$Codes" 28 dn_y_Codes_digestOfThree : Cond) ∈ dc_W := dc_in (List.mem_of_getElem? (i := 354) (by decide +kernel)) rfl
theorem dn_w_355 : (.methodLink "DocumentChipLaw" 94 dn_y_Doc_check : Cond) ∈ dc_W := dc_in (List.mem_of_getElem? (i := 355) (by decide +kernel)) rfl
theorem dn_w_356 : (.instanceMethod dn_y_Doc_check : Cond) ∈ dc_W := dc_in (List.mem_of_getElem? (i := 356) (by decide +kernel)) rfl
theorem dn_w_357 : (.selects "DocumentChip" dn_y_Doc_check dn_y_Doc_check : Cond) ∈ dc_W := dc_in (List.mem_of_getElem? (i := 357) (by decide +kernel)) rfl
theorem dn_w_358 : (.code dn_y_Doc_check prog_1_method_7_code 3 (Option.some FieldType.int) : Cond) ∈ dc_W := dc_in (List.mem_of_getElem? (i := 358) (by decide +kernel)) rfl
theorem dn_w_359 : (.methodLink "DocumentChip" 116 dn_y_Line_rightDigit : Cond) ∈ dc_W := dc_in (List.mem_of_getElem? (i := 359) (by decide +kernel)) rfl
theorem dn_w_360 : (.methodLink "DocumentChipLaw" 103 dn_y_Doc_draw : Cond) ∈ dc_W := dc_in (List.mem_of_getElem? (i := 360) (by decide +kernel)) rfl
theorem dn_w_361 : (.instanceMethod dn_y_Doc_draw : Cond) ∈ dc_W := dc_in (List.mem_of_getElem? (i := 361) (by decide +kernel)) rfl
theorem dn_w_362 : (.selects "DocumentChip" dn_y_Doc_draw dn_y_Doc_draw : Cond) ∈ dc_W := dc_in (List.mem_of_getElem? (i := 362) (by decide +kernel)) rfl
theorem dn_w_363 : (.code dn_y_Doc_draw prog_1_method_9_code 9 (Option.some FieldType.boolean) : Cond) ∈ dc_W := dc_in (List.mem_of_getElem? (i := 363) (by decide +kernel)) rfl
theorem dn_w_364 : (.methodLink "DocumentChip" 135 dn_y_Chip_setDrawn : Cond) ∈ dc_W := dc_in (List.mem_of_getElem? (i := 364) (by decide +kernel)) rfl
theorem dn_w_365 : (.instanceMethod dn_y_Chip_setDrawn : Cond) ∈ dc_W := dc_in (List.mem_of_getElem? (i := 365) (by decide +kernel)) rfl
theorem dn_w_366 : (.selects "DocumentChip$Chip" dn_y_Chip_setDrawn dn_y_Chip_setDrawn : Cond) ∈ dc_W := dc_in (List.mem_of_getElem? (i := 366) (by decide +kernel)) rfl
theorem dn_w_367 : (.code dn_y_Chip_setDrawn prog_3_method_2_code 5 (Option.none : Option FieldType) : Cond) ∈ dc_W := dc_in (List.mem_of_getElem? (i := 367) (by decide +kernel)) rfl
theorem dn_w_368 : (.methodLink "DocumentChip" 139 dn_y_Desk_setDrawn : Cond) ∈ dc_W := dc_in (List.mem_of_getElem? (i := 368) (by decide +kernel)) rfl
theorem dn_w_369 : (.instanceMethod dn_y_Desk_setDrawn : Cond) ∈ dc_W := dc_in (List.mem_of_getElem? (i := 369) (by decide +kernel)) rfl
theorem dn_w_370 : (.selects "DocumentChip$Desk" dn_y_Desk_setDrawn dn_y_Desk_setDrawn : Cond) ∈ dc_W := dc_in (List.mem_of_getElem? (i := 370) (by decide +kernel)) rfl
theorem dn_w_371 : (.code dn_y_Desk_setDrawn prog_5_method_2_code 6 (Option.some FieldType.boolean) : Cond) ∈ dc_W := dc_in (List.mem_of_getElem? (i := 371) (by decide +kernel)) rfl
theorem dn_w_372 : (.methodLink "DocumentChipLaw" 112 dn_y_Doc_inspect : Cond) ∈ dc_W := dc_in (List.mem_of_getElem? (i := 372) (by decide +kernel)) rfl
theorem dn_w_373 : (.instanceMethod dn_y_Doc_inspect : Cond) ∈ dc_W := dc_in (List.mem_of_getElem? (i := 373) (by decide +kernel)) rfl
theorem dn_w_374 : (.selects "DocumentChip" dn_y_Doc_inspect dn_y_Doc_inspect : Cond) ∈ dc_W := dc_in (List.mem_of_getElem? (i := 374) (by decide +kernel)) rfl
theorem dn_w_375 : (.code dn_y_Doc_inspect prog_1_method_11_code 2 (Option.some FieldType.int) : Cond) ∈ dc_W := dc_in (List.mem_of_getElem? (i := 375) (by decide +kernel)) rfl
theorem dn_w_376 : (.methodLink "DocumentChip" 157 dn_y_Chip_drop : Cond) ∈ dc_W := dc_in (List.mem_of_getElem? (i := 376) (by decide +kernel)) rfl
theorem dn_w_377 : (.instanceMethod dn_y_Chip_drop : Cond) ∈ dc_W := dc_in (List.mem_of_getElem? (i := 377) (by decide +kernel)) rfl
theorem dn_w_378 : (.selects "DocumentChip$Chip" dn_y_Chip_drop dn_y_Chip_drop : Cond) ∈ dc_W := dc_in (List.mem_of_getElem? (i := 378) (by decide +kernel)) rfl
theorem dn_w_379 : (.code dn_y_Chip_drop prog_3_method_4_code 1 (Option.none : Option FieldType) : Cond) ∈ dc_W := dc_in (List.mem_of_getElem? (i := 379) (by decide +kernel)) rfl
theorem dn_w_380 : (.methodLink "DocumentChip$Chip" 75 dn_y_Session_close : Cond) ∈ dc_W := dc_in (List.mem_of_getElem? (i := 380) (by decide +kernel)) rfl
theorem dn_w_381 : (.instanceMethod dn_y_Session_close : Cond) ∈ dc_W := dc_in (List.mem_of_getElem? (i := 381) (by decide +kernel)) rfl
theorem dn_w_382 : (.selects "DocumentChip$Session" dn_y_Session_close dn_y_Session_close : Cond) ∈ dc_W := dc_in (List.mem_of_getElem? (i := 382) (by decide +kernel)) rfl
theorem dn_w_383 : (.code dn_y_Session_close prog_8_method_3_code 1 (Option.none : Option FieldType) : Cond) ∈ dc_W := dc_in (List.mem_of_getElem? (i := 383) (by decide +kernel)) rfl
theorem dn_w_384 : (.methodLink "DocumentChip" 160 dn_y_Row_clear : Cond) ∈ dc_W := dc_in (List.mem_of_getElem? (i := 384) (by decide +kernel)) rfl
theorem dn_w_385 : (.methodLink "DocumentChip" 163 dn_y_Desk_begin : Cond) ∈ dc_W := dc_in (List.mem_of_getElem? (i := 385) (by decide +kernel)) rfl
theorem dn_w_386 : (.instanceMethod dn_y_Desk_begin : Cond) ∈ dc_W := dc_in (List.mem_of_getElem? (i := 386) (by decide +kernel)) rfl
theorem dn_w_387 : (.selects "DocumentChip$Desk" dn_y_Desk_begin dn_y_Desk_begin : Cond) ∈ dc_W := dc_in (List.mem_of_getElem? (i := 387) (by decide +kernel)) rfl
theorem dn_w_388 : (.code dn_y_Desk_begin prog_5_method_3_code 2 (Option.none : Option FieldType) : Cond) ∈ dc_W := dc_in (List.mem_of_getElem? (i := 388) (by decide +kernel)) rfl
theorem dn_w_389 : (.methodLink "DocumentChip$Desk" 73 dn_y_Way_begin : Cond) ∈ dc_W := dc_in (List.mem_of_getElem? (i := 389) (by decide +kernel)) rfl
theorem dn_w_390 : (.instanceMethod dn_y_Way_begin : Cond) ∈ dc_W := dc_in (List.mem_of_getElem? (i := 390) (by decide +kernel)) rfl
theorem dn_w_391 : (.selects "DocumentChip$Way" dn_y_Way_begin dn_y_Way_begin : Cond) ∈ dc_W := dc_in (List.mem_of_getElem? (i := 391) (by decide +kernel)) rfl
theorem dn_w_392 : (.code dn_y_Way_begin prog_10_method_4_code 1 (Option.none : Option FieldType) : Cond) ∈ dc_W := dc_in (List.mem_of_getElem? (i := 392) (by decide +kernel)) rfl
theorem dn_w_393 : (.methodLink "DocumentChip$Desk" 76 dn_y_Row_clear : Cond) ∈ dc_W := dc_in (List.mem_of_getElem? (i := 393) (by decide +kernel)) rfl
theorem dn_w_394 : (.methodLink "DocumentChip" 166 dn_y_Line_isAllRight : Cond) ∈ dc_W := dc_in (List.mem_of_getElem? (i := 394) (by decide +kernel)) rfl
theorem dn_w_395 : (.instanceMethod dn_y_Line_isAllRight : Cond) ∈ dc_W := dc_in (List.mem_of_getElem? (i := 395) (by decide +kernel)) rfl
theorem dn_w_396 : (.selects "DocumentChip$Line" dn_y_Line_isAllRight dn_y_Line_isAllRight : Cond) ∈ dc_W := dc_in (List.mem_of_getElem? (i := 396) (by decide +kernel)) rfl
theorem dn_w_397 : (.code dn_y_Line_isAllRight prog_6_method_8_code 1 (Option.some FieldType.boolean) : Cond) ∈ dc_W := dc_in (List.mem_of_getElem? (i := 397) (by decide +kernel)) rfl
theorem dn_w_398 : (.methodLink "DocumentChip$Line" 43 dn_y_Line_isRight : Cond) ∈ dc_W := dc_in (List.mem_of_getElem? (i := 398) (by decide +kernel)) rfl
theorem dn_w_399 : (.instanceMethod dn_y_Line_isRight : Cond) ∈ dc_W := dc_in (List.mem_of_getElem? (i := 399) (by decide +kernel)) rfl
theorem dn_w_400 : (.selects "DocumentChip$Line" dn_y_Line_isRight dn_y_Line_isRight : Cond) ∈ dc_W := dc_in (List.mem_of_getElem? (i := 400) (by decide +kernel)) rfl
theorem dn_w_401 : (.code dn_y_Line_isRight prog_6_method_7_code 2 (Option.some FieldType.boolean) : Cond) ∈ dc_W := dc_in (List.mem_of_getElem? (i := 401) (by decide +kernel)) rfl
theorem dn_w_402 : (.methodLink "DocumentChip" 169 dn_y_Desk_openChip : Cond) ∈ dc_W := dc_in (List.mem_of_getElem? (i := 402) (by decide +kernel)) rfl
theorem dn_w_403 : (.instanceMethod dn_y_Desk_openChip : Cond) ∈ dc_W := dc_in (List.mem_of_getElem? (i := 403) (by decide +kernel)) rfl
theorem dn_w_404 : (.selects "DocumentChip$Desk" dn_y_Desk_openChip dn_y_Desk_openChip : Cond) ∈ dc_W := dc_in (List.mem_of_getElem? (i := 404) (by decide +kernel)) rfl
theorem dn_w_405 : (.code dn_y_Desk_openChip prog_5_method_5_code 4 (Option.some FieldType.int) : Cond) ∈ dc_W := dc_in (List.mem_of_getElem? (i := 405) (by decide +kernel)) rfl
theorem dn_w_406 : (.methodLink "DocumentChip$Desk" 86 dn_y_Line_seed : Cond) ∈ dc_W := dc_in (List.mem_of_getElem? (i := 406) (by decide +kernel)) rfl
theorem dn_w_407 : (.methodLink "DocumentChip$Desk" 90 dn_y_Access_derive : Cond) ∈ dc_W := dc_in (List.mem_of_getElem? (i := 407) (by decide +kernel)) rfl
theorem dn_w_408 : (.methodLink "DocumentChip$Desk" 94 dn_y_Way_carry : Cond) ∈ dc_W := dc_in (List.mem_of_getElem? (i := 408) (by decide +kernel)) rfl
theorem dn_w_409 : (.instanceMethod dn_y_Way_carry : Cond) ∈ dc_W := dc_in (List.mem_of_getElem? (i := 409) (by decide +kernel)) rfl
theorem dn_w_410 : (.selects "DocumentChip$Way" dn_y_Way_carry dn_y_Way_carry : Cond) ∈ dc_W := dc_in (List.mem_of_getElem? (i := 410) (by decide +kernel)) rfl
theorem dn_w_411 : (.code dn_y_Way_carry prog_10_method_7_code 3 (Option.none : Option FieldType) : Cond) ∈ dc_W := dc_in (List.mem_of_getElem? (i := 411) (by decide +kernel)) rfl
theorem dn_w_412 : (.methodLink "DocumentChip$Way" 31 dn_y_Row_get : Cond) ∈ dc_W := dc_in (List.mem_of_getElem? (i := 412) (by decide +kernel)) rfl
theorem dn_w_413 : (.methodLink "DocumentChip$Way" 37 dn_y_Row_put : Cond) ∈ dc_W := dc_in (List.mem_of_getElem? (i := 413) (by decide +kernel)) rfl
theorem dn_w_414 : (.instanceMethod dn_y_Row_put : Cond) ∈ dc_W := dc_in (List.mem_of_getElem? (i := 414) (by decide +kernel)) rfl
theorem dn_w_415 : (.selects "DocumentChip$Row" dn_y_Row_put dn_y_Row_put : Cond) ∈ dc_W := dc_in (List.mem_of_getElem? (i := 415) (by decide +kernel)) rfl
theorem dn_w_416 : (.code dn_y_Row_put prog_7_method_9_code 4 (Option.none : Option FieldType) : Cond) ∈ dc_W := dc_in (List.mem_of_getElem? (i := 416) (by decide +kernel)) rfl
theorem dn_w_417 : (.methodLink "DocumentChip$Desk" 98 dn_y_Chip_giveChallenge : Cond) ∈ dc_W := dc_in (List.mem_of_getElem? (i := 417) (by decide +kernel)) rfl
theorem dn_w_418 : (.instanceMethod dn_y_Chip_giveChallenge : Cond) ∈ dc_W := dc_in (List.mem_of_getElem? (i := 418) (by decide +kernel)) rfl
theorem dn_w_419 : (.selects "DocumentChip$Chip" dn_y_Chip_giveChallenge dn_y_Chip_giveChallenge : Cond) ∈ dc_W := dc_in (List.mem_of_getElem? (i := 419) (by decide +kernel)) rfl
theorem dn_w_420 : (.code dn_y_Chip_giveChallenge prog_3_method_5_code 1 (Option.some FieldType.long) : Cond) ∈ dc_W := dc_in (List.mem_of_getElem? (i := 420) (by decide +kernel)) rfl
theorem dn_w_421 : (.methodLink "DocumentChip$Chip" 82 dn_y_Chip_drop : Cond) ∈ dc_W := dc_in (List.mem_of_getElem? (i := 421) (by decide +kernel)) rfl
theorem dn_w_422 : (.methodLink "DocumentChip$Desk" 103 dn_y_Row_add : Cond) ∈ dc_W := dc_in (List.mem_of_getElem? (i := 422) (by decide +kernel)) rfl
theorem dn_w_423 : (.methodLink "DocumentChip$Desk" 106 dn_y_Row_get : Cond) ∈ dc_W := dc_in (List.mem_of_getElem? (i := 423) (by decide +kernel)) rfl
theorem dn_w_424 : (.methodLink "DocumentChip$Desk" 110 dn_y_Access_wrap : Cond) ∈ dc_W := dc_in (List.mem_of_getElem? (i := 424) (by decide +kernel)) rfl
theorem dn_w_425 : (.instanceMethod dn_y_Access_wrap : Cond) ∈ dc_W := dc_in (List.mem_of_getElem? (i := 425) (by decide +kernel)) rfl
theorem dn_w_426 : (.selects "DocumentChip$Access" dn_y_Access_wrap dn_y_Access_wrap : Cond) ∈ dc_W := dc_in (List.mem_of_getElem? (i := 426) (by decide +kernel)) rfl
theorem dn_w_427 : (.code dn_y_Access_wrap prog_2_method_3_code 14 (Option.none : Option FieldType) : Cond) ∈ dc_W := dc_in (List.mem_of_getElem? (i := 427) (by decide +kernel)) rfl
theorem dn_w_428 : (.methodLink "DocumentChip$Access" 24 dn_y_Codes_encipher : Cond) ∈ dc_W := dc_in (List.mem_of_getElem? (i := 428) (by decide +kernel)) rfl
theorem dn_w_429 : (.methodLink "DocumentChip$Access" 27 dn_y_Row_clear : Cond) ∈ dc_W := dc_in (List.mem_of_getElem? (i := 429) (by decide +kernel)) rfl
theorem dn_w_430 : (.methodLink "DocumentChip$Access" 32 dn_y_Row_add : Cond) ∈ dc_W := dc_in (List.mem_of_getElem? (i := 430) (by decide +kernel)) rfl
theorem dn_w_431 : (.methodLink "DocumentChip$Access" 36 dn_y_Codes_sealOfThree : Cond) ∈ dc_W := dc_in (List.mem_of_getElem? (i := 431) (by decide +kernel)) rfl
theorem dn_w_432 : (.static dn_y_Codes_sealOfThree : Cond) ∈ dc_W := dc_in (List.mem_of_getElem? (i := 432) (by decide +kernel)) rfl
theorem dn_w_433 : (.code dn_y_Codes_sealOfThree prog_4_method_11_code 8 (Option.some FieldType.long) : Cond) ∈ dc_W := dc_in (List.mem_of_getElem? (i := 433) (by decide +kernel)) rfl
theorem dn_w_434 : (.methodLink "DocumentChip$Codes" 44 dn_y_Codes_encipher : Cond) ∈ dc_W := dc_in (List.mem_of_getElem? (i := 434) (by decide +kernel)) rfl
theorem dn_w_435 : (.methodLink "DocumentChip$Desk" 114 dn_y_Chip_meet : Cond) ∈ dc_W := dc_in (List.mem_of_getElem? (i := 435) (by decide +kernel)) rfl
theorem dn_w_436 : (.instanceMethod dn_y_Chip_meet : Cond) ∈ dc_W := dc_in (List.mem_of_getElem? (i := 436) (by decide +kernel)) rfl
theorem dn_w_437 : (.selects "DocumentChip$Chip" dn_y_Chip_meet dn_y_Chip_meet : Cond) ∈ dc_W := dc_in (List.mem_of_getElem? (i := 437) (by decide +kernel)) rfl
theorem dn_w_438 : (.code dn_y_Chip_meet prog_3_method_6_code 8 (Option.some FieldType.boolean) : Cond) ∈ dc_W := dc_in (List.mem_of_getElem? (i := 438) (by decide +kernel)) rfl
theorem dn_w_439 : (.methodLink "DocumentChip$Chip" 88 dn_y_Access_sealHolds : Cond) ∈ dc_W := dc_in (List.mem_of_getElem? (i := 439) (by decide +kernel)) rfl
theorem dn_w_440 : (.instanceMethod dn_y_Access_sealHolds : Cond) ∈ dc_W := dc_in (List.mem_of_getElem? (i := 440) (by decide +kernel)) rfl
theorem dn_w_441 : (.selects "DocumentChip$Access" dn_y_Access_sealHolds dn_y_Access_sealHolds : Cond) ∈ dc_W := dc_in (List.mem_of_getElem? (i := 441) (by decide +kernel)) rfl
theorem dn_w_442 : (.code dn_y_Access_sealHolds prog_2_method_4_code 2 (Option.some FieldType.boolean) : Cond) ∈ dc_W := dc_in (List.mem_of_getElem? (i := 442) (by decide +kernel)) rfl
theorem dn_w_443 : (.methodLink "DocumentChip$Access" 40 dn_y_Row_get : Cond) ∈ dc_W := dc_in (List.mem_of_getElem? (i := 443) (by decide +kernel)) rfl
theorem dn_w_444 : (.methodLink "DocumentChip$Chip" 92 dn_y_Access_find : Cond) ∈ dc_W := dc_in (List.mem_of_getElem? (i := 444) (by decide +kernel)) rfl
theorem dn_w_445 : (.instanceMethod dn_y_Access_find : Cond) ∈ dc_W := dc_in (List.mem_of_getElem? (i := 445) (by decide +kernel)) rfl
theorem dn_w_446 : (.selects "DocumentChip$Access" dn_y_Access_find dn_y_Access_find : Cond) ∈ dc_W := dc_in (List.mem_of_getElem? (i := 446) (by decide +kernel)) rfl
theorem dn_w_447 : (.code dn_y_Access_find prog_2_method_5_code 3 (Option.some FieldType.long) : Cond) ∈ dc_W := dc_in (List.mem_of_getElem? (i := 447) (by decide +kernel)) rfl
theorem dn_w_448 : (.methodLink "DocumentChip$Access" 44 dn_y_Codes_decipher : Cond) ∈ dc_W := dc_in (List.mem_of_getElem? (i := 448) (by decide +kernel)) rfl
theorem dn_w_449 : (.static dn_y_Codes_decipher : Cond) ∈ dc_W := dc_in (List.mem_of_getElem? (i := 449) (by decide +kernel)) rfl
theorem dn_w_450 : (.code dn_y_Codes_decipher prog_4_method_8_code 8 (Option.some FieldType.long) : Cond) ∈ dc_W := dc_in (List.mem_of_getElem? (i := 450) (by decide +kernel)) rfl
theorem dn_w_451 : (.methodLink "DocumentChip$Chip" 96 dn_y_Access_wrap : Cond) ∈ dc_W := dc_in (List.mem_of_getElem? (i := 451) (by decide +kernel)) rfl
theorem dn_w_452 : (.methodLink "DocumentChip$Chip" 100 dn_y_Session_begin : Cond) ∈ dc_W := dc_in (List.mem_of_getElem? (i := 452) (by decide +kernel)) rfl
theorem dn_w_453 : (.instanceMethod dn_y_Session_begin : Cond) ∈ dc_W := dc_in (List.mem_of_getElem? (i := 453) (by decide +kernel)) rfl
theorem dn_w_454 : (.selects "DocumentChip$Session" dn_y_Session_begin dn_y_Session_begin : Cond) ∈ dc_W := dc_in (List.mem_of_getElem? (i := 454) (by decide +kernel)) rfl
theorem dn_w_455 : (.code dn_y_Session_begin prog_8_method_2_code 7 (Option.none : Option FieldType) : Cond) ∈ dc_W := dc_in (List.mem_of_getElem? (i := 455) (by decide +kernel)) rfl
theorem dn_w_456 : (.methodLink "DocumentChip$Session" 15 dn_y_Codes_digestOfTwo : Cond) ∈ dc_W := dc_in (List.mem_of_getElem? (i := 456) (by decide +kernel)) rfl
theorem dn_w_457 : (.constantLong "DocumentChip$Session" 25 2 : Cond) ∈ dc_W := dc_in (List.mem_of_getElem? (i := 457) (by decide +kernel)) rfl
theorem dn_w_458 : (.methodLink "DocumentChip$Session" 30 dn_y_Codes_joined : Cond) ∈ dc_W := dc_in (List.mem_of_getElem? (i := 458) (by decide +kernel)) rfl
theorem dn_w_459 : (.methodLink "DocumentChip$Desk" 118 dn_y_Access_sealHolds : Cond) ∈ dc_W := dc_in (List.mem_of_getElem? (i := 459) (by decide +kernel)) rfl
theorem dn_w_460 : (.methodLink "DocumentChip$Desk" 122 dn_y_Access_find : Cond) ∈ dc_W := dc_in (List.mem_of_getElem? (i := 460) (by decide +kernel)) rfl
theorem dn_w_461 : (.methodLink "DocumentChip$Desk" 126 dn_y_Session_begin : Cond) ∈ dc_W := dc_in (List.mem_of_getElem? (i := 461) (by decide +kernel)) rfl
theorem dn_w_462 : (.methodLink "DocumentChip" 172 dn_y_Desk_readFiles : Cond) ∈ dc_W := dc_in (List.mem_of_getElem? (i := 462) (by decide +kernel)) rfl
theorem dn_w_463 : (.instanceMethod dn_y_Desk_readFiles : Cond) ∈ dc_W := dc_in (List.mem_of_getElem? (i := 463) (by decide +kernel)) rfl
theorem dn_w_464 : (.selects "DocumentChip$Desk" dn_y_Desk_readFiles dn_y_Desk_readFiles : Cond) ∈ dc_W := dc_in (List.mem_of_getElem? (i := 464) (by decide +kernel)) rfl
theorem dn_w_465 : (.code dn_y_Desk_readFiles prog_5_method_6_code 7 (Option.some FieldType.int) : Cond) ∈ dc_W := dc_in (List.mem_of_getElem? (i := 465) (by decide +kernel)) rfl
theorem dn_w_466 : (.fieldLink "DocumentChip$Desk" 129 "DocumentChip$Desk" "READING_ORDER" "[I" : Cond) ∈ dc_W := dc_in (List.mem_of_getElem? (i := 466) (by decide +kernel)) rfl
theorem dn_w_468 : (.methodLink "DocumentChip$Desk" 134 dn_y_Row_size : Cond) ∈ dc_W := dc_in (List.mem_of_getElem? (i := 468) (by decide +kernel)) rfl
theorem dn_w_469 : (.methodLink "DocumentChip$Desk" 138 dn_y_Desk_ask : Cond) ∈ dc_W := dc_in (List.mem_of_getElem? (i := 469) (by decide +kernel)) rfl
theorem dn_w_471 : (.instanceMethod dn_y_Desk_ask : Cond) ∈ dc_W := dc_in (List.mem_of_getElem? (i := 471) (by decide +kernel)) rfl
theorem dn_w_472 : (.code dn_y_Desk_ask prog_5_method_7_code 8 (Option.some FieldType.int) : Cond) ∈ dc_W := dc_in (List.mem_of_getElem? (i := 472) (by decide +kernel)) rfl
theorem dn_w_473 : (.methodLink "DocumentChip$Desk" 148 dn_y_Session_nextData : Cond) ∈ dc_W := dc_in (List.mem_of_getElem? (i := 473) (by decide +kernel)) rfl
theorem dn_w_474 : (.instanceMethod dn_y_Session_nextData : Cond) ∈ dc_W := dc_in (List.mem_of_getElem? (i := 474) (by decide +kernel)) rfl
theorem dn_w_475 : (.selects "DocumentChip$Session" dn_y_Session_nextData dn_y_Session_nextData : Cond) ∈ dc_W := dc_in (List.mem_of_getElem? (i := 475) (by decide +kernel)) rfl
theorem dn_w_476 : (.code dn_y_Session_nextData prog_8_method_6_code 3 (Option.some FieldType.long) : Cond) ∈ dc_W := dc_in (List.mem_of_getElem? (i := 476) (by decide +kernel)) rfl
theorem dn_w_477 : (.methodLink "DocumentChip$Session" 40 dn_y_Codes_encipher : Cond) ∈ dc_W := dc_in (List.mem_of_getElem? (i := 477) (by decide +kernel)) rfl
theorem dn_w_478 : (.methodLink "DocumentChip$Desk" 152 dn_y_Session_nextSeal : Cond) ∈ dc_W := dc_in (List.mem_of_getElem? (i := 478) (by decide +kernel)) rfl
theorem dn_w_479 : (.instanceMethod dn_y_Session_nextSeal : Cond) ∈ dc_W := dc_in (List.mem_of_getElem? (i := 479) (by decide +kernel)) rfl
theorem dn_w_480 : (.selects "DocumentChip$Session" dn_y_Session_nextSeal dn_y_Session_nextSeal : Cond) ∈ dc_W := dc_in (List.mem_of_getElem? (i := 480) (by decide +kernel)) rfl
theorem dn_w_481 : (.code dn_y_Session_nextSeal prog_8_method_5_code 5 (Option.some FieldType.long) : Cond) ∈ dc_W := dc_in (List.mem_of_getElem? (i := 481) (by decide +kernel)) rfl
theorem dn_w_482 : (.methodLink "DocumentChip$Session" 36 dn_y_Codes_sealOfThree : Cond) ∈ dc_W := dc_in (List.mem_of_getElem? (i := 482) (by decide +kernel)) rfl
theorem dn_w_483 : (.methodLink "DocumentChip$Desk" 156 dn_y_Session_step : Cond) ∈ dc_W := dc_in (List.mem_of_getElem? (i := 483) (by decide +kernel)) rfl
theorem dn_w_484 : (.instanceMethod dn_y_Session_step : Cond) ∈ dc_W := dc_in (List.mem_of_getElem? (i := 484) (by decide +kernel)) rfl
theorem dn_w_485 : (.selects "DocumentChip$Session" dn_y_Session_step dn_y_Session_step : Cond) ∈ dc_W := dc_in (List.mem_of_getElem? (i := 485) (by decide +kernel)) rfl
theorem dn_w_486 : (.code dn_y_Session_step prog_8_method_4_code 1 (Option.none : Option FieldType) : Cond) ∈ dc_W := dc_in (List.mem_of_getElem? (i := 486) (by decide +kernel)) rfl
theorem dn_w_487 : (.methodLink "DocumentChip$Desk" 159 dn_y_Chip_obey : Cond) ∈ dc_W := dc_in (List.mem_of_getElem? (i := 487) (by decide +kernel)) rfl
theorem dn_w_488 : (.instanceMethod dn_y_Chip_obey : Cond) ∈ dc_W := dc_in (List.mem_of_getElem? (i := 488) (by decide +kernel)) rfl
theorem dn_w_489 : (.selects "DocumentChip$Chip" dn_y_Chip_obey dn_y_Chip_obey : Cond) ∈ dc_W := dc_in (List.mem_of_getElem? (i := 489) (by decide +kernel)) rfl
theorem dn_w_490 : (.code dn_y_Chip_obey prog_3_method_7_code 10 (Option.some FieldType.int) : Cond) ∈ dc_W := dc_in (List.mem_of_getElem? (i := 490) (by decide +kernel)) rfl
theorem dn_w_491 : (.methodLink "DocumentChip$Chip" 107 dn_y_Chip_refuse : Cond) ∈ dc_W := dc_in (List.mem_of_getElem? (i := 491) (by decide +kernel)) rfl
theorem dn_w_493 : (.instanceMethod dn_y_Chip_refuse : Cond) ∈ dc_W := dc_in (List.mem_of_getElem? (i := 493) (by decide +kernel)) rfl
theorem dn_w_494 : (.code dn_y_Chip_refuse prog_3_method_8_code 2 (Option.some FieldType.int) : Cond) ∈ dc_W := dc_in (List.mem_of_getElem? (i := 494) (by decide +kernel)) rfl
theorem dn_w_495 : (.methodLink "DocumentChip$Chip" 111 dn_y_Session_nextSeal : Cond) ∈ dc_W := dc_in (List.mem_of_getElem? (i := 495) (by decide +kernel)) rfl
theorem dn_w_496 : (.methodLink "DocumentChip$Chip" 115 dn_y_Session_step : Cond) ∈ dc_W := dc_in (List.mem_of_getElem? (i := 496) (by decide +kernel)) rfl
theorem dn_w_497 : (.methodLink "DocumentChip$Chip" 118 dn_y_Session_find : Cond) ∈ dc_W := dc_in (List.mem_of_getElem? (i := 497) (by decide +kernel)) rfl
theorem dn_w_498 : (.instanceMethod dn_y_Session_find : Cond) ∈ dc_W := dc_in (List.mem_of_getElem? (i := 498) (by decide +kernel)) rfl
theorem dn_w_499 : (.selects "DocumentChip$Session" dn_y_Session_find dn_y_Session_find : Cond) ∈ dc_W := dc_in (List.mem_of_getElem? (i := 499) (by decide +kernel)) rfl
theorem dn_w_500 : (.code dn_y_Session_find prog_8_method_7_code 3 (Option.some FieldType.long) : Cond) ∈ dc_W := dc_in (List.mem_of_getElem? (i := 500) (by decide +kernel)) rfl
theorem dn_w_501 : (.methodLink "DocumentChip$Session" 43 dn_y_Codes_decipher : Cond) ∈ dc_W := dc_in (List.mem_of_getElem? (i := 501) (by decide +kernel)) rfl
theorem dn_w_502 : (.methodLink "DocumentChip$Chip" 121 dn_y_Chip_select : Cond) ∈ dc_W := dc_in (List.mem_of_getElem? (i := 502) (by decide +kernel)) rfl
theorem dn_w_504 : (.instanceMethod dn_y_Chip_select : Cond) ∈ dc_W := dc_in (List.mem_of_getElem? (i := 504) (by decide +kernel)) rfl
theorem dn_w_505 : (.code dn_y_Chip_select prog_3_method_9_code 3 (Option.some FieldType.int) : Cond) ∈ dc_W := dc_in (List.mem_of_getElem? (i := 505) (by decide +kernel)) rfl
theorem dn_w_507 : (.static dn_y_Doc_isFile : Cond) ∈ dc_W := dc_in (List.mem_of_getElem? (i := 507) (by decide +kernel)) rfl
theorem dn_w_508 : (.code dn_y_Doc_isFile prog_1_method_21_code 2 (Option.some FieldType.boolean) : Cond) ∈ dc_W := dc_in (List.mem_of_getElem? (i := 508) (by decide +kernel)) rfl
theorem dn_w_509 : (.constantLong "DocumentChip" 260 4 : Cond) ∈ dc_W := dc_in (List.mem_of_getElem? (i := 509) (by decide +kernel)) rfl
theorem dn_w_510 : (.constantLong "DocumentChip$Chip" 125 2 : Cond) ∈ dc_W := dc_in (List.mem_of_getElem? (i := 510) (by decide +kernel)) rfl
theorem dn_w_511 : (.methodLink "DocumentChip$Chip" 127 dn_y_Chip_read : Cond) ∈ dc_W := dc_in (List.mem_of_getElem? (i := 511) (by decide +kernel)) rfl
theorem dn_w_513 : (.instanceMethod dn_y_Chip_read : Cond) ∈ dc_W := dc_in (List.mem_of_getElem? (i := 513) (by decide +kernel)) rfl
theorem dn_w_514 : (.code dn_y_Chip_read prog_3_method_10_code 10 (Option.some FieldType.int) : Cond) ∈ dc_W := dc_in (List.mem_of_getElem? (i := 514) (by decide +kernel)) rfl
theorem dn_w_515 : (.constantLong "DocumentChip$Chip" 141 31 : Cond) ∈ dc_W := dc_in (List.mem_of_getElem? (i := 515) (by decide +kernel)) rfl
theorem dn_w_516 : (.constantLong "DocumentChip$Chip" 143 4 : Cond) ∈ dc_W := dc_in (List.mem_of_getElem? (i := 516) (by decide +kernel)) rfl
theorem dn_w_517 : (.methodLink "DocumentChip$Chip" 145 dn_y_Row_size : Cond) ∈ dc_W := dc_in (List.mem_of_getElem? (i := 517) (by decide +kernel)) rfl
theorem dn_w_518 : (.methodLink "DocumentChip$Chip" 149 dn_y_Row_get : Cond) ∈ dc_W := dc_in (List.mem_of_getElem? (i := 518) (by decide +kernel)) rfl
theorem dn_w_519 : (.methodLink "DocumentChip$Chip" 131 dn_y_Session_wrap : Cond) ∈ dc_W := dc_in (List.mem_of_getElem? (i := 519) (by decide +kernel)) rfl
theorem dn_w_520 : (.instanceMethod dn_y_Session_wrap : Cond) ∈ dc_W := dc_in (List.mem_of_getElem? (i := 520) (by decide +kernel)) rfl
theorem dn_w_521 : (.selects "DocumentChip$Session" dn_y_Session_wrap dn_y_Session_wrap : Cond) ∈ dc_W := dc_in (List.mem_of_getElem? (i := 521) (by decide +kernel)) rfl
theorem dn_w_522 : (.code dn_y_Session_wrap prog_8_method_8_code 3 (Option.none : Option FieldType) : Cond) ∈ dc_W := dc_in (List.mem_of_getElem? (i := 522) (by decide +kernel)) rfl
theorem dn_w_523 : (.methodLink "DocumentChip$Session" 46 dn_y_Session_step : Cond) ∈ dc_W := dc_in (List.mem_of_getElem? (i := 523) (by decide +kernel)) rfl
theorem dn_w_524 : (.methodLink "DocumentChip$Session" 49 dn_y_Row_size : Cond) ∈ dc_W := dc_in (List.mem_of_getElem? (i := 524) (by decide +kernel)) rfl
theorem dn_w_525 : (.methodLink "DocumentChip$Session" 55 dn_y_Row_get : Cond) ∈ dc_W := dc_in (List.mem_of_getElem? (i := 525) (by decide +kernel)) rfl
theorem dn_w_526 : (.methodLink "DocumentChip$Session" 59 dn_y_Row_put : Cond) ∈ dc_W := dc_in (List.mem_of_getElem? (i := 526) (by decide +kernel)) rfl
theorem dn_w_527 : (.constantLong "DocumentChip$Session" 63 36864 : Cond) ∈ dc_W := dc_in (List.mem_of_getElem? (i := 527) (by decide +kernel)) rfl
theorem dn_w_528 : (.methodLink "DocumentChip$Session" 65 dn_y_Row_add : Cond) ∈ dc_W := dc_in (List.mem_of_getElem? (i := 528) (by decide +kernel)) rfl
theorem dn_w_529 : (.methodLink "DocumentChip$Session" 69 dn_y_Session_sealOf : Cond) ∈ dc_W := dc_in (List.mem_of_getElem? (i := 529) (by decide +kernel)) rfl
theorem dn_w_531 : (.instanceMethod dn_y_Session_sealOf : Cond) ∈ dc_W := dc_in (List.mem_of_getElem? (i := 531) (by decide +kernel)) rfl
theorem dn_w_532 : (.code dn_y_Session_sealOf prog_8_method_10_code 6 (Option.some FieldType.long) : Cond) ∈ dc_W := dc_in (List.mem_of_getElem? (i := 532) (by decide +kernel)) rfl
theorem dn_w_533 : (.methodLink "DocumentChip$Desk" 163 dn_y_Session_unwrap : Cond) ∈ dc_W := dc_in (List.mem_of_getElem? (i := 533) (by decide +kernel)) rfl
theorem dn_w_534 : (.instanceMethod dn_y_Session_unwrap : Cond) ∈ dc_W := dc_in (List.mem_of_getElem? (i := 534) (by decide +kernel)) rfl
theorem dn_w_535 : (.selects "DocumentChip$Session" dn_y_Session_unwrap dn_y_Session_unwrap : Cond) ∈ dc_W := dc_in (List.mem_of_getElem? (i := 535) (by decide +kernel)) rfl
theorem dn_w_536 : (.code dn_y_Session_unwrap prog_8_method_9_code 6 (Option.some FieldType.boolean) : Cond) ∈ dc_W := dc_in (List.mem_of_getElem? (i := 536) (by decide +kernel)) rfl
theorem dn_w_537 : (.methodLink "DocumentChip$Desk" 142 ⟨"java/lang/Math", "min", "(II)I"⟩ : Cond) ∈ dc_W := dc_in (List.mem_of_getElem? (i := 537) (by decide +kernel)) rfl
theorem dn_w_538 : (.static ⟨"java/lang/Math", "min", "(II)I"⟩ : Cond) ∈ dc_W := dc_in (List.mem_of_getElem? (i := 538) (by decide +kernel)) rfl
theorem dn_w_539 : (.code ⟨"java/lang/Math", "min", "(II)I"⟩ prog_17_method_69_code 2 (Option.some FieldType.int) : Cond) ∈ dc_W := dc_in (List.mem_of_getElem? (i := 539) (by decide +kernel)) rfl
theorem dn_w_540 : (.methodLink "DocumentChip" 175 dn_y_Desk_judge : Cond) ∈ dc_W := dc_in (List.mem_of_getElem? (i := 540) (by decide +kernel)) rfl
theorem dn_w_541 : (.instanceMethod dn_y_Desk_judge : Cond) ∈ dc_W := dc_in (List.mem_of_getElem? (i := 541) (by decide +kernel)) rfl
theorem dn_w_542 : (.selects "DocumentChip$Desk" dn_y_Desk_judge dn_y_Desk_judge : Cond) ∈ dc_W := dc_in (List.mem_of_getElem? (i := 542) (by decide +kernel)) rfl
theorem dn_w_543 : (.code dn_y_Desk_judge prog_5_method_8_code 4 (Option.some FieldType.int) : Cond) ∈ dc_W := dc_in (List.mem_of_getElem? (i := 543) (by decide +kernel)) rfl
theorem dn_w_544 : (.constantLong "DocumentChip$Desk" 167 19 : Cond) ∈ dc_W := dc_in (List.mem_of_getElem? (i := 544) (by decide +kernel)) rfl
theorem dn_w_545 : (.methodLink "DocumentChip$Desk" 169 dn_y_Codes_digestOfRow : Cond) ∈ dc_W := dc_in (List.mem_of_getElem? (i := 545) (by decide +kernel)) rfl
theorem dn_w_546 : (.methodLink "DocumentChip$Desk" 175 dn_y_Signers_find : Cond) ∈ dc_W := dc_in (List.mem_of_getElem? (i := 546) (by decide +kernel)) rfl
theorem dn_w_547 : (.instanceMethod dn_y_Signers_find : Cond) ∈ dc_W := dc_in (List.mem_of_getElem? (i := 547) (by decide +kernel)) rfl
theorem dn_w_548 : (.selects "DocumentChip$Signers" dn_y_Signers_find dn_y_Signers_find : Cond) ∈ dc_W := dc_in (List.mem_of_getElem? (i := 548) (by decide +kernel)) rfl
theorem dn_w_549 : (.code dn_y_Signers_find prog_9_method_4_code 4 (Option.some FieldType.int) : Cond) ∈ dc_W := dc_in (List.mem_of_getElem? (i := 549) (by decide +kernel)) rfl
theorem dn_w_550 : (.methodLink "DocumentChip$Desk" 178 dn_y_Codes_signedNumber : Cond) ∈ dc_W := dc_in (List.mem_of_getElem? (i := 550) (by decide +kernel)) rfl
theorem dn_w_551 : (.methodLink "DocumentChip$Desk" 181 dn_y_Signers_hasSigned : Cond) ∈ dc_W := dc_in (List.mem_of_getElem? (i := 551) (by decide +kernel)) rfl
theorem dn_w_552 : (.instanceMethod dn_y_Signers_hasSigned : Cond) ∈ dc_W := dc_in (List.mem_of_getElem? (i := 552) (by decide +kernel)) rfl
theorem dn_w_553 : (.selects "DocumentChip$Signers" dn_y_Signers_hasSigned dn_y_Signers_hasSigned : Cond) ∈ dc_W := dc_in (List.mem_of_getElem? (i := 553) (by decide +kernel)) rfl
theorem dn_w_554 : (.code dn_y_Signers_hasSigned prog_9_method_5_code 7 (Option.some FieldType.boolean) : Cond) ∈ dc_W := dc_in (List.mem_of_getElem? (i := 554) (by decide +kernel)) rfl
theorem dn_w_555 : (.methodLink "DocumentChip$Signers" 28 dn_y_Signers_power : Cond) ∈ dc_W := dc_in (List.mem_of_getElem? (i := 555) (by decide +kernel)) rfl
theorem dn_w_556 : (.static dn_y_Signers_power : Cond) ∈ dc_W := dc_in (List.mem_of_getElem? (i := 556) (by decide +kernel)) rfl
theorem dn_w_557 : (.code dn_y_Signers_power prog_9_method_6_code 7 (Option.some FieldType.long) : Cond) ∈ dc_W := dc_in (List.mem_of_getElem? (i := 557) (by decide +kernel)) rfl
theorem dn_w_558 : (.methodLink "DocumentChip$Desk" 185 dn_y_Line_isIn : Cond) ∈ dc_W := dc_in (List.mem_of_getElem? (i := 558) (by decide +kernel)) rfl
theorem dn_w_559 : (.instanceMethod dn_y_Line_isIn : Cond) ∈ dc_W := dc_in (List.mem_of_getElem? (i := 559) (by decide +kernel)) rfl
theorem dn_w_560 : (.selects "DocumentChip$Line" dn_y_Line_isIn dn_y_Line_isIn : Cond) ∈ dc_W := dc_in (List.mem_of_getElem? (i := 560) (by decide +kernel)) rfl
theorem dn_w_561 : (.code dn_y_Line_isIn prog_6_method_11_code 2 (Option.some FieldType.boolean) : Cond) ∈ dc_W := dc_in (List.mem_of_getElem? (i := 561) (by decide +kernel)) rfl
theorem dn_w_562 : (.methodLink "DocumentChip$Line" 58 dn_y_Row_size : Cond) ∈ dc_W := dc_in (List.mem_of_getElem? (i := 562) (by decide +kernel)) rfl
theorem dn_w_563 : (.methodLink "DocumentChip$Line" 64 dn_y_Row_get : Cond) ∈ dc_W := dc_in (List.mem_of_getElem? (i := 563) (by decide +kernel)) rfl
theorem dn_w_564 : (.methodLink "DocumentChip" 178 dn_y_Desk_finish : Cond) ∈ dc_W := dc_in (List.mem_of_getElem? (i := 564) (by decide +kernel)) rfl
theorem dn_w_565 : (.instanceMethod dn_y_Desk_finish : Cond) ∈ dc_W := dc_in (List.mem_of_getElem? (i := 565) (by decide +kernel)) rfl
theorem dn_w_566 : (.selects "DocumentChip$Desk" dn_y_Desk_finish dn_y_Desk_finish : Cond) ∈ dc_W := dc_in (List.mem_of_getElem? (i := 566) (by decide +kernel)) rfl
theorem dn_w_567 : (.code dn_y_Desk_finish prog_5_method_4_code 2 (Option.none : Option FieldType) : Cond) ∈ dc_W := dc_in (List.mem_of_getElem? (i := 567) (by decide +kernel)) rfl
theorem dn_w_568 : (.methodLink "DocumentChip$Desk" 83 dn_y_Way_forget : Cond) ∈ dc_W := dc_in (List.mem_of_getElem? (i := 568) (by decide +kernel)) rfl
theorem dn_w_569 : (.instanceMethod dn_y_Way_forget : Cond) ∈ dc_W := dc_in (List.mem_of_getElem? (i := 569) (by decide +kernel)) rfl
theorem dn_w_570 : (.selects "DocumentChip$Way" dn_y_Way_forget dn_y_Way_forget : Cond) ∈ dc_W := dc_in (List.mem_of_getElem? (i := 570) (by decide +kernel)) rfl
theorem dn_w_571 : (.code dn_y_Way_forget prog_10_method_5_code 1 (Option.none : Option FieldType) : Cond) ∈ dc_W := dc_in (List.mem_of_getElem? (i := 571) (by decide +kernel)) rfl
theorem dn_w_572 : (.methodLink "DocumentChipLaw" 116 dn_y_Doc_messages : Cond) ∈ dc_W := dc_in (List.mem_of_getElem? (i := 572) (by decide +kernel)) rfl
theorem dn_w_573 : (.instanceMethod dn_y_Doc_messages : Cond) ∈ dc_W := dc_in (List.mem_of_getElem? (i := 573) (by decide +kernel)) rfl
theorem dn_w_574 : (.selects "DocumentChip" dn_y_Doc_messages dn_y_Doc_messages : Cond) ∈ dc_W := dc_in (List.mem_of_getElem? (i := 574) (by decide +kernel)) rfl
theorem dn_w_575 : (.code dn_y_Doc_messages prog_1_method_12_code 1 (Option.some FieldType.int) : Cond) ∈ dc_W := dc_in (List.mem_of_getElem? (i := 575) (by decide +kernel)) rfl
theorem dn_w_576 : (.methodLink "DocumentChip" 181 dn_y_Way_count : Cond) ∈ dc_W := dc_in (List.mem_of_getElem? (i := 576) (by decide +kernel)) rfl
theorem dn_w_577 : (.instanceMethod dn_y_Way_count : Cond) ∈ dc_W := dc_in (List.mem_of_getElem? (i := 577) (by decide +kernel)) rfl
theorem dn_w_578 : (.selects "DocumentChip$Way" dn_y_Way_count dn_y_Way_count : Cond) ∈ dc_W := dc_in (List.mem_of_getElem? (i := 578) (by decide +kernel)) rfl
theorem dn_w_579 : (.code dn_y_Way_count prog_10_method_6_code 1 (Option.some FieldType.int) : Cond) ∈ dc_W := dc_in (List.mem_of_getElem? (i := 579) (by decide +kernel)) rfl
theorem dn_w_580 : (.methodLink "DocumentChipLaw" 124 dn_y_Doc_challenge : Cond) ∈ dc_W := dc_in (List.mem_of_getElem? (i := 580) (by decide +kernel)) rfl
theorem dn_w_581 : (.instanceMethod dn_y_Doc_challenge : Cond) ∈ dc_W := dc_in (List.mem_of_getElem? (i := 581) (by decide +kernel)) rfl
theorem dn_w_582 : (.selects "DocumentChip" dn_y_Doc_challenge dn_y_Doc_challenge : Cond) ∈ dc_W := dc_in (List.mem_of_getElem? (i := 582) (by decide +kernel)) rfl
theorem dn_w_583 : (.code dn_y_Doc_challenge prog_1_method_14_code 1 (Option.some FieldType.long) : Cond) ∈ dc_W := dc_in (List.mem_of_getElem? (i := 583) (by decide +kernel)) rfl
theorem dn_w_584 : (.methodLink "DocumentChip" 200 dn_y_Chip_giveChallenge : Cond) ∈ dc_W := dc_in (List.mem_of_getElem? (i := 584) (by decide +kernel)) rfl
theorem dn_w_585 : (.methodLink "DocumentChipLaw" 137 dn_y_Doc_answer : Cond) ∈ dc_W := dc_in (List.mem_of_getElem? (i := 585) (by decide +kernel)) rfl
theorem dn_w_586 : (.instanceMethod dn_y_Doc_answer : Cond) ∈ dc_W := dc_in (List.mem_of_getElem? (i := 586) (by decide +kernel)) rfl
theorem dn_w_587 : (.selects "DocumentChip" dn_y_Doc_answer dn_y_Doc_answer : Cond) ∈ dc_W := dc_in (List.mem_of_getElem? (i := 587) (by decide +kernel)) rfl
theorem dn_w_588 : (.code dn_y_Doc_answer prog_1_method_17_code 2 (Option.some FieldType.long) : Cond) ∈ dc_W := dc_in (List.mem_of_getElem? (i := 588) (by decide +kernel)) rfl
theorem dn_w_589 : (.methodLink "DocumentChip" 196 dn_y_Row_get : Cond) ∈ dc_W := dc_in (List.mem_of_getElem? (i := 589) (by decide +kernel)) rfl
theorem dn_w_590 : (.methodLink "DocumentChipLaw" 149 dn_y_Doc_chip : Cond) ∈ dc_W := dc_in (List.mem_of_getElem? (i := 590) (by decide +kernel)) rfl
theorem dn_w_591 : (.instanceMethod dn_y_Doc_chip : Cond) ∈ dc_W := dc_in (List.mem_of_getElem? (i := 591) (by decide +kernel)) rfl
theorem dn_w_592 : (.selects "DocumentChip" dn_y_Doc_chip dn_y_Doc_chip : Cond) ∈ dc_W := dc_in (List.mem_of_getElem? (i := 592) (by decide +kernel)) rfl
theorem dn_w_593 : (.code dn_y_Doc_chip prog_1_method_20_code 2 (Option.some FieldType.int) : Cond) ∈ dc_W := dc_in (List.mem_of_getElem? (i := 593) (by decide +kernel)) rfl
theorem dn_w_594 : (.methodLink "DocumentChip" 53 dn_y_Doc_isFile : Cond) ∈ dc_W := dc_in (List.mem_of_getElem? (i := 594) (by decide +kernel)) rfl
theorem dn_w_595 : (.methodLink "DocumentChip" 81 dn_y_Row_size : Cond) ∈ dc_W := dc_in (List.mem_of_getElem? (i := 595) (by decide +kernel)) rfl
theorem dn_w_596 : (.methodLink "DocumentChipLaw" 55 dn_y_Law_cell : Cond) ∈ dc_W := dc_in (List.mem_of_getElem? (i := 596) (by decide +kernel)) rfl
theorem dn_w_597 : (.static dn_y_Law_cell : Cond) ∈ dc_W := dc_in (List.mem_of_getElem? (i := 597) (by decide +kernel)) rfl
theorem dn_w_598 : (.code dn_y_Law_cell method_2_code 2 (Option.some FieldType.int) : Cond) ∈ dc_W := dc_in (List.mem_of_getElem? (i := 598) (by decide +kernel)) rfl
theorem dn_w_599 : (.methodLink "DocumentChipLaw" 78 dn_y_Law_load : Cond) ∈ dc_W := dc_in (List.mem_of_getElem? (i := 599) (by decide +kernel)) rfl
theorem dn_w_600 : (.static dn_y_Law_load : Cond) ∈ dc_W := dc_in (List.mem_of_getElem? (i := 600) (by decide +kernel)) rfl
theorem dn_w_601 : (.codeWith dn_y_Law_load method_3_code 6 (Option.some FieldType.int) [(0, 11, 14, 13), (0, 11, 18, 15)] : Cond) ∈ dc_W := dc_in (List.mem_of_getElem? (i := 601) (by decide +kernel)) rfl
theorem dn_w_602 : (.classLink "DocumentChipLaw" 13 "java/lang/IndexOutOfBoundsException" : Cond) ∈ dc_W := dc_in (List.mem_of_getElem? (i := 602) (by decide +kernel)) rfl
theorem dn_w_603 : (.classLink "DocumentChipLaw" 15 "java/lang/IllegalStateException" : Cond) ∈ dc_W := dc_in (List.mem_of_getElem? (i := 603) (by decide +kernel)) rfl
theorem dn_w_604 : (.methodLink "DocumentChipLaw" 7 dn_y_Doc_load : Cond) ∈ dc_W := dc_in (List.mem_of_getElem? (i := 604) (by decide +kernel)) rfl
theorem dn_w_605 : (.instanceMethod dn_y_Doc_load : Cond) ∈ dc_W := dc_in (List.mem_of_getElem? (i := 605) (by decide +kernel)) rfl
theorem dn_w_606 : (.selects "DocumentChip" dn_y_Doc_load dn_y_Doc_load : Cond) ∈ dc_W := dc_in (List.mem_of_getElem? (i := 606) (by decide +kernel)) rfl
theorem dn_w_607 : (.code dn_y_Doc_load prog_1_method_4_code 5 (Option.some FieldType.int) : Cond) ∈ dc_W := dc_in (List.mem_of_getElem? (i := 607) (by decide +kernel)) rfl
theorem dn_w_608 : (.classLink "DocumentChip" 57 "java/lang/IndexOutOfBoundsException" : Cond) ∈ dc_W := dc_in (List.mem_of_getElem? (i := 608) (by decide +kernel)) rfl
theorem dn_w_609 : (.instantiable "java/lang/IndexOutOfBoundsException" 6 : Cond) ∈ dc_W := dc_in (List.mem_of_getElem? (i := 609) (by decide +kernel)) rfl
theorem dn_w_617 : (.selects "java/lang/IndexOutOfBoundsException" ⟨"java/lang/Throwable", "fillInStackTrace", "(I)Ljava/lang/Throwable;"⟩ ⟨"java/lang/Throwable", "fillInStackTrace", "(I)Ljava/lang/Throwable;"⟩ : Cond) ∈ dc_W := dc_in (List.mem_of_getElem? (i := 617) (by decide +kernel)) rfl
theorem dn_w_618 : (.selects "java/lang/IndexOutOfBoundsException" ⟨"java/lang/Throwable", "fillInStackTrace", "()Ljava/lang/Throwable;"⟩ ⟨"java/lang/Throwable", "fillInStackTrace", "()Ljava/lang/Throwable;"⟩ : Cond) ∈ dc_W := dc_in (List.mem_of_getElem? (i := 618) (by decide +kernel)) rfl
theorem dn_w_629 : (.fieldLink "java/lang/Throwable" 198 "java/lang/Throwable" "backtrace" "Ljava/lang/Object;" : Cond) ∈ dc_W := dc_in (List.mem_of_getElem? (i := 629) (by decide +kernel)) rfl
theorem dn_w_631 : (.instanceMethod ⟨"java/lang/Throwable", "<init>", "()V"⟩ : Cond) ∈ dc_W := dc_in (List.mem_of_getElem? (i := 631) (by decide +kernel)) rfl
theorem dn_w_632 : (.code ⟨"java/lang/Throwable", "<init>", "()V"⟩ prog_20_method_1_code 1 (Option.none : Option FieldType) : Cond) ∈ dc_W := dc_in (List.mem_of_getElem? (i := 632) (by decide +kernel)) rfl
theorem dn_w_633 : (.methodLink "java/lang/Throwable" 1 ⟨"java/lang/Object", "<init>", "()V"⟩ : Cond) ∈ dc_W := dc_in (List.mem_of_getElem? (i := 633) (by decide +kernel)) rfl
theorem dn_w_634 : (.fieldLink "java/lang/Throwable" 13 "java/lang/Throwable" "UNASSIGNED_STACK" "[Ljava/lang/StackTraceElement;" : Cond) ∈ dc_W := dc_in (List.mem_of_getElem? (i := 634) (by decide +kernel)) rfl
theorem dn_w_636 : (.fieldLink "java/lang/Throwable" 20 "java/lang/Throwable" "SUPPRESSED_SENTINEL" "Ljava/util/List;" : Cond) ∈ dc_W := dc_in (List.mem_of_getElem? (i := 636) (by decide +kernel)) rfl
theorem dn_w_638 : (.methodLink "java/lang/Throwable" 27 ⟨"java/lang/Throwable", "fillInStackTrace", "()Ljava/lang/Throwable;"⟩ : Cond) ∈ dc_W := dc_in (List.mem_of_getElem? (i := 638) (by decide +kernel)) rfl
theorem dn_w_639 : (.instanceMethod ⟨"java/lang/Throwable", "fillInStackTrace", "()Ljava/lang/Throwable;"⟩ : Cond) ∈ dc_W := dc_in (List.mem_of_getElem? (i := 639) (by decide +kernel)) rfl
theorem dn_w_641 : (.selects "java/lang/IllegalArgumentException" ⟨"java/lang/Throwable", "fillInStackTrace", "()Ljava/lang/Throwable;"⟩ ⟨"java/lang/Throwable", "fillInStackTrace", "()Ljava/lang/Throwable;"⟩ : Cond) ∈ dc_W := dc_in (List.mem_of_getElem? (i := 641) (by decide +kernel)) rfl
theorem dn_w_642 : (.selects "java/lang/IllegalStateException" ⟨"java/lang/Throwable", "fillInStackTrace", "()Ljava/lang/Throwable;"⟩ ⟨"java/lang/Throwable", "fillInStackTrace", "()Ljava/lang/Throwable;"⟩ : Cond) ∈ dc_W := dc_in (List.mem_of_getElem? (i := 642) (by decide +kernel)) rfl
theorem dn_w_643 : (.selects "java/lang/UnsupportedOperationException" ⟨"java/lang/Throwable", "fillInStackTrace", "()Ljava/lang/Throwable;"⟩ ⟨"java/lang/Throwable", "fillInStackTrace", "()Ljava/lang/Throwable;"⟩ : Cond) ∈ dc_W := dc_in (List.mem_of_getElem? (i := 643) (by decide +kernel)) rfl
theorem dn_w_644 : (.selects "java/util/NoSuchElementException" ⟨"java/lang/Throwable", "fillInStackTrace", "()Ljava/lang/Throwable;"⟩ ⟨"java/lang/Throwable", "fillInStackTrace", "()Ljava/lang/Throwable;"⟩ : Cond) ∈ dc_W := dc_in (List.mem_of_getElem? (i := 644) (by decide +kernel)) rfl
theorem dn_w_646 : (.methodLink "java/lang/Throwable" 202 ⟨"java/lang/Throwable", "fillInStackTrace", "(I)Ljava/lang/Throwable;"⟩ : Cond) ∈ dc_W := dc_in (List.mem_of_getElem? (i := 646) (by decide +kernel)) rfl
theorem dn_w_648 : (.instanceMethod ⟨"java/lang/Throwable", "fillInStackTrace", "(I)Ljava/lang/Throwable;"⟩ : Cond) ∈ dc_W := dc_in (List.mem_of_getElem? (i := 648) (by decide +kernel)) rfl
theorem dn_w_649 : (.instantiable "java/lang/Throwable" 6 : Cond) ∈ dc_W := dc_in (List.mem_of_getElem? (i := 649) (by decide +kernel)) rfl
theorem dn_w_652 : (.methodLink "DocumentChip" 61 ⟨"java/lang/IndexOutOfBoundsException", "<init>", "(Ljava/lang/String;)V"⟩ : Cond) ∈ dc_W := dc_in (List.mem_of_getElem? (i := 652) (by decide +kernel)) rfl
theorem dn_w_653 : (.instanceMethod ⟨"java/lang/IndexOutOfBoundsException", "<init>", "(Ljava/lang/String;)V"⟩ : Cond) ∈ dc_W := dc_in (List.mem_of_getElem? (i := 653) (by decide +kernel)) rfl
theorem dn_w_654 : (.code ⟨"java/lang/IndexOutOfBoundsException", "<init>", "(Ljava/lang/String;)V"⟩ prog_16_method_2_code 2 (Option.none : Option FieldType) : Cond) ∈ dc_W := dc_in (List.mem_of_getElem? (i := 654) (by decide +kernel)) rfl
theorem dn_w_655 : (.methodLink "java/lang/IndexOutOfBoundsException" 7 ⟨"java/lang/RuntimeException", "<init>", "(Ljava/lang/String;)V"⟩ : Cond) ∈ dc_W := dc_in (List.mem_of_getElem? (i := 655) (by decide +kernel)) rfl
theorem dn_w_656 : (.instanceMethod ⟨"java/lang/RuntimeException", "<init>", "(Ljava/lang/String;)V"⟩ : Cond) ∈ dc_W := dc_in (List.mem_of_getElem? (i := 656) (by decide +kernel)) rfl
theorem dn_w_657 : (.code ⟨"java/lang/RuntimeException", "<init>", "(Ljava/lang/String;)V"⟩ prog_18_method_2_code 2 (Option.none : Option FieldType) : Cond) ∈ dc_W := dc_in (List.mem_of_getElem? (i := 657) (by decide +kernel)) rfl
theorem dn_w_658 : (.methodLink "java/lang/RuntimeException" 7 ⟨"java/lang/Exception", "<init>", "(Ljava/lang/String;)V"⟩ : Cond) ∈ dc_W := dc_in (List.mem_of_getElem? (i := 658) (by decide +kernel)) rfl
theorem dn_w_659 : (.instanceMethod ⟨"java/lang/Exception", "<init>", "(Ljava/lang/String;)V"⟩ : Cond) ∈ dc_W := dc_in (List.mem_of_getElem? (i := 659) (by decide +kernel)) rfl
theorem dn_w_660 : (.code ⟨"java/lang/Exception", "<init>", "(Ljava/lang/String;)V"⟩ prog_13_method_2_code 2 (Option.none : Option FieldType) : Cond) ∈ dc_W := dc_in (List.mem_of_getElem? (i := 660) (by decide +kernel)) rfl
theorem dn_w_661 : (.methodLink "java/lang/Exception" 7 ⟨"java/lang/Throwable", "<init>", "(Ljava/lang/String;)V"⟩ : Cond) ∈ dc_W := dc_in (List.mem_of_getElem? (i := 661) (by decide +kernel)) rfl
theorem dn_w_662 : (.instanceMethod ⟨"java/lang/Throwable", "<init>", "(Ljava/lang/String;)V"⟩ : Cond) ∈ dc_W := dc_in (List.mem_of_getElem? (i := 662) (by decide +kernel)) rfl
theorem dn_w_663 : (.code ⟨"java/lang/Throwable", "<init>", "(Ljava/lang/String;)V"⟩ prog_20_method_2_code 2 (Option.none : Option FieldType) : Cond) ∈ dc_W := dc_in (List.mem_of_getElem? (i := 663) (by decide +kernel)) rfl
theorem dn_w_664 : (.fieldLink "java/lang/Throwable" 198 "java/lang/Throwable" "backtrace" "Ljava/lang/Object;" : Cond) ∈ dc_W := dc_in (List.mem_of_getElem? (i := 664) (by decide +kernel)) rfl
theorem dn_w_665 : (.fieldLink "java/lang/Throwable" 31 "java/lang/Throwable" "detailMessage" "Ljava/lang/String;" : Cond) ∈ dc_W := dc_in (List.mem_of_getElem? (i := 665) (by decide +kernel)) rfl
theorem dn_w_666 : (.fieldLink "java/lang/Throwable" 7 "java/lang/Throwable" "cause" "Ljava/lang/Throwable;" : Cond) ∈ dc_W := dc_in (List.mem_of_getElem? (i := 666) (by decide +kernel)) rfl
theorem dn_w_667 : (.fieldLink "java/lang/Throwable" 17 "java/lang/Throwable" "stackTrace" "[Ljava/lang/StackTraceElement;" : Cond) ∈ dc_W := dc_in (List.mem_of_getElem? (i := 667) (by decide +kernel)) rfl
theorem dn_w_668 : (.fieldLink "java/lang/Throwable" 24 "java/lang/Throwable" "suppressedExceptions" "Ljava/util/List;" : Cond) ∈ dc_W := dc_in (List.mem_of_getElem? (i := 668) (by decide +kernel)) rfl
theorem dn_w_677 : (.arrayClass FieldType.byte : Cond) ∈ dc_W := dc_in (List.mem_of_getElem? (i := 677) (by decide +kernel)) rfl
theorem dn_w_678 : (.methodLink "DocumentChip" 68 dn_y_Row_isFull : Cond) ∈ dc_W := dc_in (List.mem_of_getElem? (i := 678) (by decide +kernel)) rfl
theorem dn_w_679 : (.classLink "DocumentChip" 72 "java/lang/IllegalStateException" : Cond) ∈ dc_W := dc_in (List.mem_of_getElem? (i := 679) (by decide +kernel)) rfl
theorem dn_w_680 : (.instantiable "java/lang/IllegalStateException" 6 : Cond) ∈ dc_W := dc_in (List.mem_of_getElem? (i := 680) (by decide +kernel)) rfl
theorem dn_w_682 : (.selects "java/lang/IllegalStateException" ⟨"java/lang/Throwable", "fillInStackTrace", "(I)Ljava/lang/Throwable;"⟩ ⟨"java/lang/Throwable", "fillInStackTrace", "(I)Ljava/lang/Throwable;"⟩ : Cond) ∈ dc_W := dc_in (List.mem_of_getElem? (i := 682) (by decide +kernel)) rfl
theorem dn_w_689 : (.methodLink "DocumentChip" 76 ⟨"java/lang/IllegalStateException", "<init>", "(Ljava/lang/String;)V"⟩ : Cond) ∈ dc_W := dc_in (List.mem_of_getElem? (i := 689) (by decide +kernel)) rfl
theorem dn_w_690 : (.instanceMethod ⟨"java/lang/IllegalStateException", "<init>", "(Ljava/lang/String;)V"⟩ : Cond) ∈ dc_W := dc_in (List.mem_of_getElem? (i := 690) (by decide +kernel)) rfl
theorem dn_w_691 : (.code ⟨"java/lang/IllegalStateException", "<init>", "(Ljava/lang/String;)V"⟩ prog_15_method_2_code 2 (Option.none : Option FieldType) : Cond) ∈ dc_W := dc_in (List.mem_of_getElem? (i := 691) (by decide +kernel)) rfl
theorem dn_w_692 : (.methodLink "java/lang/IllegalStateException" 7 ⟨"java/lang/RuntimeException", "<init>", "(Ljava/lang/String;)V"⟩ : Cond) ∈ dc_W := dc_in (List.mem_of_getElem? (i := 692) (by decide +kernel)) rfl
theorem dn_w_695 : (.methodLink "DocumentChip" 77 dn_y_Row_add : Cond) ∈ dc_W := dc_in (List.mem_of_getElem? (i := 695) (by decide +kernel)) rfl
theorem dn_w_696 : (.methodLink "DocumentChipLaw" 90 dn_y_Law_print : Cond) ∈ dc_W := dc_in (List.mem_of_getElem? (i := 696) (by decide +kernel)) rfl
theorem dn_w_697 : (.static dn_y_Law_print : Cond) ∈ dc_W := dc_in (List.mem_of_getElem? (i := 697) (by decide +kernel)) rfl
theorem dn_w_698 : (.codeWith dn_y_Law_print method_4_code 6 (Option.some FieldType.int) [(0, 19, 22, 13), (0, 19, 26, 21)] : Cond) ∈ dc_W := dc_in (List.mem_of_getElem? (i := 698) (by decide +kernel)) rfl
theorem dn_w_699 : (.classLink "DocumentChipLaw" 21 "java/lang/IllegalArgumentException" : Cond) ∈ dc_W := dc_in (List.mem_of_getElem? (i := 699) (by decide +kernel)) rfl
theorem dn_w_700 : (.methodLink "DocumentChipLaw" 17 dn_y_Doc_print : Cond) ∈ dc_W := dc_in (List.mem_of_getElem? (i := 700) (by decide +kernel)) rfl
theorem dn_w_701 : (.instanceMethod dn_y_Doc_print : Cond) ∈ dc_W := dc_in (List.mem_of_getElem? (i := 701) (by decide +kernel)) rfl
theorem dn_w_702 : (.selects "DocumentChip" dn_y_Doc_print dn_y_Doc_print : Cond) ∈ dc_W := dc_in (List.mem_of_getElem? (i := 702) (by decide +kernel)) rfl
theorem dn_w_703 : (.code dn_y_Doc_print prog_1_method_6_code 4 (Option.some FieldType.boolean) : Cond) ∈ dc_W := dc_in (List.mem_of_getElem? (i := 703) (by decide +kernel)) rfl
theorem dn_w_704 : (.methodLink "DocumentChip" 89 dn_y_Line_isField : Cond) ∈ dc_W := dc_in (List.mem_of_getElem? (i := 704) (by decide +kernel)) rfl
theorem dn_w_706 : (.methodLink "DocumentChip" 97 dn_y_Line_fits : Cond) ∈ dc_W := dc_in (List.mem_of_getElem? (i := 706) (by decide +kernel)) rfl
theorem dn_w_707 : (.static dn_y_Line_fits : Cond) ∈ dc_W := dc_in (List.mem_of_getElem? (i := 707) (by decide +kernel)) rfl
theorem dn_w_708 : (.code dn_y_Line_fits prog_6_method_3_code 2 (Option.some FieldType.boolean) : Cond) ∈ dc_W := dc_in (List.mem_of_getElem? (i := 708) (by decide +kernel)) rfl
theorem dn_w_709 : (.classLink "DocumentChip" 101 "java/lang/IllegalArgumentException" : Cond) ∈ dc_W := dc_in (List.mem_of_getElem? (i := 709) (by decide +kernel)) rfl
theorem dn_w_710 : (.instantiable "java/lang/IllegalArgumentException" 6 : Cond) ∈ dc_W := dc_in (List.mem_of_getElem? (i := 710) (by decide +kernel)) rfl
theorem dn_w_712 : (.selects "java/lang/IllegalArgumentException" ⟨"java/lang/Throwable", "fillInStackTrace", "(I)Ljava/lang/Throwable;"⟩ ⟨"java/lang/Throwable", "fillInStackTrace", "(I)Ljava/lang/Throwable;"⟩ : Cond) ∈ dc_W := dc_in (List.mem_of_getElem? (i := 712) (by decide +kernel)) rfl
theorem dn_w_719 : (.methodLink "DocumentChip" 105 ⟨"java/lang/IllegalArgumentException", "<init>", "(Ljava/lang/String;)V"⟩ : Cond) ∈ dc_W := dc_in (List.mem_of_getElem? (i := 719) (by decide +kernel)) rfl
theorem dn_w_720 : (.instanceMethod ⟨"java/lang/IllegalArgumentException", "<init>", "(Ljava/lang/String;)V"⟩ : Cond) ∈ dc_W := dc_in (List.mem_of_getElem? (i := 720) (by decide +kernel)) rfl
theorem dn_w_721 : (.code ⟨"java/lang/IllegalArgumentException", "<init>", "(Ljava/lang/String;)V"⟩ prog_14_method_2_code 2 (Option.none : Option FieldType) : Cond) ∈ dc_W := dc_in (List.mem_of_getElem? (i := 721) (by decide +kernel)) rfl
theorem dn_w_722 : (.methodLink "java/lang/IllegalArgumentException" 7 ⟨"java/lang/RuntimeException", "<init>", "(Ljava/lang/String;)V"⟩ : Cond) ∈ dc_W := dc_in (List.mem_of_getElem? (i := 722) (by decide +kernel)) rfl
theorem dn_w_725 : (.methodLink "DocumentChip" 110 dn_y_Line_put : Cond) ∈ dc_W := dc_in (List.mem_of_getElem? (i := 725) (by decide +kernel)) rfl
theorem dn_w_726 : (.methodLink "DocumentChip" 113 dn_y_Line_isRight : Cond) ∈ dc_W := dc_in (List.mem_of_getElem? (i := 726) (by decide +kernel)) rfl
theorem dn_w_727 : (.methodLink "DocumentChipLaw" 99 dn_y_Law_trust : Cond) ∈ dc_W := dc_in (List.mem_of_getElem? (i := 727) (by decide +kernel)) rfl
theorem dn_w_728 : (.static dn_y_Law_trust : Cond) ∈ dc_W := dc_in (List.mem_of_getElem? (i := 728) (by decide +kernel)) rfl
theorem dn_w_729 : (.codeWith dn_y_Law_trust method_5_code 7 (Option.some FieldType.int) [(0, 13, 16, 21), (0, 13, 20, 15)] : Cond) ∈ dc_W := dc_in (List.mem_of_getElem? (i := 729) (by decide +kernel)) rfl
theorem dn_w_730 : (.methodLink "DocumentChipLaw" 23 dn_y_Doc_trust : Cond) ∈ dc_W := dc_in (List.mem_of_getElem? (i := 730) (by decide +kernel)) rfl
theorem dn_w_731 : (.instanceMethod dn_y_Doc_trust : Cond) ∈ dc_W := dc_in (List.mem_of_getElem? (i := 731) (by decide +kernel)) rfl
theorem dn_w_732 : (.selects "DocumentChip" dn_y_Doc_trust dn_y_Doc_trust : Cond) ∈ dc_W := dc_in (List.mem_of_getElem? (i := 732) (by decide +kernel)) rfl
theorem dn_w_733 : (.code dn_y_Doc_trust prog_1_method_8_code 5 (Option.some FieldType.int) : Cond) ∈ dc_W := dc_in (List.mem_of_getElem? (i := 733) (by decide +kernel)) rfl
theorem dn_w_734 : (.constant "DocumentChip" 122 65537 : Cond) ∈ dc_W := dc_in (List.mem_of_getElem? (i := 734) (by decide +kernel)) rfl
theorem dn_w_736 : (.methodLink "DocumentChip" 129 dn_y_Signers_isFull : Cond) ∈ dc_W := dc_in (List.mem_of_getElem? (i := 736) (by decide +kernel)) rfl
theorem dn_w_737 : (.instanceMethod dn_y_Signers_isFull : Cond) ∈ dc_W := dc_in (List.mem_of_getElem? (i := 737) (by decide +kernel)) rfl
theorem dn_w_738 : (.selects "DocumentChip$Signers" dn_y_Signers_isFull dn_y_Signers_isFull : Cond) ∈ dc_W := dc_in (List.mem_of_getElem? (i := 738) (by decide +kernel)) rfl
theorem dn_w_739 : (.code dn_y_Signers_isFull prog_9_method_2_code 1 (Option.some FieldType.boolean) : Cond) ∈ dc_W := dc_in (List.mem_of_getElem? (i := 739) (by decide +kernel)) rfl
theorem dn_w_741 : (.methodLink "DocumentChip" 132 dn_y_Signers_add : Cond) ∈ dc_W := dc_in (List.mem_of_getElem? (i := 741) (by decide +kernel)) rfl
theorem dn_w_742 : (.instanceMethod dn_y_Signers_add : Cond) ∈ dc_W := dc_in (List.mem_of_getElem? (i := 742) (by decide +kernel)) rfl
theorem dn_w_743 : (.selects "DocumentChip$Signers" dn_y_Signers_add dn_y_Signers_add : Cond) ∈ dc_W := dc_in (List.mem_of_getElem? (i := 743) (by decide +kernel)) rfl
theorem dn_w_744 : (.code dn_y_Signers_add prog_9_method_3_code 5 (Option.some FieldType.int) : Cond) ∈ dc_W := dc_in (List.mem_of_getElem? (i := 744) (by decide +kernel)) rfl
theorem dn_w_745 : (.methodLink "DocumentChip$Signers" 24 dn_y_Signers_isFull : Cond) ∈ dc_W := dc_in (List.mem_of_getElem? (i := 745) (by decide +kernel)) rfl
theorem dn_w_746 : (.methodLink "DocumentChipLaw" 108 dn_y_Law_change : Cond) ∈ dc_W := dc_in (List.mem_of_getElem? (i := 746) (by decide +kernel)) rfl
theorem dn_w_747 : (.static dn_y_Law_change : Cond) ∈ dc_W := dc_in (List.mem_of_getElem? (i := 747) (by decide +kernel)) rfl
theorem dn_w_748 : (.codeWith dn_y_Law_change method_6_code 7 (Option.some FieldType.int) [(0, 12, 15, 21), (0, 12, 19, 15)] : Cond) ∈ dc_W := dc_in (List.mem_of_getElem? (i := 748) (by decide +kernel)) rfl
theorem dn_w_749 : (.methodLink "DocumentChipLaw" 27 dn_y_Doc_change : Cond) ∈ dc_W := dc_in (List.mem_of_getElem? (i := 749) (by decide +kernel)) rfl
theorem dn_w_750 : (.instanceMethod dn_y_Doc_change : Cond) ∈ dc_W := dc_in (List.mem_of_getElem? (i := 750) (by decide +kernel)) rfl
theorem dn_w_751 : (.selects "DocumentChip" dn_y_Doc_change dn_y_Doc_change : Cond) ∈ dc_W := dc_in (List.mem_of_getElem? (i := 751) (by decide +kernel)) rfl
theorem dn_w_752 : (.code dn_y_Doc_change prog_1_method_10_code 5 (Option.some FieldType.int) : Cond) ∈ dc_W := dc_in (List.mem_of_getElem? (i := 752) (by decide +kernel)) rfl
theorem dn_w_754 : (.methodLink "DocumentChip" 148 dn_y_Way_isFull : Cond) ∈ dc_W := dc_in (List.mem_of_getElem? (i := 754) (by decide +kernel)) rfl
theorem dn_w_755 : (.instanceMethod dn_y_Way_isFull : Cond) ∈ dc_W := dc_in (List.mem_of_getElem? (i := 755) (by decide +kernel)) rfl
theorem dn_w_756 : (.selects "DocumentChip$Way" dn_y_Way_isFull dn_y_Way_isFull : Cond) ∈ dc_W := dc_in (List.mem_of_getElem? (i := 756) (by decide +kernel)) rfl
theorem dn_w_757 : (.code dn_y_Way_isFull prog_10_method_2_code 1 (Option.some FieldType.boolean) : Cond) ∈ dc_W := dc_in (List.mem_of_getElem? (i := 757) (by decide +kernel)) rfl
theorem dn_w_759 : (.methodLink "DocumentChip" 153 dn_y_Way_tell : Cond) ∈ dc_W := dc_in (List.mem_of_getElem? (i := 759) (by decide +kernel)) rfl
theorem dn_w_760 : (.instanceMethod dn_y_Way_tell : Cond) ∈ dc_W := dc_in (List.mem_of_getElem? (i := 760) (by decide +kernel)) rfl
theorem dn_w_761 : (.selects "DocumentChip$Way" dn_y_Way_tell dn_y_Way_tell : Cond) ∈ dc_W := dc_in (List.mem_of_getElem? (i := 761) (by decide +kernel)) rfl
theorem dn_w_762 : (.code dn_y_Way_tell prog_10_method_3_code 5 (Option.some FieldType.int) : Cond) ∈ dc_W := dc_in (List.mem_of_getElem? (i := 762) (by decide +kernel)) rfl
theorem dn_w_763 : (.methodLink "DocumentChip$Way" 24 dn_y_Way_isFull : Cond) ∈ dc_W := dc_in (List.mem_of_getElem? (i := 763) (by decide +kernel)) rfl
theorem dn_w_764 : (.methodLink "DocumentChipLaw" 120 dn_y_Law_held : Cond) ∈ dc_W := dc_in (List.mem_of_getElem? (i := 764) (by decide +kernel)) rfl
theorem dn_w_765 : (.static dn_y_Law_held : Cond) ∈ dc_W := dc_in (List.mem_of_getElem? (i := 765) (by decide +kernel)) rfl
theorem dn_w_766 : (.codeWith dn_y_Law_held method_7_code 5 (Option.some FieldType.int) [(0, 9, 12, 15), (0, 9, 16, 13)] : Cond) ∈ dc_W := dc_in (List.mem_of_getElem? (i := 766) (by decide +kernel)) rfl
theorem dn_w_767 : (.methodLink "DocumentChipLaw" 31 dn_y_Doc_held : Cond) ∈ dc_W := dc_in (List.mem_of_getElem? (i := 767) (by decide +kernel)) rfl
theorem dn_w_768 : (.instanceMethod dn_y_Doc_held : Cond) ∈ dc_W := dc_in (List.mem_of_getElem? (i := 768) (by decide +kernel)) rfl
theorem dn_w_769 : (.selects "DocumentChip" dn_y_Doc_held dn_y_Doc_held : Cond) ∈ dc_W := dc_in (List.mem_of_getElem? (i := 769) (by decide +kernel)) rfl
theorem dn_w_770 : (.code dn_y_Doc_held prog_1_method_13_code 3 (Option.some FieldType.long) : Cond) ∈ dc_W := dc_in (List.mem_of_getElem? (i := 770) (by decide +kernel)) rfl
theorem dn_w_772 : (.methodLink "DocumentChip" 191 dn_y_Row_has : Cond) ∈ dc_W := dc_in (List.mem_of_getElem? (i := 772) (by decide +kernel)) rfl
theorem dn_w_774 : (.methodLink "DocumentChipLaw" 129 dn_y_Law_prove : Cond) ∈ dc_W := dc_in (List.mem_of_getElem? (i := 774) (by decide +kernel)) rfl
theorem dn_w_775 : (.static dn_y_Law_prove : Cond) ∈ dc_W := dc_in (List.mem_of_getElem? (i := 775) (by decide +kernel)) rfl
theorem dn_w_776 : (.codeWith dn_y_Law_prove method_8_code 11 (Option.some FieldType.int) [(0, 14, 17, 15), (0, 14, 21, 21)] : Cond) ∈ dc_W := dc_in (List.mem_of_getElem? (i := 776) (by decide +kernel)) rfl
theorem dn_w_777 : (.methodLink "DocumentChipLaw" 35 dn_y_Doc_prove : Cond) ∈ dc_W := dc_in (List.mem_of_getElem? (i := 777) (by decide +kernel)) rfl
theorem dn_w_778 : (.instanceMethod dn_y_Doc_prove : Cond) ∈ dc_W := dc_in (List.mem_of_getElem? (i := 778) (by decide +kernel)) rfl
theorem dn_w_779 : (.selects "DocumentChip" dn_y_Doc_prove dn_y_Doc_prove : Cond) ∈ dc_W := dc_in (List.mem_of_getElem? (i := 779) (by decide +kernel)) rfl
theorem dn_w_780 : (.code dn_y_Doc_prove prog_1_method_15_code 9 (Option.some FieldType.long) : Cond) ∈ dc_W := dc_in (List.mem_of_getElem? (i := 780) (by decide +kernel)) rfl
theorem dn_w_782 : (.methodLink "DocumentChip" 209 dn_y_Chip_meet : Cond) ∈ dc_W := dc_in (List.mem_of_getElem? (i := 782) (by decide +kernel)) rfl
theorem dn_w_784 : (.methodLink "DocumentChip" 215 dn_y_Row_last : Cond) ∈ dc_W := dc_in (List.mem_of_getElem? (i := 784) (by decide +kernel)) rfl
theorem dn_w_785 : (.instanceMethod dn_y_Row_last : Cond) ∈ dc_W := dc_in (List.mem_of_getElem? (i := 785) (by decide +kernel)) rfl
theorem dn_w_786 : (.selects "DocumentChip$Row" dn_y_Row_last dn_y_Row_last : Cond) ∈ dc_W := dc_in (List.mem_of_getElem? (i := 786) (by decide +kernel)) rfl
theorem dn_w_787 : (.code dn_y_Row_last prog_7_method_6_code 1 (Option.some FieldType.long) : Cond) ∈ dc_W := dc_in (List.mem_of_getElem? (i := 787) (by decide +kernel)) rfl
theorem dn_w_788 : (.methodLink "DocumentChip$Row" 21 dn_y_Row_get : Cond) ∈ dc_W := dc_in (List.mem_of_getElem? (i := 788) (by decide +kernel)) rfl
theorem dn_w_789 : (.methodLink "DocumentChipLaw" 133 dn_y_Law_command : Cond) ∈ dc_W := dc_in (List.mem_of_getElem? (i := 789) (by decide +kernel)) rfl
theorem dn_w_790 : (.static dn_y_Law_command : Cond) ∈ dc_W := dc_in (List.mem_of_getElem? (i := 790) (by decide +kernel)) rfl
theorem dn_w_791 : (.codeWith dn_y_Law_command method_9_code 8 (Option.some FieldType.int) [(0, 13, 16, 15), (0, 13, 20, 21), (0, 13, 24, 43), (0, 13, 28, 45), (0, 13, 32, 13)] : Cond) ∈ dc_W := dc_in (List.mem_of_getElem? (i := 791) (by decide +kernel)) rfl
theorem dn_w_792 : (.classLink "DocumentChipLaw" 43 "java/lang/UnsupportedOperationException" : Cond) ∈ dc_W := dc_in (List.mem_of_getElem? (i := 792) (by decide +kernel)) rfl
theorem dn_w_793 : (.classLink "DocumentChipLaw" 45 "java/util/NoSuchElementException" : Cond) ∈ dc_W := dc_in (List.mem_of_getElem? (i := 793) (by decide +kernel)) rfl
theorem dn_w_794 : (.methodLink "DocumentChipLaw" 39 dn_y_Doc_command : Cond) ∈ dc_W := dc_in (List.mem_of_getElem? (i := 794) (by decide +kernel)) rfl
theorem dn_w_795 : (.instanceMethod dn_y_Doc_command : Cond) ∈ dc_W := dc_in (List.mem_of_getElem? (i := 795) (by decide +kernel)) rfl
theorem dn_w_796 : (.selects "DocumentChip" dn_y_Doc_command dn_y_Doc_command : Cond) ∈ dc_W := dc_in (List.mem_of_getElem? (i := 796) (by decide +kernel)) rfl
theorem dn_w_797 : (.code dn_y_Doc_command prog_1_method_16_code 6 (Option.some FieldType.int) : Cond) ∈ dc_W := dc_in (List.mem_of_getElem? (i := 797) (by decide +kernel)) rfl
theorem dn_w_798 : (.methodLink "DocumentChip" 218 dn_y_Chip_obey : Cond) ∈ dc_W := dc_in (List.mem_of_getElem? (i := 798) (by decide +kernel)) rfl
theorem dn_w_801 : (.classLink "DocumentChip" 226 "java/lang/UnsupportedOperationException" : Cond) ∈ dc_W := dc_in (List.mem_of_getElem? (i := 801) (by decide +kernel)) rfl
theorem dn_w_802 : (.instantiable "java/lang/UnsupportedOperationException" 6 : Cond) ∈ dc_W := dc_in (List.mem_of_getElem? (i := 802) (by decide +kernel)) rfl
theorem dn_w_804 : (.selects "java/lang/UnsupportedOperationException" ⟨"java/lang/Throwable", "fillInStackTrace", "(I)Ljava/lang/Throwable;"⟩ ⟨"java/lang/Throwable", "fillInStackTrace", "(I)Ljava/lang/Throwable;"⟩ : Cond) ∈ dc_W := dc_in (List.mem_of_getElem? (i := 804) (by decide +kernel)) rfl
theorem dn_w_811 : (.methodLink "DocumentChip" 230 ⟨"java/lang/UnsupportedOperationException", "<init>", "(Ljava/lang/String;)V"⟩ : Cond) ∈ dc_W := dc_in (List.mem_of_getElem? (i := 811) (by decide +kernel)) rfl
theorem dn_w_812 : (.instanceMethod ⟨"java/lang/UnsupportedOperationException", "<init>", "(Ljava/lang/String;)V"⟩ : Cond) ∈ dc_W := dc_in (List.mem_of_getElem? (i := 812) (by decide +kernel)) rfl
theorem dn_w_813 : (.code ⟨"java/lang/UnsupportedOperationException", "<init>", "(Ljava/lang/String;)V"⟩ prog_21_method_2_code 2 (Option.none : Option FieldType) : Cond) ∈ dc_W := dc_in (List.mem_of_getElem? (i := 813) (by decide +kernel)) rfl
theorem dn_w_814 : (.methodLink "java/lang/UnsupportedOperationException" 7 ⟨"java/lang/RuntimeException", "<init>", "(Ljava/lang/String;)V"⟩ : Cond) ∈ dc_W := dc_in (List.mem_of_getElem? (i := 814) (by decide +kernel)) rfl
theorem dn_w_817 : (.classLink "DocumentChip" 231 "java/util/NoSuchElementException" : Cond) ∈ dc_W := dc_in (List.mem_of_getElem? (i := 817) (by decide +kernel)) rfl
theorem dn_w_818 : (.instantiable "java/util/NoSuchElementException" 6 : Cond) ∈ dc_W := dc_in (List.mem_of_getElem? (i := 818) (by decide +kernel)) rfl
theorem dn_w_820 : (.selects "java/util/NoSuchElementException" ⟨"java/lang/Throwable", "fillInStackTrace", "(I)Ljava/lang/Throwable;"⟩ ⟨"java/lang/Throwable", "fillInStackTrace", "(I)Ljava/lang/Throwable;"⟩ : Cond) ∈ dc_W := dc_in (List.mem_of_getElem? (i := 820) (by decide +kernel)) rfl
theorem dn_w_827 : (.methodLink "DocumentChip" 235 ⟨"java/util/NoSuchElementException", "<init>", "(Ljava/lang/String;)V"⟩ : Cond) ∈ dc_W := dc_in (List.mem_of_getElem? (i := 827) (by decide +kernel)) rfl
theorem dn_w_828 : (.instanceMethod ⟨"java/util/NoSuchElementException", "<init>", "(Ljava/lang/String;)V"⟩ : Cond) ∈ dc_W := dc_in (List.mem_of_getElem? (i := 828) (by decide +kernel)) rfl
theorem dn_w_829 : (.code ⟨"java/util/NoSuchElementException", "<init>", "(Ljava/lang/String;)V"⟩ prog_22_method_4_code 2 (Option.none : Option FieldType) : Cond) ∈ dc_W := dc_in (List.mem_of_getElem? (i := 829) (by decide +kernel)) rfl
theorem dn_w_830 : (.methodLink "java/util/NoSuchElementException" 13 ⟨"java/lang/RuntimeException", "<init>", "(Ljava/lang/String;)V"⟩ : Cond) ∈ dc_W := dc_in (List.mem_of_getElem? (i := 830) (by decide +kernel)) rfl
theorem dn_w_834 : (.methodLink "DocumentChipLaw" 142 dn_y_Law_needed : Cond) ∈ dc_W := dc_in (List.mem_of_getElem? (i := 834) (by decide +kernel)) rfl
theorem dn_w_835 : (.static dn_y_Law_needed : Cond) ∈ dc_W := dc_in (List.mem_of_getElem? (i := 835) (by decide +kernel)) rfl
theorem dn_w_836 : (.codeWith dn_y_Law_needed method_10_code 6 (Option.some FieldType.int) [(0, 10, 13, 15)] : Cond) ∈ dc_W := dc_in (List.mem_of_getElem? (i := 836) (by decide +kernel)) rfl
theorem dn_w_837 : (.methodLink "DocumentChipLaw" 47 dn_y_Doc_needed : Cond) ∈ dc_W := dc_in (List.mem_of_getElem? (i := 837) (by decide +kernel)) rfl
theorem dn_w_838 : (.instanceMethod dn_y_Doc_needed : Cond) ∈ dc_W := dc_in (List.mem_of_getElem? (i := 838) (by decide +kernel)) rfl
theorem dn_w_839 : (.selects "DocumentChip" dn_y_Doc_needed dn_y_Doc_needed : Cond) ∈ dc_W := dc_in (List.mem_of_getElem? (i := 839) (by decide +kernel)) rfl
theorem dn_w_840 : (.code dn_y_Doc_needed prog_1_method_18_code 4 (Option.some FieldType.long) : Cond) ∈ dc_W := dc_in (List.mem_of_getElem? (i := 840) (by decide +kernel)) rfl
theorem dn_w_841 : (.methodLink "DocumentChip" 247 dn_y_Session_nextSeal : Cond) ∈ dc_W := dc_in (List.mem_of_getElem? (i := 841) (by decide +kernel)) rfl
theorem dn_w_842 : (.methodLink "DocumentChipLaw" 145 dn_y_Law_hidden : Cond) ∈ dc_W := dc_in (List.mem_of_getElem? (i := 842) (by decide +kernel)) rfl
theorem dn_w_843 : (.static dn_y_Law_hidden : Cond) ∈ dc_W := dc_in (List.mem_of_getElem? (i := 843) (by decide +kernel)) rfl
theorem dn_w_844 : (.codeWith dn_y_Law_hidden method_11_code 5 (Option.some FieldType.int) [(0, 8, 11, 15)] : Cond) ∈ dc_W := dc_in (List.mem_of_getElem? (i := 844) (by decide +kernel)) rfl
theorem dn_w_845 : (.methodLink "DocumentChipLaw" 51 dn_y_Doc_hidden : Cond) ∈ dc_W := dc_in (List.mem_of_getElem? (i := 845) (by decide +kernel)) rfl
theorem dn_w_846 : (.instanceMethod dn_y_Doc_hidden : Cond) ∈ dc_W := dc_in (List.mem_of_getElem? (i := 846) (by decide +kernel)) rfl
theorem dn_w_847 : (.selects "DocumentChip" dn_y_Doc_hidden dn_y_Doc_hidden : Cond) ∈ dc_W := dc_in (List.mem_of_getElem? (i := 847) (by decide +kernel)) rfl
theorem dn_w_848 : (.code dn_y_Doc_hidden prog_1_method_19_code 3 (Option.some FieldType.long) : Cond) ∈ dc_W := dc_in (List.mem_of_getElem? (i := 848) (by decide +kernel)) rfl
theorem dn_w_849 : (.methodLink "DocumentChip" 250 dn_y_Session_nextData : Cond) ∈ dc_W := dc_in (List.mem_of_getElem? (i := 849) (by decide +kernel)) rfl
theorem dn_w_850 : (.classLink "DocumentChipLaw" 64 "DocumentChipModel" : Cond) ∈ dc_W := dc_in (List.mem_of_getElem? (i := 850) (by decide +kernel)) rfl
theorem dn_w_851 : (.instantiable "DocumentChipModel" 34 : Cond) ∈ dc_W := dc_in (List.mem_of_getElem? (i := 851) (by decide +kernel)) rfl
theorem dn_w_852 : (.methodLink "DocumentChipLaw" 66 dn_y_Mod_init : Cond) ∈ dc_W := dc_in (List.mem_of_getElem? (i := 852) (by decide +kernel)) rfl
theorem dn_w_853 : (.instanceMethod dn_y_Mod_init : Cond) ∈ dc_W := dc_in (List.mem_of_getElem? (i := 853) (by decide +kernel)) rfl
theorem dn_w_854 : (.code dn_y_Mod_init prog_12_method_1_code 7 (Option.none : Option FieldType) : Cond) ∈ dc_W := dc_in (List.mem_of_getElem? (i := 854) (by decide +kernel)) rfl
theorem dn_w_855 : (.methodLink "DocumentChipModel" 1 ⟨"java/lang/Object", "<init>", "()V"⟩ : Cond) ∈ dc_W := dc_in (List.mem_of_getElem? (i := 855) (by decide +kernel)) rfl
theorem dn_w_856 : (.constant "DocumentChipModel" 62 1000000000 : Cond) ∈ dc_W := dc_in (List.mem_of_getElem? (i := 856) (by decide +kernel)) rfl
theorem dn_w_857 : (.constant "DocumentChipModel" 63 1000000 : Cond) ∈ dc_W := dc_in (List.mem_of_getElem? (i := 857) (by decide +kernel)) rfl
theorem dn_w_858 : (.fieldLink "DocumentChipModel" 7 "DocumentChipModel" "field" "[I" : Cond) ∈ dc_W := dc_in (List.mem_of_getElem? (i := 858) (by decide +kernel)) rfl
theorem dn_w_859 : (.fieldLink "DocumentChipModel" 13 "DocumentChipModel" "file" "[J" : Cond) ∈ dc_W := dc_in (List.mem_of_getElem? (i := 859) (by decide +kernel)) rfl
theorem dn_w_860 : (.fieldLink "DocumentChipModel" 17 "DocumentChipModel" "size" "[I" : Cond) ∈ dc_W := dc_in (List.mem_of_getElem? (i := 860) (by decide +kernel)) rfl
theorem dn_w_861 : (.fieldLink "DocumentChipModel" 126 "DocumentChipModel" "session" "Z" : Cond) ∈ dc_W := dc_in (List.mem_of_getElem? (i := 861) (by decide +kernel)) rfl
theorem dn_w_862 : (.fieldLink "DocumentChipModel" 153 "DocumentChipModel" "chipE" "J" : Cond) ∈ dc_W := dc_in (List.mem_of_getElem? (i := 862) (by decide +kernel)) rfl
theorem dn_w_863 : (.fieldLink "DocumentChipModel" 156 "DocumentChipModel" "chipM" "J" : Cond) ∈ dc_W := dc_in (List.mem_of_getElem? (i := 863) (by decide +kernel)) rfl
theorem dn_w_864 : (.fieldLink "DocumentChipModel" 159 "DocumentChipModel" "chipCounter" "J" : Cond) ∈ dc_W := dc_in (List.mem_of_getElem? (i := 864) (by decide +kernel)) rfl
theorem dn_w_865 : (.fieldLink "DocumentChipModel" 64 "DocumentChipModel" "selected" "I" : Cond) ∈ dc_W := dc_in (List.mem_of_getElem? (i := 865) (by decide +kernel)) rfl
theorem dn_w_866 : (.fieldLink "DocumentChipModel" 133 "DocumentChipModel" "given" "Z" : Cond) ∈ dc_W := dc_in (List.mem_of_getElem? (i := 866) (by decide +kernel)) rfl
theorem dn_w_867 : (.fieldLink "DocumentChipModel" 136 "DocumentChipModel" "challenge" "J" : Cond) ∈ dc_W := dc_in (List.mem_of_getElem? (i := 867) (by decide +kernel)) rfl
theorem dn_w_868 : (.fieldLink "DocumentChipModel" 175 "DocumentChipModel" "done" "I" : Cond) ∈ dc_W := dc_in (List.mem_of_getElem? (i := 868) (by decide +kernel)) rfl
theorem dn_w_869 : (.fieldLink "DocumentChipModel" 172 "DocumentChipModel" "answers" "I" : Cond) ∈ dc_W := dc_in (List.mem_of_getElem? (i := 869) (by decide +kernel)) rfl
theorem dn_w_870 : (.fieldLink "DocumentChipModel" 20 "DocumentChipModel" "answer" "[J" : Cond) ∈ dc_W := dc_in (List.mem_of_getElem? (i := 870) (by decide +kernel)) rfl
theorem dn_w_871 : (.fieldLink "DocumentChipModel" 23 "DocumentChipModel" "typed" "[I" : Cond) ∈ dc_W := dc_in (List.mem_of_getElem? (i := 871) (by decide +kernel)) rfl
theorem dn_w_872 : (.fieldLink "DocumentChipModel" 26 "DocumentChipModel" "typedDigit" "[I" : Cond) ∈ dc_W := dc_in (List.mem_of_getElem? (i := 872) (by decide +kernel)) rfl
theorem dn_w_873 : (.fieldLink "DocumentChipModel" 120 "DocumentChipModel" "trusted" "I" : Cond) ∈ dc_W := dc_in (List.mem_of_getElem? (i := 873) (by decide +kernel)) rfl
theorem dn_w_874 : (.fieldLink "DocumentChipModel" 29 "DocumentChipModel" "signer" "[J" : Cond) ∈ dc_W := dc_in (List.mem_of_getElem? (i := 874) (by decide +kernel)) rfl
theorem dn_w_875 : (.fieldLink "DocumentChipModel" 32 "DocumentChipModel" "modulus" "[I" : Cond) ∈ dc_W := dc_in (List.mem_of_getElem? (i := 875) (by decide +kernel)) rfl
theorem dn_w_876 : (.fieldLink "DocumentChipModel" 35 "DocumentChipModel" "exponent" "[I" : Cond) ∈ dc_W := dc_in (List.mem_of_getElem? (i := 876) (by decide +kernel)) rfl
theorem dn_w_877 : (.fieldLink "DocumentChipModel" 38 "DocumentChipModel" "drawn" "[J" : Cond) ∈ dc_W := dc_in (List.mem_of_getElem? (i := 877) (by decide +kernel)) rfl
theorem dn_w_878 : (.fieldLink "DocumentChipModel" 123 "DocumentChipModel" "changes" "I" : Cond) ∈ dc_W := dc_in (List.mem_of_getElem? (i := 878) (by decide +kernel)) rfl
theorem dn_w_879 : (.fieldLink "DocumentChipModel" 41 "DocumentChipModel" "changeMessage" "[I" : Cond) ∈ dc_W := dc_in (List.mem_of_getElem? (i := 879) (by decide +kernel)) rfl
theorem dn_w_880 : (.fieldLink "DocumentChipModel" 44 "DocumentChipModel" "changeWord" "[I" : Cond) ∈ dc_W := dc_in (List.mem_of_getElem? (i := 880) (by decide +kernel)) rfl
theorem dn_w_881 : (.fieldLink "DocumentChipModel" 47 "DocumentChipModel" "changeMask" "[J" : Cond) ∈ dc_W := dc_in (List.mem_of_getElem? (i := 881) (by decide +kernel)) rfl
theorem dn_w_882 : (.fieldLink "DocumentChipModel" 200 "DocumentChipModel" "deskE" "J" : Cond) ∈ dc_W := dc_in (List.mem_of_getElem? (i := 882) (by decide +kernel)) rfl
theorem dn_w_883 : (.fieldLink "DocumentChipModel" 203 "DocumentChipModel" "deskM" "J" : Cond) ∈ dc_W := dc_in (List.mem_of_getElem? (i := 883) (by decide +kernel)) rfl
theorem dn_w_884 : (.fieldLink "DocumentChipModel" 206 "DocumentChipModel" "deskCounter" "J" : Cond) ∈ dc_W := dc_in (List.mem_of_getElem? (i := 884) (by decide +kernel)) rfl
theorem dn_w_885 : (.fieldLink "DocumentChipModel" 50 "DocumentChipModel" "got" "[J" : Cond) ∈ dc_W := dc_in (List.mem_of_getElem? (i := 885) (by decide +kernel)) rfl
theorem dn_w_886 : (.fieldLink "DocumentChipModel" 53 "DocumentChipModel" "gotSize" "[I" : Cond) ∈ dc_W := dc_in (List.mem_of_getElem? (i := 886) (by decide +kernel)) rfl
theorem dn_w_887 : (.fieldLink "DocumentChipModel" 238 "DocumentChipModel" "genuine" "Z" : Cond) ∈ dc_W := dc_in (List.mem_of_getElem? (i := 887) (by decide +kernel)) rfl
theorem dn_w_888 : (.fieldLink "DocumentChipModel" 190 "DocumentChipModel" "messages" "I" : Cond) ∈ dc_W := dc_in (List.mem_of_getElem? (i := 888) (by decide +kernel)) rfl
theorem dn_w_889 : (.fieldLink "DocumentChipModel" 56 "DocumentChipModel" "row" "[J" : Cond) ∈ dc_W := dc_in (List.mem_of_getElem? (i := 889) (by decide +kernel)) rfl
theorem dn_w_890 : (.fieldLink "DocumentChipModel" 59 "DocumentChipModel" "mail" "[J" : Cond) ∈ dc_W := dc_in (List.mem_of_getElem? (i := 890) (by decide +kernel)) rfl
theorem dn_w_891 : (.fieldLink "DocumentChipModel" 68 "DocumentChipModel" "thrown" "I" : Cond) ∈ dc_W := dc_in (List.mem_of_getElem? (i := 891) (by decide +kernel)) rfl
theorem dn_w_961 : (.methodLink "DocumentChipLaw" 82 dn_y_Mod_thrown : Cond) ∈ dc_W := dc_in (List.mem_of_getElem? (i := 961) (by decide +kernel)) rfl
theorem dn_w_962 : (.instanceMethod dn_y_Mod_thrown : Cond) ∈ dc_W := dc_in (List.mem_of_getElem? (i := 962) (by decide +kernel)) rfl
theorem dn_w_963 : (.selects "DocumentChipModel" dn_y_Mod_thrown dn_y_Mod_thrown : Cond) ∈ dc_W := dc_in (List.mem_of_getElem? (i := 963) (by decide +kernel)) rfl
theorem dn_w_964 : (.code dn_y_Mod_thrown prog_12_method_2_code 1 (Option.some FieldType.int) : Cond) ∈ dc_W := dc_in (List.mem_of_getElem? (i := 964) (by decide +kernel)) rfl
theorem dn_w_965 : (.methodLink "DocumentChipLaw" 73 dn_y_Mod_digest : Cond) ∈ dc_W := dc_in (List.mem_of_getElem? (i := 965) (by decide +kernel)) rfl
theorem dn_w_966 : (.instanceMethod dn_y_Mod_digest : Cond) ∈ dc_W := dc_in (List.mem_of_getElem? (i := 966) (by decide +kernel)) rfl
theorem dn_w_967 : (.selects "DocumentChipModel" dn_y_Mod_digest dn_y_Mod_digest : Cond) ∈ dc_W := dc_in (List.mem_of_getElem? (i := 967) (by decide +kernel)) rfl
theorem dn_w_968 : (.code dn_y_Mod_digest prog_12_method_4_code 5 (Option.some FieldType.long) : Cond) ∈ dc_W := dc_in (List.mem_of_getElem? (i := 968) (by decide +kernel)) rfl
theorem dn_w_969 : (.methodLink "DocumentChipModel" 75 dn_y_Mod_both : Cond) ∈ dc_W := dc_in (List.mem_of_getElem? (i := 969) (by decide +kernel)) rfl
theorem dn_w_971 : (.instanceMethod dn_y_Mod_both : Cond) ∈ dc_W := dc_in (List.mem_of_getElem? (i := 971) (by decide +kernel)) rfl
theorem dn_w_972 : (.code dn_y_Mod_both prog_12_method_5_code 5 (Option.some FieldType.long) : Cond) ∈ dc_W := dc_in (List.mem_of_getElem? (i := 972) (by decide +kernel)) rfl
theorem dn_w_973 : (.methodLink "DocumentChipModel" 79 dn_y_Mod_digestRow : Cond) ∈ dc_W := dc_in (List.mem_of_getElem? (i := 973) (by decide +kernel)) rfl
theorem dn_w_975 : (.instanceMethod dn_y_Mod_digestRow : Cond) ∈ dc_W := dc_in (List.mem_of_getElem? (i := 975) (by decide +kernel)) rfl
theorem dn_w_976 : (.code dn_y_Mod_digestRow prog_12_method_3_code 5 (Option.some FieldType.long) : Cond) ∈ dc_W := dc_in (List.mem_of_getElem? (i := 976) (by decide +kernel)) rfl
theorem dn_w_977 : (.constantLong "DocumentChipModel" 71 2611923443488327891 : Cond) ∈ dc_W := dc_in (List.mem_of_getElem? (i := 977) (by decide +kernel)) rfl
theorem dn_w_978 : (.constantLong "DocumentChipModel" 73 (-7046029254386353131) : Cond) ∈ dc_W := dc_in (List.mem_of_getElem? (i := 978) (by decide +kernel)) rfl
theorem dn_w_979 : (.methodLink "DocumentChipLaw" 77 dn_y_Mod_cipher : Cond) ∈ dc_W := dc_in (List.mem_of_getElem? (i := 979) (by decide +kernel)) rfl
theorem dn_w_980 : (.instanceMethod dn_y_Mod_cipher : Cond) ∈ dc_W := dc_in (List.mem_of_getElem? (i := 980) (by decide +kernel)) rfl
theorem dn_w_981 : (.selects "DocumentChipModel" dn_y_Mod_cipher dn_y_Mod_cipher : Cond) ∈ dc_W := dc_in (List.mem_of_getElem? (i := 981) (by decide +kernel)) rfl
theorem dn_w_982 : (.code dn_y_Mod_cipher prog_12_method_10_code 5 (Option.some FieldType.long) : Cond) ∈ dc_W := dc_in (List.mem_of_getElem? (i := 982) (by decide +kernel)) rfl
theorem dn_w_983 : (.methodLink "DocumentChipModel" 94 dn_y_Mod_hide : Cond) ∈ dc_W := dc_in (List.mem_of_getElem? (i := 983) (by decide +kernel)) rfl
theorem dn_w_984 : (.static dn_y_Mod_hide : Cond) ∈ dc_W := dc_in (List.mem_of_getElem? (i := 984) (by decide +kernel)) rfl
theorem dn_w_985 : (.code dn_y_Mod_hide prog_12_method_8_code 8 (Option.some FieldType.long) : Cond) ∈ dc_W := dc_in (List.mem_of_getElem? (i := 985) (by decide +kernel)) rfl
theorem dn_w_986 : (.methodLink "DocumentChipModel" 86 dn_y_Mod_mixed : Cond) ∈ dc_W := dc_in (List.mem_of_getElem? (i := 986) (by decide +kernel)) rfl
theorem dn_w_987 : (.static dn_y_Mod_mixed : Cond) ∈ dc_W := dc_in (List.mem_of_getElem? (i := 987) (by decide +kernel)) rfl
theorem dn_w_988 : (.code dn_y_Mod_mixed prog_12_method_6_code 7 (Option.some FieldType.int) : Cond) ∈ dc_W := dc_in (List.mem_of_getElem? (i := 988) (by decide +kernel)) rfl
theorem dn_w_989 : (.constant "DocumentChipModel" 83 (-1640531527) : Cond) ∈ dc_W := dc_in (List.mem_of_getElem? (i := 989) (by decide +kernel)) rfl
theorem dn_w_990 : (.methodLink "DocumentChipModel" 90 dn_y_Mod_joined : Cond) ∈ dc_W := dc_in (List.mem_of_getElem? (i := 990) (by decide +kernel)) rfl
theorem dn_w_991 : (.static dn_y_Mod_joined : Cond) ∈ dc_W := dc_in (List.mem_of_getElem? (i := 991) (by decide +kernel)) rfl
theorem dn_w_992 : (.code dn_y_Mod_joined prog_12_method_7_code 2 (Option.some FieldType.long) : Cond) ∈ dc_W := dc_in (List.mem_of_getElem? (i := 992) (by decide +kernel)) rfl
theorem dn_w_993 : (.constantLong "DocumentChipModel" 84 4294967295 : Cond) ∈ dc_W := dc_in (List.mem_of_getElem? (i := 993) (by decide +kernel)) rfl
theorem dn_w_994 : (.methodLink "DocumentChipLaw" 98 dn_y_Mod_check : Cond) ∈ dc_W := dc_in (List.mem_of_getElem? (i := 994) (by decide +kernel)) rfl
theorem dn_w_995 : (.instanceMethod dn_y_Mod_check : Cond) ∈ dc_W := dc_in (List.mem_of_getElem? (i := 995) (by decide +kernel)) rfl
theorem dn_w_996 : (.selects "DocumentChipModel" dn_y_Mod_check dn_y_Mod_check : Cond) ∈ dc_W := dc_in (List.mem_of_getElem? (i := 996) (by decide +kernel)) rfl
theorem dn_w_997 : (.code dn_y_Mod_check prog_12_method_15_code 3 (Option.some FieldType.int) : Cond) ∈ dc_W := dc_in (List.mem_of_getElem? (i := 997) (by decide +kernel)) rfl
theorem dn_w_998 : (.methodLink "DocumentChipModel" 101 dn_y_Mod_digitOf : Cond) ∈ dc_W := dc_in (List.mem_of_getElem? (i := 998) (by decide +kernel)) rfl
theorem dn_w_999 : (.static dn_y_Mod_digitOf : Cond) ∈ dc_W := dc_in (List.mem_of_getElem? (i := 999) (by decide +kernel)) rfl
theorem dn_w_1000 : (.code dn_y_Mod_digitOf prog_12_method_13_code 6 (Option.some FieldType.int) : Cond) ∈ dc_W := dc_in (List.mem_of_getElem? (i := 1000) (by decide +kernel)) rfl
theorem dn_w_1001 : (.methodLink "DocumentChipLaw" 81 dn_y_Mod_load : Cond) ∈ dc_W := dc_in (List.mem_of_getElem? (i := 1001) (by decide +kernel)) rfl
theorem dn_w_1002 : (.instanceMethod dn_y_Mod_load : Cond) ∈ dc_W := dc_in (List.mem_of_getElem? (i := 1002) (by decide +kernel)) rfl
theorem dn_w_1003 : (.selects "DocumentChipModel" dn_y_Mod_load dn_y_Mod_load : Cond) ∈ dc_W := dc_in (List.mem_of_getElem? (i := 1003) (by decide +kernel)) rfl
theorem dn_w_1004 : (.code dn_y_Mod_load prog_12_method_19_code 4 (Option.some FieldType.int) : Cond) ∈ dc_W := dc_in (List.mem_of_getElem? (i := 1004) (by decide +kernel)) rfl
theorem dn_w_1005 : (.methodLink "DocumentChipLaw" 89 dn_y_Mod_sign : Cond) ∈ dc_W := dc_in (List.mem_of_getElem? (i := 1005) (by decide +kernel)) rfl
theorem dn_w_1006 : (.instanceMethod dn_y_Mod_sign : Cond) ∈ dc_W := dc_in (List.mem_of_getElem? (i := 1006) (by decide +kernel)) rfl
theorem dn_w_1007 : (.selects "DocumentChipModel" dn_y_Mod_sign dn_y_Mod_sign : Cond) ∈ dc_W := dc_in (List.mem_of_getElem? (i := 1007) (by decide +kernel)) rfl
theorem dn_w_1008 : (.code dn_y_Mod_sign prog_12_method_21_code 3 (Option.some FieldType.long) : Cond) ∈ dc_W := dc_in (List.mem_of_getElem? (i := 1008) (by decide +kernel)) rfl
theorem dn_w_1009 : (.methodLink "DocumentChipModel" 114 dn_y_Mod_digestFile : Cond) ∈ dc_W := dc_in (List.mem_of_getElem? (i := 1009) (by decide +kernel)) rfl
theorem dn_w_1011 : (.instanceMethod dn_y_Mod_digestFile : Cond) ∈ dc_W := dc_in (List.mem_of_getElem? (i := 1011) (by decide +kernel)) rfl
theorem dn_w_1012 : (.code dn_y_Mod_digestFile prog_12_method_20_code 3 (Option.some FieldType.long) : Cond) ∈ dc_W := dc_in (List.mem_of_getElem? (i := 1012) (by decide +kernel)) rfl
theorem dn_w_1013 : (.methodLink "DocumentChipLaw" 93 dn_y_Mod_print : Cond) ∈ dc_W := dc_in (List.mem_of_getElem? (i := 1013) (by decide +kernel)) rfl
theorem dn_w_1014 : (.instanceMethod dn_y_Mod_print : Cond) ∈ dc_W := dc_in (List.mem_of_getElem? (i := 1014) (by decide +kernel)) rfl
theorem dn_w_1015 : (.selects "DocumentChipModel" dn_y_Mod_print dn_y_Mod_print : Cond) ∈ dc_W := dc_in (List.mem_of_getElem? (i := 1015) (by decide +kernel)) rfl
theorem dn_w_1016 : (.code dn_y_Mod_print prog_12_method_22_code 6 (Option.some FieldType.boolean) : Cond) ∈ dc_W := dc_in (List.mem_of_getElem? (i := 1016) (by decide +kernel)) rfl
theorem dn_w_1017 : (.constant "DocumentChipModel" 117 999999999 : Cond) ∈ dc_W := dc_in (List.mem_of_getElem? (i := 1017) (by decide +kernel)) rfl
theorem dn_w_1018 : (.constant "DocumentChipModel" 118 999999 : Cond) ∈ dc_W := dc_in (List.mem_of_getElem? (i := 1018) (by decide +kernel)) rfl
theorem dn_w_1019 : (.methodLink "DocumentChipModel" 107 dn_y_Mod_digitsOf : Cond) ∈ dc_W := dc_in (List.mem_of_getElem? (i := 1019) (by decide +kernel)) rfl
theorem dn_w_1020 : (.static dn_y_Mod_digitsOf : Cond) ∈ dc_W := dc_in (List.mem_of_getElem? (i := 1020) (by decide +kernel)) rfl
theorem dn_w_1021 : (.code dn_y_Mod_digitsOf prog_12_method_14_code 1 (Option.some FieldType.int) : Cond) ∈ dc_W := dc_in (List.mem_of_getElem? (i := 1021) (by decide +kernel)) rfl
theorem dn_w_1022 : (.methodLink "DocumentChipLaw" 102 dn_y_Mod_trust : Cond) ∈ dc_W := dc_in (List.mem_of_getElem? (i := 1022) (by decide +kernel)) rfl
theorem dn_w_1023 : (.instanceMethod dn_y_Mod_trust : Cond) ∈ dc_W := dc_in (List.mem_of_getElem? (i := 1023) (by decide +kernel)) rfl
theorem dn_w_1024 : (.selects "DocumentChipModel" dn_y_Mod_trust dn_y_Mod_trust : Cond) ∈ dc_W := dc_in (List.mem_of_getElem? (i := 1024) (by decide +kernel)) rfl
theorem dn_w_1025 : (.code dn_y_Mod_trust prog_12_method_23_code 5 (Option.some FieldType.int) : Cond) ∈ dc_W := dc_in (List.mem_of_getElem? (i := 1025) (by decide +kernel)) rfl
theorem dn_w_1026 : (.constant "DocumentChipModel" 119 65537 : Cond) ∈ dc_W := dc_in (List.mem_of_getElem? (i := 1026) (by decide +kernel)) rfl
theorem dn_w_1027 : (.methodLink "DocumentChipLaw" 107 dn_y_Mod_draw : Cond) ∈ dc_W := dc_in (List.mem_of_getElem? (i := 1027) (by decide +kernel)) rfl
theorem dn_w_1028 : (.instanceMethod dn_y_Mod_draw : Cond) ∈ dc_W := dc_in (List.mem_of_getElem? (i := 1028) (by decide +kernel)) rfl
theorem dn_w_1029 : (.selects "DocumentChipModel" dn_y_Mod_draw dn_y_Mod_draw : Cond) ∈ dc_W := dc_in (List.mem_of_getElem? (i := 1029) (by decide +kernel)) rfl
theorem dn_w_1030 : (.code dn_y_Mod_draw prog_12_method_24_code 10 (Option.some FieldType.boolean) : Cond) ∈ dc_W := dc_in (List.mem_of_getElem? (i := 1030) (by decide +kernel)) rfl
theorem dn_w_1031 : (.methodLink "DocumentChipLaw" 111 dn_y_Mod_change : Cond) ∈ dc_W := dc_in (List.mem_of_getElem? (i := 1031) (by decide +kernel)) rfl
theorem dn_w_1032 : (.instanceMethod dn_y_Mod_change : Cond) ∈ dc_W := dc_in (List.mem_of_getElem? (i := 1032) (by decide +kernel)) rfl
theorem dn_w_1033 : (.selects "DocumentChipModel" dn_y_Mod_change dn_y_Mod_change : Cond) ∈ dc_W := dc_in (List.mem_of_getElem? (i := 1033) (by decide +kernel)) rfl
theorem dn_w_1034 : (.code dn_y_Mod_change prog_12_method_25_code 5 (Option.some FieldType.int) : Cond) ∈ dc_W := dc_in (List.mem_of_getElem? (i := 1034) (by decide +kernel)) rfl
theorem dn_w_1035 : (.methodLink "DocumentChipLaw" 128 dn_y_Mod_challenge : Cond) ∈ dc_W := dc_in (List.mem_of_getElem? (i := 1035) (by decide +kernel)) rfl
theorem dn_w_1036 : (.instanceMethod dn_y_Mod_challenge : Cond) ∈ dc_W := dc_in (List.mem_of_getElem? (i := 1036) (by decide +kernel)) rfl
theorem dn_w_1037 : (.selects "DocumentChipModel" dn_y_Mod_challenge dn_y_Mod_challenge : Cond) ∈ dc_W := dc_in (List.mem_of_getElem? (i := 1037) (by decide +kernel)) rfl
theorem dn_w_1038 : (.code dn_y_Mod_challenge prog_12_method_31_code 1 (Option.some FieldType.long) : Cond) ∈ dc_W := dc_in (List.mem_of_getElem? (i := 1038) (by decide +kernel)) rfl
theorem dn_w_1039 : (.methodLink "DocumentChipModel" 180 dn_y_Mod_give : Cond) ∈ dc_W := dc_in (List.mem_of_getElem? (i := 1039) (by decide +kernel)) rfl
theorem dn_w_1041 : (.instanceMethod dn_y_Mod_give : Cond) ∈ dc_W := dc_in (List.mem_of_getElem? (i := 1041) (by decide +kernel)) rfl
theorem dn_w_1042 : (.code dn_y_Mod_give prog_12_method_27_code 1 (Option.none : Option FieldType) : Cond) ∈ dc_W := dc_in (List.mem_of_getElem? (i := 1042) (by decide +kernel)) rfl
theorem dn_w_1043 : (.methodLink "DocumentChipModel" 130 dn_y_Mod_noSession : Cond) ∈ dc_W := dc_in (List.mem_of_getElem? (i := 1043) (by decide +kernel)) rfl
theorem dn_w_1045 : (.instanceMethod dn_y_Mod_noSession : Cond) ∈ dc_W := dc_in (List.mem_of_getElem? (i := 1045) (by decide +kernel)) rfl
theorem dn_w_1046 : (.code dn_y_Mod_noSession prog_12_method_26_code 1 (Option.none : Option FieldType) : Cond) ∈ dc_W := dc_in (List.mem_of_getElem? (i := 1046) (by decide +kernel)) rfl
theorem dn_w_1047 : (.methodLink "DocumentChipLaw" 132 dn_y_Mod_prove : Cond) ∈ dc_W := dc_in (List.mem_of_getElem? (i := 1047) (by decide +kernel)) rfl
theorem dn_w_1048 : (.instanceMethod dn_y_Mod_prove : Cond) ∈ dc_W := dc_in (List.mem_of_getElem? (i := 1048) (by decide +kernel)) rfl
theorem dn_w_1049 : (.selects "DocumentChipModel" dn_y_Mod_prove dn_y_Mod_prove : Cond) ∈ dc_W := dc_in (List.mem_of_getElem? (i := 1049) (by decide +kernel)) rfl
theorem dn_w_1050 : (.code dn_y_Mod_prove prog_12_method_32_code 10 (Option.some FieldType.long) : Cond) ∈ dc_W := dc_in (List.mem_of_getElem? (i := 1050) (by decide +kernel)) rfl
theorem dn_w_1051 : (.methodLink "DocumentChipModel" 183 dn_y_Mod_proved : Cond) ∈ dc_W := dc_in (List.mem_of_getElem? (i := 1051) (by decide +kernel)) rfl
theorem dn_w_1053 : (.instanceMethod dn_y_Mod_proved : Cond) ∈ dc_W := dc_in (List.mem_of_getElem? (i := 1053) (by decide +kernel)) rfl
theorem dn_w_1054 : (.code dn_y_Mod_proved prog_12_method_28_code 16 (Option.some FieldType.boolean) : Cond) ∈ dc_W := dc_in (List.mem_of_getElem? (i := 1054) (by decide +kernel)) rfl
theorem dn_w_1055 : (.methodLink "DocumentChipModel" 140 dn_y_Mod_chipSeed : Cond) ∈ dc_W := dc_in (List.mem_of_getElem? (i := 1055) (by decide +kernel)) rfl
theorem dn_w_1057 : (.instanceMethod dn_y_Mod_chipSeed : Cond) ∈ dc_W := dc_in (List.mem_of_getElem? (i := 1057) (by decide +kernel)) rfl
theorem dn_w_1058 : (.code dn_y_Mod_chipSeed prog_12_method_16_code 2 (Option.some FieldType.long) : Cond) ∈ dc_W := dc_in (List.mem_of_getElem? (i := 1058) (by decide +kernel)) rfl
theorem dn_w_1059 : (.constantLong "DocumentChipModel" 105 10 : Cond) ∈ dc_W := dc_in (List.mem_of_getElem? (i := 1059) (by decide +kernel)) rfl
theorem dn_w_1060 : (.constantLong "DocumentChipModel" 144 2 : Cond) ∈ dc_W := dc_in (List.mem_of_getElem? (i := 1060) (by decide +kernel)) rfl
theorem dn_w_1061 : (.methodLink "DocumentChipModel" 146 dn_y_Mod_sealOf : Cond) ∈ dc_W := dc_in (List.mem_of_getElem? (i := 1061) (by decide +kernel)) rfl
theorem dn_w_1063 : (.instanceMethod dn_y_Mod_sealOf : Cond) ∈ dc_W := dc_in (List.mem_of_getElem? (i := 1063) (by decide +kernel)) rfl
theorem dn_w_1064 : (.code dn_y_Mod_sealOf prog_12_method_12_code 9 (Option.some FieldType.long) : Cond) ∈ dc_W := dc_in (List.mem_of_getElem? (i := 1064) (by decide +kernel)) rfl
theorem dn_w_1065 : (.methodLink "DocumentChipModel" 97 dn_y_Mod_seal : Cond) ∈ dc_W := dc_in (List.mem_of_getElem? (i := 1065) (by decide +kernel)) rfl
theorem dn_w_1067 : (.instanceMethod dn_y_Mod_seal : Cond) ∈ dc_W := dc_in (List.mem_of_getElem? (i := 1067) (by decide +kernel)) rfl
theorem dn_w_1068 : (.code dn_y_Mod_seal prog_12_method_11_code 7 (Option.some FieldType.long) : Cond) ∈ dc_W := dc_in (List.mem_of_getElem? (i := 1068) (by decide +kernel)) rfl
theorem dn_w_1069 : (.methodLink "DocumentChipModel" 150 dn_y_Mod_show : Cond) ∈ dc_W := dc_in (List.mem_of_getElem? (i := 1069) (by decide +kernel)) rfl
theorem dn_w_1070 : (.static dn_y_Mod_show : Cond) ∈ dc_W := dc_in (List.mem_of_getElem? (i := 1070) (by decide +kernel)) rfl
theorem dn_w_1071 : (.code dn_y_Mod_show prog_12_method_9_code 8 (Option.some FieldType.long) : Cond) ∈ dc_W := dc_in (List.mem_of_getElem? (i := 1071) (by decide +kernel)) rfl
theorem dn_w_1072 : (.methodLink "DocumentChipLaw" 136 dn_y_Mod_command : Cond) ∈ dc_W := dc_in (List.mem_of_getElem? (i := 1072) (by decide +kernel)) rfl
theorem dn_w_1073 : (.instanceMethod dn_y_Mod_command : Cond) ∈ dc_W := dc_in (List.mem_of_getElem? (i := 1073) (by decide +kernel)) rfl
theorem dn_w_1074 : (.selects "DocumentChipModel" dn_y_Mod_command dn_y_Mod_command : Cond) ∈ dc_W := dc_in (List.mem_of_getElem? (i := 1074) (by decide +kernel)) rfl
theorem dn_w_1075 : (.code dn_y_Mod_command prog_12_method_33_code 6 (Option.some FieldType.int) : Cond) ∈ dc_W := dc_in (List.mem_of_getElem? (i := 1075) (by decide +kernel)) rfl
theorem dn_w_1076 : (.methodLink "DocumentChipModel" 187 dn_y_Mod_commanded : Cond) ∈ dc_W := dc_in (List.mem_of_getElem? (i := 1076) (by decide +kernel)) rfl
theorem dn_w_1078 : (.instanceMethod dn_y_Mod_commanded : Cond) ∈ dc_W := dc_in (List.mem_of_getElem? (i := 1078) (by decide +kernel)) rfl
theorem dn_w_1079 : (.code dn_y_Mod_commanded prog_12_method_30_code 13 (Option.some FieldType.int) : Cond) ∈ dc_W := dc_in (List.mem_of_getElem? (i := 1079) (by decide +kernel)) rfl
theorem dn_w_1080 : (.methodLink "DocumentChipModel" 168 dn_y_Mod_error : Cond) ∈ dc_W := dc_in (List.mem_of_getElem? (i := 1080) (by decide +kernel)) rfl
theorem dn_w_1082 : (.instanceMethod dn_y_Mod_error : Cond) ∈ dc_W := dc_in (List.mem_of_getElem? (i := 1082) (by decide +kernel)) rfl
theorem dn_w_1083 : (.code dn_y_Mod_error prog_12_method_29_code 12 (Option.some FieldType.int) : Cond) ∈ dc_W := dc_in (List.mem_of_getElem? (i := 1083) (by decide +kernel)) rfl
theorem dn_w_1084 : (.constantLong "DocumentChipModel" 162 3 : Cond) ∈ dc_W := dc_in (List.mem_of_getElem? (i := 1084) (by decide +kernel)) rfl
theorem dn_w_1085 : (.constantLong "DocumentChipModel" 164 31 : Cond) ∈ dc_W := dc_in (List.mem_of_getElem? (i := 1085) (by decide +kernel)) rfl
theorem dn_w_1086 : (.constantLong "DocumentChipModel" 166 4 : Cond) ∈ dc_W := dc_in (List.mem_of_getElem? (i := 1086) (by decide +kernel)) rfl
theorem dn_w_1087 : (.constantLong "DocumentChipModel" 178 36864 : Cond) ∈ dc_W := dc_in (List.mem_of_getElem? (i := 1087) (by decide +kernel)) rfl
theorem dn_w_1088 : (.methodLink "DocumentChipLaw" 141 dn_y_Mod_answer : Cond) ∈ dc_W := dc_in (List.mem_of_getElem? (i := 1088) (by decide +kernel)) rfl
theorem dn_w_1089 : (.instanceMethod dn_y_Mod_answer : Cond) ∈ dc_W := dc_in (List.mem_of_getElem? (i := 1089) (by decide +kernel)) rfl
theorem dn_w_1090 : (.selects "DocumentChipModel" dn_y_Mod_answer dn_y_Mod_answer : Cond) ∈ dc_W := dc_in (List.mem_of_getElem? (i := 1090) (by decide +kernel)) rfl
theorem dn_w_1091 : (.code dn_y_Mod_answer prog_12_method_34_code 2 (Option.some FieldType.long) : Cond) ∈ dc_W := dc_in (List.mem_of_getElem? (i := 1091) (by decide +kernel)) rfl
theorem dn_w_1092 : (.methodLink "DocumentChipLaw" 144 dn_y_Mod_needed : Cond) ∈ dc_W := dc_in (List.mem_of_getElem? (i := 1092) (by decide +kernel)) rfl
theorem dn_w_1093 : (.instanceMethod dn_y_Mod_needed : Cond) ∈ dc_W := dc_in (List.mem_of_getElem? (i := 1093) (by decide +kernel)) rfl
theorem dn_w_1094 : (.selects "DocumentChipModel" dn_y_Mod_needed dn_y_Mod_needed : Cond) ∈ dc_W := dc_in (List.mem_of_getElem? (i := 1094) (by decide +kernel)) rfl
theorem dn_w_1095 : (.code dn_y_Mod_needed prog_12_method_35_code 4 (Option.some FieldType.long) : Cond) ∈ dc_W := dc_in (List.mem_of_getElem? (i := 1095) (by decide +kernel)) rfl
theorem dn_w_1096 : (.methodLink "DocumentChipLaw" 148 dn_y_Mod_hidden : Cond) ∈ dc_W := dc_in (List.mem_of_getElem? (i := 1096) (by decide +kernel)) rfl
theorem dn_w_1097 : (.instanceMethod dn_y_Mod_hidden : Cond) ∈ dc_W := dc_in (List.mem_of_getElem? (i := 1097) (by decide +kernel)) rfl
theorem dn_w_1098 : (.selects "DocumentChipModel" dn_y_Mod_hidden dn_y_Mod_hidden : Cond) ∈ dc_W := dc_in (List.mem_of_getElem? (i := 1098) (by decide +kernel)) rfl
theorem dn_w_1099 : (.code dn_y_Mod_hidden prog_12_method_36_code 3 (Option.some FieldType.long) : Cond) ∈ dc_W := dc_in (List.mem_of_getElem? (i := 1099) (by decide +kernel)) rfl
theorem dn_w_1100 : (.methodLink "DocumentChipLaw" 153 dn_y_Mod_chip : Cond) ∈ dc_W := dc_in (List.mem_of_getElem? (i := 1100) (by decide +kernel)) rfl
theorem dn_w_1101 : (.instanceMethod dn_y_Mod_chip : Cond) ∈ dc_W := dc_in (List.mem_of_getElem? (i := 1101) (by decide +kernel)) rfl
theorem dn_w_1102 : (.selects "DocumentChipModel" dn_y_Mod_chip dn_y_Mod_chip : Cond) ∈ dc_W := dc_in (List.mem_of_getElem? (i := 1102) (by decide +kernel)) rfl
theorem dn_w_1103 : (.code dn_y_Mod_chip prog_12_method_37_code 2 (Option.some FieldType.int) : Cond) ∈ dc_W := dc_in (List.mem_of_getElem? (i := 1103) (by decide +kernel)) rfl
theorem dn_w_1104 : (.methodLink "DocumentChipLaw" 115 dn_y_Mod_inspect : Cond) ∈ dc_W := dc_in (List.mem_of_getElem? (i := 1104) (by decide +kernel)) rfl
theorem dn_w_1105 : (.instanceMethod dn_y_Mod_inspect : Cond) ∈ dc_W := dc_in (List.mem_of_getElem? (i := 1105) (by decide +kernel)) rfl
theorem dn_w_1106 : (.selects "DocumentChipModel" dn_y_Mod_inspect dn_y_Mod_inspect : Cond) ∈ dc_W := dc_in (List.mem_of_getElem? (i := 1106) (by decide +kernel)) rfl
theorem dn_w_1107 : (.code dn_y_Mod_inspect prog_12_method_47_code 2 (Option.some FieldType.int) : Cond) ∈ dc_W := dc_in (List.mem_of_getElem? (i := 1107) (by decide +kernel)) rfl
theorem dn_w_1108 : (.methodLink "DocumentChipModel" 235 dn_y_Mod_result : Cond) ∈ dc_W := dc_in (List.mem_of_getElem? (i := 1108) (by decide +kernel)) rfl
theorem dn_w_1110 : (.instanceMethod dn_y_Mod_result : Cond) ∈ dc_W := dc_in (List.mem_of_getElem? (i := 1110) (by decide +kernel)) rfl
theorem dn_w_1111 : (.code dn_y_Mod_result prog_12_method_46_code 3 (Option.some FieldType.int) : Cond) ∈ dc_W := dc_in (List.mem_of_getElem? (i := 1111) (by decide +kernel)) rfl
theorem dn_w_1112 : (.methodLink "DocumentChipModel" 226 dn_y_Mod_proving : Cond) ∈ dc_W := dc_in (List.mem_of_getElem? (i := 1112) (by decide +kernel)) rfl
theorem dn_w_1114 : (.instanceMethod dn_y_Mod_proving : Cond) ∈ dc_W := dc_in (List.mem_of_getElem? (i := 1114) (by decide +kernel)) rfl
theorem dn_w_1115 : (.code dn_y_Mod_proving prog_12_method_39_code 20 (Option.some FieldType.int) : Cond) ∈ dc_W := dc_in (List.mem_of_getElem? (i := 1115) (by decide +kernel)) rfl
theorem dn_w_1116 : (.methodLink "DocumentChipModel" 193 dn_y_Mod_printSeed : Cond) ∈ dc_W := dc_in (List.mem_of_getElem? (i := 1116) (by decide +kernel)) rfl
theorem dn_w_1118 : (.instanceMethod dn_y_Mod_printSeed : Cond) ∈ dc_W := dc_in (List.mem_of_getElem? (i := 1118) (by decide +kernel)) rfl
theorem dn_w_1119 : (.code dn_y_Mod_printSeed prog_12_method_18_code 2 (Option.some FieldType.long) : Cond) ∈ dc_W := dc_in (List.mem_of_getElem? (i := 1119) (by decide +kernel)) rfl
theorem dn_w_1120 : (.methodLink "DocumentChipModel" 111 dn_y_Mod_printed : Cond) ∈ dc_W := dc_in (List.mem_of_getElem? (i := 1120) (by decide +kernel)) rfl
theorem dn_w_1122 : (.instanceMethod dn_y_Mod_printed : Cond) ∈ dc_W := dc_in (List.mem_of_getElem? (i := 1122) (by decide +kernel)) rfl
theorem dn_w_1123 : (.code dn_y_Mod_printed prog_12_method_17_code 2 (Option.some FieldType.long) : Cond) ∈ dc_W := dc_in (List.mem_of_getElem? (i := 1123) (by decide +kernel)) rfl
theorem dn_w_1124 : (.methodLink "DocumentChipModel" 196 dn_y_Mod_sendMail : Cond) ∈ dc_W := dc_in (List.mem_of_getElem? (i := 1124) (by decide +kernel)) rfl
theorem dn_w_1126 : (.instanceMethod dn_y_Mod_sendMail : Cond) ∈ dc_W := dc_in (List.mem_of_getElem? (i := 1126) (by decide +kernel)) rfl
theorem dn_w_1127 : (.code dn_y_Mod_sendMail prog_12_method_38_code 3 (Option.none : Option FieldType) : Cond) ∈ dc_W := dc_in (List.mem_of_getElem? (i := 1127) (by decide +kernel)) rfl
theorem dn_w_1128 : (.methodLink "DocumentChipModel" 229 dn_y_Mod_fetched : Cond) ∈ dc_W := dc_in (List.mem_of_getElem? (i := 1128) (by decide +kernel)) rfl
theorem dn_w_1130 : (.instanceMethod dn_y_Mod_fetched : Cond) ∈ dc_W := dc_in (List.mem_of_getElem? (i := 1130) (by decide +kernel)) rfl
theorem dn_w_1131 : (.code dn_y_Mod_fetched prog_12_method_41_code 6 (Option.some FieldType.int) : Cond) ∈ dc_W := dc_in (List.mem_of_getElem? (i := 1131) (by decide +kernel)) rfl
theorem dn_w_1132 : (.methodLink "DocumentChipModel" 209 dn_y_Mod_asked : Cond) ∈ dc_W := dc_in (List.mem_of_getElem? (i := 1132) (by decide +kernel)) rfl
theorem dn_w_1134 : (.instanceMethod dn_y_Mod_asked : Cond) ∈ dc_W := dc_in (List.mem_of_getElem? (i := 1134) (by decide +kernel)) rfl
theorem dn_w_1135 : (.code dn_y_Mod_asked prog_12_method_40_code 7 (Option.some FieldType.int) : Cond) ∈ dc_W := dc_in (List.mem_of_getElem? (i := 1135) (by decide +kernel)) rfl
theorem dn_w_1136 : (.methodLink "DocumentChipModel" 232 dn_y_Mod_judged : Cond) ∈ dc_W := dc_in (List.mem_of_getElem? (i := 1136) (by decide +kernel)) rfl
theorem dn_w_1138 : (.instanceMethod dn_y_Mod_judged : Cond) ∈ dc_W := dc_in (List.mem_of_getElem? (i := 1138) (by decide +kernel)) rfl
theorem dn_w_1139 : (.code dn_y_Mod_judged prog_12_method_45_code 4 (Option.some FieldType.int) : Cond) ∈ dc_W := dc_in (List.mem_of_getElem? (i := 1139) (by decide +kernel)) rfl
theorem dn_w_1140 : (.constantLong "DocumentChipModel" 220 19 : Cond) ∈ dc_W := dc_in (List.mem_of_getElem? (i := 1140) (by decide +kernel)) rfl
theorem dn_w_1141 : (.methodLink "DocumentChipModel" 213 dn_y_Mod_digestGot : Cond) ∈ dc_W := dc_in (List.mem_of_getElem? (i := 1141) (by decide +kernel)) rfl
theorem dn_w_1143 : (.instanceMethod dn_y_Mod_digestGot : Cond) ∈ dc_W := dc_in (List.mem_of_getElem? (i := 1143) (by decide +kernel)) rfl
theorem dn_w_1144 : (.code dn_y_Mod_digestGot prog_12_method_42_code 4 (Option.some FieldType.long) : Cond) ∈ dc_W := dc_in (List.mem_of_getElem? (i := 1144) (by decide +kernel)) rfl
theorem dn_w_1145 : (.methodLink "DocumentChipModel" 222 dn_y_Mod_signature : Cond) ∈ dc_W := dc_in (List.mem_of_getElem? (i := 1145) (by decide +kernel)) rfl
theorem dn_w_1147 : (.instanceMethod dn_y_Mod_signature : Cond) ∈ dc_W := dc_in (List.mem_of_getElem? (i := 1147) (by decide +kernel)) rfl
theorem dn_w_1148 : (.code dn_y_Mod_signature prog_12_method_44_code 6 (Option.some FieldType.int) : Cond) ∈ dc_W := dc_in (List.mem_of_getElem? (i := 1148) (by decide +kernel)) rfl
theorem dn_w_1149 : (.methodLink "DocumentChipModel" 216 dn_y_Mod_power : Cond) ∈ dc_W := dc_in (List.mem_of_getElem? (i := 1149) (by decide +kernel)) rfl
theorem dn_w_1150 : (.static dn_y_Mod_power : Cond) ∈ dc_W := dc_in (List.mem_of_getElem? (i := 1150) (by decide +kernel)) rfl
theorem dn_w_1151 : (.code dn_y_Mod_power prog_12_method_43_code 7 (Option.some FieldType.long) : Cond) ∈ dc_W := dc_in (List.mem_of_getElem? (i := 1151) (by decide +kernel)) rfl
theorem dn_w_1152 : (.methodLink "DocumentChipLaw" 119 dn_y_Mod_messages : Cond) ∈ dc_W := dc_in (List.mem_of_getElem? (i := 1152) (by decide +kernel)) rfl
theorem dn_w_1153 : (.instanceMethod dn_y_Mod_messages : Cond) ∈ dc_W := dc_in (List.mem_of_getElem? (i := 1153) (by decide +kernel)) rfl
theorem dn_w_1154 : (.selects "DocumentChipModel" dn_y_Mod_messages dn_y_Mod_messages : Cond) ∈ dc_W := dc_in (List.mem_of_getElem? (i := 1154) (by decide +kernel)) rfl
theorem dn_w_1155 : (.code dn_y_Mod_messages prog_12_method_48_code 1 (Option.some FieldType.int) : Cond) ∈ dc_W := dc_in (List.mem_of_getElem? (i := 1155) (by decide +kernel)) rfl
theorem dn_w_1156 : (.methodLink "DocumentChipLaw" 123 dn_y_Mod_held : Cond) ∈ dc_W := dc_in (List.mem_of_getElem? (i := 1156) (by decide +kernel)) rfl
theorem dn_w_1157 : (.instanceMethod dn_y_Mod_held : Cond) ∈ dc_W := dc_in (List.mem_of_getElem? (i := 1157) (by decide +kernel)) rfl
theorem dn_w_1158 : (.selects "DocumentChipModel" dn_y_Mod_held dn_y_Mod_held : Cond) ∈ dc_W := dc_in (List.mem_of_getElem? (i := 1158) (by decide +kernel)) rfl
theorem dn_w_1159 : (.code dn_y_Mod_held prog_12_method_49_code 3 (Option.some FieldType.long) : Cond) ∈ dc_W := dc_in (List.mem_of_getElem? (i := 1159) (by decide +kernel)) rfl
theorem dn_w_1160 : (.constantLong "DocumentChipLaw" 67 4294967295 : Cond) ∈ dc_W := dc_in (List.mem_of_getElem? (i := 1160) (by decide +kernel)) rfl
theorem dn_s_Chip_read : (.selects "DocumentChip$Chip" ⟨"DocumentChip$Chip", "read", "(JLDocumentChip$Row;)I"⟩ ⟨"DocumentChip$Chip", "read", "(JLDocumentChip$Row;)I"⟩ : Cond) ∈ dc_W := List.mem_filter.mpr ⟨List.mem_append_left _ (List.mem_map.mpr ⟨(⟨"DocumentChip$Chip", "read", "(JLDocumentChip$Row;)I"⟩, 9), by decide +kernel, rfl⟩), rfl⟩
theorem dn_s_Chip_refuse : (.selects "DocumentChip$Chip" ⟨"DocumentChip$Chip", "refuse", "(I)I"⟩ ⟨"DocumentChip$Chip", "refuse", "(I)I"⟩ : Cond) ∈ dc_W := List.mem_filter.mpr ⟨List.mem_append_left _ (List.mem_map.mpr ⟨(⟨"DocumentChip$Chip", "refuse", "(I)I"⟩, 9), by decide +kernel, rfl⟩), rfl⟩
theorem dn_s_Chip_select : (.selects "DocumentChip$Chip" ⟨"DocumentChip$Chip", "select", "(J)I"⟩ ⟨"DocumentChip$Chip", "select", "(J)I"⟩ : Cond) ∈ dc_W := List.mem_filter.mpr ⟨List.mem_append_left _ (List.mem_map.mpr ⟨(⟨"DocumentChip$Chip", "select", "(J)I"⟩, 9), by decide +kernel, rfl⟩), rfl⟩
theorem dn_s_Desk_ask : (.selects "DocumentChip$Desk" ⟨"DocumentChip$Desk", "ask", "(IIILDocumentChip$Row;)I"⟩ ⟨"DocumentChip$Desk", "ask", "(IIILDocumentChip$Row;)I"⟩ : Cond) ∈ dc_W := List.mem_filter.mpr ⟨List.mem_append_left _ (List.mem_map.mpr ⟨(⟨"DocumentChip$Desk", "ask", "(IIILDocumentChip$Row;)I"⟩, 12), by decide +kernel, rfl⟩), rfl⟩
theorem dn_s_Session_sealOf : (.selects "DocumentChip$Session" ⟨"DocumentChip$Session", "sealOf", "(LDocumentChip$Row;I)J"⟩ ⟨"DocumentChip$Session", "sealOf", "(LDocumentChip$Row;I)J"⟩ : Cond) ∈ dc_W := List.mem_filter.mpr ⟨List.mem_append_left _ (List.mem_map.mpr ⟨(⟨"DocumentChip$Session", "sealOf", "(LDocumentChip$Row;I)J"⟩, 4), by decide +kernel, rfl⟩), rfl⟩
theorem dn_s_Mod_asked : (.selects "DocumentChipModel" ⟨"DocumentChipModel", "asked", "(IJI)I"⟩ ⟨"DocumentChipModel", "asked", "(IJI)I"⟩ : Cond) ∈ dc_W := List.mem_filter.mpr ⟨List.mem_append_left _ (List.mem_map.mpr ⟨(⟨"DocumentChipModel", "asked", "(IJI)I"⟩, 34), by decide +kernel, rfl⟩), rfl⟩
theorem dn_s_Mod_both : (.selects "DocumentChipModel" ⟨"DocumentChipModel", "both", "(JJ)J"⟩ ⟨"DocumentChipModel", "both", "(JJ)J"⟩ : Cond) ∈ dc_W := List.mem_filter.mpr ⟨List.mem_append_left _ (List.mem_map.mpr ⟨(⟨"DocumentChipModel", "both", "(JJ)J"⟩, 34), by decide +kernel, rfl⟩), rfl⟩
theorem dn_s_Mod_chipSeed : (.selects "DocumentChipModel" ⟨"DocumentChipModel", "chipSeed", "()J"⟩ ⟨"DocumentChipModel", "chipSeed", "()J"⟩ : Cond) ∈ dc_W := List.mem_filter.mpr ⟨List.mem_append_left _ (List.mem_map.mpr ⟨(⟨"DocumentChipModel", "chipSeed", "()J"⟩, 34), by decide +kernel, rfl⟩), rfl⟩
theorem dn_s_Mod_commanded : (.selects "DocumentChipModel" ⟨"DocumentChipModel", "commanded", "(JJJ)I"⟩ ⟨"DocumentChipModel", "commanded", "(JJJ)I"⟩ : Cond) ∈ dc_W := List.mem_filter.mpr ⟨List.mem_append_left _ (List.mem_map.mpr ⟨(⟨"DocumentChipModel", "commanded", "(JJJ)I"⟩, 34), by decide +kernel, rfl⟩), rfl⟩
theorem dn_s_Mod_digestFile : (.selects "DocumentChipModel" ⟨"DocumentChipModel", "digestFile", "(I)J"⟩ ⟨"DocumentChipModel", "digestFile", "(I)J"⟩ : Cond) ∈ dc_W := List.mem_filter.mpr ⟨List.mem_append_left _ (List.mem_map.mpr ⟨(⟨"DocumentChipModel", "digestFile", "(I)J"⟩, 34), by decide +kernel, rfl⟩), rfl⟩
theorem dn_s_Mod_digestGot : (.selects "DocumentChipModel" ⟨"DocumentChipModel", "digestGot", "(II)J"⟩ ⟨"DocumentChipModel", "digestGot", "(II)J"⟩ : Cond) ∈ dc_W := List.mem_filter.mpr ⟨List.mem_append_left _ (List.mem_map.mpr ⟨(⟨"DocumentChipModel", "digestGot", "(II)J"⟩, 34), by decide +kernel, rfl⟩), rfl⟩
theorem dn_s_Mod_digestRow : (.selects "DocumentChipModel" ⟨"DocumentChipModel", "digestRow", "(I)J"⟩ ⟨"DocumentChipModel", "digestRow", "(I)J"⟩ : Cond) ∈ dc_W := List.mem_filter.mpr ⟨List.mem_append_left _ (List.mem_map.mpr ⟨(⟨"DocumentChipModel", "digestRow", "(I)J"⟩, 34), by decide +kernel, rfl⟩), rfl⟩
theorem dn_s_Mod_error : (.selects "DocumentChipModel" ⟨"DocumentChipModel", "error", "(JJJ)I"⟩ ⟨"DocumentChipModel", "error", "(JJJ)I"⟩ : Cond) ∈ dc_W := List.mem_filter.mpr ⟨List.mem_append_left _ (List.mem_map.mpr ⟨(⟨"DocumentChipModel", "error", "(JJJ)I"⟩, 34), by decide +kernel, rfl⟩), rfl⟩
theorem dn_s_Mod_fetched : (.selects "DocumentChipModel" ⟨"DocumentChipModel", "fetched", "(I)I"⟩ ⟨"DocumentChipModel", "fetched", "(I)I"⟩ : Cond) ∈ dc_W := List.mem_filter.mpr ⟨List.mem_append_left _ (List.mem_map.mpr ⟨(⟨"DocumentChipModel", "fetched", "(I)I"⟩, 34), by decide +kernel, rfl⟩), rfl⟩
theorem dn_s_Mod_give : (.selects "DocumentChipModel" ⟨"DocumentChipModel", "give", "()V"⟩ ⟨"DocumentChipModel", "give", "()V"⟩ : Cond) ∈ dc_W := List.mem_filter.mpr ⟨List.mem_append_left _ (List.mem_map.mpr ⟨(⟨"DocumentChipModel", "give", "()V"⟩, 34), by decide +kernel, rfl⟩), rfl⟩
theorem dn_s_Mod_judged : (.selects "DocumentChipModel" ⟨"DocumentChipModel", "judged", "()I"⟩ ⟨"DocumentChipModel", "judged", "()I"⟩ : Cond) ∈ dc_W := List.mem_filter.mpr ⟨List.mem_append_left _ (List.mem_map.mpr ⟨(⟨"DocumentChipModel", "judged", "()I"⟩, 34), by decide +kernel, rfl⟩), rfl⟩
theorem dn_s_Mod_noSession : (.selects "DocumentChipModel" ⟨"DocumentChipModel", "noSession", "()V"⟩ ⟨"DocumentChipModel", "noSession", "()V"⟩ : Cond) ∈ dc_W := List.mem_filter.mpr ⟨List.mem_append_left _ (List.mem_map.mpr ⟨(⟨"DocumentChipModel", "noSession", "()V"⟩, 34), by decide +kernel, rfl⟩), rfl⟩
theorem dn_s_Mod_printSeed : (.selects "DocumentChipModel" ⟨"DocumentChipModel", "printSeed", "()J"⟩ ⟨"DocumentChipModel", "printSeed", "()J"⟩ : Cond) ∈ dc_W := List.mem_filter.mpr ⟨List.mem_append_left _ (List.mem_map.mpr ⟨(⟨"DocumentChipModel", "printSeed", "()J"⟩, 34), by decide +kernel, rfl⟩), rfl⟩
theorem dn_s_Mod_printed : (.selects "DocumentChipModel" ⟨"DocumentChipModel", "printed", "(I)J"⟩ ⟨"DocumentChipModel", "printed", "(I)J"⟩ : Cond) ∈ dc_W := List.mem_filter.mpr ⟨List.mem_append_left _ (List.mem_map.mpr ⟨(⟨"DocumentChipModel", "printed", "(I)J"⟩, 34), by decide +kernel, rfl⟩), rfl⟩
theorem dn_s_Mod_proved : (.selects "DocumentChipModel" ⟨"DocumentChipModel", "proved", "()Z"⟩ ⟨"DocumentChipModel", "proved", "()Z"⟩ : Cond) ∈ dc_W := List.mem_filter.mpr ⟨List.mem_append_left _ (List.mem_map.mpr ⟨(⟨"DocumentChipModel", "proved", "()Z"⟩, 34), by decide +kernel, rfl⟩), rfl⟩
theorem dn_s_Mod_proving : (.selects "DocumentChipModel" ⟨"DocumentChipModel", "proving", "()I"⟩ ⟨"DocumentChipModel", "proving", "()I"⟩ : Cond) ∈ dc_W := List.mem_filter.mpr ⟨List.mem_append_left _ (List.mem_map.mpr ⟨(⟨"DocumentChipModel", "proving", "()I"⟩, 34), by decide +kernel, rfl⟩), rfl⟩
theorem dn_s_Mod_result : (.selects "DocumentChipModel" ⟨"DocumentChipModel", "result", "()I"⟩ ⟨"DocumentChipModel", "result", "()I"⟩ : Cond) ∈ dc_W := List.mem_filter.mpr ⟨List.mem_append_left _ (List.mem_map.mpr ⟨(⟨"DocumentChipModel", "result", "()I"⟩, 34), by decide +kernel, rfl⟩), rfl⟩
theorem dn_s_Mod_seal : (.selects "DocumentChipModel" ⟨"DocumentChipModel", "seal", "(JI)J"⟩ ⟨"DocumentChipModel", "seal", "(JI)J"⟩ : Cond) ∈ dc_W := List.mem_filter.mpr ⟨List.mem_append_left _ (List.mem_map.mpr ⟨(⟨"DocumentChipModel", "seal", "(JI)J"⟩, 34), by decide +kernel, rfl⟩), rfl⟩
theorem dn_s_Mod_sealOf : (.selects "DocumentChipModel" ⟨"DocumentChipModel", "sealOf", "(JJJJ)J"⟩ ⟨"DocumentChipModel", "sealOf", "(JJJJ)J"⟩ : Cond) ∈ dc_W := List.mem_filter.mpr ⟨List.mem_append_left _ (List.mem_map.mpr ⟨(⟨"DocumentChipModel", "sealOf", "(JJJJ)J"⟩, 34), by decide +kernel, rfl⟩), rfl⟩
theorem dn_s_Mod_sendMail : (.selects "DocumentChipModel" ⟨"DocumentChipModel", "sendMail", "(I)V"⟩ ⟨"DocumentChipModel", "sendMail", "(I)V"⟩ : Cond) ∈ dc_W := List.mem_filter.mpr ⟨List.mem_append_left _ (List.mem_map.mpr ⟨(⟨"DocumentChipModel", "sendMail", "(I)V"⟩, 34), by decide +kernel, rfl⟩), rfl⟩
theorem dn_s_Mod_signature : (.selects "DocumentChipModel" ⟨"DocumentChipModel", "signature", "()I"⟩ ⟨"DocumentChipModel", "signature", "()I"⟩ : Cond) ∈ dc_W := List.mem_filter.mpr ⟨List.mem_append_left _ (List.mem_map.mpr ⟨(⟨"DocumentChipModel", "signature", "()I"⟩, 34), by decide +kernel, rfl⟩), rfl⟩
