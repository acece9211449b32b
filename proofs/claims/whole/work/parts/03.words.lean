theorem kp_Co_isEntry : Cond.selects "CodeLister" ⟨"CodeLister", "isEntry", "(I)Z"⟩ ⟨"CodeLister", "isEntry", "(I)Z"⟩ ∈ lw_g := lg_i (i := 0) (by decide +kernel) rfl
theorem kp_Co_walkFromEntries : Cond.selects "CodeLister" ⟨"CodeLister", "walkFromEntries", "()V"⟩ ⟨"CodeLister", "walkFromEntries", "()V"⟩ ∈ lw_g := lg_i (i := 1) (by decide +kernel) rfl
theorem kp_Wa_comeToSuccessors : Cond.selects "CodeLister$Walk" ⟨"CodeLister$Walk", "comeToSuccessors", "(LCodeLister$Image;IZ)V"⟩ ⟨"CodeLister$Walk", "comeToSuccessors", "(LCodeLister$Image;IZ)V"⟩ ∈ lw_g := lg_i (i := 2) (by decide +kernel) rfl
theorem kp_Co_listLine : Cond.selects "CodeLister" ⟨"CodeLister", "listLine", "(I)I"⟩ ⟨"CodeLister", "listLine", "(I)I"⟩ ∈ lw_g := lg_i (i := 3) (by decide +kernel) rfl
theorem kp_Te_add : Cond.selects "CodeLister$Text" ⟨"CodeLister$Text", "add", "(C)V"⟩ ⟨"CodeLister$Text", "add", "(C)V"⟩ ∈ lw_g := lg_i (i := 4) (by decide +kernel) rfl
theorem kp_Te_addComma : Cond.selects "CodeLister$Text" ⟨"CodeLister$Text", "addComma", "(I)V"⟩ ⟨"CodeLister$Text", "addComma", "(I)V"⟩ ∈ lw_g := lg_i (i := 5) (by decide +kernel) rfl
theorem kp_Te_addDigit : Cond.selects "CodeLister$Text" ⟨"CodeLister$Text", "addDigit", "(I)V"⟩ ⟨"CodeLister$Text", "addDigit", "(I)V"⟩ ∈ lw_g := lg_i (i := 6) (by decide +kernel) rfl
theorem kp_Te_addNumber : Cond.selects "CodeLister$Text" ⟨"CodeLister$Text", "addNumber", "(I)V"⟩ ⟨"CodeLister$Text", "addNumber", "(I)V"⟩ ∈ lw_g := lg_i (i := 7) (by decide +kernel) rfl
theorem kp_As_readLine : Cond.selects "CodeLister$Assembler" ⟨"CodeLister$Assembler", "readLine", "(LCodeLister$Text;)V"⟩ ⟨"CodeLister$Assembler", "readLine", "(LCodeLister$Text;)V"⟩ ∈ lw_g := lg_i (i := 8) (by decide +kernel) rfl
theorem kp_Te_goesOnWith : Cond.selects "CodeLister$Text" ⟨"CodeLister$Text", "goesOnWith", "(Ljava/lang/String;)Z"⟩ ⟨"CodeLister$Text", "goesOnWith", "(Ljava/lang/String;)Z"⟩ ∈ lw_g := lg_i (i := 9) (by decide +kernel) rfl
theorem kp_Te_takeAmount : Cond.selects "CodeLister$Text" ⟨"CodeLister$Text", "takeAmount", "()I"⟩ ⟨"CodeLister$Text", "takeAmount", "()I"⟩ ∈ lw_g := lg_i (i := 10) (by decide +kernel) rfl
theorem kp_As_addBytes : Cond.selects "CodeLister$Assembler" ⟨"CodeLister$Assembler", "addBytes", "(III)V"⟩ ⟨"CodeLister$Assembler", "addBytes", "(III)V"⟩ ∈ lw_g := lg_i (i := 11) (by decide +kernel) rfl
theorem kp_As_addByte : Cond.selects "CodeLister$Assembler" ⟨"CodeLister$Assembler", "addByte", "(I)V"⟩ ⟨"CodeLister$Assembler", "addByte", "(I)V"⟩ ∈ lw_g := lg_i (i := 12) (by decide +kernel) rfl
theorem kp_Mo_has : Cond.selects "CodeListerModel" ⟨"CodeListerModel", "has", "(I)Z"⟩ ⟨"CodeListerModel", "has", "(I)Z"⟩ ∈ lw_g := lg_i (i := 13) (by decide +kernel) rfl
theorem kp_Mo_wipe : Cond.selects "CodeListerModel" ⟨"CodeListerModel", "wipe", "()V"⟩ ⟨"CodeListerModel", "wipe", "()V"⟩ ∈ lw_g := lg_i (i := 14) (by decide +kernel) rfl
theorem kp_Mo_close : Cond.selects "CodeListerModel" ⟨"CodeListerModel", "close", "(Z)I"⟩ ⟨"CodeListerModel", "close", "(Z)I"⟩ ∈ lw_g := lg_i (i := 15) (by decide +kernel) rfl
theorem kp_Mo_follow : Cond.selects "CodeListerModel" ⟨"CodeListerModel", "follow", "(IZ)Z"⟩ ⟨"CodeListerModel", "follow", "(IZ)Z"⟩ ∈ lw_g := lg_i (i := 16) (by decide +kernel) rfl
theorem kp_Mo_set : Cond.selects "CodeListerModel" ⟨"CodeListerModel", "set", "(I)Z"⟩ ⟨"CodeListerModel", "set", "(I)Z"⟩ ∈ lw_g := lg_i (i := 17) (by decide +kernel) rfl
theorem kp_Mo_data : Cond.selects "CodeListerModel" ⟨"CodeListerModel", "data", "(I)V"⟩ ⟨"CodeListerModel", "data", "(I)V"⟩ ∈ lw_g := lg_i (i := 18) (by decide +kernel) rfl
theorem kp_Mo_name : Cond.selects "CodeListerModel" ⟨"CodeListerModel", "name", "(III)V"⟩ ⟨"CodeListerModel", "name", "(III)V"⟩ ∈ lw_g := lg_i (i := 19) (by decide +kernel) rfl
theorem kp_Mo_put : Cond.selects "CodeListerModel" ⟨"CodeListerModel", "put", "(I)V"⟩ ⟨"CodeListerModel", "put", "(I)V"⟩ ∈ lw_g := lg_i (i := 20) (by decide +kernel) rfl
theorem kp_Mo_number : Cond.selects "CodeListerModel" ⟨"CodeListerModel", "number", "(I)V"⟩ ⟨"CodeListerModel", "number", "(I)V"⟩ ∈ lw_g := lg_i (i := 21) (by decide +kernel) rfl
theorem kp_Mo_print : Cond.selects "CodeListerModel" ⟨"CodeListerModel", "print", "(II)V"⟩ ⟨"CodeListerModel", "print", "(II)V"⟩ ∈ lw_g := lg_i (i := 22) (by decide +kernel) rfl
theorem kp_Mo_front : Cond.selects "CodeListerModel" ⟨"CodeListerModel", "front", "(I)V"⟩ ⟨"CodeListerModel", "front", "(I)V"⟩ ∈ lw_g := lg_i (i := 23) (by decide +kernel) rfl
theorem kp_Mo_register : Cond.selects "CodeListerModel" ⟨"CodeListerModel", "register", "(I)V"⟩ ⟨"CodeListerModel", "register", "(I)V"⟩ ∈ lw_g := lg_i (i := 24) (by decide +kernel) rfl
theorem kp_Mo_understand : Cond.selects "CodeListerModel" ⟨"CodeListerModel", "understand", "(I)I"⟩ ⟨"CodeListerModel", "understand", "(I)I"⟩ ∈ lw_g := lg_i (i := 25) (by decide +kernel) rfl
theorem kp_Mo_here : Cond.selects "CodeListerModel" ⟨"CodeListerModel", "here", "(I)Z"⟩ ⟨"CodeListerModel", "here", "(I)Z"⟩ ∈ lw_g := lg_i (i := 26) (by decide +kernel) rfl
theorem kp_Mo_begins : Cond.selects "CodeListerModel" ⟨"CodeListerModel", "begins", "(I)Z"⟩ ⟨"CodeListerModel", "begins", "(I)Z"⟩ ∈ lw_g := lg_i (i := 27) (by decide +kernel) rfl
theorem k_0 : Cond.initialized "CodeListerLaw" ∈ lw_g := lg_i (i := 28) (by decide +kernel) rfl
theorem k_1 : Cond.initialized "CodeLister" ∈ lw_g := lg_i (i := 29) (by decide +kernel) rfl
theorem k_2 : Cond.initialized "CodeLister$Image" ∈ lw_g := lg_i (i := 30) (by decide +kernel) rfl
theorem k_3 : Cond.initialized "CodeLister$Walk" ∈ lw_g := lg_i (i := 31) (by decide +kernel) rfl
theorem k_4 : Cond.initialized "CodeLister$Text" ∈ lw_g := lg_i (i := 32) (by decide +kernel) rfl
theorem k_5 : Cond.initialized "CodeLister$Assembler" ∈ lw_g := lg_i (i := 33) (by decide +kernel) rfl
theorem k_6 : Cond.initialized "CodeListerModel" ∈ lw_g := lg_i (i := 34) (by decide +kernel) rfl
theorem k_7 : Cond.initialized "CodeLister$Kinds" ∈ lw_g := lg_i (i := 35) (by decide +kernel) rfl
theorem k_8 : Cond.initialized "java/lang/Math" ∈ lw_g := lg_i (i := 36) (by decide +kernel) rfl
theorem k_9 : Cond.initialized "java/lang/String" ∈ lw_g := lg_i (i := 37) (by decide +kernel) rfl
theorem k_10 : Cond.initialized "java/lang/StringLatin1" ∈ lw_g := lg_i (i := 38) (by decide +kernel) rfl
theorem k_11 : Cond.initialized "jdk/internal/util/Preconditions" ∈ lw_g := lg_i (i := 39) (by decide +kernel) rfl
theorem k_12 : Cond.initialized "java/lang/StringUTF16" ∈ lw_g := lg_i (i := 40) (by decide +kernel) rfl
theorem k_13 : Cond.initialized "java/lang/System" ∈ lw_g := lg_i (i := 41) (by decide +kernel) rfl
theorem k_14 : Cond.classLink "CodeListerLaw" 7 "CodeLister" ∈ lw_g := lg_i (i := 42) (by decide +kernel) rfl
theorem k_15 : Cond.instantiable "CodeLister" 8 ∈ lw_g := lg_i (i := 43) (by decide +kernel) rfl
theorem k_16 : Cond.methodLink "CodeListerLaw" 9 ⟨"CodeLister", "<init>", "()V"⟩ ∈ lw_g := lg_i (i := 44) (by decide +kernel) rfl
theorem k_17 : Cond.instanceMethod ⟨"CodeLister", "<init>", "()V"⟩ ∈ lw_g := lg_i (i := 45) (by decide +kernel) rfl
theorem k_18 : Cond.code ⟨"CodeLister", "<init>", "()V"⟩ prog_1_method_1_code 1 none ∈ lw_g := lg_i (i := 46) (by decide +kernel) rfl
theorem k_19 : Cond.methodLink "CodeLister" 1 ⟨"java/lang/Object", "<init>", "()V"⟩ ∈ lw_g := lg_i (i := 47) (by decide +kernel) rfl
theorem k_20 : Cond.instanceMethod ⟨"java/lang/Object", "<init>", "()V"⟩ ∈ lw_g := lg_i (i := 48) (by decide +kernel) rfl
theorem k_21 : Cond.code ⟨"java/lang/Object", "<init>", "()V"⟩ object_method_1_code 1 none ∈ lw_g := lg_i (i := 49) (by decide +kernel) rfl
theorem k_22 : Cond.classLink "CodeLister" 7 "CodeLister$Image" ∈ lw_g := lg_i (i := 50) (by decide +kernel) rfl
theorem k_23 : Cond.instantiable "CodeLister$Image" 2 ∈ lw_g := lg_i (i := 51) (by decide +kernel) rfl
theorem k_24 : Cond.methodLink "CodeLister" 9 ⟨"CodeLister$Image", "<init>", "()V"⟩ ∈ lw_g := lg_i (i := 52) (by decide +kernel) rfl
theorem k_25 : Cond.instanceMethod ⟨"CodeLister$Image", "<init>", "()V"⟩ ∈ lw_g := lg_i (i := 53) (by decide +kernel) rfl
theorem k_26 : Cond.code ⟨"CodeLister$Image", "<init>", "()V"⟩ prog_3_method_1_code 1 none ∈ lw_g := lg_i (i := 54) (by decide +kernel) rfl
theorem k_27 : Cond.methodLink "CodeLister$Image" 3 ⟨"java/lang/Object", "<init>", "()V"⟩ ∈ lw_g := lg_i (i := 55) (by decide +kernel) rfl
theorem k_28 : Cond.fieldLink "CodeLister$Image" 9 "CodeLister$Image" "bytes" "[I" ∈ lw_g := lg_i (i := 56) (by decide +kernel) rfl
theorem k_29 : Cond.fieldLink "CodeLister$Image" 15 "CodeLister$Image" "count" "I" ∈ lw_g := lg_i (i := 57) (by decide +kernel) rfl
theorem k_30 : Cond.laysFinal "CodeLister$Image" "CodeLister$Image" "bytes" "[I" ∈ lw_g := lg_i (i := 58) (by decide +kernel) rfl
theorem k_31 : Cond.soleField "CodeLister$Image" "bytes" ∈ lw_g := lg_i (i := 59) (by decide +kernel) rfl
theorem k_32 : Cond.lays "CodeLister$Image" "CodeLister$Image" "count" "I" ∈ lw_g := lg_i (i := 60) (by decide +kernel) rfl
theorem k_33 : Cond.soleField "CodeLister$Image" "count" ∈ lw_g := lg_i (i := 61) (by decide +kernel) rfl
theorem k_34 : Cond.superclass "CodeLister$Image" "java/lang/Object" ∈ lw_g := lg_i (i := 62) (by decide +kernel) rfl
theorem k_35 : Cond.arrayClass .int ∈ lw_g := lg_i (i := 63) (by decide +kernel) rfl
theorem k_36 : Cond.classLink "CodeLister" 20 "CodeLister$Walk" ∈ lw_g := lg_i (i := 64) (by decide +kernel) rfl
theorem k_37 : Cond.instantiable "CodeLister$Walk" 4 ∈ lw_g := lg_i (i := 65) (by decide +kernel) rfl
theorem k_38 : Cond.methodLink "CodeLister" 22 ⟨"CodeLister$Walk", "<init>", "()V"⟩ ∈ lw_g := lg_i (i := 66) (by decide +kernel) rfl
theorem k_39 : Cond.instanceMethod ⟨"CodeLister$Walk", "<init>", "()V"⟩ ∈ lw_g := lg_i (i := 67) (by decide +kernel) rfl
theorem k_40 : Cond.code ⟨"CodeLister$Walk", "<init>", "()V"⟩ prog_6_method_1_code 1 none ∈ lw_g := lg_i (i := 68) (by decide +kernel) rfl
theorem k_41 : Cond.methodLink "CodeLister$Walk" 3 ⟨"java/lang/Object", "<init>", "()V"⟩ ∈ lw_g := lg_i (i := 69) (by decide +kernel) rfl
theorem k_42 : Cond.fieldLink "CodeLister$Walk" 9 "CodeLister$Walk" "found" "[I" ∈ lw_g := lg_i (i := 70) (by decide +kernel) rfl
theorem k_43 : Cond.fieldLink "CodeLister$Walk" 15 "CodeLister$Walk" "isFound" "[Z" ∈ lw_g := lg_i (i := 71) (by decide +kernel) rfl
theorem k_44 : Cond.fieldLink "CodeLister$Walk" 29 "CodeLister$Walk" "addresses" "I" ∈ lw_g := lg_i (i := 72) (by decide +kernel) rfl
theorem k_45 : Cond.fieldLink "CodeLister$Walk" 19 "CodeLister$Walk" "count" "I" ∈ lw_g := lg_i (i := 73) (by decide +kernel) rfl
theorem k_46 : Cond.laysFinal "CodeLister$Walk" "CodeLister$Walk" "found" "[I" ∈ lw_g := lg_i (i := 74) (by decide +kernel) rfl
theorem k_47 : Cond.soleField "CodeLister$Walk" "found" ∈ lw_g := lg_i (i := 75) (by decide +kernel) rfl
theorem k_48 : Cond.laysFinal "CodeLister$Walk" "CodeLister$Walk" "isFound" "[Z" ∈ lw_g := lg_i (i := 76) (by decide +kernel) rfl
theorem k_49 : Cond.soleField "CodeLister$Walk" "isFound" ∈ lw_g := lg_i (i := 77) (by decide +kernel) rfl
theorem k_50 : Cond.lays "CodeLister$Walk" "CodeLister$Walk" "addresses" "I" ∈ lw_g := lg_i (i := 78) (by decide +kernel) rfl
theorem k_51 : Cond.soleField "CodeLister$Walk" "addresses" ∈ lw_g := lg_i (i := 79) (by decide +kernel) rfl
theorem k_52 : Cond.lays "CodeLister$Walk" "CodeLister$Walk" "count" "I" ∈ lw_g := lg_i (i := 80) (by decide +kernel) rfl
theorem k_53 : Cond.soleField "CodeLister$Walk" "count" ∈ lw_g := lg_i (i := 81) (by decide +kernel) rfl
theorem k_54 : Cond.superclass "CodeLister$Walk" "java/lang/Object" ∈ lw_g := lg_i (i := 82) (by decide +kernel) rfl
theorem k_55 : Cond.arrayClass .boolean ∈ lw_g := lg_i (i := 83) (by decide +kernel) rfl
theorem k_56 : Cond.classLink "CodeLister" 27 "CodeLister$Text" ∈ lw_g := lg_i (i := 84) (by decide +kernel) rfl
theorem k_57 : Cond.instantiable "CodeLister$Text" 4 ∈ lw_g := lg_i (i := 85) (by decide +kernel) rfl
theorem k_58 : Cond.methodLink "CodeLister" 29 ⟨"CodeLister$Text", "<init>", "()V"⟩ ∈ lw_g := lg_i (i := 86) (by decide +kernel) rfl
theorem k_59 : Cond.instanceMethod ⟨"CodeLister$Text", "<init>", "()V"⟩ ∈ lw_g := lg_i (i := 87) (by decide +kernel) rfl
theorem k_60 : Cond.code ⟨"CodeLister$Text", "<init>", "()V"⟩ prog_5_method_1_code 1 none ∈ lw_g := lg_i (i := 88) (by decide +kernel) rfl
theorem k_61 : Cond.methodLink "CodeLister$Text" 3 ⟨"java/lang/Object", "<init>", "()V"⟩ ∈ lw_g := lg_i (i := 89) (by decide +kernel) rfl
theorem k_62 : Cond.fieldLink "CodeLister$Text" 9 "CodeLister$Text" "characters" "[C" ∈ lw_g := lg_i (i := 90) (by decide +kernel) rfl
theorem k_63 : Cond.fieldLink "CodeLister$Text" 15 "CodeLister$Text" "count" "I" ∈ lw_g := lg_i (i := 91) (by decide +kernel) rfl
theorem k_64 : Cond.fieldLink "CodeLister$Text" 69 "CodeLister$Text" "place" "I" ∈ lw_g := lg_i (i := 92) (by decide +kernel) rfl
theorem k_65 : Cond.fieldLink "CodeLister$Text" 72 "CodeLister$Text" "right" "Z" ∈ lw_g := lg_i (i := 93) (by decide +kernel) rfl
theorem k_66 : Cond.laysFinal "CodeLister$Text" "CodeLister$Text" "characters" "[C" ∈ lw_g := lg_i (i := 94) (by decide +kernel) rfl
theorem k_67 : Cond.soleField "CodeLister$Text" "characters" ∈ lw_g := lg_i (i := 95) (by decide +kernel) rfl
theorem k_68 : Cond.lays "CodeLister$Text" "CodeLister$Text" "count" "I" ∈ lw_g := lg_i (i := 96) (by decide +kernel) rfl
theorem k_69 : Cond.soleField "CodeLister$Text" "count" ∈ lw_g := lg_i (i := 97) (by decide +kernel) rfl
theorem k_70 : Cond.lays "CodeLister$Text" "CodeLister$Text" "place" "I" ∈ lw_g := lg_i (i := 98) (by decide +kernel) rfl
theorem k_71 : Cond.soleField "CodeLister$Text" "place" ∈ lw_g := lg_i (i := 99) (by decide +kernel) rfl
theorem k_72 : Cond.lays "CodeLister$Text" "CodeLister$Text" "right" "Z" ∈ lw_g := lg_i (i := 100) (by decide +kernel) rfl
theorem k_73 : Cond.soleField "CodeLister$Text" "right" ∈ lw_g := lg_i (i := 101) (by decide +kernel) rfl
theorem k_74 : Cond.superclass "CodeLister$Text" "java/lang/Object" ∈ lw_g := lg_i (i := 102) (by decide +kernel) rfl
theorem k_75 : Cond.arrayClass .char ∈ lw_g := lg_i (i := 103) (by decide +kernel) rfl
theorem k_76 : Cond.classLink "CodeLister" 34 "CodeLister$Assembler" ∈ lw_g := lg_i (i := 104) (by decide +kernel) rfl
theorem k_77 : Cond.instantiable "CodeLister$Assembler" 2 ∈ lw_g := lg_i (i := 105) (by decide +kernel) rfl
theorem k_78 : Cond.methodLink "CodeLister" 36 ⟨"CodeLister$Assembler", "<init>", "()V"⟩ ∈ lw_g := lg_i (i := 106) (by decide +kernel) rfl
theorem k_79 : Cond.instanceMethod ⟨"CodeLister$Assembler", "<init>", "()V"⟩ ∈ lw_g := lg_i (i := 107) (by decide +kernel) rfl
theorem k_80 : Cond.code ⟨"CodeLister$Assembler", "<init>", "()V"⟩ prog_2_method_1_code 1 none ∈ lw_g := lg_i (i := 108) (by decide +kernel) rfl
theorem k_81 : Cond.methodLink "CodeLister$Assembler" 3 ⟨"java/lang/Object", "<init>", "()V"⟩ ∈ lw_g := lg_i (i := 109) (by decide +kernel) rfl
theorem k_82 : Cond.fieldLink "CodeLister$Assembler" 9 "CodeLister$Assembler" "bytes" "[I" ∈ lw_g := lg_i (i := 110) (by decide +kernel) rfl
theorem k_83 : Cond.fieldLink "CodeLister$Assembler" 15 "CodeLister$Assembler" "count" "I" ∈ lw_g := lg_i (i := 111) (by decide +kernel) rfl
theorem k_84 : Cond.laysFinal "CodeLister$Assembler" "CodeLister$Assembler" "bytes" "[I" ∈ lw_g := lg_i (i := 112) (by decide +kernel) rfl
theorem k_85 : Cond.soleField "CodeLister$Assembler" "bytes" ∈ lw_g := lg_i (i := 113) (by decide +kernel) rfl
theorem k_86 : Cond.lays "CodeLister$Assembler" "CodeLister$Assembler" "count" "I" ∈ lw_g := lg_i (i := 114) (by decide +kernel) rfl
theorem k_87 : Cond.soleField "CodeLister$Assembler" "count" ∈ lw_g := lg_i (i := 115) (by decide +kernel) rfl
theorem k_88 : Cond.superclass "CodeLister$Assembler" "java/lang/Object" ∈ lw_g := lg_i (i := 116) (by decide +kernel) rfl
theorem k_89 : Cond.fieldLink "CodeLister" 10 "CodeLister" "image" "LCodeLister$Image;" ∈ lw_g := lg_i (i := 117) (by decide +kernel) rfl
theorem k_90 : Cond.fieldLink "CodeLister" 16 "CodeLister" "entries" "[I" ∈ lw_g := lg_i (i := 118) (by decide +kernel) rfl
theorem k_91 : Cond.fieldLink "CodeLister" 59 "CodeLister" "entryCount" "I" ∈ lw_g := lg_i (i := 119) (by decide +kernel) rfl
theorem k_92 : Cond.fieldLink "CodeLister" 23 "CodeLister" "walk" "LCodeLister$Walk;" ∈ lw_g := lg_i (i := 120) (by decide +kernel) rfl
theorem k_93 : Cond.fieldLink "CodeLister" 30 "CodeLister" "text" "LCodeLister$Text;" ∈ lw_g := lg_i (i := 121) (by decide +kernel) rfl
theorem k_94 : Cond.fieldLink "CodeLister" 37 "CodeLister" "assembler" "LCodeLister$Assembler;" ∈ lw_g := lg_i (i := 122) (by decide +kernel) rfl
theorem k_95 : Cond.fieldLink "CodeLister" 41 "CodeLister" "madeBytes" "[I" ∈ lw_g := lg_i (i := 123) (by decide +kernel) rfl
theorem k_96 : Cond.fieldLink "CodeLister" 67 "CodeLister" "madeCount" "I" ∈ lw_g := lg_i (i := 124) (by decide +kernel) rfl
theorem k_97 : Cond.laysFinal "CodeLister" "CodeLister" "image" "LCodeLister$Image;" ∈ lw_g := lg_i (i := 125) (by decide +kernel) rfl
theorem k_98 : Cond.soleField "CodeLister" "image" ∈ lw_g := lg_i (i := 126) (by decide +kernel) rfl
theorem k_99 : Cond.laysFinal "CodeLister" "CodeLister" "entries" "[I" ∈ lw_g := lg_i (i := 127) (by decide +kernel) rfl
theorem k_100 : Cond.soleField "CodeLister" "entries" ∈ lw_g := lg_i (i := 128) (by decide +kernel) rfl
theorem k_101 : Cond.lays "CodeLister" "CodeLister" "entryCount" "I" ∈ lw_g := lg_i (i := 129) (by decide +kernel) rfl
theorem k_102 : Cond.soleField "CodeLister" "entryCount" ∈ lw_g := lg_i (i := 130) (by decide +kernel) rfl
theorem k_103 : Cond.laysFinal "CodeLister" "CodeLister" "walk" "LCodeLister$Walk;" ∈ lw_g := lg_i (i := 131) (by decide +kernel) rfl
theorem k_104 : Cond.soleField "CodeLister" "walk" ∈ lw_g := lg_i (i := 132) (by decide +kernel) rfl
theorem k_105 : Cond.laysFinal "CodeLister" "CodeLister" "text" "LCodeLister$Text;" ∈ lw_g := lg_i (i := 133) (by decide +kernel) rfl
theorem k_106 : Cond.soleField "CodeLister" "text" ∈ lw_g := lg_i (i := 134) (by decide +kernel) rfl
theorem k_107 : Cond.laysFinal "CodeLister" "CodeLister" "assembler" "LCodeLister$Assembler;" ∈ lw_g := lg_i (i := 135) (by decide +kernel) rfl
theorem k_108 : Cond.soleField "CodeLister" "assembler" ∈ lw_g := lg_i (i := 136) (by decide +kernel) rfl
theorem k_109 : Cond.laysFinal "CodeLister" "CodeLister" "madeBytes" "[I" ∈ lw_g := lg_i (i := 137) (by decide +kernel) rfl
theorem k_110 : Cond.soleField "CodeLister" "madeBytes" ∈ lw_g := lg_i (i := 138) (by decide +kernel) rfl
theorem k_111 : Cond.lays "CodeLister" "CodeLister" "madeCount" "I" ∈ lw_g := lg_i (i := 139) (by decide +kernel) rfl
theorem k_112 : Cond.soleField "CodeLister" "madeCount" ∈ lw_g := lg_i (i := 140) (by decide +kernel) rfl
theorem k_113 : Cond.superclass "CodeLister" "java/lang/Object" ∈ lw_g := lg_i (i := 141) (by decide +kernel) rfl
theorem k_114 : Cond.methodLink "CodeListerLaw" 13 ⟨"CodeLister", "append", "(II)I"⟩ ∈ lw_g := lg_i (i := 142) (by decide +kernel) rfl
theorem k_115 : Cond.instanceMethod ⟨"CodeLister", "append", "(II)I"⟩ ∈ lw_g := lg_i (i := 143) (by decide +kernel) rfl
theorem k_116 : Cond.selects "CodeLister" ⟨"CodeLister", "append", "(II)I"⟩ ⟨"CodeLister", "append", "(II)I"⟩ ∈ lw_g := lg_i (i := 144) (by decide +kernel) rfl
theorem k_117 : Cond.code ⟨"CodeLister", "append", "(II)I"⟩ prog_1_method_2_code 4 (some .int) ∈ lw_g := lg_i (i := 145) (by decide +kernel) rfl
theorem k_118 : Cond.methodLink "CodeLister" 44 ⟨"CodeLister$Image", "count", "()I"⟩ ∈ lw_g := lg_i (i := 146) (by decide +kernel) rfl
theorem k_119 : Cond.instanceMethod ⟨"CodeLister$Image", "count", "()I"⟩ ∈ lw_g := lg_i (i := 147) (by decide +kernel) rfl
theorem k_120 : Cond.selects "CodeLister$Image" ⟨"CodeLister$Image", "count", "()I"⟩ ⟨"CodeLister$Image", "count", "()I"⟩ ∈ lw_g := lg_i (i := 148) (by decide +kernel) rfl
theorem k_121 : Cond.code ⟨"CodeLister$Image", "count", "()I"⟩ prog_3_method_2_code 1 (some .int) ∈ lw_g := lg_i (i := 149) (by decide +kernel) rfl
theorem k_122 : Cond.methodLink "CodeLister" 48 ⟨"CodeLister$Image", "add", "(I)V"⟩ ∈ lw_g := lg_i (i := 150) (by decide +kernel) rfl
theorem k_123 : Cond.instanceMethod ⟨"CodeLister$Image", "add", "(I)V"⟩ ∈ lw_g := lg_i (i := 151) (by decide +kernel) rfl
theorem k_124 : Cond.selects "CodeLister$Image" ⟨"CodeLister$Image", "add", "(I)V"⟩ ⟨"CodeLister$Image", "add", "(I)V"⟩ ∈ lw_g := lg_i (i := 152) (by decide +kernel) rfl
theorem k_125 : Cond.code ⟨"CodeLister$Image", "add", "(I)V"⟩ prog_3_method_5_code 2 none ∈ lw_g := lg_i (i := 153) (by decide +kernel) rfl
theorem k_126 : Cond.methodLink "CodeListerLaw" 18 ⟨"CodeLister", "enter", "(I)Z"⟩ ∈ lw_g := lg_i (i := 154) (by decide +kernel) rfl
theorem k_127 : Cond.instanceMethod ⟨"CodeLister", "enter", "(I)Z"⟩ ∈ lw_g := lg_i (i := 155) (by decide +kernel) rfl
theorem k_128 : Cond.selects "CodeLister" ⟨"CodeLister", "enter", "(I)Z"⟩ ⟨"CodeLister", "enter", "(I)Z"⟩ ∈ lw_g := lg_i (i := 156) (by decide +kernel) rfl
theorem k_129 : Cond.code ⟨"CodeLister", "enter", "(I)Z"⟩ prog_1_method_3_code 2 (some .boolean) ∈ lw_g := lg_i (i := 157) (by decide +kernel) rfl
theorem k_130 : Cond.methodLink "CodeLister" 52 ⟨"CodeLister$Image", "holds", "(I)Z"⟩ ∈ lw_g := lg_i (i := 158) (by decide +kernel) rfl
theorem k_131 : Cond.instanceMethod ⟨"CodeLister$Image", "holds", "(I)Z"⟩ ∈ lw_g := lg_i (i := 159) (by decide +kernel) rfl
theorem k_132 : Cond.selects "CodeLister$Image" ⟨"CodeLister$Image", "holds", "(I)Z"⟩ ⟨"CodeLister$Image", "holds", "(I)Z"⟩ ∈ lw_g := lg_i (i := 160) (by decide +kernel) rfl
theorem k_133 : Cond.code ⟨"CodeLister$Image", "holds", "(I)Z"⟩ prog_3_method_3_code 2 (some .boolean) ∈ lw_g := lg_i (i := 161) (by decide +kernel) rfl
theorem k_134 : Cond.methodLink "CodeLister" 56 ⟨"CodeLister", "isEntry", "(I)Z"⟩ ∈ lw_g := lg_i (i := 162) (by decide +kernel) rfl
theorem k_135 : Cond.privateMethod ⟨"CodeLister", "isEntry", "(I)Z"⟩ ∈ lw_tbl := List.mem_of_getElem? (i := 163) (by decide +kernel)
theorem k_136 : Cond.instanceMethod ⟨"CodeLister", "isEntry", "(I)Z"⟩ ∈ lw_g := lg_i (i := 164) (by decide +kernel) rfl
theorem k_137 : Cond.code ⟨"CodeLister", "isEntry", "(I)Z"⟩ prog_1_method_19_code 3 (some .boolean) ∈ lw_g := lg_i (i := 165) (by decide +kernel) rfl
theorem k_138 : Cond.methodLink "CodeListerLaw" 23 ⟨"CodeLister", "clear", "()V"⟩ ∈ lw_g := lg_i (i := 166) (by decide +kernel) rfl
theorem k_139 : Cond.instanceMethod ⟨"CodeLister", "clear", "()V"⟩ ∈ lw_g := lg_i (i := 167) (by decide +kernel) rfl
theorem k_140 : Cond.selects "CodeLister" ⟨"CodeLister", "clear", "()V"⟩ ⟨"CodeLister", "clear", "()V"⟩ ∈ lw_g := lg_i (i := 168) (by decide +kernel) rfl
theorem k_141 : Cond.code ⟨"CodeLister", "clear", "()V"⟩ prog_1_method_4_code 1 none ∈ lw_g := lg_i (i := 169) (by decide +kernel) rfl
theorem k_142 : Cond.methodLink "CodeLister" 63 ⟨"CodeLister$Image", "drop", "()V"⟩ ∈ lw_g := lg_i (i := 170) (by decide +kernel) rfl
theorem k_143 : Cond.instanceMethod ⟨"CodeLister$Image", "drop", "()V"⟩ ∈ lw_g := lg_i (i := 171) (by decide +kernel) rfl
theorem k_144 : Cond.selects "CodeLister$Image" ⟨"CodeLister$Image", "drop", "()V"⟩ ⟨"CodeLister$Image", "drop", "()V"⟩ ∈ lw_g := lg_i (i := 172) (by decide +kernel) rfl
theorem k_145 : Cond.code ⟨"CodeLister$Image", "drop", "()V"⟩ prog_3_method_6_code 1 none ∈ lw_g := lg_i (i := 173) (by decide +kernel) rfl
theorem k_146 : Cond.methodLink "CodeLister" 66 ⟨"CodeLister$Text", "drop", "()V"⟩ ∈ lw_g := lg_i (i := 174) (by decide +kernel) rfl
theorem k_147 : Cond.instanceMethod ⟨"CodeLister$Text", "drop", "()V"⟩ ∈ lw_g := lg_i (i := 175) (by decide +kernel) rfl
theorem k_148 : Cond.selects "CodeLister$Text" ⟨"CodeLister$Text", "drop", "()V"⟩ ⟨"CodeLister$Text", "drop", "()V"⟩ ∈ lw_g := lg_i (i := 176) (by decide +kernel) rfl
theorem k_149 : Cond.code ⟨"CodeLister$Text", "drop", "()V"⟩ prog_5_method_4_code 1 none ∈ lw_g := lg_i (i := 177) (by decide +kernel) rfl
theorem k_150 : Cond.methodLink "CodeListerLaw" 27 ⟨"CodeLister", "size", "()I"⟩ ∈ lw_g := lg_i (i := 178) (by decide +kernel) rfl
theorem k_151 : Cond.instanceMethod ⟨"CodeLister", "size", "()I"⟩ ∈ lw_g := lg_i (i := 179) (by decide +kernel) rfl
theorem k_152 : Cond.selects "CodeLister" ⟨"CodeLister", "size", "()I"⟩ ⟨"CodeLister", "size", "()I"⟩ ∈ lw_g := lg_i (i := 180) (by decide +kernel) rfl
theorem k_153 : Cond.code ⟨"CodeLister", "size", "()I"⟩ prog_1_method_5_code 1 (some .int) ∈ lw_g := lg_i (i := 181) (by decide +kernel) rfl
theorem k_154 : Cond.methodLink "CodeListerLaw" 32 ⟨"CodeLister", "byteAt", "(I)I"⟩ ∈ lw_g := lg_i (i := 182) (by decide +kernel) rfl
theorem k_155 : Cond.instanceMethod ⟨"CodeLister", "byteAt", "(I)I"⟩ ∈ lw_g := lg_i (i := 183) (by decide +kernel) rfl
theorem k_156 : Cond.selects "CodeLister" ⟨"CodeLister", "byteAt", "(I)I"⟩ ⟨"CodeLister", "byteAt", "(I)I"⟩ ∈ lw_g := lg_i (i := 184) (by decide +kernel) rfl
theorem k_157 : Cond.code ⟨"CodeLister", "byteAt", "(I)I"⟩ prog_1_method_6_code 2 (some .int) ∈ lw_g := lg_i (i := 185) (by decide +kernel) rfl
theorem k_158 : Cond.methodLink "CodeLister" 70 ⟨"CodeLister$Image", "at", "(I)I"⟩ ∈ lw_g := lg_i (i := 186) (by decide +kernel) rfl
theorem k_159 : Cond.instanceMethod ⟨"CodeLister$Image", "at", "(I)I"⟩ ∈ lw_g := lg_i (i := 187) (by decide +kernel) rfl
theorem k_160 : Cond.selects "CodeLister$Image" ⟨"CodeLister$Image", "at", "(I)I"⟩ ⟨"CodeLister$Image", "at", "(I)I"⟩ ∈ lw_g := lg_i (i := 188) (by decide +kernel) rfl
theorem k_161 : Cond.code ⟨"CodeLister$Image", "at", "(I)I"⟩ prog_3_method_4_code 2 (some .int) ∈ lw_g := lg_i (i := 189) (by decide +kernel) rfl
theorem k_162 : Cond.methodLink "CodeLister$Image" 19 ⟨"CodeLister$Image", "holds", "(I)Z"⟩ ∈ lw_g := lg_i (i := 190) (by decide +kernel) rfl
theorem k_163 : Cond.methodLink "CodeListerLaw" 37 ⟨"CodeLister", "entry", "(I)I"⟩ ∈ lw_g := lg_i (i := 191) (by decide +kernel) rfl
theorem k_164 : Cond.instanceMethod ⟨"CodeLister", "entry", "(I)I"⟩ ∈ lw_g := lg_i (i := 192) (by decide +kernel) rfl
theorem k_165 : Cond.selects "CodeLister" ⟨"CodeLister", "entry", "(I)I"⟩ ⟨"CodeLister", "entry", "(I)I"⟩ ∈ lw_g := lg_i (i := 193) (by decide +kernel) rfl
theorem k_166 : Cond.code ⟨"CodeLister", "entry", "(I)I"⟩ prog_1_method_7_code 2 (some .int) ∈ lw_g := lg_i (i := 194) (by decide +kernel) rfl
theorem k_167 : Cond.methodLink "CodeListerLaw" 41 ⟨"CodeLister", "length", "(I)I"⟩ ∈ lw_g := lg_i (i := 195) (by decide +kernel) rfl
theorem k_168 : Cond.instanceMethod ⟨"CodeLister", "length", "(I)I"⟩ ∈ lw_g := lg_i (i := 196) (by decide +kernel) rfl
theorem k_169 : Cond.selects "CodeLister" ⟨"CodeLister", "length", "(I)I"⟩ ⟨"CodeLister", "length", "(I)I"⟩ ∈ lw_g := lg_i (i := 197) (by decide +kernel) rfl
theorem k_170 : Cond.code ⟨"CodeLister", "length", "(I)I"⟩ prog_1_method_8_code 2 (some .int) ∈ lw_g := lg_i (i := 198) (by decide +kernel) rfl
theorem k_171 : Cond.methodLink "CodeLister" 74 ⟨"CodeLister$Image", "codeLength", "(I)I"⟩ ∈ lw_g := lg_i (i := 199) (by decide +kernel) rfl
theorem k_172 : Cond.instanceMethod ⟨"CodeLister$Image", "codeLength", "(I)I"⟩ ∈ lw_g := lg_i (i := 200) (by decide +kernel) rfl
theorem k_173 : Cond.selects "CodeLister$Image" ⟨"CodeLister$Image", "codeLength", "(I)I"⟩ ⟨"CodeLister$Image", "codeLength", "(I)I"⟩ ∈ lw_g := lg_i (i := 201) (by decide +kernel) rfl
theorem k_174 : Cond.code ⟨"CodeLister$Image", "codeLength", "(I)I"⟩ prog_3_method_8_code 3 (some .int) ∈ lw_g := lg_i (i := 202) (by decide +kernel) rfl
theorem k_175 : Cond.methodLink "CodeLister$Image" 34 ⟨"CodeLister$Image", "codeKind", "(I)I"⟩ ∈ lw_g := lg_i (i := 203) (by decide +kernel) rfl
theorem k_176 : Cond.instanceMethod ⟨"CodeLister$Image", "codeKind", "(I)I"⟩ ∈ lw_g := lg_i (i := 204) (by decide +kernel) rfl
theorem k_177 : Cond.selects "CodeLister$Image" ⟨"CodeLister$Image", "codeKind", "(I)I"⟩ ⟨"CodeLister$Image", "codeKind", "(I)I"⟩ ∈ lw_g := lg_i (i := 205) (by decide +kernel) rfl
theorem k_178 : Cond.code ⟨"CodeLister$Image", "codeKind", "(I)I"⟩ prog_3_method_7_code 3 (some .int) ∈ lw_g := lg_i (i := 206) (by decide +kernel) rfl
theorem k_179 : Cond.methodLink "CodeLister$Image" 23 ⟨"CodeLister$Image", "at", "(I)I"⟩ ∈ lw_g := lg_i (i := 207) (by decide +kernel) rfl
theorem k_180 : Cond.methodLink "CodeLister$Image" 27 ⟨"CodeLister$Kinds", "ofFirst", "(I)I"⟩ ∈ lw_g := lg_i (i := 208) (by decide +kernel) rfl
theorem k_181 : Cond.static ⟨"CodeLister$Kinds", "ofFirst", "(I)I"⟩ ∈ lw_g := lg_i (i := 209) (by decide +kernel) rfl
theorem k_182 : Cond.code ⟨"CodeLister$Kinds", "ofFirst", "(I)I"⟩ prog_4_method_2_code 3 (some .int) ∈ lw_g := lg_i (i := 210) (by decide +kernel) rfl
theorem k_183 : Cond.fieldLink "CodeLister$Kinds" 11 "CodeLister$Kinds" "REGISTERS" "[I" ∈ lw_g := lg_i (i := 211) (by decide +kernel) rfl
theorem k_184 : Cond.laysStatic "CodeLister$Kinds" "REGISTERS" "[I" ∈ lw_tbl := List.mem_of_getElem? (i := 212) (by decide +kernel)
theorem k_185 : Cond.fieldLink "CodeLister$Kinds" 15 "CodeLister$Kinds" "FIRST" "[I" ∈ lw_g := lg_i (i := 213) (by decide +kernel) rfl
theorem k_186 : Cond.laysStatic "CodeLister$Kinds" "FIRST" "[I" ∈ lw_tbl := List.mem_of_getElem? (i := 214) (by decide +kernel)
theorem k_187 : Cond.methodLink "CodeLister$Image" 32 ⟨"CodeLister$Kinds", "bytes", "(I)I"⟩ ∈ lw_g := lg_i (i := 215) (by decide +kernel) rfl
theorem k_188 : Cond.static ⟨"CodeLister$Kinds", "bytes", "(I)I"⟩ ∈ lw_g := lg_i (i := 216) (by decide +kernel) rfl
theorem k_189 : Cond.code ⟨"CodeLister$Kinds", "bytes", "(I)I"⟩ prog_4_method_6_code 1 (some .int) ∈ lw_g := lg_i (i := 217) (by decide +kernel) rfl
theorem k_190 : Cond.fieldLink "CodeLister$Kinds" 18 "CodeLister$Kinds" "NUMBER" "[I" ∈ lw_g := lg_i (i := 218) (by decide +kernel) rfl
theorem k_191 : Cond.laysStatic "CodeLister$Kinds" "NUMBER" "[I" ∈ lw_tbl := List.mem_of_getElem? (i := 219) (by decide +kernel)
theorem k_192 : Cond.methodLink "CodeListerLaw" 45 ⟨"CodeLister", "reach", "()I"⟩ ∈ lw_g := lg_i (i := 220) (by decide +kernel) rfl
theorem k_193 : Cond.instanceMethod ⟨"CodeLister", "reach", "()I"⟩ ∈ lw_g := lg_i (i := 221) (by decide +kernel) rfl
theorem k_194 : Cond.selects "CodeLister" ⟨"CodeLister", "reach", "()I"⟩ ⟨"CodeLister", "reach", "()I"⟩ ∈ lw_g := lg_i (i := 222) (by decide +kernel) rfl
theorem k_195 : Cond.code ⟨"CodeLister", "reach", "()I"⟩ prog_1_method_9_code 1 (some .int) ∈ lw_g := lg_i (i := 223) (by decide +kernel) rfl
theorem k_196 : Cond.methodLink "CodeLister" 77 ⟨"CodeLister", "walkFromEntries", "()V"⟩ ∈ lw_g := lg_i (i := 224) (by decide +kernel) rfl
theorem k_197 : Cond.privateMethod ⟨"CodeLister", "walkFromEntries", "()V"⟩ ∈ lw_tbl := List.mem_of_getElem? (i := 225) (by decide +kernel)
theorem k_198 : Cond.instanceMethod ⟨"CodeLister", "walkFromEntries", "()V"⟩ ∈ lw_g := lg_i (i := 226) (by decide +kernel) rfl
theorem k_199 : Cond.code ⟨"CodeLister", "walkFromEntries", "()V"⟩ prog_1_method_20_code 2 none ∈ lw_g := lg_i (i := 227) (by decide +kernel) rfl
theorem k_200 : Cond.methodLink "CodeLister" 84 ⟨"CodeLister$Walk", "start", "(I)V"⟩ ∈ lw_g := lg_i (i := 228) (by decide +kernel) rfl
theorem k_201 : Cond.instanceMethod ⟨"CodeLister$Walk", "start", "(I)V"⟩ ∈ lw_g := lg_i (i := 229) (by decide +kernel) rfl
theorem k_202 : Cond.selects "CodeLister$Walk" ⟨"CodeLister$Walk", "start", "(I)V"⟩ ⟨"CodeLister$Walk", "start", "(I)V"⟩ ∈ lw_g := lg_i (i := 230) (by decide +kernel) rfl
theorem k_203 : Cond.code ⟨"CodeLister$Walk", "start", "(I)V"⟩ prog_6_method_3_code 3 none ∈ lw_g := lg_i (i := 231) (by decide +kernel) rfl
theorem k_204 : Cond.methodLink "CodeLister$Walk" 23 ⟨"java/lang/Math", "min", "(II)I"⟩ ∈ lw_g := lg_i (i := 232) (by decide +kernel) rfl
theorem k_205 : Cond.static ⟨"java/lang/Math", "min", "(II)I"⟩ ∈ lw_g := lg_i (i := 233) (by decide +kernel) rfl
theorem k_206 : Cond.code ⟨"java/lang/Math", "min", "(II)I"⟩ prog_9_method_69_code 2 (some .int) ∈ lw_g := lg_i (i := 234) (by decide +kernel) rfl
theorem k_207 : Cond.methodLink "CodeLister" 87 ⟨"CodeLister$Walk", "comeTo", "(I)V"⟩ ∈ lw_g := lg_i (i := 235) (by decide +kernel) rfl
theorem k_208 : Cond.instanceMethod ⟨"CodeLister$Walk", "comeTo", "(I)V"⟩ ∈ lw_g := lg_i (i := 236) (by decide +kernel) rfl
theorem k_209 : Cond.selects "CodeLister$Walk" ⟨"CodeLister$Walk", "comeTo", "(I)V"⟩ ⟨"CodeLister$Walk", "comeTo", "(I)V"⟩ ∈ lw_g := lg_i (i := 237) (by decide +kernel) rfl
theorem k_210 : Cond.code ⟨"CodeLister$Walk", "comeTo", "(I)V"⟩ prog_6_method_5_code 2 none ∈ lw_g := lg_i (i := 238) (by decide +kernel) rfl
theorem k_211 : Cond.methodLink "CodeLister" 90 ⟨"CodeLister$Walk", "follow", "(LCodeLister$Image;Z)V"⟩ ∈ lw_g := lg_i (i := 239) (by decide +kernel) rfl
theorem k_212 : Cond.instanceMethod ⟨"CodeLister$Walk", "follow", "(LCodeLister$Image;Z)V"⟩ ∈ lw_g := lg_i (i := 240) (by decide +kernel) rfl
theorem k_213 : Cond.selects "CodeLister$Walk" ⟨"CodeLister$Walk", "follow", "(LCodeLister$Image;Z)V"⟩ ⟨"CodeLister$Walk", "follow", "(LCodeLister$Image;Z)V"⟩ ∈ lw_g := lg_i (i := 241) (by decide +kernel) rfl
theorem k_214 : Cond.code ⟨"CodeLister$Walk", "follow", "(LCodeLister$Image;Z)V"⟩ prog_6_method_6_code 4 none ∈ lw_g := lg_i (i := 242) (by decide +kernel) rfl
theorem k_215 : Cond.methodLink "CodeLister$Walk" 32 ⟨"CodeLister$Walk", "comeToSuccessors", "(LCodeLister$Image;IZ)V"⟩ ∈ lw_g := lg_i (i := 243) (by decide +kernel) rfl
theorem k_216 : Cond.privateMethod ⟨"CodeLister$Walk", "comeToSuccessors", "(LCodeLister$Image;IZ)V"⟩ ∈ lw_tbl := List.mem_of_getElem? (i := 244) (by decide +kernel)
theorem k_217 : Cond.instanceMethod ⟨"CodeLister$Walk", "comeToSuccessors", "(LCodeLister$Image;IZ)V"⟩ ∈ lw_g := lg_i (i := 245) (by decide +kernel) rfl
theorem k_218 : Cond.code ⟨"CodeLister$Walk", "comeToSuccessors", "(LCodeLister$Image;IZ)V"⟩ prog_6_method_7_code 6 none ∈ lw_g := lg_i (i := 246) (by decide +kernel) rfl
theorem k_219 : Cond.methodLink "CodeLister$Walk" 36 ⟨"CodeLister$Image", "codeKind", "(I)I"⟩ ∈ lw_g := lg_i (i := 247) (by decide +kernel) rfl
theorem k_220 : Cond.methodLink "CodeLister$Walk" 42 ⟨"CodeLister$Kinds", "bytes", "(I)I"⟩ ∈ lw_g := lg_i (i := 248) (by decide +kernel) rfl
theorem k_221 : Cond.methodLink "CodeLister$Walk" 47 ⟨"CodeLister$Kinds", "fallsThrough", "(I)Z"⟩ ∈ lw_g := lg_i (i := 249) (by decide +kernel) rfl
theorem k_222 : Cond.static ⟨"CodeLister$Kinds", "fallsThrough", "(I)Z"⟩ ∈ lw_g := lg_i (i := 250) (by decide +kernel) rfl
theorem k_223 : Cond.code ⟨"CodeLister$Kinds", "fallsThrough", "(I)Z"⟩ prog_4_method_9_code 1 (some .boolean) ∈ lw_g := lg_i (i := 251) (by decide +kernel) rfl
theorem k_224 : Cond.methodLink "CodeLister$Walk" 51 ⟨"CodeLister$Walk", "comeTo", "(I)V"⟩ ∈ lw_g := lg_i (i := 252) (by decide +kernel) rfl
theorem k_225 : Cond.methodLink "CodeLister$Walk" 55 ⟨"CodeLister$Image", "number", "(II)I"⟩ ∈ lw_g := lg_i (i := 253) (by decide +kernel) rfl
theorem k_226 : Cond.instanceMethod ⟨"CodeLister$Image", "number", "(II)I"⟩ ∈ lw_g := lg_i (i := 254) (by decide +kernel) rfl
theorem k_227 : Cond.selects "CodeLister$Image" ⟨"CodeLister$Image", "number", "(II)I"⟩ ⟨"CodeLister$Image", "number", "(II)I"⟩ ∈ lw_g := lg_i (i := 255) (by decide +kernel) rfl
theorem k_228 : Cond.code ⟨"CodeLister$Image", "number", "(II)I"⟩ prog_3_method_9_code 3 (some .int) ∈ lw_g := lg_i (i := 256) (by decide +kernel) rfl
theorem k_229 : Cond.methodLink "CodeLister$Image" 37 ⟨"CodeLister$Kinds", "number", "(I)I"⟩ ∈ lw_g := lg_i (i := 257) (by decide +kernel) rfl
theorem k_230 : Cond.static ⟨"CodeLister$Kinds", "number", "(I)I"⟩ ∈ lw_g := lg_i (i := 258) (by decide +kernel) rfl
theorem k_231 : Cond.code ⟨"CodeLister$Kinds", "number", "(I)I"⟩ prog_4_method_5_code 1 (some .int) ∈ lw_g := lg_i (i := 259) (by decide +kernel) rfl
theorem k_232 : Cond.methodLink "CodeLister" 80 ⟨"CodeLister$Walk", "count", "()I"⟩ ∈ lw_g := lg_i (i := 260) (by decide +kernel) rfl
theorem k_233 : Cond.instanceMethod ⟨"CodeLister$Walk", "count", "()I"⟩ ∈ lw_g := lg_i (i := 261) (by decide +kernel) rfl
theorem k_234 : Cond.selects "CodeLister$Walk" ⟨"CodeLister$Walk", "count", "()I"⟩ ⟨"CodeLister$Walk", "count", "()I"⟩ ∈ lw_g := lg_i (i := 262) (by decide +kernel) rfl
theorem k_235 : Cond.code ⟨"CodeLister$Walk", "count", "()I"⟩ prog_6_method_2_code 1 (some .int) ∈ lw_g := lg_i (i := 263) (by decide +kernel) rfl
theorem k_236 : Cond.methodLink "CodeListerLaw" 49 ⟨"CodeLister", "reached", "(I)Z"⟩ ∈ lw_g := lg_i (i := 264) (by decide +kernel) rfl
theorem k_237 : Cond.instanceMethod ⟨"CodeLister", "reached", "(I)Z"⟩ ∈ lw_g := lg_i (i := 265) (by decide +kernel) rfl
theorem k_238 : Cond.selects "CodeLister" ⟨"CodeLister", "reached", "(I)Z"⟩ ⟨"CodeLister", "reached", "(I)Z"⟩ ∈ lw_g := lg_i (i := 266) (by decide +kernel) rfl
theorem k_239 : Cond.code ⟨"CodeLister", "reached", "(I)Z"⟩ prog_1_method_10_code 2 (some .boolean) ∈ lw_g := lg_i (i := 267) (by decide +kernel) rfl
theorem k_240 : Cond.methodLink "CodeLister" 81 ⟨"CodeLister$Walk", "cameTo", "(I)Z"⟩ ∈ lw_g := lg_i (i := 268) (by decide +kernel) rfl
theorem k_241 : Cond.instanceMethod ⟨"CodeLister$Walk", "cameTo", "(I)Z"⟩ ∈ lw_g := lg_i (i := 269) (by decide +kernel) rfl
theorem k_242 : Cond.selects "CodeLister$Walk" ⟨"CodeLister$Walk", "cameTo", "(I)Z"⟩ ⟨"CodeLister$Walk", "cameTo", "(I)Z"⟩ ∈ lw_g := lg_i (i := 270) (by decide +kernel) rfl
theorem k_243 : Cond.code ⟨"CodeLister$Walk", "cameTo", "(I)Z"⟩ prog_6_method_4_code 2 (some .boolean) ∈ lw_g := lg_i (i := 271) (by decide +kernel) rfl
theorem k_244 : Cond.methodLink "CodeListerLaw" 53 ⟨"CodeLister", "body", "(I)I"⟩ ∈ lw_g := lg_i (i := 272) (by decide +kernel) rfl
theorem k_245 : Cond.instanceMethod ⟨"CodeLister", "body", "(I)I"⟩ ∈ lw_g := lg_i (i := 273) (by decide +kernel) rfl
theorem k_246 : Cond.selects "CodeLister" ⟨"CodeLister", "body", "(I)I"⟩ ⟨"CodeLister", "body", "(I)I"⟩ ∈ lw_g := lg_i (i := 274) (by decide +kernel) rfl
theorem k_247 : Cond.code ⟨"CodeLister", "body", "(I)I"⟩ prog_1_method_11_code 2 (some .int) ∈ lw_g := lg_i (i := 275) (by decide +kernel) rfl
theorem k_248 : Cond.methodLink "CodeListerLaw" 57 ⟨"CodeLister", "sweep", "()I"⟩ ∈ lw_g := lg_i (i := 276) (by decide +kernel) rfl
theorem k_249 : Cond.instanceMethod ⟨"CodeLister", "sweep", "()I"⟩ ∈ lw_g := lg_i (i := 277) (by decide +kernel) rfl
theorem k_250 : Cond.selects "CodeLister" ⟨"CodeLister", "sweep", "()I"⟩ ⟨"CodeLister", "sweep", "()I"⟩ ∈ lw_g := lg_i (i := 278) (by decide +kernel) rfl
theorem k_251 : Cond.code ⟨"CodeLister", "sweep", "()I"⟩ prog_1_method_12_code 4 (some .int) ∈ lw_g := lg_i (i := 279) (by decide +kernel) rfl
theorem k_252 : Cond.methodLink "CodeLister" 94 ⟨"java/lang/Math", "max", "(II)I"⟩ ∈ lw_g := lg_i (i := 280) (by decide +kernel) rfl
theorem k_253 : Cond.static ⟨"java/lang/Math", "max", "(II)I"⟩ ∈ lw_g := lg_i (i := 281) (by decide +kernel) rfl
theorem k_254 : Cond.code ⟨"java/lang/Math", "max", "(II)I"⟩ prog_9_method_65_code 2 (some .int) ∈ lw_g := lg_i (i := 282) (by decide +kernel) rfl
theorem k_255 : Cond.methodLink "CodeListerLaw" 61 ⟨"CodeLister", "list", "()I"⟩ ∈ lw_g := lg_i (i := 283) (by decide +kernel) rfl
theorem k_256 : Cond.instanceMethod ⟨"CodeLister", "list", "()I"⟩ ∈ lw_g := lg_i (i := 284) (by decide +kernel) rfl
theorem k_257 : Cond.selects "CodeLister" ⟨"CodeLister", "list", "()I"⟩ ⟨"CodeLister", "list", "()I"⟩ ∈ lw_g := lg_i (i := 285) (by decide +kernel) rfl
theorem k_258 : Cond.code ⟨"CodeLister", "list", "()I"⟩ prog_1_method_13_code 2 (some .int) ∈ lw_g := lg_i (i := 286) (by decide +kernel) rfl
theorem k_259 : Cond.methodLink "CodeLister" 100 ⟨"CodeLister", "listLine", "(I)I"⟩ ∈ lw_g := lg_i (i := 287) (by decide +kernel) rfl
theorem k_260 : Cond.privateMethod ⟨"CodeLister", "listLine", "(I)I"⟩ ∈ lw_tbl := List.mem_of_getElem? (i := 288) (by decide +kernel)
theorem k_261 : Cond.instanceMethod ⟨"CodeLister", "listLine", "(I)I"⟩ ∈ lw_g := lg_i (i := 289) (by decide +kernel) rfl
theorem k_262 : Cond.code ⟨"CodeLister", "listLine", "(I)I"⟩ prog_1_method_21_code 3 (some .int) ∈ lw_g := lg_i (i := 290) (by decide +kernel) rfl
theorem k_263 : Cond.methodLink "CodeLister" 118 ⟨"CodeLister$Image", "codeKind", "(I)I"⟩ ∈ lw_g := lg_i (i := 291) (by decide +kernel) rfl
theorem k_264 : Cond.methodLink "CodeLister" 123 ⟨"CodeLister$Text", "addLine", "(III)V"⟩ ∈ lw_g := lg_i (i := 292) (by decide +kernel) rfl
theorem k_265 : Cond.instanceMethod ⟨"CodeLister$Text", "addLine", "(III)V"⟩ ∈ lw_g := lg_i (i := 293) (by decide +kernel) rfl
theorem k_266 : Cond.selects "CodeLister$Text" ⟨"CodeLister$Text", "addLine", "(III)V"⟩ ⟨"CodeLister$Text", "addLine", "(III)V"⟩ ∈ lw_g := lg_i (i := 294) (by decide +kernel) rfl
theorem k_267 : Cond.code ⟨"CodeLister$Text", "addLine", "(III)V"⟩ prog_5_method_6_code 7 none ∈ lw_g := lg_i (i := 295) (by decide +kernel) rfl
theorem k_268 : Cond.methodLink "CodeLister$Text" 25 ⟨"CodeLister$Kinds", "opening", "(I)Ljava/lang/String;"⟩ ∈ lw_g := lg_i (i := 296) (by decide +kernel) rfl
theorem k_269 : Cond.static ⟨"CodeLister$Kinds", "opening", "(I)Ljava/lang/String;"⟩ ∈ lw_g := lg_i (i := 297) (by decide +kernel) rfl
theorem k_270 : Cond.code ⟨"CodeLister$Kinds", "opening", "(I)Ljava/lang/String;"⟩ prog_4_method_10_code 1 (some (.object "java/lang/String")) ∈ lw_g := lg_i (i := 298) (by decide +kernel) rfl
theorem k_271 : Cond.stringRef "CodeLister$Kinds" 22 "NOP" ∈ lw_tbl := List.mem_of_getElem? (i := 299) (by decide +kernel)
theorem k_272 : Cond.stringRef "CodeLister$Kinds" 24 "HALT" ∈ lw_tbl := List.mem_of_getElem? (i := 300) (by decide +kernel)
theorem k_273 : Cond.stringRef "CodeLister$Kinds" 26 "RET" ∈ lw_tbl := List.mem_of_getElem? (i := 301) (by decide +kernel)
theorem k_274 : Cond.stringRef "CodeLister$Kinds" 28 "INC " ∈ lw_tbl := List.mem_of_getElem? (i := 302) (by decide +kernel)
theorem k_275 : Cond.stringRef "CodeLister$Kinds" 30 "LDI " ∈ lw_tbl := List.mem_of_getElem? (i := 303) (by decide +kernel)
theorem k_276 : Cond.stringRef "CodeLister$Kinds" 32 "MOV " ∈ lw_tbl := List.mem_of_getElem? (i := 304) (by decide +kernel)
theorem k_277 : Cond.stringRef "CodeLister$Kinds" 34 "ADD " ∈ lw_tbl := List.mem_of_getElem? (i := 305) (by decide +kernel)
theorem k_278 : Cond.stringRef "CodeLister$Kinds" 36 "JMP " ∈ lw_tbl := List.mem_of_getElem? (i := 306) (by decide +kernel)
theorem k_279 : Cond.stringRef "CodeLister$Kinds" 38 "CALL " ∈ lw_tbl := List.mem_of_getElem? (i := 307) (by decide +kernel)
theorem k_280 : Cond.stringRef "CodeLister$Kinds" 40 "JZ " ∈ lw_tbl := List.mem_of_getElem? (i := 308) (by decide +kernel)
theorem k_281 : Cond.stringRef "CodeLister$Kinds" 42 "BNZ " ∈ lw_tbl := List.mem_of_getElem? (i := 309) (by decide +kernel)
theorem k_282 : Cond.stringRef "CodeLister$Kinds" 44 "LD " ∈ lw_tbl := List.mem_of_getElem? (i := 310) (by decide +kernel)
theorem k_283 : Cond.stringRef "CodeLister$Kinds" 46 "ST " ∈ lw_tbl := List.mem_of_getElem? (i := 311) (by decide +kernel)
theorem k_284 : Cond.stringRef "CodeLister$Kinds" 48 ".byte " ∈ lw_tbl := List.mem_of_getElem? (i := 312) (by decide +kernel)
theorem k_285 : Cond.methodLink "CodeLister$Text" 31 ⟨"java/lang/String", "length", "()I"⟩ ∈ lw_g := lg_i (i := 313) (by decide +kernel) rfl
theorem k_286 : Cond.instanceMethod ⟨"java/lang/String", "length", "()I"⟩ ∈ lw_g := lg_i (i := 314) (by decide +kernel) rfl
theorem k_287 : Cond.selects "java/lang/String" ⟨"java/lang/String", "length", "()I"⟩ ⟨"java/lang/String", "length", "()I"⟩ ∈ lw_g := lg_i (i := 315) (by decide +kernel) rfl
theorem k_288 : Cond.code ⟨"java/lang/String", "length", "()I"⟩ prog_10_method_54_code 1 (some .int) ∈ lw_g := lg_i (i := 316) (by decide +kernel) rfl
theorem k_289 : Cond.methodLink "java/lang/String" 335 ⟨"java/lang/String", "coder", "()B"⟩ ∈ lw_g := lg_i (i := 317) (by decide +kernel) rfl
theorem k_290 : Cond.instanceMethod ⟨"java/lang/String", "coder", "()B"⟩ ∈ lw_g := lg_i (i := 318) (by decide +kernel) rfl
theorem k_291 : Cond.selects "java/lang/String" ⟨"java/lang/String", "coder", "()B"⟩ ⟨"java/lang/String", "coder", "()B"⟩ ∈ lw_g := lg_i (i := 319) (by decide +kernel) rfl
theorem k_292 : Cond.code ⟨"java/lang/String", "coder", "()B"⟩ prog_10_method_152_code 1 (some .byte) ∈ lw_g := lg_i (i := 320) (by decide +kernel) rfl
theorem k_293 : Cond.fieldLink "java/lang/String" 38 "java/lang/String" "COMPACT_STRINGS" "Z" ∈ lw_g := lg_i (i := 321) (by decide +kernel) rfl
theorem k_294 : Cond.laysStatic "java/lang/String" "COMPACT_STRINGS" "Z" ∈ lw_tbl := List.mem_of_getElem? (i := 322) (by decide +kernel)
theorem k_295 : Cond.methodLink "CodeLister$Text" 37 ⟨"java/lang/String", "charAt", "(I)C"⟩ ∈ lw_g := lg_i (i := 323) (by decide +kernel) rfl
theorem k_296 : Cond.instanceMethod ⟨"java/lang/String", "charAt", "(I)C"⟩ ∈ lw_g := lg_i (i := 324) (by decide +kernel) rfl
theorem k_297 : Cond.selects "java/lang/String" ⟨"java/lang/String", "charAt", "(I)C"⟩ ⟨"java/lang/String", "charAt", "(I)C"⟩ ∈ lw_g := lg_i (i := 325) (by decide +kernel) rfl
theorem k_298 : Cond.code ⟨"java/lang/String", "charAt", "(I)C"⟩ prog_10_method_56_code 2 (some .char) ∈ lw_g := lg_i (i := 326) (by decide +kernel) rfl
theorem k_299 : Cond.methodLink "java/lang/String" 492 ⟨"java/lang/String", "isLatin1", "()Z"⟩ ∈ lw_g := lg_i (i := 327) (by decide +kernel) rfl
theorem k_300 : Cond.instanceMethod ⟨"java/lang/String", "isLatin1", "()Z"⟩ ∈ lw_g := lg_i (i := 328) (by decide +kernel) rfl
theorem k_301 : Cond.selects "java/lang/String" ⟨"java/lang/String", "isLatin1", "()Z"⟩ ⟨"java/lang/String", "isLatin1", "()Z"⟩ ∈ lw_g := lg_i (i := 329) (by decide +kernel) rfl
theorem k_302 : Cond.code ⟨"java/lang/String", "isLatin1", "()Z"⟩ prog_10_method_154_code 1 (some .boolean) ∈ lw_g := lg_i (i := 330) (by decide +kernel) rfl
theorem k_303 : Cond.methodLink "java/lang/String" 495 ⟨"java/lang/StringLatin1", "charAt", "([BI)C"⟩ ∈ lw_g := lg_i (i := 331) (by decide +kernel) rfl
theorem k_304 : Cond.static ⟨"java/lang/StringLatin1", "charAt", "([BI)C"⟩ ∈ lw_g := lg_i (i := 332) (by decide +kernel) rfl
theorem k_305 : Cond.code ⟨"java/lang/StringLatin1", "charAt", "([BI)C"⟩ prog_11_method_2_code 2 (some .char) ∈ lw_g := lg_i (i := 333) (by decide +kernel) rfl
theorem k_306 : Cond.methodLink "java/lang/StringLatin1" 9 ⟨"java/lang/String", "checkIndex", "(II)V"⟩ ∈ lw_g := lg_i (i := 334) (by decide +kernel) rfl
theorem k_307 : Cond.static ⟨"java/lang/String", "checkIndex", "(II)V"⟩ ∈ lw_g := lg_i (i := 335) (by decide +kernel) rfl
theorem k_308 : Cond.code ⟨"java/lang/String", "checkIndex", "(II)V"⟩ prog_10_method_155_code 2 none ∈ lw_g := lg_i (i := 336) (by decide +kernel) rfl
theorem k_309 : Cond.fieldLink "java/lang/String" 1053 "jdk/internal/util/Preconditions" "SIOOBE_FORMATTER" "Ljava/util/function/BiFunction;" ∈ lw_g := lg_i (i := 337) (by decide +kernel) rfl
theorem k_310 : Cond.laysStatic "jdk/internal/util/Preconditions" "SIOOBE_FORMATTER" "Ljava/util/function/BiFunction;" ∈ lw_tbl := List.mem_of_getElem? (i := 338) (by decide +kernel)
theorem k_311 : Cond.methodLink "java/lang/String" 1059 ⟨"jdk/internal/util/Preconditions", "checkIndex", "(IILjava/util/function/BiFunction;)I"⟩ ∈ lw_g := lg_i (i := 339) (by decide +kernel) rfl
theorem k_312 : Cond.static ⟨"jdk/internal/util/Preconditions", "checkIndex", "(IILjava/util/function/BiFunction;)I"⟩ ∈ lw_g := lg_i (i := 340) (by decide +kernel) rfl
theorem k_313 : Cond.code ⟨"jdk/internal/util/Preconditions", "checkIndex", "(IILjava/util/function/BiFunction;)I"⟩ prog_14_method_11_code 3 (some .int) ∈ lw_g := lg_i (i := 341) (by decide +kernel) rfl
theorem k_314 : Cond.methodLink "java/lang/String" 498 ⟨"java/lang/StringUTF16", "charAt", "([BI)C"⟩ ∈ lw_g := lg_i (i := 342) (by decide +kernel) rfl
theorem k_315 : Cond.static ⟨"java/lang/StringUTF16", "charAt", "([BI)C"⟩ ∈ lw_g := lg_i (i := 343) (by decide +kernel) rfl
theorem k_316 : Cond.code ⟨"java/lang/StringUTF16", "charAt", "([BI)C"⟩ prog_12_method_83_code 2 (some .char) ∈ lw_g := lg_i (i := 344) (by decide +kernel) rfl
theorem k_317 : Cond.methodLink "java/lang/StringUTF16" 67 ⟨"java/lang/StringUTF16", "checkIndex", "(I[B)V"⟩ ∈ lw_g := lg_i (i := 345) (by decide +kernel) rfl
theorem k_318 : Cond.static ⟨"java/lang/StringUTF16", "checkIndex", "(I[B)V"⟩ ∈ lw_g := lg_i (i := 346) (by decide +kernel) rfl
theorem k_319 : Cond.code ⟨"java/lang/StringUTF16", "checkIndex", "(I[B)V"⟩ prog_12_method_91_code 2 none ∈ lw_g := lg_i (i := 347) (by decide +kernel) rfl
theorem k_320 : Cond.methodLink "java/lang/StringUTF16" 48 ⟨"java/lang/StringUTF16", "length", "([B)I"⟩ ∈ lw_g := lg_i (i := 348) (by decide +kernel) rfl
theorem k_321 : Cond.static ⟨"java/lang/StringUTF16", "length", "([B)I"⟩ ∈ lw_g := lg_i (i := 349) (by decide +kernel) rfl
theorem k_322 : Cond.code ⟨"java/lang/StringUTF16", "length", "([B)I"⟩ prog_12_method_6_code 1 (some .int) ∈ lw_g := lg_i (i := 350) (by decide +kernel) rfl
theorem k_323 : Cond.methodLink "java/lang/StringUTF16" 414 ⟨"java/lang/String", "checkIndex", "(II)V"⟩ ∈ lw_g := lg_i (i := 351) (by decide +kernel) rfl
theorem k_324 : Cond.methodLink "java/lang/StringUTF16" 71 ⟨"java/lang/StringUTF16", "getChar", "([BI)C"⟩ ∈ lw_g := lg_i (i := 352) (by decide +kernel) rfl
theorem k_325 : Cond.static ⟨"java/lang/StringUTF16", "getChar", "([BI)C"⟩ ∈ lw_g := lg_i (i := 353) (by decide +kernel) rfl
theorem k_326 : Cond.code ⟨"java/lang/StringUTF16", "getChar", "([BI)C"⟩ prog_12_method_5_code 2 (some .char) ∈ lw_g := lg_i (i := 354) (by decide +kernel) rfl
theorem k_327 : Cond.fieldLink "java/lang/StringUTF16" 44 "java/lang/StringUTF16" "$assertionsDisabled" "Z" ∈ lw_g := lg_i (i := 355) (by decide +kernel) rfl
theorem k_328 : Cond.laysStatic "java/lang/StringUTF16" "$assertionsDisabled" "Z" ∈ lw_tbl := List.mem_of_getElem? (i := 356) (by decide +kernel)
theorem k_329 : Cond.fieldLink "java/lang/StringUTF16" 59 "java/lang/StringUTF16" "HI_BYTE_SHIFT" "I" ∈ lw_g := lg_i (i := 357) (by decide +kernel) rfl
theorem k_330 : Cond.laysStatic "java/lang/StringUTF16" "HI_BYTE_SHIFT" "I" ∈ lw_tbl := List.mem_of_getElem? (i := 358) (by decide +kernel)
theorem k_331 : Cond.fieldLink "java/lang/StringUTF16" 63 "java/lang/StringUTF16" "LO_BYTE_SHIFT" "I" ∈ lw_g := lg_i (i := 359) (by decide +kernel) rfl
theorem k_332 : Cond.laysStatic "java/lang/StringUTF16" "LO_BYTE_SHIFT" "I" ∈ lw_tbl := List.mem_of_getElem? (i := 360) (by decide +kernel)
theorem k_333 : Cond.methodLink "CodeLister$Text" 41 ⟨"CodeLister$Text", "add", "(C)V"⟩ ∈ lw_g := lg_i (i := 361) (by decide +kernel) rfl
theorem k_334 : Cond.privateMethod ⟨"CodeLister$Text", "add", "(C)V"⟩ ∈ lw_tbl := List.mem_of_getElem? (i := 362) (by decide +kernel)
theorem k_335 : Cond.instanceMethod ⟨"CodeLister$Text", "add", "(C)V"⟩ ∈ lw_g := lg_i (i := 363) (by decide +kernel) rfl
theorem k_336 : Cond.code ⟨"CodeLister$Text", "add", "(C)V"⟩ prog_5_method_7_code 2 none ∈ lw_g := lg_i (i := 364) (by decide +kernel) rfl
theorem k_337 : Cond.methodLink "CodeLister$Text" 62 ⟨"CodeLister$Text", "put", "(IC)V"⟩ ∈ lw_g := lg_i (i := 365) (by decide +kernel) rfl
theorem k_338 : Cond.instanceMethod ⟨"CodeLister$Text", "put", "(IC)V"⟩ ∈ lw_g := lg_i (i := 366) (by decide +kernel) rfl
theorem k_339 : Cond.selects "CodeLister$Text" ⟨"CodeLister$Text", "put", "(IC)V"⟩ ⟨"CodeLister$Text", "put", "(IC)V"⟩ ∈ lw_g := lg_i (i := 367) (by decide +kernel) rfl
theorem k_340 : Cond.code ⟨"CodeLister$Text", "put", "(IC)V"⟩ prog_5_method_5_code 3 none ∈ lw_g := lg_i (i := 368) (by decide +kernel) rfl
theorem k_341 : Cond.methodLink "CodeLister$Text" 19 ⟨"java/lang/Math", "max", "(II)I"⟩ ∈ lw_g := lg_i (i := 369) (by decide +kernel) rfl
theorem k_342 : Cond.methodLink "CodeLister$Text" 45 ⟨"CodeLister$Kinds", "registers", "(I)I"⟩ ∈ lw_g := lg_i (i := 370) (by decide +kernel) rfl
theorem k_343 : Cond.static ⟨"CodeLister$Kinds", "registers", "(I)I"⟩ ∈ lw_g := lg_i (i := 371) (by decide +kernel) rfl
theorem k_344 : Cond.code ⟨"CodeLister$Kinds", "registers", "(I)I"⟩ prog_4_method_4_code 1 (some .int) ∈ lw_g := lg_i (i := 372) (by decide +kernel) rfl
theorem k_345 : Cond.methodLink "CodeLister$Text" 49 ⟨"CodeLister$Text", "addComma", "(I)V"⟩ ∈ lw_g := lg_i (i := 373) (by decide +kernel) rfl
theorem k_346 : Cond.privateMethod ⟨"CodeLister$Text", "addComma", "(I)V"⟩ ∈ lw_tbl := List.mem_of_getElem? (i := 374) (by decide +kernel)
theorem k_347 : Cond.instanceMethod ⟨"CodeLister$Text", "addComma", "(I)V"⟩ ∈ lw_g := lg_i (i := 375) (by decide +kernel) rfl
theorem k_348 : Cond.code ⟨"CodeLister$Text", "addComma", "(I)V"⟩ prog_5_method_8_code 2 none ∈ lw_g := lg_i (i := 376) (by decide +kernel) rfl
theorem k_349 : Cond.methodLink "CodeLister$Text" 53 ⟨"CodeLister$Text", "addDigit", "(I)V"⟩ ∈ lw_g := lg_i (i := 377) (by decide +kernel) rfl
theorem k_350 : Cond.privateMethod ⟨"CodeLister$Text", "addDigit", "(I)V"⟩ ∈ lw_tbl := List.mem_of_getElem? (i := 378) (by decide +kernel)
theorem k_351 : Cond.instanceMethod ⟨"CodeLister$Text", "addDigit", "(I)V"⟩ ∈ lw_g := lg_i (i := 379) (by decide +kernel) rfl
theorem k_352 : Cond.code ⟨"CodeLister$Text", "addDigit", "(I)V"⟩ prog_5_method_9_code 2 none ∈ lw_g := lg_i (i := 380) (by decide +kernel) rfl
theorem k_353 : Cond.methodLink "CodeLister$Text" 56 ⟨"CodeLister$Kinds", "number", "(I)I"⟩ ∈ lw_g := lg_i (i := 381) (by decide +kernel) rfl
theorem k_354 : Cond.methodLink "CodeLister$Text" 59 ⟨"CodeLister$Text", "addNumber", "(I)V"⟩ ∈ lw_g := lg_i (i := 382) (by decide +kernel) rfl
theorem k_355 : Cond.privateMethod ⟨"CodeLister$Text", "addNumber", "(I)V"⟩ ∈ lw_tbl := List.mem_of_getElem? (i := 383) (by decide +kernel)
theorem k_356 : Cond.instanceMethod ⟨"CodeLister$Text", "addNumber", "(I)V"⟩ ∈ lw_g := lg_i (i := 384) (by decide +kernel) rfl
theorem k_357 : Cond.code ⟨"CodeLister$Text", "addNumber", "(I)V"⟩ prog_5_method_10_code 4 none ∈ lw_g := lg_i (i := 385) (by decide +kernel) rfl
theorem k_358 : Cond.methodLink "CodeLister$Text" 66 ⟨"java/lang/Math", "abs", "(I)I"⟩ ∈ lw_g := lg_i (i := 386) (by decide +kernel) rfl
theorem k_359 : Cond.static ⟨"java/lang/Math", "abs", "(I)I"⟩ ∈ lw_g := lg_i (i := 387) (by decide +kernel) rfl
theorem k_360 : Cond.code ⟨"java/lang/Math", "abs", "(I)I"⟩ prog_9_method_59_code 1 (some .int) ∈ lw_g := lg_i (i := 388) (by decide +kernel) rfl
theorem k_361 : Cond.methodLink "CodeLister" 127 ⟨"CodeLister$Kinds", "first", "(I)I"⟩ ∈ lw_g := lg_i (i := 389) (by decide +kernel) rfl
theorem k_362 : Cond.static ⟨"CodeLister$Kinds", "first", "(I)I"⟩ ∈ lw_g := lg_i (i := 390) (by decide +kernel) rfl
theorem k_363 : Cond.code ⟨"CodeLister$Kinds", "first", "(I)I"⟩ prog_4_method_3_code 1 (some .int) ∈ lw_g := lg_i (i := 391) (by decide +kernel) rfl
theorem k_364 : Cond.methodLink "CodeLister" 130 ⟨"CodeLister$Image", "number", "(II)I"⟩ ∈ lw_g := lg_i (i := 392) (by decide +kernel) rfl
theorem k_365 : Cond.methodLink "CodeLister" 133 ⟨"CodeLister$Kinds", "bytes", "(I)I"⟩ ∈ lw_g := lg_i (i := 393) (by decide +kernel) rfl
theorem k_366 : Cond.methodLink "CodeLister" 103 ⟨"CodeLister$Text", "count", "()I"⟩ ∈ lw_g := lg_i (i := 394) (by decide +kernel) rfl
theorem k_367 : Cond.instanceMethod ⟨"CodeLister$Text", "count", "()I"⟩ ∈ lw_g := lg_i (i := 395) (by decide +kernel) rfl
theorem k_368 : Cond.selects "CodeLister$Text" ⟨"CodeLister$Text", "count", "()I"⟩ ⟨"CodeLister$Text", "count", "()I"⟩ ∈ lw_g := lg_i (i := 396) (by decide +kernel) rfl
theorem k_369 : Cond.code ⟨"CodeLister$Text", "count", "()I"⟩ prog_5_method_2_code 1 (some .int) ∈ lw_g := lg_i (i := 397) (by decide +kernel) rfl
theorem k_370 : Cond.arrayClass .byte ∈ lw_g := lg_i (i := 398) (by decide +kernel) rfl
theorem k_371 : Cond.methodLink "CodeListerLaw" 65 ⟨"CodeLister", "textLength", "()I"⟩ ∈ lw_g := lg_i (i := 399) (by decide +kernel) rfl
theorem k_372 : Cond.instanceMethod ⟨"CodeLister", "textLength", "()I"⟩ ∈ lw_g := lg_i (i := 400) (by decide +kernel) rfl
theorem k_373 : Cond.selects "CodeLister" ⟨"CodeLister", "textLength", "()I"⟩ ⟨"CodeLister", "textLength", "()I"⟩ ∈ lw_g := lg_i (i := 401) (by decide +kernel) rfl
theorem k_374 : Cond.code ⟨"CodeLister", "textLength", "()I"⟩ prog_1_method_14_code 1 (some .int) ∈ lw_g := lg_i (i := 402) (by decide +kernel) rfl
theorem k_375 : Cond.methodLink "CodeListerLaw" 69 ⟨"CodeLister", "charAt", "(I)I"⟩ ∈ lw_g := lg_i (i := 403) (by decide +kernel) rfl
theorem k_376 : Cond.instanceMethod ⟨"CodeLister", "charAt", "(I)I"⟩ ∈ lw_g := lg_i (i := 404) (by decide +kernel) rfl
theorem k_377 : Cond.selects "CodeLister" ⟨"CodeLister", "charAt", "(I)I"⟩ ⟨"CodeLister", "charAt", "(I)I"⟩ ∈ lw_g := lg_i (i := 405) (by decide +kernel) rfl
theorem k_378 : Cond.code ⟨"CodeLister", "charAt", "(I)I"⟩ prog_1_method_15_code 2 (some .int) ∈ lw_g := lg_i (i := 406) (by decide +kernel) rfl
theorem k_379 : Cond.methodLink "CodeLister" 104 ⟨"CodeLister$Text", "at", "(I)I"⟩ ∈ lw_g := lg_i (i := 407) (by decide +kernel) rfl
theorem k_380 : Cond.instanceMethod ⟨"CodeLister$Text", "at", "(I)I"⟩ ∈ lw_g := lg_i (i := 408) (by decide +kernel) rfl
theorem k_381 : Cond.selects "CodeLister$Text" ⟨"CodeLister$Text", "at", "(I)I"⟩ ⟨"CodeLister$Text", "at", "(I)I"⟩ ∈ lw_g := lg_i (i := 409) (by decide +kernel) rfl
theorem k_382 : Cond.code ⟨"CodeLister$Text", "at", "(I)I"⟩ prog_5_method_3_code 2 (some .int) ∈ lw_g := lg_i (i := 410) (by decide +kernel) rfl
theorem k_383 : Cond.methodLink "CodeListerLaw" 73 ⟨"CodeLister", "type", "(II)Z"⟩ ∈ lw_g := lg_i (i := 411) (by decide +kernel) rfl
theorem k_384 : Cond.instanceMethod ⟨"CodeLister", "type", "(II)Z"⟩ ∈ lw_g := lg_i (i := 412) (by decide +kernel) rfl
theorem k_385 : Cond.selects "CodeLister" ⟨"CodeLister", "type", "(II)Z"⟩ ⟨"CodeLister", "type", "(II)Z"⟩ ∈ lw_g := lg_i (i := 413) (by decide +kernel) rfl
theorem k_386 : Cond.code ⟨"CodeLister", "type", "(II)Z"⟩ prog_1_method_16_code 3 (some .boolean) ∈ lw_g := lg_i (i := 414) (by decide +kernel) rfl
theorem k_387 : Cond.methodLink "CodeLister" 105 ⟨"CodeLister$Text", "put", "(IC)V"⟩ ∈ lw_g := lg_i (i := 415) (by decide +kernel) rfl
theorem k_388 : Cond.methodLink "CodeListerLaw" 78 ⟨"CodeLister", "assemble", "()I"⟩ ∈ lw_g := lg_i (i := 416) (by decide +kernel) rfl
theorem k_389 : Cond.instanceMethod ⟨"CodeLister", "assemble", "()I"⟩ ∈ lw_g := lg_i (i := 417) (by decide +kernel) rfl
theorem k_390 : Cond.selects "CodeLister" ⟨"CodeLister", "assemble", "()I"⟩ ⟨"CodeLister", "assemble", "()I"⟩ ∈ lw_g := lg_i (i := 418) (by decide +kernel) rfl
theorem k_391 : Cond.code ⟨"CodeLister", "assemble", "()I"⟩ prog_1_method_17_code 1 (some .int) ∈ lw_g := lg_i (i := 419) (by decide +kernel) rfl
theorem k_392 : Cond.methodLink "CodeLister" 109 ⟨"CodeLister$Assembler", "read", "(LCodeLister$Text;)Z"⟩ ∈ lw_g := lg_i (i := 420) (by decide +kernel) rfl
theorem k_393 : Cond.instanceMethod ⟨"CodeLister$Assembler", "read", "(LCodeLister$Text;)Z"⟩ ∈ lw_g := lg_i (i := 421) (by decide +kernel) rfl
theorem k_394 : Cond.selects "CodeLister$Assembler" ⟨"CodeLister$Assembler", "read", "(LCodeLister$Text;)Z"⟩ ⟨"CodeLister$Assembler", "read", "(LCodeLister$Text;)Z"⟩ ∈ lw_g := lg_i (i := 422) (by decide +kernel) rfl
theorem k_395 : Cond.code ⟨"CodeLister$Assembler", "read", "(LCodeLister$Text;)Z"⟩ prog_2_method_4_code 3 (some .boolean) ∈ lw_g := lg_i (i := 423) (by decide +kernel) rfl
theorem k_396 : Cond.methodLink "CodeLister$Assembler" 31 ⟨"CodeLister$Text", "startReading", "()V"⟩ ∈ lw_g := lg_i (i := 424) (by decide +kernel) rfl
theorem k_397 : Cond.instanceMethod ⟨"CodeLister$Text", "startReading", "()V"⟩ ∈ lw_g := lg_i (i := 425) (by decide +kernel) rfl
theorem k_398 : Cond.selects "CodeLister$Text" ⟨"CodeLister$Text", "startReading", "()V"⟩ ⟨"CodeLister$Text", "startReading", "()V"⟩ ∈ lw_g := lg_i (i := 426) (by decide +kernel) rfl
theorem k_399 : Cond.code ⟨"CodeLister$Text", "startReading", "()V"⟩ prog_5_method_11_code 1 none ∈ lw_g := lg_i (i := 427) (by decide +kernel) rfl
theorem k_400 : Cond.methodLink "CodeLister$Assembler" 36 ⟨"CodeLister$Text", "hasMore", "()Z"⟩ ∈ lw_g := lg_i (i := 428) (by decide +kernel) rfl
theorem k_401 : Cond.instanceMethod ⟨"CodeLister$Text", "hasMore", "()Z"⟩ ∈ lw_g := lg_i (i := 429) (by decide +kernel) rfl
theorem k_402 : Cond.selects "CodeLister$Text" ⟨"CodeLister$Text", "hasMore", "()Z"⟩ ⟨"CodeLister$Text", "hasMore", "()Z"⟩ ∈ lw_g := lg_i (i := 430) (by decide +kernel) rfl
theorem k_403 : Cond.code ⟨"CodeLister$Text", "hasMore", "()Z"⟩ prog_5_method_13_code 1 (some .boolean) ∈ lw_g := lg_i (i := 431) (by decide +kernel) rfl
theorem k_404 : Cond.methodLink "CodeLister$Assembler" 40 ⟨"CodeLister$Assembler", "readLine", "(LCodeLister$Text;)V"⟩ ∈ lw_g := lg_i (i := 432) (by decide +kernel) rfl
theorem k_405 : Cond.privateMethod ⟨"CodeLister$Assembler", "readLine", "(LCodeLister$Text;)V"⟩ ∈ lw_tbl := List.mem_of_getElem? (i := 433) (by decide +kernel)
theorem k_406 : Cond.instanceMethod ⟨"CodeLister$Assembler", "readLine", "(LCodeLister$Text;)V"⟩ ∈ lw_g := lg_i (i := 434) (by decide +kernel) rfl
theorem k_407 : Cond.code ⟨"CodeLister$Assembler", "readLine", "(LCodeLister$Text;)V"⟩ prog_2_method_5_code 5 none ∈ lw_g := lg_i (i := 435) (by decide +kernel) rfl
theorem k_408 : Cond.methodLink "CodeLister$Assembler" 47 ⟨"CodeLister$Text", "takeKind", "()I"⟩ ∈ lw_g := lg_i (i := 436) (by decide +kernel) rfl
theorem k_409 : Cond.instanceMethod ⟨"CodeLister$Text", "takeKind", "()I"⟩ ∈ lw_g := lg_i (i := 437) (by decide +kernel) rfl
theorem k_410 : Cond.selects "CodeLister$Text" ⟨"CodeLister$Text", "takeKind", "()I"⟩ ⟨"CodeLister$Text", "takeKind", "()I"⟩ ∈ lw_g := lg_i (i := 438) (by decide +kernel) rfl
theorem k_411 : Cond.code ⟨"CodeLister$Text", "takeKind", "()I"⟩ prog_5_method_16_code 3 (some .int) ∈ lw_g := lg_i (i := 439) (by decide +kernel) rfl
theorem k_412 : Cond.methodLink "CodeLister$Text" 82 ⟨"CodeLister$Text", "goesOnWith", "(Ljava/lang/String;)Z"⟩ ∈ lw_g := lg_i (i := 440) (by decide +kernel) rfl
theorem k_413 : Cond.privateMethod ⟨"CodeLister$Text", "goesOnWith", "(Ljava/lang/String;)Z"⟩ ∈ lw_tbl := List.mem_of_getElem? (i := 441) (by decide +kernel)
theorem k_414 : Cond.instanceMethod ⟨"CodeLister$Text", "goesOnWith", "(Ljava/lang/String;)Z"⟩ ∈ lw_g := lg_i (i := 442) (by decide +kernel) rfl
theorem k_415 : Cond.code ⟨"CodeLister$Text", "goesOnWith", "(Ljava/lang/String;)Z"⟩ prog_5_method_17_code 3 (some .boolean) ∈ lw_g := lg_i (i := 443) (by decide +kernel) rfl
theorem k_416 : Cond.methodLink "CodeLister$Text" 76 ⟨"CodeLister$Text", "at", "(I)I"⟩ ∈ lw_g := lg_i (i := 444) (by decide +kernel) rfl
theorem k_417 : Cond.methodLink "CodeLister$Assembler" 51 ⟨"CodeLister$Assembler", "readRegisters", "(LCodeLister$Text;I)I"⟩ ∈ lw_g := lg_i (i := 445) (by decide +kernel) rfl
theorem k_418 : Cond.static ⟨"CodeLister$Assembler", "readRegisters", "(LCodeLister$Text;I)I"⟩ ∈ lw_g := lg_i (i := 446) (by decide +kernel) rfl
theorem k_419 : Cond.code ⟨"CodeLister$Assembler", "readRegisters", "(LCodeLister$Text;I)I"⟩ prog_2_method_6_code 4 (some .int) ∈ lw_g := lg_i (i := 447) (by decide +kernel) rfl
theorem k_420 : Cond.methodLink "CodeLister$Assembler" 66 ⟨"CodeLister$Kinds", "registers", "(I)I"⟩ ∈ lw_g := lg_i (i := 448) (by decide +kernel) rfl
theorem k_421 : Cond.methodLink "CodeLister$Assembler" 72 ⟨"CodeLister$Text", "takeComma", "(I)V"⟩ ∈ lw_g := lg_i (i := 449) (by decide +kernel) rfl
theorem k_422 : Cond.instanceMethod ⟨"CodeLister$Text", "takeComma", "(I)V"⟩ ∈ lw_g := lg_i (i := 450) (by decide +kernel) rfl
theorem k_423 : Cond.selects "CodeLister$Text" ⟨"CodeLister$Text", "takeComma", "(I)V"⟩ ⟨"CodeLister$Text", "takeComma", "(I)V"⟩ ∈ lw_g := lg_i (i := 451) (by decide +kernel) rfl
theorem k_424 : Cond.code ⟨"CodeLister$Text", "takeComma", "(I)V"⟩ prog_5_method_15_code 2 none ∈ lw_g := lg_i (i := 452) (by decide +kernel) rfl
theorem k_425 : Cond.methodLink "CodeLister$Text" 79 ⟨"CodeLister$Text", "take", "(C)V"⟩ ∈ lw_g := lg_i (i := 453) (by decide +kernel) rfl
theorem k_426 : Cond.instanceMethod ⟨"CodeLister$Text", "take", "(C)V"⟩ ∈ lw_g := lg_i (i := 454) (by decide +kernel) rfl
theorem k_427 : Cond.selects "CodeLister$Text" ⟨"CodeLister$Text", "take", "(C)V"⟩ ⟨"CodeLister$Text", "take", "(C)V"⟩ ∈ lw_g := lg_i (i := 455) (by decide +kernel) rfl
theorem k_428 : Cond.code ⟨"CodeLister$Text", "take", "(C)V"⟩ prog_5_method_14_code 2 none ∈ lw_g := lg_i (i := 456) (by decide +kernel) rfl
theorem k_429 : Cond.methodLink "CodeLister$Assembler" 76 ⟨"CodeLister$Text", "takeRegister", "()I"⟩ ∈ lw_g := lg_i (i := 457) (by decide +kernel) rfl
theorem k_430 : Cond.instanceMethod ⟨"CodeLister$Text", "takeRegister", "()I"⟩ ∈ lw_g := lg_i (i := 458) (by decide +kernel) rfl
theorem k_431 : Cond.selects "CodeLister$Text" ⟨"CodeLister$Text", "takeRegister", "()I"⟩ ⟨"CodeLister$Text", "takeRegister", "()I"⟩ ∈ lw_g := lg_i (i := 459) (by decide +kernel) rfl
theorem k_432 : Cond.code ⟨"CodeLister$Text", "takeRegister", "()I"⟩ prog_5_method_18_code 2 (some .int) ∈ lw_g := lg_i (i := 460) (by decide +kernel) rfl
theorem k_433 : Cond.methodLink "CodeLister$Assembler" 55 ⟨"CodeLister$Assembler", "readNumber", "(LCodeLister$Text;I)I"⟩ ∈ lw_g := lg_i (i := 461) (by decide +kernel) rfl
theorem k_434 : Cond.static ⟨"CodeLister$Assembler", "readNumber", "(LCodeLister$Text;I)I"⟩ ∈ lw_g := lg_i (i := 462) (by decide +kernel) rfl
theorem k_435 : Cond.code ⟨"CodeLister$Assembler", "readNumber", "(LCodeLister$Text;I)I"⟩ prog_2_method_7_code 3 (some .int) ∈ lw_g := lg_i (i := 463) (by decide +kernel) rfl
theorem k_436 : Cond.methodLink "CodeLister$Assembler" 79 ⟨"CodeLister$Kinds", "number", "(I)I"⟩ ∈ lw_g := lg_i (i := 464) (by decide +kernel) rfl
theorem k_437 : Cond.methodLink "CodeLister$Assembler" 82 ⟨"CodeLister$Kinds", "lowest", "(I)I"⟩ ∈ lw_g := lg_i (i := 465) (by decide +kernel) rfl
theorem k_438 : Cond.static ⟨"CodeLister$Kinds", "lowest", "(I)I"⟩ ∈ lw_g := lg_i (i := 466) (by decide +kernel) rfl
theorem k_439 : Cond.code ⟨"CodeLister$Kinds", "lowest", "(I)I"⟩ prog_4_method_7_code 1 (some .int) ∈ lw_g := lg_i (i := 467) (by decide +kernel) rfl
theorem k_440 : Cond.methodLink "CodeLister$Assembler" 85 ⟨"CodeLister$Kinds", "highest", "(I)I"⟩ ∈ lw_g := lg_i (i := 468) (by decide +kernel) rfl
theorem k_441 : Cond.static ⟨"CodeLister$Kinds", "highest", "(I)I"⟩ ∈ lw_g := lg_i (i := 469) (by decide +kernel) rfl
theorem k_442 : Cond.code ⟨"CodeLister$Kinds", "highest", "(I)I"⟩ prog_4_method_8_code 1 (some .int) ∈ lw_g := lg_i (i := 470) (by decide +kernel) rfl
theorem k_443 : Cond.constant "CodeLister$Kinds" 21 (65535 : Int32) ∈ lw_g := lg_i (i := 471) (by decide +kernel) rfl
theorem k_444 : Cond.methodLink "CodeLister$Assembler" 88 ⟨"CodeLister$Text", "takeNumber", "(II)I"⟩ ∈ lw_g := lg_i (i := 472) (by decide +kernel) rfl
theorem k_445 : Cond.instanceMethod ⟨"CodeLister$Text", "takeNumber", "(II)I"⟩ ∈ lw_g := lg_i (i := 473) (by decide +kernel) rfl
theorem k_446 : Cond.selects "CodeLister$Text" ⟨"CodeLister$Text", "takeNumber", "(II)I"⟩ ⟨"CodeLister$Text", "takeNumber", "(II)I"⟩ ∈ lw_g := lg_i (i := 474) (by decide +kernel) rfl
theorem k_447 : Cond.code ⟨"CodeLister$Text", "takeNumber", "(II)I"⟩ prog_5_method_19_code 6 (some .int) ∈ lw_g := lg_i (i := 475) (by decide +kernel) rfl
theorem k_448 : Cond.methodLink "CodeLister$Text" 86 ⟨"CodeLister$Text", "takeAmount", "()I"⟩ ∈ lw_g := lg_i (i := 476) (by decide +kernel) rfl
theorem k_449 : Cond.privateMethod ⟨"CodeLister$Text", "takeAmount", "()I"⟩ ∈ lw_tbl := List.mem_of_getElem? (i := 477) (by decide +kernel)
theorem k_450 : Cond.instanceMethod ⟨"CodeLister$Text", "takeAmount", "()I"⟩ ∈ lw_g := lg_i (i := 478) (by decide +kernel) rfl
theorem k_451 : Cond.code ⟨"CodeLister$Text", "takeAmount", "()I"⟩ prog_5_method_20_code 4 (some .int) ∈ lw_g := lg_i (i := 479) (by decide +kernel) rfl
theorem k_452 : Cond.methodLink "CodeLister$Text" 89 ⟨"CodeLister$Text", "isDigit", "(I)Z"⟩ ∈ lw_g := lg_i (i := 480) (by decide +kernel) rfl
theorem k_453 : Cond.static ⟨"CodeLister$Text", "isDigit", "(I)Z"⟩ ∈ lw_g := lg_i (i := 481) (by decide +kernel) rfl
theorem k_454 : Cond.code ⟨"CodeLister$Text", "isDigit", "(I)Z"⟩ prog_5_method_21_code 1 (some .boolean) ∈ lw_g := lg_i (i := 482) (by decide +kernel) rfl
theorem k_455 : Cond.methodLink "CodeLister$Assembler" 58 ⟨"CodeLister$Text", "take", "(C)V"⟩ ∈ lw_g := lg_i (i := 483) (by decide +kernel) rfl
theorem k_456 : Cond.methodLink "CodeLister$Assembler" 62 ⟨"CodeLister$Assembler", "addBytes", "(III)V"⟩ ∈ lw_g := lg_i (i := 484) (by decide +kernel) rfl
theorem k_457 : Cond.privateMethod ⟨"CodeLister$Assembler", "addBytes", "(III)V"⟩ ∈ lw_tbl := List.mem_of_getElem? (i := 485) (by decide +kernel)
theorem k_458 : Cond.instanceMethod ⟨"CodeLister$Assembler", "addBytes", "(III)V"⟩ ∈ lw_g := lg_i (i := 486) (by decide +kernel) rfl
theorem k_459 : Cond.code ⟨"CodeLister$Assembler", "addBytes", "(III)V"⟩ prog_2_method_8_code 4 none ∈ lw_g := lg_i (i := 487) (by decide +kernel) rfl
theorem k_460 : Cond.methodLink "CodeLister$Assembler" 91 ⟨"CodeLister$Kinds", "first", "(I)I"⟩ ∈ lw_g := lg_i (i := 488) (by decide +kernel) rfl
theorem k_461 : Cond.methodLink "CodeLister$Assembler" 94 ⟨"CodeLister$Assembler", "addByte", "(I)V"⟩ ∈ lw_g := lg_i (i := 489) (by decide +kernel) rfl
theorem k_462 : Cond.privateMethod ⟨"CodeLister$Assembler", "addByte", "(I)V"⟩ ∈ lw_tbl := List.mem_of_getElem? (i := 490) (by decide +kernel)
theorem k_463 : Cond.instanceMethod ⟨"CodeLister$Assembler", "addByte", "(I)V"⟩ ∈ lw_g := lg_i (i := 491) (by decide +kernel) rfl
theorem k_464 : Cond.code ⟨"CodeLister$Assembler", "addByte", "(I)V"⟩ prog_2_method_9_code 2 none ∈ lw_g := lg_i (i := 492) (by decide +kernel) rfl
theorem k_465 : Cond.methodLink "CodeLister$Assembler" 44 ⟨"CodeLister$Text", "isRight", "()Z"⟩ ∈ lw_g := lg_i (i := 493) (by decide +kernel) rfl
theorem k_466 : Cond.instanceMethod ⟨"CodeLister$Text", "isRight", "()Z"⟩ ∈ lw_g := lg_i (i := 494) (by decide +kernel) rfl
theorem k_467 : Cond.selects "CodeLister$Text" ⟨"CodeLister$Text", "isRight", "()Z"⟩ ⟨"CodeLister$Text", "isRight", "()Z"⟩ ∈ lw_g := lg_i (i := 495) (by decide +kernel) rfl
theorem k_468 : Cond.code ⟨"CodeLister$Text", "isRight", "()Z"⟩ prog_5_method_12_code 1 (some .boolean) ∈ lw_g := lg_i (i := 496) (by decide +kernel) rfl
theorem k_469 : Cond.methodLink "CodeLister" 113 ⟨"CodeLister$Assembler", "count", "()I"⟩ ∈ lw_g := lg_i (i := 497) (by decide +kernel) rfl
theorem k_470 : Cond.instanceMethod ⟨"CodeLister$Assembler", "count", "()I"⟩ ∈ lw_g := lg_i (i := 498) (by decide +kernel) rfl
theorem k_471 : Cond.selects "CodeLister$Assembler" ⟨"CodeLister$Assembler", "count", "()I"⟩ ⟨"CodeLister$Assembler", "count", "()I"⟩ ∈ lw_g := lg_i (i := 499) (by decide +kernel) rfl
theorem k_472 : Cond.code ⟨"CodeLister$Assembler", "count", "()I"⟩ prog_2_method_2_code 1 (some .int) ∈ lw_g := lg_i (i := 500) (by decide +kernel) rfl
theorem k_473 : Cond.methodLink "CodeLister" 114 ⟨"CodeLister$Assembler", "copyTo", "([I)V"⟩ ∈ lw_g := lg_i (i := 501) (by decide +kernel) rfl
theorem k_474 : Cond.instanceMethod ⟨"CodeLister$Assembler", "copyTo", "([I)V"⟩ ∈ lw_g := lg_i (i := 502) (by decide +kernel) rfl
theorem k_475 : Cond.selects "CodeLister$Assembler" ⟨"CodeLister$Assembler", "copyTo", "([I)V"⟩ ⟨"CodeLister$Assembler", "copyTo", "([I)V"⟩ ∈ lw_g := lg_i (i := 503) (by decide +kernel) rfl
theorem k_476 : Cond.code ⟨"CodeLister$Assembler", "copyTo", "([I)V"⟩ prog_2_method_3_code 2 none ∈ lw_g := lg_i (i := 504) (by decide +kernel) rfl
theorem k_477 : Cond.methodLink "CodeLister$Assembler" 19 ⟨"java/lang/Math", "min", "(II)I"⟩ ∈ lw_g := lg_i (i := 505) (by decide +kernel) rfl
theorem k_478 : Cond.methodLink "CodeLister$Assembler" 25 ⟨"java/lang/System", "arraycopy", "(Ljava/lang/Object;ILjava/lang/Object;II)V"⟩ ∈ lw_g := lg_i (i := 506) (by decide +kernel) rfl
theorem k_479 : Cond.static ⟨"java/lang/System", "arraycopy", "(Ljava/lang/Object;ILjava/lang/Object;II)V"⟩ ∈ lw_g := lg_i (i := 507) (by decide +kernel) rfl
theorem k_480 : Cond.native ⟨"java/lang/System", "arraycopy", "(Ljava/lang/Object;ILjava/lang/Object;II)V"⟩ ∈ lw_g := lg_i (i := 508) (by decide +kernel) rfl
theorem k_481 : Cond.methodLink "CodeListerLaw" 82 ⟨"CodeLister", "made", "(I)I"⟩ ∈ lw_g := lg_i (i := 509) (by decide +kernel) rfl
theorem k_482 : Cond.instanceMethod ⟨"CodeLister", "made", "(I)I"⟩ ∈ lw_g := lg_i (i := 510) (by decide +kernel) rfl
theorem k_483 : Cond.selects "CodeLister" ⟨"CodeLister", "made", "(I)I"⟩ ⟨"CodeLister", "made", "(I)I"⟩ ∈ lw_g := lg_i (i := 511) (by decide +kernel) rfl
theorem k_484 : Cond.code ⟨"CodeLister", "made", "(I)I"⟩ prog_1_method_18_code 2 (some .int) ∈ lw_g := lg_i (i := 512) (by decide +kernel) rfl
theorem k_485 : Cond.classLink "CodeListerLaw" 10 "CodeListerModel" ∈ lw_g := lg_i (i := 513) (by decide +kernel) rfl
theorem k_486 : Cond.instantiable "CodeListerModel" 12 ∈ lw_g := lg_i (i := 514) (by decide +kernel) rfl
theorem k_487 : Cond.methodLink "CodeListerLaw" 12 ⟨"CodeListerModel", "<init>", "()V"⟩ ∈ lw_g := lg_i (i := 515) (by decide +kernel) rfl
theorem k_488 : Cond.instanceMethod ⟨"CodeListerModel", "<init>", "()V"⟩ ∈ lw_g := lg_i (i := 516) (by decide +kernel) rfl
theorem k_489 : Cond.code ⟨"CodeListerModel", "<init>", "()V"⟩ prog_8_method_1_code 1 none ∈ lw_g := lg_i (i := 517) (by decide +kernel) rfl
theorem k_490 : Cond.methodLink "CodeListerModel" 1 ⟨"java/lang/Object", "<init>", "()V"⟩ ∈ lw_g := lg_i (i := 518) (by decide +kernel) rfl
theorem k_491 : Cond.fieldLink "CodeListerModel" 7 "CodeListerModel" "image" "[I" ∈ lw_g := lg_i (i := 519) (by decide +kernel) rfl
theorem k_492 : Cond.fieldLink "CodeListerModel" 13 "CodeListerModel" "entries" "[I" ∈ lw_g := lg_i (i := 520) (by decide +kernel) rfl
theorem k_493 : Cond.fieldLink "CodeListerModel" 16 "CodeListerModel" "text" "[I" ∈ lw_g := lg_i (i := 521) (by decide +kernel) rfl
theorem k_494 : Cond.fieldLink "CodeListerModel" 19 "CodeListerModel" "out" "[I" ∈ lw_g := lg_i (i := 522) (by decide +kernel) rfl
theorem k_495 : Cond.fieldLink "CodeListerModel" 22 "CodeListerModel" "bytes" "[I" ∈ lw_g := lg_i (i := 523) (by decide +kernel) rfl
theorem k_496 : Cond.fieldLink "CodeListerModel" 25 "CodeListerModel" "mark" "[Z" ∈ lw_g := lg_i (i := 524) (by decide +kernel) rfl
theorem k_497 : Cond.fieldLink "CodeListerModel" 29 "CodeListerModel" "line" "[I" ∈ lw_g := lg_i (i := 525) (by decide +kernel) rfl
theorem k_498 : Cond.fieldLink "CodeListerModel" 32 "CodeListerModel" "size" "I" ∈ lw_g := lg_i (i := 526) (by decide +kernel) rfl
theorem k_499 : Cond.fieldLink "CodeListerModel" 40 "CodeListerModel" "entered" "I" ∈ lw_g := lg_i (i := 527) (by decide +kernel) rfl
theorem k_500 : Cond.fieldLink "CodeListerModel" 43 "CodeListerModel" "length" "I" ∈ lw_g := lg_i (i := 528) (by decide +kernel) rfl
theorem k_501 : Cond.fieldLink "CodeListerModel" 46 "CodeListerModel" "makes" "I" ∈ lw_g := lg_i (i := 529) (by decide +kernel) rfl
theorem k_502 : Cond.fieldLink "CodeListerModel" 73 "CodeListerModel" "width" "I" ∈ lw_g := lg_i (i := 530) (by decide +kernel) rfl
theorem k_503 : Cond.laysFinal "CodeListerModel" "CodeListerModel" "image" "[I" ∈ lw_g := lg_i (i := 531) (by decide +kernel) rfl
theorem k_504 : Cond.soleField "CodeListerModel" "image" ∈ lw_g := lg_i (i := 532) (by decide +kernel) rfl
theorem k_505 : Cond.laysFinal "CodeListerModel" "CodeListerModel" "entries" "[I" ∈ lw_g := lg_i (i := 533) (by decide +kernel) rfl
theorem k_506 : Cond.soleField "CodeListerModel" "entries" ∈ lw_g := lg_i (i := 534) (by decide +kernel) rfl
theorem k_507 : Cond.laysFinal "CodeListerModel" "CodeListerModel" "text" "[I" ∈ lw_g := lg_i (i := 535) (by decide +kernel) rfl
theorem k_508 : Cond.soleField "CodeListerModel" "text" ∈ lw_g := lg_i (i := 536) (by decide +kernel) rfl
theorem k_509 : Cond.laysFinal "CodeListerModel" "CodeListerModel" "out" "[I" ∈ lw_g := lg_i (i := 537) (by decide +kernel) rfl
theorem k_510 : Cond.soleField "CodeListerModel" "out" ∈ lw_g := lg_i (i := 538) (by decide +kernel) rfl
theorem k_511 : Cond.laysFinal "CodeListerModel" "CodeListerModel" "bytes" "[I" ∈ lw_g := lg_i (i := 539) (by decide +kernel) rfl
theorem k_512 : Cond.soleField "CodeListerModel" "bytes" ∈ lw_g := lg_i (i := 540) (by decide +kernel) rfl
theorem k_513 : Cond.laysFinal "CodeListerModel" "CodeListerModel" "mark" "[Z" ∈ lw_g := lg_i (i := 541) (by decide +kernel) rfl
theorem k_514 : Cond.soleField "CodeListerModel" "mark" ∈ lw_g := lg_i (i := 542) (by decide +kernel) rfl
theorem k_515 : Cond.laysFinal "CodeListerModel" "CodeListerModel" "line" "[I" ∈ lw_g := lg_i (i := 543) (by decide +kernel) rfl
theorem k_516 : Cond.soleField "CodeListerModel" "line" ∈ lw_g := lg_i (i := 544) (by decide +kernel) rfl
theorem k_517 : Cond.lays "CodeListerModel" "CodeListerModel" "size" "I" ∈ lw_g := lg_i (i := 545) (by decide +kernel) rfl
theorem k_518 : Cond.soleField "CodeListerModel" "size" ∈ lw_g := lg_i (i := 546) (by decide +kernel) rfl
theorem k_519 : Cond.lays "CodeListerModel" "CodeListerModel" "entered" "I" ∈ lw_g := lg_i (i := 547) (by decide +kernel) rfl
theorem k_520 : Cond.soleField "CodeListerModel" "entered" ∈ lw_g := lg_i (i := 548) (by decide +kernel) rfl
theorem k_521 : Cond.lays "CodeListerModel" "CodeListerModel" "length" "I" ∈ lw_g := lg_i (i := 549) (by decide +kernel) rfl
theorem k_522 : Cond.soleField "CodeListerModel" "length" ∈ lw_g := lg_i (i := 550) (by decide +kernel) rfl
theorem k_523 : Cond.lays "CodeListerModel" "CodeListerModel" "makes" "I" ∈ lw_g := lg_i (i := 551) (by decide +kernel) rfl
theorem k_524 : Cond.soleField "CodeListerModel" "makes" ∈ lw_g := lg_i (i := 552) (by decide +kernel) rfl
theorem k_525 : Cond.lays "CodeListerModel" "CodeListerModel" "width" "I" ∈ lw_g := lg_i (i := 553) (by decide +kernel) rfl
theorem k_526 : Cond.soleField "CodeListerModel" "width" ∈ lw_g := lg_i (i := 554) (by decide +kernel) rfl
theorem k_527 : Cond.superclass "CodeListerModel" "java/lang/Object" ∈ lw_g := lg_i (i := 555) (by decide +kernel) rfl
theorem k_528 : Cond.methodLink "CodeListerLaw" 17 ⟨"CodeListerModel", "append", "(II)I"⟩ ∈ lw_g := lg_i (i := 556) (by decide +kernel) rfl
theorem k_529 : Cond.instanceMethod ⟨"CodeListerModel", "append", "(II)I"⟩ ∈ lw_g := lg_i (i := 557) (by decide +kernel) rfl
theorem k_530 : Cond.selects "CodeListerModel" ⟨"CodeListerModel", "append", "(II)I"⟩ ⟨"CodeListerModel", "append", "(II)I"⟩ ∈ lw_g := lg_i (i := 558) (by decide +kernel) rfl
theorem k_531 : Cond.code ⟨"CodeListerModel", "append", "(II)I"⟩ prog_8_method_2_code 4 (some .int) ∈ lw_g := lg_i (i := 559) (by decide +kernel) rfl
theorem k_532 : Cond.methodLink "CodeListerLaw" 22 ⟨"CodeListerModel", "enter", "(I)Z"⟩ ∈ lw_g := lg_i (i := 560) (by decide +kernel) rfl
theorem k_533 : Cond.instanceMethod ⟨"CodeListerModel", "enter", "(I)Z"⟩ ∈ lw_g := lg_i (i := 561) (by decide +kernel) rfl
theorem k_534 : Cond.selects "CodeListerModel" ⟨"CodeListerModel", "enter", "(I)Z"⟩ ⟨"CodeListerModel", "enter", "(I)Z"⟩ ∈ lw_g := lg_i (i := 562) (by decide +kernel) rfl
theorem k_535 : Cond.code ⟨"CodeListerModel", "enter", "(I)Z"⟩ prog_8_method_4_code 3 (some .boolean) ∈ lw_g := lg_i (i := 563) (by decide +kernel) rfl
theorem k_536 : Cond.methodLink "CodeListerModel" 36 ⟨"CodeListerModel", "has", "(I)Z"⟩ ∈ lw_g := lg_i (i := 564) (by decide +kernel) rfl
theorem k_537 : Cond.privateMethod ⟨"CodeListerModel", "has", "(I)Z"⟩ ∈ lw_tbl := List.mem_of_getElem? (i := 565) (by decide +kernel)
theorem k_538 : Cond.instanceMethod ⟨"CodeListerModel", "has", "(I)Z"⟩ ∈ lw_g := lg_i (i := 566) (by decide +kernel) rfl
theorem k_539 : Cond.code ⟨"CodeListerModel", "has", "(I)Z"⟩ prog_8_method_3_code 2 (some .boolean) ∈ lw_g := lg_i (i := 567) (by decide +kernel) rfl
theorem k_540 : Cond.methodLink "CodeListerLaw" 26 ⟨"CodeListerModel", "clear", "()V"⟩ ∈ lw_g := lg_i (i := 568) (by decide +kernel) rfl
theorem k_541 : Cond.instanceMethod ⟨"CodeListerModel", "clear", "()V"⟩ ∈ lw_g := lg_i (i := 569) (by decide +kernel) rfl
theorem k_542 : Cond.selects "CodeListerModel" ⟨"CodeListerModel", "clear", "()V"⟩ ⟨"CodeListerModel", "clear", "()V"⟩ ∈ lw_g := lg_i (i := 570) (by decide +kernel) rfl
theorem k_543 : Cond.code ⟨"CodeListerModel", "clear", "()V"⟩ prog_8_method_5_code 1 none ∈ lw_g := lg_i (i := 571) (by decide +kernel) rfl
theorem k_544 : Cond.methodLink "CodeListerLaw" 31 ⟨"CodeListerModel", "size", "()I"⟩ ∈ lw_g := lg_i (i := 572) (by decide +kernel) rfl
theorem k_545 : Cond.instanceMethod ⟨"CodeListerModel", "size", "()I"⟩ ∈ lw_g := lg_i (i := 573) (by decide +kernel) rfl
theorem k_546 : Cond.selects "CodeListerModel" ⟨"CodeListerModel", "size", "()I"⟩ ⟨"CodeListerModel", "size", "()I"⟩ ∈ lw_g := lg_i (i := 574) (by decide +kernel) rfl
theorem k_547 : Cond.code ⟨"CodeListerModel", "size", "()I"⟩ prog_8_method_6_code 1 (some .int) ∈ lw_g := lg_i (i := 575) (by decide +kernel) rfl
theorem k_548 : Cond.methodLink "CodeListerLaw" 36 ⟨"CodeListerModel", "byteAt", "(I)I"⟩ ∈ lw_g := lg_i (i := 576) (by decide +kernel) rfl
theorem k_549 : Cond.instanceMethod ⟨"CodeListerModel", "byteAt", "(I)I"⟩ ∈ lw_g := lg_i (i := 577) (by decide +kernel) rfl
theorem k_550 : Cond.selects "CodeListerModel" ⟨"CodeListerModel", "byteAt", "(I)I"⟩ ⟨"CodeListerModel", "byteAt", "(I)I"⟩ ∈ lw_g := lg_i (i := 578) (by decide +kernel) rfl
theorem k_551 : Cond.code ⟨"CodeListerModel", "byteAt", "(I)I"⟩ prog_8_method_7_code 2 (some .int) ∈ lw_g := lg_i (i := 579) (by decide +kernel) rfl
theorem k_552 : Cond.methodLink "CodeListerLaw" 40 ⟨"CodeListerModel", "entry", "(I)I"⟩ ∈ lw_g := lg_i (i := 580) (by decide +kernel) rfl
theorem k_553 : Cond.instanceMethod ⟨"CodeListerModel", "entry", "(I)I"⟩ ∈ lw_g := lg_i (i := 581) (by decide +kernel) rfl
theorem k_554 : Cond.selects "CodeListerModel" ⟨"CodeListerModel", "entry", "(I)I"⟩ ⟨"CodeListerModel", "entry", "(I)I"⟩ ∈ lw_g := lg_i (i := 582) (by decide +kernel) rfl
theorem k_555 : Cond.code ⟨"CodeListerModel", "entry", "(I)I"⟩ prog_8_method_8_code 2 (some .int) ∈ lw_g := lg_i (i := 583) (by decide +kernel) rfl
theorem k_556 : Cond.methodLink "CodeListerLaw" 44 ⟨"CodeListerModel", "length", "(I)I"⟩ ∈ lw_g := lg_i (i := 584) (by decide +kernel) rfl
theorem k_557 : Cond.instanceMethod ⟨"CodeListerModel", "length", "(I)I"⟩ ∈ lw_g := lg_i (i := 585) (by decide +kernel) rfl
theorem k_558 : Cond.selects "CodeListerModel" ⟨"CodeListerModel", "length", "(I)I"⟩ ⟨"CodeListerModel", "length", "(I)I"⟩ ∈ lw_g := lg_i (i := 586) (by decide +kernel) rfl
theorem k_559 : Cond.code ⟨"CodeListerModel", "length", "(I)I"⟩ prog_8_method_10_code 3 (some .int) ∈ lw_g := lg_i (i := 587) (by decide +kernel) rfl
theorem k_560 : Cond.methodLink "CodeListerModel" 49 ⟨"CodeListerModel", "longOf", "(I)I"⟩ ∈ lw_g := lg_i (i := 588) (by decide +kernel) rfl
theorem k_561 : Cond.static ⟨"CodeListerModel", "longOf", "(I)I"⟩ ∈ lw_g := lg_i (i := 589) (by decide +kernel) rfl
theorem k_562 : Cond.code ⟨"CodeListerModel", "longOf", "(I)I"⟩ prog_8_method_9_code 2 (some .int) ∈ lw_g := lg_i (i := 590) (by decide +kernel) rfl
theorem k_563 : Cond.methodLink "CodeListerLaw" 48 ⟨"CodeListerModel", "reach", "()I"⟩ ∈ lw_g := lg_i (i := 591) (by decide +kernel) rfl
theorem k_564 : Cond.instanceMethod ⟨"CodeListerModel", "reach", "()I"⟩ ∈ lw_g := lg_i (i := 592) (by decide +kernel) rfl
theorem k_565 : Cond.selects "CodeListerModel" ⟨"CodeListerModel", "reach", "()I"⟩ ⟨"CodeListerModel", "reach", "()I"⟩ ∈ lw_g := lg_i (i := 593) (by decide +kernel) rfl
theorem k_566 : Cond.code ⟨"CodeListerModel", "reach", "()I"⟩ prog_8_method_15_code 2 (some .int) ∈ lw_g := lg_i (i := 594) (by decide +kernel) rfl
theorem k_567 : Cond.methodLink "CodeListerModel" 62 ⟨"CodeListerModel", "wipe", "()V"⟩ ∈ lw_g := lg_i (i := 595) (by decide +kernel) rfl
theorem k_568 : Cond.privateMethod ⟨"CodeListerModel", "wipe", "()V"⟩ ∈ lw_tbl := List.mem_of_getElem? (i := 596) (by decide +kernel)
theorem k_569 : Cond.instanceMethod ⟨"CodeListerModel", "wipe", "()V"⟩ ∈ lw_g := lg_i (i := 597) (by decide +kernel) rfl
theorem k_570 : Cond.code ⟨"CodeListerModel", "wipe", "()V"⟩ prog_8_method_14_code 2 none ∈ lw_g := lg_i (i := 598) (by decide +kernel) rfl
theorem k_571 : Cond.methodLink "CodeListerModel" 65 ⟨"CodeListerModel", "close", "(Z)I"⟩ ∈ lw_g := lg_i (i := 599) (by decide +kernel) rfl
theorem k_572 : Cond.privateMethod ⟨"CodeListerModel", "close", "(Z)I"⟩ ∈ lw_tbl := List.mem_of_getElem? (i := 600) (by decide +kernel)
theorem k_573 : Cond.instanceMethod ⟨"CodeListerModel", "close", "(Z)I"⟩ ∈ lw_g := lg_i (i := 601) (by decide +kernel) rfl
theorem k_574 : Cond.code ⟨"CodeListerModel", "close", "(Z)I"⟩ prog_8_method_13_code 5 (some .int) ∈ lw_g := lg_i (i := 602) (by decide +kernel) rfl
theorem k_575 : Cond.methodLink "CodeListerModel" 58 ⟨"CodeListerModel", "follow", "(IZ)Z"⟩ ∈ lw_g := lg_i (i := 603) (by decide +kernel) rfl
theorem k_576 : Cond.privateMethod ⟨"CodeListerModel", "follow", "(IZ)Z"⟩ ∈ lw_tbl := List.mem_of_getElem? (i := 604) (by decide +kernel)
theorem k_577 : Cond.instanceMethod ⟨"CodeListerModel", "follow", "(IZ)Z"⟩ ∈ lw_g := lg_i (i := 605) (by decide +kernel) rfl
theorem k_578 : Cond.code ⟨"CodeListerModel", "follow", "(IZ)Z"⟩ prog_8_method_12_code 6 (some .boolean) ∈ lw_g := lg_i (i := 606) (by decide +kernel) rfl
theorem k_579 : Cond.methodLink "CodeListerModel" 53 ⟨"CodeListerModel", "length", "(I)I"⟩ ∈ lw_g := lg_i (i := 607) (by decide +kernel) rfl
theorem k_580 : Cond.methodLink "CodeListerModel" 55 ⟨"CodeListerModel", "set", "(I)Z"⟩ ∈ lw_g := lg_i (i := 608) (by decide +kernel) rfl
theorem k_581 : Cond.privateMethod ⟨"CodeListerModel", "set", "(I)Z"⟩ ∈ lw_tbl := List.mem_of_getElem? (i := 609) (by decide +kernel)
theorem k_582 : Cond.instanceMethod ⟨"CodeListerModel", "set", "(I)Z"⟩ ∈ lw_g := lg_i (i := 610) (by decide +kernel) rfl
theorem k_583 : Cond.code ⟨"CodeListerModel", "set", "(I)Z"⟩ prog_8_method_11_code 2 (some .boolean) ∈ lw_g := lg_i (i := 611) (by decide +kernel) rfl
theorem k_584 : Cond.methodLink "CodeListerLaw" 52 ⟨"CodeListerModel", "reached", "(I)Z"⟩ ∈ lw_g := lg_i (i := 612) (by decide +kernel) rfl
theorem k_585 : Cond.instanceMethod ⟨"CodeListerModel", "reached", "(I)Z"⟩ ∈ lw_g := lg_i (i := 613) (by decide +kernel) rfl
theorem k_586 : Cond.selects "CodeListerModel" ⟨"CodeListerModel", "reached", "(I)Z"⟩ ⟨"CodeListerModel", "reached", "(I)Z"⟩ ∈ lw_g := lg_i (i := 614) (by decide +kernel) rfl
theorem k_587 : Cond.code ⟨"CodeListerModel", "reached", "(I)Z"⟩ prog_8_method_16_code 3 (some .boolean) ∈ lw_g := lg_i (i := 615) (by decide +kernel) rfl
theorem k_588 : Cond.methodLink "CodeListerModel" 69 ⟨"CodeListerModel", "reach", "()I"⟩ ∈ lw_g := lg_i (i := 616) (by decide +kernel) rfl
theorem k_589 : Cond.methodLink "CodeListerLaw" 56 ⟨"CodeListerModel", "body", "(I)I"⟩ ∈ lw_g := lg_i (i := 617) (by decide +kernel) rfl
theorem k_590 : Cond.instanceMethod ⟨"CodeListerModel", "body", "(I)I"⟩ ∈ lw_g := lg_i (i := 618) (by decide +kernel) rfl
theorem k_591 : Cond.selects "CodeListerModel" ⟨"CodeListerModel", "body", "(I)I"⟩ ⟨"CodeListerModel", "body", "(I)I"⟩ ∈ lw_g := lg_i (i := 619) (by decide +kernel) rfl
theorem k_592 : Cond.code ⟨"CodeListerModel", "body", "(I)I"⟩ prog_8_method_17_code 2 (some .int) ∈ lw_g := lg_i (i := 620) (by decide +kernel) rfl
theorem k_593 : Cond.methodLink "CodeListerLaw" 60 ⟨"CodeListerModel", "sweep", "()I"⟩ ∈ lw_g := lg_i (i := 621) (by decide +kernel) rfl
theorem k_594 : Cond.instanceMethod ⟨"CodeListerModel", "sweep", "()I"⟩ ∈ lw_g := lg_i (i := 622) (by decide +kernel) rfl
theorem k_595 : Cond.selects "CodeListerModel" ⟨"CodeListerModel", "sweep", "()I"⟩ ⟨"CodeListerModel", "sweep", "()I"⟩ ∈ lw_g := lg_i (i := 623) (by decide +kernel) rfl
theorem k_596 : Cond.code ⟨"CodeListerModel", "sweep", "()I"⟩ prog_8_method_18_code 4 (some .int) ∈ lw_g := lg_i (i := 624) (by decide +kernel) rfl
theorem k_597 : Cond.methodLink "CodeListerLaw" 64 ⟨"CodeListerModel", "list", "()I"⟩ ∈ lw_g := lg_i (i := 625) (by decide +kernel) rfl
theorem k_598 : Cond.instanceMethod ⟨"CodeListerModel", "list", "()I"⟩ ∈ lw_g := lg_i (i := 626) (by decide +kernel) rfl
theorem k_599 : Cond.selects "CodeListerModel" ⟨"CodeListerModel", "list", "()I"⟩ ⟨"CodeListerModel", "list", "()I"⟩ ∈ lw_g := lg_i (i := 627) (by decide +kernel) rfl
theorem k_600 : Cond.code ⟨"CodeListerModel", "list", "()I"⟩ prog_8_method_26_code 8 (some .int) ∈ lw_g := lg_i (i := 628) (by decide +kernel) rfl
theorem k_601 : Cond.methodLink "CodeListerModel" 93 ⟨"CodeListerModel", "data", "(I)V"⟩ ∈ lw_g := lg_i (i := 629) (by decide +kernel) rfl
theorem k_602 : Cond.privateMethod ⟨"CodeListerModel", "data", "(I)V"⟩ ∈ lw_tbl := List.mem_of_getElem? (i := 630) (by decide +kernel)
theorem k_603 : Cond.instanceMethod ⟨"CodeListerModel", "data", "(I)V"⟩ ∈ lw_g := lg_i (i := 631) (by decide +kernel) rfl
theorem k_604 : Cond.code ⟨"CodeListerModel", "data", "(I)V"⟩ prog_8_method_25_code 2 none ∈ lw_g := lg_i (i := 632) (by decide +kernel) rfl
theorem k_605 : Cond.methodLink "CodeListerModel" 80 ⟨"CodeListerModel", "name", "(III)V"⟩ ∈ lw_g := lg_i (i := 633) (by decide +kernel) rfl
theorem k_606 : Cond.privateMethod ⟨"CodeListerModel", "name", "(III)V"⟩ ∈ lw_tbl := List.mem_of_getElem? (i := 634) (by decide +kernel)
theorem k_607 : Cond.instanceMethod ⟨"CodeListerModel", "name", "(III)V"⟩ ∈ lw_g := lg_i (i := 635) (by decide +kernel) rfl
theorem k_608 : Cond.code ⟨"CodeListerModel", "name", "(III)V"⟩ prog_8_method_20_code 4 none ∈ lw_g := lg_i (i := 636) (by decide +kernel) rfl
theorem k_609 : Cond.methodLink "CodeListerModel" 76 ⟨"CodeListerModel", "put", "(I)V"⟩ ∈ lw_g := lg_i (i := 637) (by decide +kernel) rfl
theorem k_610 : Cond.privateMethod ⟨"CodeListerModel", "put", "(I)V"⟩ ∈ lw_tbl := List.mem_of_getElem? (i := 638) (by decide +kernel)
theorem k_611 : Cond.instanceMethod ⟨"CodeListerModel", "put", "(I)V"⟩ ∈ lw_g := lg_i (i := 639) (by decide +kernel) rfl
theorem k_612 : Cond.code ⟨"CodeListerModel", "put", "(I)V"⟩ prog_8_method_19_code 2 none ∈ lw_g := lg_i (i := 640) (by decide +kernel) rfl
theorem k_613 : Cond.methodLink "CodeListerModel" 90 ⟨"CodeListerModel", "number", "(I)V"⟩ ∈ lw_g := lg_i (i := 641) (by decide +kernel) rfl
theorem k_614 : Cond.privateMethod ⟨"CodeListerModel", "number", "(I)V"⟩ ∈ lw_tbl := List.mem_of_getElem? (i := 642) (by decide +kernel)
theorem k_615 : Cond.instanceMethod ⟨"CodeListerModel", "number", "(I)V"⟩ ∈ lw_g := lg_i (i := 643) (by decide +kernel) rfl
theorem k_616 : Cond.code ⟨"CodeListerModel", "number", "(I)V"⟩ prog_8_method_21_code 3 none ∈ lw_g := lg_i (i := 644) (by decide +kernel) rfl
theorem k_617 : Cond.methodLink "CodeListerModel" 96 ⟨"CodeListerModel", "print", "(II)V"⟩ ∈ lw_g := lg_i (i := 645) (by decide +kernel) rfl
theorem k_618 : Cond.privateMethod ⟨"CodeListerModel", "print", "(II)V"⟩ ∈ lw_tbl := List.mem_of_getElem? (i := 646) (by decide +kernel)
theorem k_619 : Cond.instanceMethod ⟨"CodeListerModel", "print", "(II)V"⟩ ∈ lw_g := lg_i (i := 647) (by decide +kernel) rfl
theorem k_620 : Cond.code ⟨"CodeListerModel", "print", "(II)V"⟩ prog_8_method_24_code 3 none ∈ lw_g := lg_i (i := 648) (by decide +kernel) rfl
theorem k_621 : Cond.methodLink "CodeListerModel" 87 ⟨"CodeListerModel", "front", "(I)V"⟩ ∈ lw_g := lg_i (i := 649) (by decide +kernel) rfl
theorem k_622 : Cond.privateMethod ⟨"CodeListerModel", "front", "(I)V"⟩ ∈ lw_tbl := List.mem_of_getElem? (i := 650) (by decide +kernel)
theorem k_623 : Cond.instanceMethod ⟨"CodeListerModel", "front", "(I)V"⟩ ∈ lw_g := lg_i (i := 651) (by decide +kernel) rfl
theorem k_624 : Cond.code ⟨"CodeListerModel", "front", "(I)V"⟩ prog_8_method_23_code 3 none ∈ lw_g := lg_i (i := 652) (by decide +kernel) rfl
theorem k_625 : Cond.methodLink "CodeListerModel" 84 ⟨"CodeListerModel", "register", "(I)V"⟩ ∈ lw_g := lg_i (i := 653) (by decide +kernel) rfl
theorem k_626 : Cond.privateMethod ⟨"CodeListerModel", "register", "(I)V"⟩ ∈ lw_tbl := List.mem_of_getElem? (i := 654) (by decide +kernel)
theorem k_627 : Cond.instanceMethod ⟨"CodeListerModel", "register", "(I)V"⟩ ∈ lw_g := lg_i (i := 655) (by decide +kernel) rfl
theorem k_628 : Cond.code ⟨"CodeListerModel", "register", "(I)V"⟩ prog_8_method_22_code 2 none ∈ lw_g := lg_i (i := 656) (by decide +kernel) rfl
theorem k_629 : Cond.methodLink "CodeListerLaw" 68 ⟨"CodeListerModel", "textLength", "()I"⟩ ∈ lw_g := lg_i (i := 657) (by decide +kernel) rfl
theorem k_630 : Cond.instanceMethod ⟨"CodeListerModel", "textLength", "()I"⟩ ∈ lw_g := lg_i (i := 658) (by decide +kernel) rfl
theorem k_631 : Cond.selects "CodeListerModel" ⟨"CodeListerModel", "textLength", "()I"⟩ ⟨"CodeListerModel", "textLength", "()I"⟩ ∈ lw_g := lg_i (i := 659) (by decide +kernel) rfl
theorem k_632 : Cond.code ⟨"CodeListerModel", "textLength", "()I"⟩ prog_8_method_27_code 1 (some .int) ∈ lw_g := lg_i (i := 660) (by decide +kernel) rfl
theorem k_633 : Cond.methodLink "CodeListerLaw" 72 ⟨"CodeListerModel", "charAt", "(I)I"⟩ ∈ lw_g := lg_i (i := 661) (by decide +kernel) rfl
theorem k_634 : Cond.instanceMethod ⟨"CodeListerModel", "charAt", "(I)I"⟩ ∈ lw_g := lg_i (i := 662) (by decide +kernel) rfl
theorem k_635 : Cond.selects "CodeListerModel" ⟨"CodeListerModel", "charAt", "(I)I"⟩ ⟨"CodeListerModel", "charAt", "(I)I"⟩ ∈ lw_g := lg_i (i := 663) (by decide +kernel) rfl
theorem k_636 : Cond.code ⟨"CodeListerModel", "charAt", "(I)I"⟩ prog_8_method_28_code 2 (some .int) ∈ lw_g := lg_i (i := 664) (by decide +kernel) rfl
theorem k_637 : Cond.methodLink "CodeListerLaw" 77 ⟨"CodeListerModel", "type", "(II)Z"⟩ ∈ lw_g := lg_i (i := 665) (by decide +kernel) rfl
theorem k_638 : Cond.instanceMethod ⟨"CodeListerModel", "type", "(II)Z"⟩ ∈ lw_g := lg_i (i := 666) (by decide +kernel) rfl
theorem k_639 : Cond.selects "CodeListerModel" ⟨"CodeListerModel", "type", "(II)Z"⟩ ⟨"CodeListerModel", "type", "(II)Z"⟩ ∈ lw_g := lg_i (i := 667) (by decide +kernel) rfl
theorem k_640 : Cond.code ⟨"CodeListerModel", "type", "(II)Z"⟩ prog_8_method_29_code 3 (some .boolean) ∈ lw_g := lg_i (i := 668) (by decide +kernel) rfl
theorem k_641 : Cond.methodLink "CodeListerLaw" 81 ⟨"CodeListerModel", "assemble", "()I"⟩ ∈ lw_g := lg_i (i := 669) (by decide +kernel) rfl
theorem k_642 : Cond.instanceMethod ⟨"CodeListerModel", "assemble", "()I"⟩ ∈ lw_g := lg_i (i := 670) (by decide +kernel) rfl
theorem k_643 : Cond.selects "CodeListerModel" ⟨"CodeListerModel", "assemble", "()I"⟩ ⟨"CodeListerModel", "assemble", "()I"⟩ ∈ lw_g := lg_i (i := 671) (by decide +kernel) rfl
theorem k_644 : Cond.code ⟨"CodeListerModel", "assemble", "()I"⟩ prog_8_method_33_code 10 (some .int) ∈ lw_g := lg_i (i := 672) (by decide +kernel) rfl
theorem k_645 : Cond.methodLink "CodeListerModel" 108 ⟨"CodeListerModel", "understand", "(I)I"⟩ ∈ lw_g := lg_i (i := 673) (by decide +kernel) rfl
theorem k_646 : Cond.privateMethod ⟨"CodeListerModel", "understand", "(I)I"⟩ ∈ lw_tbl := List.mem_of_getElem? (i := 674) (by decide +kernel)
theorem k_647 : Cond.instanceMethod ⟨"CodeListerModel", "understand", "(I)I"⟩ ∈ lw_g := lg_i (i := 675) (by decide +kernel) rfl
theorem k_648 : Cond.code ⟨"CodeListerModel", "understand", "(I)I"⟩ prog_8_method_32_code 7 (some .int) ∈ lw_g := lg_i (i := 676) (by decide +kernel) rfl
theorem k_649 : Cond.methodLink "CodeListerModel" 103 ⟨"CodeListerModel", "here", "(I)Z"⟩ ∈ lw_g := lg_i (i := 677) (by decide +kernel) rfl
theorem k_650 : Cond.privateMethod ⟨"CodeListerModel", "here", "(I)Z"⟩ ∈ lw_tbl := List.mem_of_getElem? (i := 678) (by decide +kernel)
theorem k_651 : Cond.instanceMethod ⟨"CodeListerModel", "here", "(I)Z"⟩ ∈ lw_g := lg_i (i := 679) (by decide +kernel) rfl
theorem k_652 : Cond.code ⟨"CodeListerModel", "here", "(I)Z"⟩ prog_8_method_31_code 3 (some .boolean) ∈ lw_g := lg_i (i := 680) (by decide +kernel) rfl
theorem k_653 : Cond.methodLink "CodeListerModel" 100 ⟨"CodeListerModel", "begins", "(I)Z"⟩ ∈ lw_g := lg_i (i := 681) (by decide +kernel) rfl
theorem k_654 : Cond.privateMethod ⟨"CodeListerModel", "begins", "(I)Z"⟩ ∈ lw_tbl := List.mem_of_getElem? (i := 682) (by decide +kernel)
theorem k_655 : Cond.instanceMethod ⟨"CodeListerModel", "begins", "(I)Z"⟩ ∈ lw_g := lg_i (i := 683) (by decide +kernel) rfl
theorem k_656 : Cond.code ⟨"CodeListerModel", "begins", "(I)Z"⟩ prog_8_method_30_code 3 (some .boolean) ∈ lw_g := lg_i (i := 684) (by decide +kernel) rfl
theorem k_657 : Cond.constant "CodeListerModel" 106 (204800 : Int32) ∈ lw_g := lg_i (i := 685) (by decide +kernel) rfl
theorem k_658 : Cond.constant "CodeListerModel" 107 (65535 : Int32) ∈ lw_g := lg_i (i := 686) (by decide +kernel) rfl
theorem k_659 : Cond.methodLink "CodeListerLaw" 85 ⟨"CodeListerModel", "made", "(I)I"⟩ ∈ lw_g := lg_i (i := 687) (by decide +kernel) rfl
theorem k_660 : Cond.instanceMethod ⟨"CodeListerModel", "made", "(I)I"⟩ ∈ lw_g := lg_i (i := 688) (by decide +kernel) rfl
theorem k_661 : Cond.selects "CodeListerModel" ⟨"CodeListerModel", "made", "(I)I"⟩ ⟨"CodeListerModel", "made", "(I)I"⟩ ∈ lw_g := lg_i (i := 689) (by decide +kernel) rfl
theorem k_662 : Cond.code ⟨"CodeListerModel", "made", "(I)I"⟩ prog_8_method_34_code 2 (some .int) ∈ lw_g := lg_i (i := 690) (by decide +kernel) rfl
theorem k_663 : Cond.fieldLink "java/lang/String" 9 "java/lang/String" "value" "[B" ∈ lw_g := lg_i (i := 691) (by decide +kernel) rfl
theorem k_664 : Cond.fieldLink "java/lang/String" 15 "java/lang/String" "coder" "B" ∈ lw_g := lg_i (i := 692) (by decide +kernel) rfl
