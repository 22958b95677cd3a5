abbrev cX4_byteAt : ByteArray := prog_6_method_12_code
def yX4_byteAt : MethodName := ⟨RX4, "byteAt", "(I)I"⟩
abbrev cX4_placeAt : ByteArray := prog_6_method_17_code
def yX4_placeAt : MethodName := ⟨RX4, "placeAt", "(I)I"⟩
abbrev cX4_takeByte : ByteArray := prog_6_method_13_code
def yX4_takeByte : MethodName := ⟨RX4, "takeByte", "()I"⟩
abbrev cX4_takeWord : ByteArray := prog_6_method_14_code
def yX4_takeWord : MethodName := ⟨RX4, "takeWord", "()I"⟩
abbrev cX4_pointerAt : ByteArray := prog_6_method_16_code
def yX4_pointerAt : MethodName := ⟨RX4, "pointerAt", "(I)I"⟩
abbrev cX4_findAddress : ByteArray := prog_6_method_15_code
def yX4_findAddress : MethodName := ⟨RX4, "findAddress", "(I)I"⟩
abbrev cX4_start : ByteArray := prog_6_method_3_code
def yX4_start : MethodName := ⟨RX4, "start", "()V"⟩
abbrev cX4_carry : ByteArray := prog_6_method_26_code
def yX4_carry : MethodName := ⟨RX4, "carry", "()I"⟩
abbrev cX4_setFlag : ByteArray := prog_6_method_24_code
def yX4_setFlag : MethodName := ⟨RX4, "setFlag", "(IZ)V"⟩
abbrev cX4_setNz : ByteArray := prog_6_method_25_code
def yX4_setNz : MethodName := ⟨RX4, "setNz", "(I)V"⟩
abbrev cX4_set : ByteArray := prog_6_method_27_code
def yX4_set : MethodName := ⟨RX4, "set", "(II)V"⟩
abbrev cX4_add : ByteArray := prog_6_method_29_code
def yX4_add : MethodName := ⟨RX4, "add", "(I)V"⟩
abbrev cX4_addTo : ByteArray := prog_6_method_30_code
def yX4_addTo : MethodName := ⟨RX4, "addTo", "(II)V"⟩
abbrev cX4_compare : ByteArray := prog_6_method_31_code
def yX4_compare : MethodName := ⟨RX4, "compare", "(II)V"⟩
abbrev cX4_test : ByteArray := prog_6_method_32_code
def yX4_test : MethodName := ⟨RX4, "test", "(I)V"⟩
abbrev cX4_multiply : ByteArray := prog_6_method_33_code
def yX4_multiply : MethodName := ⟨RX4, "multiply", "(I)V"⟩
abbrev cX4_oneLess : ByteArray := prog_6_method_43_code
def yX4_oneLess : MethodName := ⟨RX4, "oneLess", "(I)Z"⟩
abbrev cX4_shiftedLeft : ByteArray := prog_6_method_37_code
def yX4_shiftedLeft : MethodName := ⟨RX4, "shiftedLeft", "(II)I"⟩
abbrev cX4_shiftedRight : ByteArray := prog_6_method_38_code
def yX4_shiftedRight : MethodName := ⟨RX4, "shiftedRight", "(II)I"⟩
abbrev cX4_branchIsDue : ByteArray := prog_6_method_42_code
def yX4_branchIsDue : MethodName := ⟨RX4, "branchIsDue", "(I)Z"⟩
abbrev cX8_signed : ByteArray := prog_1_method_25_code
def yX8_signed : MethodName := ⟨RX8, "signed", "(I)I"⟩
abbrev cX8_isShort : ByteArray := prog_1_method_26_code
def yX8_isShort : MethodName := ⟨RX8, "isShort", "(I)Z"⟩
abbrev cX4_goBy : ByteArray := prog_6_method_40_code
def yX4_goBy : MethodName := ⟨RX4, "goBy", "(I)V"⟩
abbrev cX4_branch : ByteArray := prog_6_method_41_code
def yX4_branch : MethodName := ⟨RX4, "branch", "(II)I"⟩
abbrev cX4_decimals : ByteArray := prog_6_method_50_code
def yX4_decimals : MethodName := ⟨RX4, "decimals", "()I"⟩
abbrev cX4_changeRegister : ByteArray := prog_6_method_49_code
def yX4_changeRegister : MethodName := ⟨RX4, "changeRegister", "(I)V"⟩
abbrev cX4_changeFlag : ByteArray := prog_6_method_48_code
def yX4_changeFlag : MethodName := ⟨RX4, "changeFlag", "(I)V"⟩
abbrev cX4_move : ByteArray := prog_6_method_46_code
def yX4_move : MethodName := ⟨RX4, "move", "(I)V"⟩
abbrev cX4_pull : ByteArray := prog_6_method_22_code
def yX4_pull : MethodName := ⟨RX4, "pull", "()I"⟩
abbrev cX4_pullPlace : ByteArray := prog_6_method_23_code
def yX4_pullPlace : MethodName := ⟨RX4, "pullPlace", "()V"⟩
abbrev cX4_divide : ByteArray := prog_6_method_34_code
def yX4_divide : MethodName := ⟨RX4, "divide", "(I)V"⟩
abbrev cX4_useValue : ByteArray := prog_6_method_28_code
def yX4_useValue : MethodName := ⟨RX4, "useValue", "(II)V"⟩
abbrev cX4_changed : ByteArray := prog_6_method_36_code
def yX4_changed : MethodName := ⟨RX4, "changed", "(II)I"⟩
abbrev cX4_doEnding : ByteArray := prog_6_method_45_code
def yX4_doEnding : MethodName := ⟨RX4, "doEnding", "(I)I"⟩
set_option maxRecDepth 100000 in
theorem w_63 : (Cond.fieldLink "BelfryBox$Processor" 18 "BelfryBox$Processor" "store" "[I" : Cond) ∈ gw := List.mem_filter.mpr ⟨List.mem_append_right _ (tb1 (List.mem_of_getElem? (i := 77) rfl)), rfl⟩
set_option maxRecDepth 100000 in
theorem w_64 : (Cond.methodLink "BelfryBox$Processor" 66 yX4_byteAt : Cond) ∈ gw := List.mem_filter.mpr ⟨List.mem_append_right _ (tb2 (List.mem_of_getElem? (i := 38) rfl)), rfl⟩
set_option maxRecDepth 100000 in
theorem w_65 : (Cond.code yX4_byteAt prog_6_method_12_code 2 (Option.some Jvm.ClassFile.FieldType.int) : Cond) ∈ gw := List.mem_filter.mpr ⟨List.mem_append_right _ (tb2 (List.mem_of_getElem? (i := 41) rfl)), rfl⟩
set_option maxRecDepth 100000 in
theorem w_66 : (Cond.initialized "BelfryBox$Processor" : Cond) ∈ gw := List.mem_filter.mpr ⟨List.mem_append_right _ (tb1 (List.mem_of_getElem? (i := 4) rfl)), rfl⟩
set_option maxRecDepth 100000 in
theorem w_67 : (Cond.instanceMethod yX4_byteAt : Cond) ∈ gw := List.mem_filter.mpr ⟨List.mem_append_right _ (tb2 (List.mem_of_getElem? (i := 40) rfl)), rfl⟩
set_option maxRecDepth 100000 in
theorem w_68 : (Cond.selects "BelfryBox$Processor" yX4_byteAt yX4_byteAt : Cond) ∈ gw := List.mem_filter.mpr ⟨List.mem_append_left _ (List.mem_map.mpr ⟨(⟨"BelfryBox$Processor", "byteAt", "(I)I"⟩, 7), sl1 (List.mem_of_getElem? (i := 2) rfl), rfl⟩), rfl⟩
set_option maxRecDepth 100000 in
theorem w_69 : (Cond.fieldLink "BelfryBox$Processor" 15 "BelfryBox$Processor" "now" "[I" : Cond) ∈ gw := List.mem_filter.mpr ⟨List.mem_append_right _ (tb1 (List.mem_of_getElem? (i := 76) rfl)), rfl⟩
set_option maxRecDepth 100000 in
theorem w_70 : (Cond.methodLink "BelfryBox$Processor" 82 yX4_takeByte : Cond) ∈ gw := List.mem_filter.mpr ⟨List.mem_append_right _ (tb3 (List.mem_of_getElem? (i := 199) rfl)), rfl⟩
set_option maxRecDepth 100000 in
theorem w_71 : (Cond.code yX4_takeByte prog_6_method_13_code 2 (Option.some Jvm.ClassFile.FieldType.int) : Cond) ∈ gw := List.mem_filter.mpr ⟨List.mem_append_right _ (tb3 (List.mem_of_getElem? (i := 202) rfl)), rfl⟩
set_option maxRecDepth 100000 in
theorem w_72 : (Cond.instanceMethod yX4_takeByte : Cond) ∈ gw := List.mem_filter.mpr ⟨List.mem_append_right _ (tb3 (List.mem_of_getElem? (i := 201) rfl)), rfl⟩
set_option maxRecDepth 100000 in
theorem w_73 : (Cond.selects "BelfryBox$Processor" yX4_takeByte yX4_takeByte : Cond) ∈ gw := List.mem_filter.mpr ⟨List.mem_append_left _ (List.mem_map.mpr ⟨(⟨"BelfryBox$Processor", "takeByte", "()I"⟩, 7), sl2 (List.mem_of_getElem? (i := 11) rfl), rfl⟩), rfl⟩
set_option maxRecDepth 100000 in
theorem w_74 : (Cond.methodLink "BelfryBox$Processor" 138 yX4_takeWord : Cond) ∈ gw := List.mem_filter.mpr ⟨List.mem_append_right _ (tb4 (List.mem_of_getElem? (i := 69) rfl)), rfl⟩
set_option maxRecDepth 100000 in
theorem w_75 : (Cond.code yX4_takeWord prog_6_method_14_code 2 (Option.some Jvm.ClassFile.FieldType.int) : Cond) ∈ gw := List.mem_filter.mpr ⟨List.mem_append_right _ (tb4 (List.mem_of_getElem? (i := 72) rfl)), rfl⟩
set_option maxRecDepth 100000 in
theorem w_76 : (Cond.instanceMethod yX4_takeWord : Cond) ∈ gw := List.mem_filter.mpr ⟨List.mem_append_right _ (tb4 (List.mem_of_getElem? (i := 71) rfl)), rfl⟩
set_option maxRecDepth 100000 in
theorem w_77 : (Cond.selects "BelfryBox$Processor" yX4_takeWord yX4_takeWord : Cond) ∈ gw := List.mem_filter.mpr ⟨List.mem_append_left _ (List.mem_map.mpr ⟨(⟨"BelfryBox$Processor", "takeWord", "()I"⟩, 7), sl4 (List.mem_of_getElem? (i := 3) rfl), rfl⟩), rfl⟩
set_option maxRecDepth 100000 in
theorem w_78 : (Cond.methodLink "BelfryBox$Processor" 141 yX4_pointerAt : Cond) ∈ gw := List.mem_filter.mpr ⟨List.mem_append_right _ (tb4 (List.mem_of_getElem? (i := 73) rfl)), rfl⟩
set_option maxRecDepth 100000 in
theorem w_79 : (Cond.code yX4_pointerAt prog_6_method_16_code 2 (Option.some Jvm.ClassFile.FieldType.int) : Cond) ∈ gw := List.mem_filter.mpr ⟨List.mem_append_right _ (tb4 (List.mem_of_getElem? (i := 76) rfl)), rfl⟩
set_option maxRecDepth 100000 in
theorem w_80 : (Cond.instanceMethod yX4_pointerAt : Cond) ∈ gw := List.mem_filter.mpr ⟨List.mem_append_right _ (tb4 (List.mem_of_getElem? (i := 75) rfl)), rfl⟩
set_option maxRecDepth 100000 in
theorem w_81 : (Cond.selects "BelfryBox$Processor" yX4_pointerAt yX4_pointerAt : Cond) ∈ gw := List.mem_filter.mpr ⟨List.mem_append_left _ (List.mem_map.mpr ⟨(⟨"BelfryBox$Processor", "pointerAt", "(I)I"⟩, 7), sl4 (List.mem_of_getElem? (i := 4) rfl), rfl⟩), rfl⟩
set_option maxRecDepth 100000 in
theorem w_82 : (Cond.methodLink "BelfryBox$Processor" 43 yX4_placeAt : Cond) ∈ gw := List.mem_filter.mpr ⟨List.mem_append_right _ (tb2 (List.mem_of_getElem? (i := 34) rfl)), rfl⟩
set_option maxRecDepth 100000 in
theorem w_83 : (Cond.code yX4_placeAt prog_6_method_17_code 2 (Option.some Jvm.ClassFile.FieldType.int) : Cond) ∈ gw := List.mem_filter.mpr ⟨List.mem_append_right _ (tb2 (List.mem_of_getElem? (i := 37) rfl)), rfl⟩
set_option maxRecDepth 100000 in
theorem w_84 : (Cond.instanceMethod yX4_placeAt : Cond) ∈ gw := List.mem_filter.mpr ⟨List.mem_append_right _ (tb2 (List.mem_of_getElem? (i := 36) rfl)), rfl⟩
set_option maxRecDepth 100000 in
theorem w_85 : (Cond.selects "BelfryBox$Processor" yX4_placeAt yX4_placeAt : Cond) ∈ gw := List.mem_filter.mpr ⟨List.mem_append_left _ (List.mem_map.mpr ⟨(⟨"BelfryBox$Processor", "placeAt", "(I)I"⟩, 7), sl1 (List.mem_of_getElem? (i := 1) rfl), rfl⟩), rfl⟩
set_option maxRecDepth 100000 in
theorem w_86 : (Cond.methodLink "BelfryBox$Processor" 156 yX4_setNz : Cond) ∈ gw := List.mem_filter.mpr ⟨List.mem_append_right _ (tb4 (List.mem_of_getElem? (i := 14) rfl)), rfl⟩
set_option maxRecDepth 100000 in
theorem w_87 : (Cond.code yX4_setNz prog_6_method_25_code 2 (Option.none : Option Jvm.ClassFile.FieldType) : Cond) ∈ gw := List.mem_filter.mpr ⟨List.mem_append_right _ (tb4 (List.mem_of_getElem? (i := 17) rfl)), rfl⟩
set_option maxRecDepth 100000 in
theorem w_88 : (Cond.instanceMethod yX4_setNz : Cond) ∈ gw := List.mem_filter.mpr ⟨List.mem_append_right _ (tb4 (List.mem_of_getElem? (i := 16) rfl)), rfl⟩
set_option maxRecDepth 100000 in
theorem w_89 : (Cond.selects "BelfryBox$Processor" yX4_setNz yX4_setNz : Cond) ∈ gw := List.mem_filter.mpr ⟨List.mem_append_left _ (List.mem_map.mpr ⟨(⟨"BelfryBox$Processor", "setNz", "(I)V"⟩, 7), sl3 (List.mem_of_getElem? (i := 6) rfl), rfl⟩), rfl⟩
set_option maxRecDepth 100000 in
theorem w_90 : (Cond.methodLink "BelfryBox$Processor" 180 yX4_carry : Cond) ∈ gw := List.mem_filter.mpr ⟨List.mem_append_right _ (tb4 (List.mem_of_getElem? (i := 110) rfl)), rfl⟩
set_option maxRecDepth 100000 in
theorem w_91 : (Cond.code yX4_carry prog_6_method_26_code 1 (Option.some Jvm.ClassFile.FieldType.int) : Cond) ∈ gw := List.mem_filter.mpr ⟨List.mem_append_right _ (tb4 (List.mem_of_getElem? (i := 113) rfl)), rfl⟩
set_option maxRecDepth 100000 in
theorem w_92 : (Cond.instanceMethod yX4_carry : Cond) ∈ gw := List.mem_filter.mpr ⟨List.mem_append_right _ (tb4 (List.mem_of_getElem? (i := 112) rfl)), rfl⟩
set_option maxRecDepth 100000 in
theorem w_93 : (Cond.selects "BelfryBox$Processor" yX4_carry yX4_carry : Cond) ∈ gw := List.mem_filter.mpr ⟨List.mem_append_left _ (List.mem_map.mpr ⟨(⟨"BelfryBox$Processor", "carry", "()I"⟩, 7), sl4 (List.mem_of_getElem? (i := 11) rfl), rfl⟩), rfl⟩
set_option maxRecDepth 100000 in
theorem w_94 : (Cond.methodLink "BelfryBox$Processor" 183 yX4_setFlag : Cond) ∈ gw := List.mem_filter.mpr ⟨List.mem_append_right _ (tb4 (List.mem_of_getElem? (i := 26) rfl)), rfl⟩
set_option maxRecDepth 100000 in
theorem w_95 : (Cond.code yX4_setFlag prog_6_method_24_code 3 (Option.none : Option Jvm.ClassFile.FieldType) : Cond) ∈ gw := List.mem_filter.mpr ⟨List.mem_append_right _ (tb4 (List.mem_of_getElem? (i := 29) rfl)), rfl⟩
set_option maxRecDepth 100000 in
theorem w_96 : (Cond.instanceMethod yX4_setFlag : Cond) ∈ gw := List.mem_filter.mpr ⟨List.mem_append_right _ (tb4 (List.mem_of_getElem? (i := 28) rfl)), rfl⟩
set_option maxRecDepth 100000 in
theorem w_97 : (Cond.selects "BelfryBox$Processor" yX4_setFlag yX4_setFlag : Cond) ∈ gw := List.mem_filter.mpr ⟨List.mem_append_left _ (List.mem_map.mpr ⟨(⟨"BelfryBox$Processor", "setFlag", "(IZ)V"⟩, 7), sl3 (List.mem_of_getElem? (i := 9) rfl), rfl⟩), rfl⟩
set_option maxRecDepth 100000 in
theorem w_98 : (Cond.methodLink "BelfryBox$Processor" 159 yX4_set : Cond) ∈ gw := List.mem_filter.mpr ⟨List.mem_append_right _ (tb4 (List.mem_of_getElem? (i := 10) rfl)), rfl⟩
set_option maxRecDepth 100000 in
theorem w_99 : (Cond.code yX4_set prog_6_method_27_code 3 (Option.none : Option Jvm.ClassFile.FieldType) : Cond) ∈ gw := List.mem_filter.mpr ⟨List.mem_append_right _ (tb4 (List.mem_of_getElem? (i := 13) rfl)), rfl⟩
set_option maxRecDepth 100000 in
theorem w_100 : (Cond.instanceMethod yX4_set : Cond) ∈ gw := List.mem_filter.mpr ⟨List.mem_append_right _ (tb4 (List.mem_of_getElem? (i := 12) rfl)), rfl⟩
set_option maxRecDepth 100000 in
theorem w_101 : (Cond.selects "BelfryBox$Processor" yX4_set yX4_set : Cond) ∈ gw := List.mem_filter.mpr ⟨List.mem_append_left _ (List.mem_map.mpr ⟨(⟨"BelfryBox$Processor", "set", "(II)V"⟩, 7), sl3 (List.mem_of_getElem? (i := 5) rfl), rfl⟩), rfl⟩
set_option maxRecDepth 100000 in
theorem w_102 : (Cond.methodLink "BelfryBox$Processor" 214 yX4_oneLess : Cond) ∈ gw := List.mem_filter.mpr ⟨List.mem_append_right _ (tb4 (List.mem_of_getElem? (i := 61) rfl)), rfl⟩
set_option maxRecDepth 100000 in
theorem w_103 : (Cond.code yX4_oneLess prog_6_method_43_code 2 (Option.some Jvm.ClassFile.FieldType.boolean) : Cond) ∈ gw := List.mem_filter.mpr ⟨List.mem_append_right _ (tb4 (List.mem_of_getElem? (i := 64) rfl)), rfl⟩
set_option maxRecDepth 100000 in
theorem w_104 : (Cond.instanceMethod yX4_oneLess : Cond) ∈ gw := List.mem_filter.mpr ⟨List.mem_append_right _ (tb4 (List.mem_of_getElem? (i := 63) rfl)), rfl⟩
set_option maxRecDepth 100000 in
theorem w_105 : (Cond.selects "BelfryBox$Processor" yX4_oneLess yX4_oneLess : Cond) ∈ gw := List.mem_filter.mpr ⟨List.mem_append_left _ (List.mem_map.mpr ⟨(⟨"BelfryBox$Processor", "oneLess", "(I)Z"⟩, 7), sl4 (List.mem_of_getElem? (i := 1) rfl), rfl⟩), rfl⟩
set_option maxRecDepth 100000 in
theorem w_106 : (Cond.code yX8_signed prog_1_method_25_code 1 (Option.some Jvm.ClassFile.FieldType.int) : Cond) ∈ gw := List.mem_filter.mpr ⟨List.mem_append_right _ (tb4 (List.mem_of_getElem? (i := 52) rfl)), rfl⟩
set_option maxRecDepth 100000 in
theorem w_107 : (Cond.initialized "BelfryBox" : Cond) ∈ gw := List.mem_filter.mpr ⟨List.mem_append_right _ (tb1 (List.mem_of_getElem? (i := 1) rfl)), rfl⟩
set_option maxRecDepth 100000 in
theorem w_108 : (Cond.static yX8_signed : Cond) ∈ gw := List.mem_filter.mpr ⟨List.mem_append_right _ (tb4 (List.mem_of_getElem? (i := 51) rfl)), rfl⟩
set_option maxRecDepth 100000 in
theorem w_109 : (Cond.methodLink "BelfryBox$Processor" 211 yX4_branchIsDue : Cond) ∈ gw := List.mem_filter.mpr ⟨List.mem_append_right _ (tb4 (List.mem_of_getElem? (i := 57) rfl)), rfl⟩
set_option maxRecDepth 100000 in
theorem w_110 : (Cond.code yX4_branchIsDue prog_6_method_42_code 2 (Option.some Jvm.ClassFile.FieldType.boolean) : Cond) ∈ gw := List.mem_filter.mpr ⟨List.mem_append_right _ (tb4 (List.mem_of_getElem? (i := 60) rfl)), rfl⟩
set_option maxRecDepth 100000 in
theorem w_111 : (Cond.instanceMethod yX4_branchIsDue : Cond) ∈ gw := List.mem_filter.mpr ⟨List.mem_append_right _ (tb4 (List.mem_of_getElem? (i := 59) rfl)), rfl⟩
set_option maxRecDepth 100000 in
theorem w_112 : (Cond.selects "BelfryBox$Processor" yX4_branchIsDue yX4_branchIsDue : Cond) ∈ gw := List.mem_filter.mpr ⟨List.mem_append_left _ (List.mem_map.mpr ⟨(⟨"BelfryBox$Processor", "branchIsDue", "(I)Z"⟩, 7), sl4 (List.mem_of_getElem? (i := 0) rfl), rfl⟩), rfl⟩
set_option maxRecDepth 100000 in
theorem w_113 : (Cond.methodLink "BelfryBox$Processor" 202 yX4_goBy : Cond) ∈ gw := List.mem_filter.mpr ⟨List.mem_append_right _ (tb4 (List.mem_of_getElem? (i := 46) rfl)), rfl⟩
set_option maxRecDepth 100000 in
theorem w_114 : (Cond.code yX4_goBy prog_6_method_40_code 2 (Option.none : Option Jvm.ClassFile.FieldType) : Cond) ∈ gw := List.mem_filter.mpr ⟨List.mem_append_right _ (tb4 (List.mem_of_getElem? (i := 49) rfl)), rfl⟩
set_option maxRecDepth 100000 in
theorem w_115 : (Cond.instanceMethod yX4_goBy : Cond) ∈ gw := List.mem_filter.mpr ⟨List.mem_append_right _ (tb4 (List.mem_of_getElem? (i := 48) rfl)), rfl⟩
set_option maxRecDepth 100000 in
theorem w_116 : (Cond.selects "BelfryBox$Processor" yX4_goBy yX4_goBy : Cond) ∈ gw := List.mem_filter.mpr ⟨List.mem_append_left _ (List.mem_map.mpr ⟨(⟨"BelfryBox$Processor", "goBy", "(I)V"⟩, 7), sl3 (List.mem_of_getElem? (i := 14) rfl), rfl⟩), rfl⟩
set_option maxRecDepth 100000 in
theorem w_117 : (Cond.methodLink "BelfryBox$Processor" 235 yX4_decimals : Cond) ∈ gw := List.mem_filter.mpr ⟨List.mem_append_right _ (tb4 (List.mem_of_getElem? (i := 34) rfl)), rfl⟩
set_option maxRecDepth 100000 in
theorem w_118 : (Cond.code yX4_decimals prog_6_method_50_code 2 (Option.some Jvm.ClassFile.FieldType.int) : Cond) ∈ gw := List.mem_filter.mpr ⟨List.mem_append_right _ (tb4 (List.mem_of_getElem? (i := 37) rfl)), rfl⟩
set_option maxRecDepth 100000 in
theorem w_119 : (Cond.instanceMethod yX4_decimals : Cond) ∈ gw := List.mem_filter.mpr ⟨List.mem_append_right _ (tb4 (List.mem_of_getElem? (i := 36) rfl)), rfl⟩
set_option maxRecDepth 100000 in
theorem w_120 : (Cond.selects "BelfryBox$Processor" yX4_decimals yX4_decimals : Cond) ∈ gw := List.mem_filter.mpr ⟨List.mem_append_left _ (List.mem_map.mpr ⟨(⟨"BelfryBox$Processor", "decimals", "()I"⟩, 7), sl3 (List.mem_of_getElem? (i := 11) rfl), rfl⟩), rfl⟩
set_option maxRecDepth 100000 in
theorem w_121 : (Cond.methodLink "BelfryBox$Processor" 153 yX4_pull : Cond) ∈ gw := List.mem_filter.mpr ⟨List.mem_append_right _ (tb3 (List.mem_of_getElem? (i := 238) rfl)), rfl⟩
set_option maxRecDepth 100000 in
theorem w_122 : (Cond.code yX4_pull prog_6_method_22_code 1 (Option.some Jvm.ClassFile.FieldType.int) : Cond) ∈ gw := List.mem_filter.mpr ⟨List.mem_append_right _ (tb4 (List.mem_of_getElem? (i := 1) rfl)), rfl⟩
set_option maxRecDepth 100000 in
theorem w_123 : (Cond.instanceMethod yX4_pull : Cond) ∈ gw := List.mem_filter.mpr ⟨List.mem_append_right _ (tb4 (List.mem_of_getElem? (i := 0) rfl)), rfl⟩
set_option maxRecDepth 100000 in
theorem w_124 : (Cond.selects "BelfryBox$Processor" yX4_pull yX4_pull : Cond) ∈ gw := List.mem_filter.mpr ⟨List.mem_append_left _ (List.mem_map.mpr ⟨(⟨"BelfryBox$Processor", "pull", "()I"⟩, 7), sl3 (List.mem_of_getElem? (i := 2) rfl), rfl⟩), rfl⟩
set_option maxRecDepth 100000 in
theorem w_125 : (Cond.methodLink "BelfryBox$Processor" 162 yX4_add : Cond) ∈ gw := List.mem_filter.mpr ⟨List.mem_append_right _ (tb4 (List.mem_of_getElem? (i := 106) rfl)), rfl⟩
set_option maxRecDepth 100000 in
theorem w_126 : (Cond.code yX4_add prog_6_method_29_code 4 (Option.none : Option Jvm.ClassFile.FieldType) : Cond) ∈ gw := List.mem_filter.mpr ⟨List.mem_append_right _ (tb4 (List.mem_of_getElem? (i := 109) rfl)), rfl⟩
set_option maxRecDepth 100000 in
theorem w_127 : (Cond.instanceMethod yX4_add : Cond) ∈ gw := List.mem_filter.mpr ⟨List.mem_append_right _ (tb4 (List.mem_of_getElem? (i := 108) rfl)), rfl⟩
set_option maxRecDepth 100000 in
theorem w_128 : (Cond.selects "BelfryBox$Processor" yX4_add yX4_add : Cond) ∈ gw := List.mem_filter.mpr ⟨List.mem_append_left _ (List.mem_map.mpr ⟨(⟨"BelfryBox$Processor", "add", "(I)V"⟩, 7), sl4 (List.mem_of_getElem? (i := 10) rfl), rfl⟩), rfl⟩
set_option maxRecDepth 100000 in
theorem w_129 : (Cond.methodLink "BelfryBox$Processor" 165 yX4_compare : Cond) ∈ gw := List.mem_filter.mpr ⟨List.mem_append_right _ (tb4 (List.mem_of_getElem? (i := 114) rfl)), rfl⟩
set_option maxRecDepth 100000 in
theorem w_130 : (Cond.code yX4_compare prog_6_method_31_code 3 (Option.none : Option Jvm.ClassFile.FieldType) : Cond) ∈ gw := List.mem_filter.mpr ⟨List.mem_append_right _ (tb4 (List.mem_of_getElem? (i := 117) rfl)), rfl⟩
set_option maxRecDepth 100000 in
theorem w_131 : (Cond.instanceMethod yX4_compare : Cond) ∈ gw := List.mem_filter.mpr ⟨List.mem_append_right _ (tb4 (List.mem_of_getElem? (i := 116) rfl)), rfl⟩
set_option maxRecDepth 100000 in
theorem w_132 : (Cond.selects "BelfryBox$Processor" yX4_compare yX4_compare : Cond) ∈ gw := List.mem_filter.mpr ⟨List.mem_append_left _ (List.mem_map.mpr ⟨(⟨"BelfryBox$Processor", "compare", "(II)V"⟩, 7), sl4 (List.mem_of_getElem? (i := 12) rfl), rfl⟩), rfl⟩
set_option maxRecDepth 100000 in
theorem w_133 : (Cond.methodLink "BelfryBox$Processor" 168 yX4_test : Cond) ∈ gw := List.mem_filter.mpr ⟨List.mem_append_right _ (tb4 (List.mem_of_getElem? (i := 118) rfl)), rfl⟩
set_option maxRecDepth 100000 in
theorem w_134 : (Cond.code yX4_test prog_6_method_32_code 2 (Option.none : Option Jvm.ClassFile.FieldType) : Cond) ∈ gw := List.mem_filter.mpr ⟨List.mem_append_right _ (tb4 (List.mem_of_getElem? (i := 121) rfl)), rfl⟩
set_option maxRecDepth 100000 in
theorem w_135 : (Cond.instanceMethod yX4_test : Cond) ∈ gw := List.mem_filter.mpr ⟨List.mem_append_right _ (tb4 (List.mem_of_getElem? (i := 120) rfl)), rfl⟩
set_option maxRecDepth 100000 in
theorem w_136 : (Cond.selects "BelfryBox$Processor" yX4_test yX4_test : Cond) ∈ gw := List.mem_filter.mpr ⟨List.mem_append_left _ (List.mem_map.mpr ⟨(⟨"BelfryBox$Processor", "test", "(I)V"⟩, 7), sl4 (List.mem_of_getElem? (i := 13) rfl), rfl⟩), rfl⟩
set_option maxRecDepth 100000 in
theorem w_137 : (Cond.methodLink "BelfryBox$Processor" 171 yX4_multiply : Cond) ∈ gw := List.mem_filter.mpr ⟨List.mem_append_right _ (tb4 (List.mem_of_getElem? (i := 122) rfl)), rfl⟩
set_option maxRecDepth 100000 in
theorem w_138 : (Cond.code yX4_multiply prog_6_method_33_code 3 (Option.none : Option Jvm.ClassFile.FieldType) : Cond) ∈ gw := List.mem_filter.mpr ⟨List.mem_append_right _ (tb4 (List.mem_of_getElem? (i := 125) rfl)), rfl⟩
set_option maxRecDepth 100000 in
theorem w_139 : (Cond.instanceMethod yX4_multiply : Cond) ∈ gw := List.mem_filter.mpr ⟨List.mem_append_right _ (tb4 (List.mem_of_getElem? (i := 124) rfl)), rfl⟩
set_option maxRecDepth 100000 in
theorem w_140 : (Cond.selects "BelfryBox$Processor" yX4_multiply yX4_multiply : Cond) ∈ gw := List.mem_filter.mpr ⟨List.mem_append_left _ (List.mem_map.mpr ⟨(⟨"BelfryBox$Processor", "multiply", "(I)V"⟩, 7), sl4 (List.mem_of_getElem? (i := 14) rfl), rfl⟩), rfl⟩
set_option maxRecDepth 100000 in
theorem w_141 : (Cond.methodLink "BelfryBox$Processor" 174 yX4_divide : Cond) ∈ gw := List.mem_filter.mpr ⟨List.mem_append_right _ (tb4 (List.mem_of_getElem? (i := 126) rfl)), rfl⟩
set_option maxRecDepth 100000 in
theorem w_142 : (Cond.code yX4_divide prog_6_method_34_code 4 (Option.none : Option Jvm.ClassFile.FieldType) : Cond) ∈ gw := List.mem_filter.mpr ⟨List.mem_append_right _ (tb4 (List.mem_of_getElem? (i := 129) rfl)), rfl⟩
set_option maxRecDepth 100000 in
theorem w_143 : (Cond.instanceMethod yX4_divide : Cond) ∈ gw := List.mem_filter.mpr ⟨List.mem_append_right _ (tb4 (List.mem_of_getElem? (i := 128) rfl)), rfl⟩
set_option maxRecDepth 100000 in
theorem w_144 : (Cond.selects "BelfryBox$Processor" yX4_divide yX4_divide : Cond) ∈ gw := List.mem_filter.mpr ⟨List.mem_append_left _ (List.mem_map.mpr ⟨(⟨"BelfryBox$Processor", "divide", "(I)V"⟩, 7), sl4 (List.mem_of_getElem? (i := 15) rfl), rfl⟩), rfl⟩
set_option maxRecDepth 100000 in
theorem w_145 : (Cond.methodLink "BelfryBox$Processor" 177 yX4_addTo : Cond) ∈ gw := List.mem_filter.mpr ⟨List.mem_append_right _ (tb4 (List.mem_of_getElem? (i := 130) rfl)), rfl⟩
set_option maxRecDepth 100000 in
theorem w_146 : (Cond.code yX4_addTo prog_6_method_30_code 4 (Option.none : Option Jvm.ClassFile.FieldType) : Cond) ∈ gw := List.mem_filter.mpr ⟨List.mem_append_right _ (tb4 (List.mem_of_getElem? (i := 133) rfl)), rfl⟩
set_option maxRecDepth 100000 in
theorem w_147 : (Cond.instanceMethod yX4_addTo : Cond) ∈ gw := List.mem_filter.mpr ⟨List.mem_append_right _ (tb4 (List.mem_of_getElem? (i := 132) rfl)), rfl⟩
set_option maxRecDepth 100000 in
theorem w_148 : (Cond.selects "BelfryBox$Processor" yX4_addTo yX4_addTo : Cond) ∈ gw := List.mem_filter.mpr ⟨List.mem_append_left _ (List.mem_map.mpr ⟨(⟨"BelfryBox$Processor", "addTo", "(II)V"⟩, 7), sl5 (List.mem_of_getElem? (i := 0) rfl), rfl⟩), rfl⟩
set_option maxRecDepth 100000 in
theorem w_149 : (Cond.methodLink "BelfryBox$Processor" 196 yX4_shiftedLeft : Cond) ∈ gw := List.mem_filter.mpr ⟨List.mem_append_right _ (tb4 (List.mem_of_getElem? (i := 163) rfl)), rfl⟩
set_option maxRecDepth 100000 in
theorem w_150 : (Cond.code yX4_shiftedLeft prog_6_method_37_code 3 (Option.some Jvm.ClassFile.FieldType.int) : Cond) ∈ gw := List.mem_filter.mpr ⟨List.mem_append_right _ (tb4 (List.mem_of_getElem? (i := 166) rfl)), rfl⟩
set_option maxRecDepth 100000 in
theorem w_151 : (Cond.instanceMethod yX4_shiftedLeft : Cond) ∈ gw := List.mem_filter.mpr ⟨List.mem_append_right _ (tb4 (List.mem_of_getElem? (i := 165) rfl)), rfl⟩
set_option maxRecDepth 100000 in
theorem w_152 : (Cond.selects "BelfryBox$Processor" yX4_shiftedLeft yX4_shiftedLeft : Cond) ∈ gw := List.mem_filter.mpr ⟨List.mem_append_left _ (List.mem_map.mpr ⟨(⟨"BelfryBox$Processor", "shiftedLeft", "(II)I"⟩, 7), sl5 (List.mem_of_getElem? (i := 7) rfl), rfl⟩), rfl⟩
set_option maxRecDepth 100000 in
theorem w_153 : (Cond.methodLink "BelfryBox$Processor" 199 yX4_shiftedRight : Cond) ∈ gw := List.mem_filter.mpr ⟨List.mem_append_right _ (tb4 (List.mem_of_getElem? (i := 167) rfl)), rfl⟩
set_option maxRecDepth 100000 in
theorem w_154 : (Cond.code yX4_shiftedRight prog_6_method_38_code 3 (Option.some Jvm.ClassFile.FieldType.int) : Cond) ∈ gw := List.mem_filter.mpr ⟨List.mem_append_right _ (tb4 (List.mem_of_getElem? (i := 170) rfl)), rfl⟩
set_option maxRecDepth 100000 in
theorem w_155 : (Cond.instanceMethod yX4_shiftedRight : Cond) ∈ gw := List.mem_filter.mpr ⟨List.mem_append_right _ (tb4 (List.mem_of_getElem? (i := 169) rfl)), rfl⟩
set_option maxRecDepth 100000 in
theorem w_156 : (Cond.selects "BelfryBox$Processor" yX4_shiftedRight yX4_shiftedRight : Cond) ∈ gw := List.mem_filter.mpr ⟨List.mem_append_left _ (List.mem_map.mpr ⟨(⟨"BelfryBox$Processor", "shiftedRight", "(II)I"⟩, 7), sl5 (List.mem_of_getElem? (i := 8) rfl), rfl⟩), rfl⟩
set_option maxRecDepth 100000 in
theorem w_157 : (Cond.methodLink "BelfryBox$Processor" 232 yX4_pullPlace : Cond) ∈ gw := List.mem_filter.mpr ⟨List.mem_append_right _ (tb4 (List.mem_of_getElem? (i := 2) rfl)), rfl⟩
set_option maxRecDepth 100000 in
theorem w_158 : (Cond.code yX4_pullPlace prog_6_method_23_code 2 (Option.none : Option Jvm.ClassFile.FieldType) : Cond) ∈ gw := List.mem_filter.mpr ⟨List.mem_append_right _ (tb4 (List.mem_of_getElem? (i := 5) rfl)), rfl⟩
set_option maxRecDepth 100000 in
theorem w_159 : (Cond.instanceMethod yX4_pullPlace : Cond) ∈ gw := List.mem_filter.mpr ⟨List.mem_append_right _ (tb4 (List.mem_of_getElem? (i := 4) rfl)), rfl⟩
set_option maxRecDepth 100000 in
theorem w_160 : (Cond.selects "BelfryBox$Processor" yX4_pullPlace yX4_pullPlace : Cond) ∈ gw := List.mem_filter.mpr ⟨List.mem_append_left _ (List.mem_map.mpr ⟨(⟨"BelfryBox$Processor", "pullPlace", "()V"⟩, 7), sl3 (List.mem_of_getElem? (i := 3) rfl), rfl⟩), rfl⟩
theorem nw_33 : (Cond.methodLinkNest "BelfryBox$Processor" 208 yX8_signed "BelfryBox" : Cond) ∈ nests := List.mem_of_getElem? (i := 33) rfl
theorem dX4_byteAt_0 : decode cX4_byteAt 0 = .ok (.aload_n 0, 1) := by decide +kernel
theorem dX4_byteAt_1 : decode cX4_byteAt 1 = .ok (.getfield 18, 3) := by decide +kernel
theorem dX4_byteAt_4 : decode cX4_byteAt 4 = .ok (.iload_n 1, 1) := by decide +kernel
theorem dX4_byteAt_5 : decode cX4_byteAt 5 = .ok (.sipush 4095, 3) := by decide +kernel
theorem dX4_byteAt_8 : decode cX4_byteAt 8 = .ok (.iand, 1) := by decide +kernel
theorem dX4_byteAt_9 : decode cX4_byteAt 9 = .ok (.iaload, 1) := by decide +kernel
theorem dX4_byteAt_10 : decode cX4_byteAt 10 = .ok (.ireturn, 1) := by decide +kernel
theorem dX4_placeAt_0 : decode cX4_placeAt 0 = .ok (.aload_n 0, 1) := by decide +kernel
theorem dX4_placeAt_1 : decode cX4_placeAt 1 = .ok (.iload_n 1, 1) := by decide +kernel
theorem dX4_placeAt_2 : decode cX4_placeAt 2 = .ok (.invokevirtual 66, 3) := by decide +kernel
theorem dX4_placeAt_5 : decode cX4_placeAt 5 = .ok (.sipush 256, 3) := by decide +kernel
theorem dX4_placeAt_8 : decode cX4_placeAt 8 = .ok (.aload_n 0, 1) := by decide +kernel
theorem dX4_placeAt_9 : decode cX4_placeAt 9 = .ok (.iload_n 1, 1) := by decide +kernel
theorem dX4_placeAt_10 : decode cX4_placeAt 10 = .ok (.iconst 1, 1) := by decide +kernel
theorem dX4_placeAt_11 : decode cX4_placeAt 11 = .ok (.iadd, 1) := by decide +kernel
theorem dX4_placeAt_12 : decode cX4_placeAt 12 = .ok (.invokevirtual 66, 3) := by decide +kernel
theorem dX4_placeAt_15 : decode cX4_placeAt 15 = .ok (.imul, 1) := by decide +kernel
theorem dX4_placeAt_16 : decode cX4_placeAt 16 = .ok (.iadd, 1) := by decide +kernel
theorem dX4_placeAt_17 : decode cX4_placeAt 17 = .ok (.sipush 4095, 3) := by decide +kernel
theorem dX4_placeAt_20 : decode cX4_placeAt 20 = .ok (.iand, 1) := by decide +kernel
theorem dX4_placeAt_21 : decode cX4_placeAt 21 = .ok (.ireturn, 1) := by decide +kernel
theorem dX4_takeByte_0 : decode cX4_takeByte 0 = .ok (.aload_n 0, 1) := by decide +kernel
theorem dX4_takeByte_1 : decode cX4_takeByte 1 = .ok (.aload_n 0, 1) := by decide +kernel
theorem dX4_takeByte_2 : decode cX4_takeByte 2 = .ok (.getfield 15, 3) := by decide +kernel
theorem dX4_takeByte_5 : decode cX4_takeByte 5 = .ok (.iconst 4, 1) := by decide +kernel
theorem dX4_takeByte_6 : decode cX4_takeByte 6 = .ok (.iaload, 1) := by decide +kernel
theorem dX4_takeByte_7 : decode cX4_takeByte 7 = .ok (.invokevirtual 66, 3) := by decide +kernel
theorem dX4_takeByte_10 : decode cX4_takeByte 10 = .ok (.istore_n 1, 1) := by decide +kernel
theorem dX4_takeByte_11 : decode cX4_takeByte 11 = .ok (.aload_n 0, 1) := by decide +kernel
theorem dX4_takeByte_12 : decode cX4_takeByte 12 = .ok (.getfield 15, 3) := by decide +kernel
theorem dX4_takeByte_15 : decode cX4_takeByte 15 = .ok (.iconst 4, 1) := by decide +kernel
theorem dX4_takeByte_16 : decode cX4_takeByte 16 = .ok (.aload_n 0, 1) := by decide +kernel
theorem dX4_takeByte_17 : decode cX4_takeByte 17 = .ok (.getfield 15, 3) := by decide +kernel
theorem dX4_takeByte_20 : decode cX4_takeByte 20 = .ok (.iconst 4, 1) := by decide +kernel
theorem dX4_takeByte_21 : decode cX4_takeByte 21 = .ok (.iaload, 1) := by decide +kernel
theorem dX4_takeByte_22 : decode cX4_takeByte 22 = .ok (.iconst 1, 1) := by decide +kernel
theorem dX4_takeByte_23 : decode cX4_takeByte 23 = .ok (.iadd, 1) := by decide +kernel
theorem dX4_takeByte_24 : decode cX4_takeByte 24 = .ok (.sipush 4095, 3) := by decide +kernel
theorem dX4_takeByte_27 : decode cX4_takeByte 27 = .ok (.iand, 1) := by decide +kernel
theorem dX4_takeByte_28 : decode cX4_takeByte 28 = .ok (.iastore, 1) := by decide +kernel
theorem dX4_takeByte_29 : decode cX4_takeByte 29 = .ok (.iload_n 1, 1) := by decide +kernel
theorem dX4_takeByte_30 : decode cX4_takeByte 30 = .ok (.ireturn, 1) := by decide +kernel
theorem dX4_takeWord_0 : decode cX4_takeWord 0 = .ok (.aload_n 0, 1) := by decide +kernel
theorem dX4_takeWord_1 : decode cX4_takeWord 1 = .ok (.invokevirtual 82, 3) := by decide +kernel
theorem dX4_takeWord_4 : decode cX4_takeWord 4 = .ok (.istore_n 1, 1) := by decide +kernel
theorem dX4_takeWord_5 : decode cX4_takeWord 5 = .ok (.iload_n 1, 1) := by decide +kernel
theorem dX4_takeWord_6 : decode cX4_takeWord 6 = .ok (.sipush 256, 3) := by decide +kernel
theorem dX4_takeWord_9 : decode cX4_takeWord 9 = .ok (.aload_n 0, 1) := by decide +kernel
theorem dX4_takeWord_10 : decode cX4_takeWord 10 = .ok (.invokevirtual 82, 3) := by decide +kernel
theorem dX4_takeWord_13 : decode cX4_takeWord 13 = .ok (.imul, 1) := by decide +kernel
theorem dX4_takeWord_14 : decode cX4_takeWord 14 = .ok (.iadd, 1) := by decide +kernel
theorem dX4_takeWord_15 : decode cX4_takeWord 15 = .ok (.ireturn, 1) := by decide +kernel
theorem dX4_pointerAt_0 : decode cX4_pointerAt 0 = .ok (.aload_n 0, 1) := by decide +kernel
theorem dX4_pointerAt_1 : decode cX4_pointerAt 1 = .ok (.iload_n 1, 1) := by decide +kernel
theorem dX4_pointerAt_2 : decode cX4_pointerAt 2 = .ok (.invokevirtual 66, 3) := by decide +kernel
theorem dX4_pointerAt_5 : decode cX4_pointerAt 5 = .ok (.sipush 256, 3) := by decide +kernel
theorem dX4_pointerAt_8 : decode cX4_pointerAt 8 = .ok (.aload_n 0, 1) := by decide +kernel
theorem dX4_pointerAt_9 : decode cX4_pointerAt 9 = .ok (.iload_n 1, 1) := by decide +kernel
theorem dX4_pointerAt_10 : decode cX4_pointerAt 10 = .ok (.iconst 1, 1) := by decide +kernel
theorem dX4_pointerAt_11 : decode cX4_pointerAt 11 = .ok (.iadd, 1) := by decide +kernel
theorem dX4_pointerAt_12 : decode cX4_pointerAt 12 = .ok (.sipush 255, 3) := by decide +kernel
theorem dX4_pointerAt_15 : decode cX4_pointerAt 15 = .ok (.iand, 1) := by decide +kernel
theorem dX4_pointerAt_16 : decode cX4_pointerAt 16 = .ok (.invokevirtual 66, 3) := by decide +kernel
theorem dX4_pointerAt_19 : decode cX4_pointerAt 19 = .ok (.imul, 1) := by decide +kernel
theorem dX4_pointerAt_20 : decode cX4_pointerAt 20 = .ok (.iadd, 1) := by decide +kernel
theorem dX4_pointerAt_21 : decode cX4_pointerAt 21 = .ok (.ireturn, 1) := by decide +kernel
theorem dX4_findAddress_0 : decode cX4_findAddress 0 = .ok (.iload_n 1, 1) := by decide +kernel
theorem dX4_findAddress_1 : decode cX4_findAddress 1 = .ok (.tableswitch 114 1 6 #[39, 44, 60, 69, 85, 101], 39) := by decide +kernel
theorem dX4_findAddress_40 : decode cX4_findAddress 40 = .ok (.aload_n 0, 1) := by decide +kernel
theorem dX4_findAddress_41 : decode cX4_findAddress 41 = .ok (.invokevirtual 82, 3) := by decide +kernel
theorem dX4_findAddress_44 : decode cX4_findAddress 44 = .ok (.ireturn, 1) := by decide +kernel
theorem dX4_findAddress_45 : decode cX4_findAddress 45 = .ok (.aload_n 0, 1) := by decide +kernel
theorem dX4_findAddress_46 : decode cX4_findAddress 46 = .ok (.invokevirtual 82, 3) := by decide +kernel
theorem dX4_findAddress_49 : decode cX4_findAddress 49 = .ok (.aload_n 0, 1) := by decide +kernel
theorem dX4_findAddress_50 : decode cX4_findAddress 50 = .ok (.getfield 15, 3) := by decide +kernel
theorem dX4_findAddress_53 : decode cX4_findAddress 53 = .ok (.iconst 1, 1) := by decide +kernel
theorem dX4_findAddress_54 : decode cX4_findAddress 54 = .ok (.iaload, 1) := by decide +kernel
theorem dX4_findAddress_55 : decode cX4_findAddress 55 = .ok (.iadd, 1) := by decide +kernel
theorem dX4_findAddress_56 : decode cX4_findAddress 56 = .ok (.sipush 255, 3) := by decide +kernel
theorem dX4_findAddress_59 : decode cX4_findAddress 59 = .ok (.iand, 1) := by decide +kernel
theorem dX4_findAddress_60 : decode cX4_findAddress 60 = .ok (.ireturn, 1) := by decide +kernel
theorem dX4_findAddress_61 : decode cX4_findAddress 61 = .ok (.aload_n 0, 1) := by decide +kernel
theorem dX4_findAddress_62 : decode cX4_findAddress 62 = .ok (.invokevirtual 138, 3) := by decide +kernel
theorem dX4_findAddress_65 : decode cX4_findAddress 65 = .ok (.sipush 4095, 3) := by decide +kernel
theorem dX4_findAddress_68 : decode cX4_findAddress 68 = .ok (.iand, 1) := by decide +kernel
theorem dX4_findAddress_69 : decode cX4_findAddress 69 = .ok (.ireturn, 1) := by decide +kernel
theorem dX4_findAddress_70 : decode cX4_findAddress 70 = .ok (.aload_n 0, 1) := by decide +kernel
theorem dX4_findAddress_71 : decode cX4_findAddress 71 = .ok (.invokevirtual 138, 3) := by decide +kernel
theorem dX4_findAddress_74 : decode cX4_findAddress 74 = .ok (.aload_n 0, 1) := by decide +kernel
theorem dX4_findAddress_75 : decode cX4_findAddress 75 = .ok (.getfield 15, 3) := by decide +kernel
theorem dX4_findAddress_78 : decode cX4_findAddress 78 = .ok (.iconst 1, 1) := by decide +kernel
theorem dX4_findAddress_79 : decode cX4_findAddress 79 = .ok (.iaload, 1) := by decide +kernel
theorem dX4_findAddress_80 : decode cX4_findAddress 80 = .ok (.iadd, 1) := by decide +kernel
theorem dX4_findAddress_81 : decode cX4_findAddress 81 = .ok (.sipush 4095, 3) := by decide +kernel
theorem dX4_findAddress_84 : decode cX4_findAddress 84 = .ok (.iand, 1) := by decide +kernel
theorem dX4_findAddress_85 : decode cX4_findAddress 85 = .ok (.ireturn, 1) := by decide +kernel
theorem dX4_findAddress_86 : decode cX4_findAddress 86 = .ok (.aload_n 0, 1) := by decide +kernel
theorem dX4_findAddress_87 : decode cX4_findAddress 87 = .ok (.invokevirtual 138, 3) := by decide +kernel
theorem dX4_findAddress_90 : decode cX4_findAddress 90 = .ok (.aload_n 0, 1) := by decide +kernel
theorem dX4_findAddress_91 : decode cX4_findAddress 91 = .ok (.getfield 15, 3) := by decide +kernel
theorem dX4_findAddress_94 : decode cX4_findAddress 94 = .ok (.iconst 2, 1) := by decide +kernel
theorem dX4_findAddress_95 : decode cX4_findAddress 95 = .ok (.iaload, 1) := by decide +kernel
theorem dX4_findAddress_96 : decode cX4_findAddress 96 = .ok (.iadd, 1) := by decide +kernel
theorem dX4_findAddress_97 : decode cX4_findAddress 97 = .ok (.sipush 4095, 3) := by decide +kernel
theorem dX4_findAddress_100 : decode cX4_findAddress 100 = .ok (.iand, 1) := by decide +kernel
theorem dX4_findAddress_101 : decode cX4_findAddress 101 = .ok (.ireturn, 1) := by decide +kernel
theorem dX4_findAddress_102 : decode cX4_findAddress 102 = .ok (.aload_n 0, 1) := by decide +kernel
theorem dX4_findAddress_103 : decode cX4_findAddress 103 = .ok (.aload_n 0, 1) := by decide +kernel
theorem dX4_findAddress_104 : decode cX4_findAddress 104 = .ok (.invokevirtual 82, 3) := by decide +kernel
theorem dX4_findAddress_107 : decode cX4_findAddress 107 = .ok (.invokevirtual 141, 3) := by decide +kernel
theorem dX4_findAddress_110 : decode cX4_findAddress 110 = .ok (.sipush 4095, 3) := by decide +kernel
theorem dX4_findAddress_113 : decode cX4_findAddress 113 = .ok (.iand, 1) := by decide +kernel
theorem dX4_findAddress_114 : decode cX4_findAddress 114 = .ok (.ireturn, 1) := by decide +kernel
theorem dX4_findAddress_115 : decode cX4_findAddress 115 = .ok (.aload_n 0, 1) := by decide +kernel
theorem dX4_findAddress_116 : decode cX4_findAddress 116 = .ok (.aload_n 0, 1) := by decide +kernel
theorem dX4_findAddress_117 : decode cX4_findAddress 117 = .ok (.invokevirtual 82, 3) := by decide +kernel
theorem dX4_findAddress_120 : decode cX4_findAddress 120 = .ok (.invokevirtual 141, 3) := by decide +kernel
theorem dX4_findAddress_123 : decode cX4_findAddress 123 = .ok (.aload_n 0, 1) := by decide +kernel
theorem dX4_findAddress_124 : decode cX4_findAddress 124 = .ok (.getfield 15, 3) := by decide +kernel
theorem dX4_findAddress_127 : decode cX4_findAddress 127 = .ok (.iconst 2, 1) := by decide +kernel
theorem dX4_findAddress_128 : decode cX4_findAddress 128 = .ok (.iaload, 1) := by decide +kernel
theorem dX4_findAddress_129 : decode cX4_findAddress 129 = .ok (.iadd, 1) := by decide +kernel
theorem dX4_findAddress_130 : decode cX4_findAddress 130 = .ok (.sipush 4095, 3) := by decide +kernel
theorem dX4_findAddress_133 : decode cX4_findAddress 133 = .ok (.iand, 1) := by decide +kernel
theorem dX4_findAddress_134 : decode cX4_findAddress 134 = .ok (.ireturn, 1) := by decide +kernel
theorem dX4_start_0 : decode cX4_start 0 = .ok (.aload_n 0, 1) := by decide +kernel
theorem dX4_start_1 : decode cX4_start 1 = .ok (.getfield 15, 3) := by decide +kernel
theorem dX4_start_4 : decode cX4_start 4 = .ok (.iconst 0, 1) := by decide +kernel
theorem dX4_start_5 : decode cX4_start 5 = .ok (.iconst 0, 1) := by decide +kernel
theorem dX4_start_6 : decode cX4_start 6 = .ok (.iastore, 1) := by decide +kernel
theorem dX4_start_7 : decode cX4_start 7 = .ok (.aload_n 0, 1) := by decide +kernel
theorem dX4_start_8 : decode cX4_start 8 = .ok (.getfield 15, 3) := by decide +kernel
theorem dX4_start_11 : decode cX4_start 11 = .ok (.iconst 1, 1) := by decide +kernel
theorem dX4_start_12 : decode cX4_start 12 = .ok (.iconst 0, 1) := by decide +kernel
theorem dX4_start_13 : decode cX4_start 13 = .ok (.iastore, 1) := by decide +kernel
theorem dX4_start_14 : decode cX4_start 14 = .ok (.aload_n 0, 1) := by decide +kernel
theorem dX4_start_15 : decode cX4_start 15 = .ok (.getfield 15, 3) := by decide +kernel
theorem dX4_start_18 : decode cX4_start 18 = .ok (.iconst 2, 1) := by decide +kernel
theorem dX4_start_19 : decode cX4_start 19 = .ok (.iconst 0, 1) := by decide +kernel
theorem dX4_start_20 : decode cX4_start 20 = .ok (.iastore, 1) := by decide +kernel
theorem dX4_start_21 : decode cX4_start 21 = .ok (.aload_n 0, 1) := by decide +kernel
theorem dX4_start_22 : decode cX4_start 22 = .ok (.getfield 15, 3) := by decide +kernel
theorem dX4_start_25 : decode cX4_start 25 = .ok (.iconst 3, 1) := by decide +kernel
theorem dX4_start_26 : decode cX4_start 26 = .ok (.sipush 255, 3) := by decide +kernel
theorem dX4_start_29 : decode cX4_start 29 = .ok (.iastore, 1) := by decide +kernel
theorem dX4_start_30 : decode cX4_start 30 = .ok (.aload_n 0, 1) := by decide +kernel
theorem dX4_start_31 : decode cX4_start 31 = .ok (.getfield 15, 3) := by decide +kernel
theorem dX4_start_34 : decode cX4_start 34 = .ok (.iconst 5, 1) := by decide +kernel
theorem dX4_start_35 : decode cX4_start 35 = .ok (.iconst 4, 1) := by decide +kernel
theorem dX4_start_36 : decode cX4_start 36 = .ok (.iastore, 1) := by decide +kernel
theorem dX4_start_37 : decode cX4_start 37 = .ok (.aload_n 0, 1) := by decide +kernel
theorem dX4_start_38 : decode cX4_start 38 = .ok (.getfield 15, 3) := by decide +kernel
theorem dX4_start_41 : decode cX4_start 41 = .ok (.iconst 4, 1) := by decide +kernel
theorem dX4_start_42 : decode cX4_start 42 = .ok (.aload_n 0, 1) := by decide +kernel
theorem dX4_start_43 : decode cX4_start 43 = .ok (.sipush 4078, 3) := by decide +kernel
theorem dX4_start_46 : decode cX4_start 46 = .ok (.invokevirtual 43, 3) := by decide +kernel
theorem dX4_start_49 : decode cX4_start 49 = .ok (.iastore, 1) := by decide +kernel
theorem dX4_start_50 : decode cX4_start 50 = .ok (.aload_n 0, 1) := by decide +kernel
theorem dX4_start_51 : decode cX4_start 51 = .ok (.getfield 15, 3) := by decide +kernel
theorem dX4_start_54 : decode cX4_start 54 = .ok (.bipush 6, 2) := by decide +kernel
theorem dX4_start_56 : decode cX4_start 56 = .ok (.iconst 0, 1) := by decide +kernel
theorem dX4_start_57 : decode cX4_start 57 = .ok (.iastore, 1) := by decide +kernel
theorem dX4_start_58 : decode cX4_start 58 = .ok (.return_, 1) := by decide +kernel
theorem dX4_carry_0 : decode cX4_carry 0 = .ok (.aload_n 0, 1) := by decide +kernel
theorem dX4_carry_1 : decode cX4_carry 1 = .ok (.getfield 15, 3) := by decide +kernel
theorem dX4_carry_4 : decode cX4_carry 4 = .ok (.iconst 5, 1) := by decide +kernel
theorem dX4_carry_5 : decode cX4_carry 5 = .ok (.iaload, 1) := by decide +kernel
theorem dX4_carry_6 : decode cX4_carry 6 = .ok (.iconst 1, 1) := by decide +kernel
theorem dX4_carry_7 : decode cX4_carry 7 = .ok (.iand, 1) := by decide +kernel
theorem dX4_carry_8 : decode cX4_carry 8 = .ok (.ireturn, 1) := by decide +kernel
theorem dX4_setFlag_0 : decode cX4_setFlag 0 = .ok (.aload_n 0, 1) := by decide +kernel
theorem dX4_setFlag_1 : decode cX4_setFlag 1 = .ok (.getfield 15, 3) := by decide +kernel
theorem dX4_setFlag_4 : decode cX4_setFlag 4 = .ok (.iconst 5, 1) := by decide +kernel
theorem dX4_setFlag_5 : decode cX4_setFlag 5 = .ok (.iload_n 2, 1) := by decide +kernel
theorem dX4_setFlag_6 : decode cX4_setFlag 6 = .ok (.ifCond .eq 14, 3) := by decide +kernel
theorem dX4_setFlag_20 : decode cX4_setFlag 20 = .ok (.aload_n 0, 1) := by decide +kernel
theorem dX4_setFlag_21 : decode cX4_setFlag 21 = .ok (.getfield 15, 3) := by decide +kernel
theorem dX4_setFlag_24 : decode cX4_setFlag 24 = .ok (.iconst 5, 1) := by decide +kernel
theorem dX4_setFlag_25 : decode cX4_setFlag 25 = .ok (.iaload, 1) := by decide +kernel
theorem dX4_setFlag_26 : decode cX4_setFlag 26 = .ok (.iload_n 1, 1) := by decide +kernel
theorem dX4_setFlag_27 : decode cX4_setFlag 27 = .ok (.iconst (-1), 1) := by decide +kernel
theorem dX4_setFlag_28 : decode cX4_setFlag 28 = .ok (.ixor, 1) := by decide +kernel
theorem dX4_setFlag_29 : decode cX4_setFlag 29 = .ok (.iand, 1) := by decide +kernel
theorem dX4_setFlag_30 : decode cX4_setFlag 30 = .ok (.iastore, 1) := by decide +kernel
theorem dX4_setFlag_31 : decode cX4_setFlag 31 = .ok (.return_, 1) := by decide +kernel
theorem dX4_setFlag_9 : decode cX4_setFlag 9 = .ok (.aload_n 0, 1) := by decide +kernel
theorem dX4_setFlag_10 : decode cX4_setFlag 10 = .ok (.getfield 15, 3) := by decide +kernel
theorem dX4_setFlag_13 : decode cX4_setFlag 13 = .ok (.iconst 5, 1) := by decide +kernel
theorem dX4_setFlag_14 : decode cX4_setFlag 14 = .ok (.iaload, 1) := by decide +kernel
theorem dX4_setFlag_15 : decode cX4_setFlag 15 = .ok (.iload_n 1, 1) := by decide +kernel
theorem dX4_setFlag_16 : decode cX4_setFlag 16 = .ok (.ior, 1) := by decide +kernel
theorem dX4_setFlag_17 : decode cX4_setFlag 17 = .ok (.goto 13, 3) := by decide +kernel
theorem dX4_setNz_0 : decode cX4_setNz 0 = .ok (.aload_n 0, 1) := by decide +kernel
theorem dX4_setNz_1 : decode cX4_setNz 1 = .ok (.getfield 15, 3) := by decide +kernel
theorem dX4_setNz_4 : decode cX4_setNz 4 = .ok (.iconst 5, 1) := by decide +kernel
theorem dX4_setNz_5 : decode cX4_setNz 5 = .ok (.aload_n 0, 1) := by decide +kernel
theorem dX4_setNz_6 : decode cX4_setNz 6 = .ok (.getfield 15, 3) := by decide +kernel
theorem dX4_setNz_9 : decode cX4_setNz 9 = .ok (.iconst 5, 1) := by decide +kernel
theorem dX4_setNz_10 : decode cX4_setNz 10 = .ok (.iaload, 1) := by decide +kernel
theorem dX4_setNz_11 : decode cX4_setNz 11 = .ok (.sipush (-131), 3) := by decide +kernel
theorem dX4_setNz_14 : decode cX4_setNz 14 = .ok (.iand, 1) := by decide +kernel
theorem dX4_setNz_15 : decode cX4_setNz 15 = .ok (.iload_n 1, 1) := by decide +kernel
theorem dX4_setNz_16 : decode cX4_setNz 16 = .ok (.sipush 128, 3) := by decide +kernel
theorem dX4_setNz_19 : decode cX4_setNz 19 = .ok (.iand, 1) := by decide +kernel
theorem dX4_setNz_20 : decode cX4_setNz 20 = .ok (.ior, 1) := by decide +kernel
theorem dX4_setNz_21 : decode cX4_setNz 21 = .ok (.iload_n 1, 1) := by decide +kernel
theorem dX4_setNz_22 : decode cX4_setNz 22 = .ok (.ifCond .ne 7, 3) := by decide +kernel
theorem dX4_setNz_29 : decode cX4_setNz 29 = .ok (.iconst 0, 1) := by decide +kernel
theorem dX4_setNz_30 : decode cX4_setNz 30 = .ok (.ior, 1) := by decide +kernel
theorem dX4_setNz_31 : decode cX4_setNz 31 = .ok (.iastore, 1) := by decide +kernel
theorem dX4_setNz_32 : decode cX4_setNz 32 = .ok (.return_, 1) := by decide +kernel
theorem dX4_setNz_25 : decode cX4_setNz 25 = .ok (.iconst 2, 1) := by decide +kernel
theorem dX4_setNz_26 : decode cX4_setNz 26 = .ok (.goto 4, 3) := by decide +kernel
theorem dX4_set_0 : decode cX4_set 0 = .ok (.aload_n 0, 1) := by decide +kernel
theorem dX4_set_1 : decode cX4_set 1 = .ok (.getfield 15, 3) := by decide +kernel
theorem dX4_set_4 : decode cX4_set 4 = .ok (.iload_n 1, 1) := by decide +kernel
theorem dX4_set_5 : decode cX4_set 5 = .ok (.iload_n 2, 1) := by decide +kernel
theorem dX4_set_6 : decode cX4_set 6 = .ok (.sipush 255, 3) := by decide +kernel
theorem dX4_set_9 : decode cX4_set 9 = .ok (.iand, 1) := by decide +kernel
theorem dX4_set_10 : decode cX4_set 10 = .ok (.iastore, 1) := by decide +kernel
theorem dX4_set_11 : decode cX4_set 11 = .ok (.aload_n 0, 1) := by decide +kernel
theorem dX4_set_12 : decode cX4_set 12 = .ok (.iload_n 2, 1) := by decide +kernel
theorem dX4_set_13 : decode cX4_set 13 = .ok (.sipush 255, 3) := by decide +kernel
theorem dX4_set_16 : decode cX4_set 16 = .ok (.iand, 1) := by decide +kernel
theorem dX4_set_17 : decode cX4_set 17 = .ok (.invokevirtual 156, 3) := by decide +kernel
theorem dX4_set_20 : decode cX4_set 20 = .ok (.return_, 1) := by decide +kernel
theorem dX4_add_0 : decode cX4_add 0 = .ok (.aload_n 0, 1) := by decide +kernel
theorem dX4_add_1 : decode cX4_add 1 = .ok (.getfield 15, 3) := by decide +kernel
theorem dX4_add_4 : decode cX4_add 4 = .ok (.iconst 0, 1) := by decide +kernel
theorem dX4_add_5 : decode cX4_add 5 = .ok (.iaload, 1) := by decide +kernel
theorem dX4_add_6 : decode cX4_add 6 = .ok (.istore_n 2, 1) := by decide +kernel
theorem dX4_add_7 : decode cX4_add 7 = .ok (.iload_n 2, 1) := by decide +kernel
theorem dX4_add_8 : decode cX4_add 8 = .ok (.iload_n 1, 1) := by decide +kernel
theorem dX4_add_9 : decode cX4_add 9 = .ok (.iadd, 1) := by decide +kernel
theorem dX4_add_10 : decode cX4_add 10 = .ok (.aload_n 0, 1) := by decide +kernel
theorem dX4_add_11 : decode cX4_add 11 = .ok (.invokevirtual 180, 3) := by decide +kernel
theorem dX4_add_14 : decode cX4_add 14 = .ok (.iadd, 1) := by decide +kernel
theorem dX4_add_15 : decode cX4_add 15 = .ok (.istore_n 3, 1) := by decide +kernel
theorem dX4_add_16 : decode cX4_add 16 = .ok (.aload_n 0, 1) := by decide +kernel
theorem dX4_add_17 : decode cX4_add 17 = .ok (.bipush 64, 2) := by decide +kernel
theorem dX4_add_19 : decode cX4_add 19 = .ok (.iload_n 2, 1) := by decide +kernel
theorem dX4_add_20 : decode cX4_add 20 = .ok (.sipush 128, 3) := by decide +kernel
theorem dX4_add_23 : decode cX4_add 23 = .ok (.iand, 1) := by decide +kernel
theorem dX4_add_24 : decode cX4_add 24 = .ok (.iload_n 1, 1) := by decide +kernel
theorem dX4_add_25 : decode cX4_add 25 = .ok (.sipush 128, 3) := by decide +kernel
theorem dX4_add_28 : decode cX4_add 28 = .ok (.iand, 1) := by decide +kernel
theorem dX4_add_29 : decode cX4_add 29 = .ok (.if_icmp .ne 20, 3) := by decide +kernel
theorem dX4_add_49 : decode cX4_add 49 = .ok (.iconst 0, 1) := by decide +kernel
theorem dX4_add_50 : decode cX4_add 50 = .ok (.invokevirtual 183, 3) := by decide +kernel
theorem dX4_add_53 : decode cX4_add 53 = .ok (.aload_n 0, 1) := by decide +kernel
theorem dX4_add_54 : decode cX4_add 54 = .ok (.iconst 1, 1) := by decide +kernel
theorem dX4_add_55 : decode cX4_add 55 = .ok (.iload_n 3, 1) := by decide +kernel
theorem dX4_add_56 : decode cX4_add 56 = .ok (.sipush 255, 3) := by decide +kernel
theorem dX4_add_59 : decode cX4_add 59 = .ok (.if_icmp .le 7, 3) := by decide +kernel
theorem dX4_add_66 : decode cX4_add 66 = .ok (.iconst 0, 1) := by decide +kernel
theorem dX4_add_67 : decode cX4_add 67 = .ok (.invokevirtual 183, 3) := by decide +kernel
theorem dX4_add_70 : decode cX4_add 70 = .ok (.aload_n 0, 1) := by decide +kernel
theorem dX4_add_71 : decode cX4_add 71 = .ok (.iconst 0, 1) := by decide +kernel
theorem dX4_add_72 : decode cX4_add 72 = .ok (.iload_n 3, 1) := by decide +kernel
theorem dX4_add_73 : decode cX4_add 73 = .ok (.invokevirtual 159, 3) := by decide +kernel
theorem dX4_add_76 : decode cX4_add 76 = .ok (.return_, 1) := by decide +kernel
theorem dX4_add_62 : decode cX4_add 62 = .ok (.iconst 1, 1) := by decide +kernel
theorem dX4_add_63 : decode cX4_add 63 = .ok (.goto 4, 3) := by decide +kernel
theorem dX4_add_32 : decode cX4_add 32 = .ok (.iload_n 3, 1) := by decide +kernel
theorem dX4_add_33 : decode cX4_add 33 = .ok (.sipush 128, 3) := by decide +kernel
theorem dX4_add_36 : decode cX4_add 36 = .ok (.iand, 1) := by decide +kernel
theorem dX4_add_37 : decode cX4_add 37 = .ok (.iload_n 2, 1) := by decide +kernel
theorem dX4_add_38 : decode cX4_add 38 = .ok (.sipush 128, 3) := by decide +kernel
theorem dX4_add_41 : decode cX4_add 41 = .ok (.iand, 1) := by decide +kernel
theorem dX4_add_42 : decode cX4_add 42 = .ok (.if_icmp .eq 7, 3) := by decide +kernel
theorem dX4_add_45 : decode cX4_add 45 = .ok (.iconst 1, 1) := by decide +kernel
theorem dX4_add_46 : decode cX4_add 46 = .ok (.goto 4, 3) := by decide +kernel
theorem dX4_addTo_0 : decode cX4_addTo 0 = .ok (.aload_n 0, 1) := by decide +kernel
theorem dX4_addTo_1 : decode cX4_addTo 1 = .ok (.getfield 15, 3) := by decide +kernel
theorem dX4_addTo_4 : decode cX4_addTo 4 = .ok (.iload_n 1, 1) := by decide +kernel
theorem dX4_addTo_5 : decode cX4_addTo 5 = .ok (.iaload, 1) := by decide +kernel
theorem dX4_addTo_6 : decode cX4_addTo 6 = .ok (.iload_n 2, 1) := by decide +kernel
theorem dX4_addTo_7 : decode cX4_addTo 7 = .ok (.iadd, 1) := by decide +kernel
theorem dX4_addTo_8 : decode cX4_addTo 8 = .ok (.istore_n 3, 1) := by decide +kernel
theorem dX4_addTo_9 : decode cX4_addTo 9 = .ok (.aload_n 0, 1) := by decide +kernel
theorem dX4_addTo_10 : decode cX4_addTo 10 = .ok (.iconst 1, 1) := by decide +kernel
theorem dX4_addTo_11 : decode cX4_addTo 11 = .ok (.iload_n 3, 1) := by decide +kernel
theorem dX4_addTo_12 : decode cX4_addTo 12 = .ok (.sipush 255, 3) := by decide +kernel
theorem dX4_addTo_15 : decode cX4_addTo 15 = .ok (.if_icmp .le 7, 3) := by decide +kernel
theorem dX4_addTo_22 : decode cX4_addTo 22 = .ok (.iconst 0, 1) := by decide +kernel
theorem dX4_addTo_23 : decode cX4_addTo 23 = .ok (.invokevirtual 183, 3) := by decide +kernel
theorem dX4_addTo_26 : decode cX4_addTo 26 = .ok (.aload_n 0, 1) := by decide +kernel
theorem dX4_addTo_27 : decode cX4_addTo 27 = .ok (.iload_n 1, 1) := by decide +kernel
theorem dX4_addTo_28 : decode cX4_addTo 28 = .ok (.iload_n 3, 1) := by decide +kernel
theorem dX4_addTo_29 : decode cX4_addTo 29 = .ok (.invokevirtual 159, 3) := by decide +kernel
theorem dX4_addTo_32 : decode cX4_addTo 32 = .ok (.return_, 1) := by decide +kernel
theorem dX4_addTo_18 : decode cX4_addTo 18 = .ok (.iconst 1, 1) := by decide +kernel
theorem dX4_addTo_19 : decode cX4_addTo 19 = .ok (.goto 4, 3) := by decide +kernel
theorem dX4_compare_0 : decode cX4_compare 0 = .ok (.aload_n 0, 1) := by decide +kernel
theorem dX4_compare_1 : decode cX4_compare 1 = .ok (.iconst 1, 1) := by decide +kernel
theorem dX4_compare_2 : decode cX4_compare 2 = .ok (.iload_n 1, 1) := by decide +kernel
theorem dX4_compare_3 : decode cX4_compare 3 = .ok (.iload_n 2, 1) := by decide +kernel
theorem dX4_compare_4 : decode cX4_compare 4 = .ok (.if_icmp .lt 7, 3) := by decide +kernel
theorem dX4_compare_11 : decode cX4_compare 11 = .ok (.iconst 0, 1) := by decide +kernel
theorem dX4_compare_12 : decode cX4_compare 12 = .ok (.invokevirtual 183, 3) := by decide +kernel
theorem dX4_compare_15 : decode cX4_compare 15 = .ok (.aload_n 0, 1) := by decide +kernel
theorem dX4_compare_16 : decode cX4_compare 16 = .ok (.iload_n 1, 1) := by decide +kernel
theorem dX4_compare_17 : decode cX4_compare 17 = .ok (.iload_n 2, 1) := by decide +kernel
theorem dX4_compare_18 : decode cX4_compare 18 = .ok (.isub, 1) := by decide +kernel
theorem dX4_compare_19 : decode cX4_compare 19 = .ok (.sipush 255, 3) := by decide +kernel
theorem dX4_compare_22 : decode cX4_compare 22 = .ok (.iand, 1) := by decide +kernel
theorem dX4_compare_23 : decode cX4_compare 23 = .ok (.invokevirtual 156, 3) := by decide +kernel
theorem dX4_compare_26 : decode cX4_compare 26 = .ok (.return_, 1) := by decide +kernel
theorem dX4_compare_7 : decode cX4_compare 7 = .ok (.iconst 1, 1) := by decide +kernel
theorem dX4_compare_8 : decode cX4_compare 8 = .ok (.goto 4, 3) := by decide +kernel
theorem dX4_test_0 : decode cX4_test 0 = .ok (.aload_n 0, 1) := by decide +kernel
theorem dX4_test_1 : decode cX4_test 1 = .ok (.iconst 2, 1) := by decide +kernel
theorem dX4_test_2 : decode cX4_test 2 = .ok (.aload_n 0, 1) := by decide +kernel
theorem dX4_test_3 : decode cX4_test 3 = .ok (.getfield 15, 3) := by decide +kernel
theorem dX4_test_6 : decode cX4_test 6 = .ok (.iconst 0, 1) := by decide +kernel
theorem dX4_test_7 : decode cX4_test 7 = .ok (.iaload, 1) := by decide +kernel
theorem dX4_test_8 : decode cX4_test 8 = .ok (.iload_n 1, 1) := by decide +kernel
theorem dX4_test_9 : decode cX4_test 9 = .ok (.iand, 1) := by decide +kernel
theorem dX4_test_10 : decode cX4_test 10 = .ok (.ifCond .ne 7, 3) := by decide +kernel
theorem dX4_test_17 : decode cX4_test 17 = .ok (.iconst 0, 1) := by decide +kernel
theorem dX4_test_18 : decode cX4_test 18 = .ok (.invokevirtual 183, 3) := by decide +kernel
theorem dX4_test_21 : decode cX4_test 21 = .ok (.aload_n 0, 1) := by decide +kernel
theorem dX4_test_22 : decode cX4_test 22 = .ok (.sipush 128, 3) := by decide +kernel
theorem dX4_test_25 : decode cX4_test 25 = .ok (.iload_n 1, 1) := by decide +kernel
theorem dX4_test_26 : decode cX4_test 26 = .ok (.sipush 128, 3) := by decide +kernel
theorem dX4_test_29 : decode cX4_test 29 = .ok (.iand, 1) := by decide +kernel
theorem dX4_test_30 : decode cX4_test 30 = .ok (.ifCond .eq 7, 3) := by decide +kernel
theorem dX4_test_37 : decode cX4_test 37 = .ok (.iconst 0, 1) := by decide +kernel
theorem dX4_test_38 : decode cX4_test 38 = .ok (.invokevirtual 183, 3) := by decide +kernel
theorem dX4_test_41 : decode cX4_test 41 = .ok (.aload_n 0, 1) := by decide +kernel
theorem dX4_test_42 : decode cX4_test 42 = .ok (.bipush 64, 2) := by decide +kernel
theorem dX4_test_44 : decode cX4_test 44 = .ok (.iload_n 1, 1) := by decide +kernel
theorem dX4_test_45 : decode cX4_test 45 = .ok (.bipush 64, 2) := by decide +kernel
theorem dX4_test_47 : decode cX4_test 47 = .ok (.iand, 1) := by decide +kernel
theorem dX4_test_48 : decode cX4_test 48 = .ok (.ifCond .eq 7, 3) := by decide +kernel
theorem dX4_test_55 : decode cX4_test 55 = .ok (.iconst 0, 1) := by decide +kernel
theorem dX4_test_56 : decode cX4_test 56 = .ok (.invokevirtual 183, 3) := by decide +kernel
theorem dX4_test_59 : decode cX4_test 59 = .ok (.return_, 1) := by decide +kernel
theorem dX4_test_51 : decode cX4_test 51 = .ok (.iconst 1, 1) := by decide +kernel
theorem dX4_test_52 : decode cX4_test 52 = .ok (.goto 4, 3) := by decide +kernel
theorem dX4_test_33 : decode cX4_test 33 = .ok (.iconst 1, 1) := by decide +kernel
theorem dX4_test_34 : decode cX4_test 34 = .ok (.goto 4, 3) := by decide +kernel
theorem dX4_test_13 : decode cX4_test 13 = .ok (.iconst 1, 1) := by decide +kernel
theorem dX4_test_14 : decode cX4_test 14 = .ok (.goto 4, 3) := by decide +kernel
theorem dX4_multiply_0 : decode cX4_multiply 0 = .ok (.aload_n 0, 1) := by decide +kernel
theorem dX4_multiply_1 : decode cX4_multiply 1 = .ok (.getfield 15, 3) := by decide +kernel
theorem dX4_multiply_4 : decode cX4_multiply 4 = .ok (.iconst 0, 1) := by decide +kernel
theorem dX4_multiply_5 : decode cX4_multiply 5 = .ok (.iaload, 1) := by decide +kernel
theorem dX4_multiply_6 : decode cX4_multiply 6 = .ok (.iload_n 1, 1) := by decide +kernel
theorem dX4_multiply_7 : decode cX4_multiply 7 = .ok (.imul, 1) := by decide +kernel
theorem dX4_multiply_8 : decode cX4_multiply 8 = .ok (.istore_n 2, 1) := by decide +kernel
theorem dX4_multiply_9 : decode cX4_multiply 9 = .ok (.aload_n 0, 1) := by decide +kernel
theorem dX4_multiply_10 : decode cX4_multiply 10 = .ok (.getfield 15, 3) := by decide +kernel
theorem dX4_multiply_13 : decode cX4_multiply 13 = .ok (.iconst 2, 1) := by decide +kernel
theorem dX4_multiply_14 : decode cX4_multiply 14 = .ok (.iload_n 2, 1) := by decide +kernel
theorem dX4_multiply_15 : decode cX4_multiply 15 = .ok (.bipush 8, 2) := by decide +kernel
theorem dX4_multiply_17 : decode cX4_multiply 17 = .ok (.ishr, 1) := by decide +kernel
theorem dX4_multiply_18 : decode cX4_multiply 18 = .ok (.iastore, 1) := by decide +kernel
theorem dX4_multiply_19 : decode cX4_multiply 19 = .ok (.aload_n 0, 1) := by decide +kernel
theorem dX4_multiply_20 : decode cX4_multiply 20 = .ok (.iconst 1, 1) := by decide +kernel
theorem dX4_multiply_21 : decode cX4_multiply 21 = .ok (.aload_n 0, 1) := by decide +kernel
theorem dX4_multiply_22 : decode cX4_multiply 22 = .ok (.getfield 15, 3) := by decide +kernel
theorem dX4_multiply_25 : decode cX4_multiply 25 = .ok (.iconst 2, 1) := by decide +kernel
theorem dX4_multiply_26 : decode cX4_multiply 26 = .ok (.iaload, 1) := by decide +kernel
theorem dX4_multiply_27 : decode cX4_multiply 27 = .ok (.ifCond .eq 7, 3) := by decide +kernel
theorem dX4_multiply_34 : decode cX4_multiply 34 = .ok (.iconst 0, 1) := by decide +kernel
theorem dX4_multiply_35 : decode cX4_multiply 35 = .ok (.invokevirtual 183, 3) := by decide +kernel
theorem dX4_multiply_38 : decode cX4_multiply 38 = .ok (.aload_n 0, 1) := by decide +kernel
theorem dX4_multiply_39 : decode cX4_multiply 39 = .ok (.iconst 0, 1) := by decide +kernel
theorem dX4_multiply_40 : decode cX4_multiply 40 = .ok (.iload_n 2, 1) := by decide +kernel
theorem dX4_multiply_41 : decode cX4_multiply 41 = .ok (.invokevirtual 159, 3) := by decide +kernel
theorem dX4_multiply_44 : decode cX4_multiply 44 = .ok (.return_, 1) := by decide +kernel
theorem dX4_multiply_30 : decode cX4_multiply 30 = .ok (.iconst 1, 1) := by decide +kernel
theorem dX4_multiply_31 : decode cX4_multiply 31 = .ok (.goto 4, 3) := by decide +kernel
theorem dX4_oneLess_0 : decode cX4_oneLess 0 = .ok (.aload_n 0, 1) := by decide +kernel
theorem dX4_oneLess_1 : decode cX4_oneLess 1 = .ok (.getfield 15, 3) := by decide +kernel
theorem dX4_oneLess_4 : decode cX4_oneLess 4 = .ok (.iload_n 1, 1) := by decide +kernel
theorem dX4_oneLess_5 : decode cX4_oneLess 5 = .ok (.aload_n 0, 1) := by decide +kernel
theorem dX4_oneLess_6 : decode cX4_oneLess 6 = .ok (.getfield 15, 3) := by decide +kernel
theorem dX4_oneLess_9 : decode cX4_oneLess 9 = .ok (.iload_n 1, 1) := by decide +kernel
theorem dX4_oneLess_10 : decode cX4_oneLess 10 = .ok (.iaload, 1) := by decide +kernel
theorem dX4_oneLess_11 : decode cX4_oneLess 11 = .ok (.iconst 1, 1) := by decide +kernel
theorem dX4_oneLess_12 : decode cX4_oneLess 12 = .ok (.isub, 1) := by decide +kernel
theorem dX4_oneLess_13 : decode cX4_oneLess 13 = .ok (.sipush 255, 3) := by decide +kernel
theorem dX4_oneLess_16 : decode cX4_oneLess 16 = .ok (.iand, 1) := by decide +kernel
theorem dX4_oneLess_17 : decode cX4_oneLess 17 = .ok (.iastore, 1) := by decide +kernel
theorem dX4_oneLess_18 : decode cX4_oneLess 18 = .ok (.aload_n 0, 1) := by decide +kernel
theorem dX4_oneLess_19 : decode cX4_oneLess 19 = .ok (.getfield 15, 3) := by decide +kernel
theorem dX4_oneLess_22 : decode cX4_oneLess 22 = .ok (.iload_n 1, 1) := by decide +kernel
theorem dX4_oneLess_23 : decode cX4_oneLess 23 = .ok (.iaload, 1) := by decide +kernel
theorem dX4_oneLess_24 : decode cX4_oneLess 24 = .ok (.ifCond .eq 7, 3) := by decide +kernel
theorem dX4_oneLess_31 : decode cX4_oneLess 31 = .ok (.iconst 0, 1) := by decide +kernel
theorem dX4_oneLess_32 : decode cX4_oneLess 32 = .ok (.ireturn, 1) := by decide +kernel
theorem dX4_oneLess_27 : decode cX4_oneLess 27 = .ok (.iconst 1, 1) := by decide +kernel
theorem dX4_oneLess_28 : decode cX4_oneLess 28 = .ok (.goto 4, 3) := by decide +kernel
theorem dX4_shiftedLeft_0 : decode cX4_shiftedLeft 0 = .ok (.aload_n 0, 1) := by decide +kernel
theorem dX4_shiftedLeft_1 : decode cX4_shiftedLeft 1 = .ok (.iconst 1, 1) := by decide +kernel
theorem dX4_shiftedLeft_2 : decode cX4_shiftedLeft 2 = .ok (.iload_n 1, 1) := by decide +kernel
theorem dX4_shiftedLeft_3 : decode cX4_shiftedLeft 3 = .ok (.sipush 128, 3) := by decide +kernel
theorem dX4_shiftedLeft_6 : decode cX4_shiftedLeft 6 = .ok (.iand, 1) := by decide +kernel
theorem dX4_shiftedLeft_7 : decode cX4_shiftedLeft 7 = .ok (.ifCond .eq 7, 3) := by decide +kernel
theorem dX4_shiftedLeft_14 : decode cX4_shiftedLeft 14 = .ok (.iconst 0, 1) := by decide +kernel
theorem dX4_shiftedLeft_15 : decode cX4_shiftedLeft 15 = .ok (.invokevirtual 183, 3) := by decide +kernel
theorem dX4_shiftedLeft_18 : decode cX4_shiftedLeft 18 = .ok (.iconst 2, 1) := by decide +kernel
theorem dX4_shiftedLeft_19 : decode cX4_shiftedLeft 19 = .ok (.iload_n 1, 1) := by decide +kernel
theorem dX4_shiftedLeft_20 : decode cX4_shiftedLeft 20 = .ok (.imul, 1) := by decide +kernel
theorem dX4_shiftedLeft_21 : decode cX4_shiftedLeft 21 = .ok (.iload_n 2, 1) := by decide +kernel
theorem dX4_shiftedLeft_22 : decode cX4_shiftedLeft 22 = .ok (.iadd, 1) := by decide +kernel
theorem dX4_shiftedLeft_23 : decode cX4_shiftedLeft 23 = .ok (.ireturn, 1) := by decide +kernel
theorem dX4_shiftedLeft_10 : decode cX4_shiftedLeft 10 = .ok (.iconst 1, 1) := by decide +kernel
theorem dX4_shiftedLeft_11 : decode cX4_shiftedLeft 11 = .ok (.goto 4, 3) := by decide +kernel
theorem dX4_shiftedRight_0 : decode cX4_shiftedRight 0 = .ok (.aload_n 0, 1) := by decide +kernel
theorem dX4_shiftedRight_1 : decode cX4_shiftedRight 1 = .ok (.iconst 1, 1) := by decide +kernel
theorem dX4_shiftedRight_2 : decode cX4_shiftedRight 2 = .ok (.iload_n 1, 1) := by decide +kernel
theorem dX4_shiftedRight_3 : decode cX4_shiftedRight 3 = .ok (.iconst 1, 1) := by decide +kernel
theorem dX4_shiftedRight_4 : decode cX4_shiftedRight 4 = .ok (.iand, 1) := by decide +kernel
theorem dX4_shiftedRight_5 : decode cX4_shiftedRight 5 = .ok (.ifCond .eq 7, 3) := by decide +kernel
theorem dX4_shiftedRight_12 : decode cX4_shiftedRight 12 = .ok (.iconst 0, 1) := by decide +kernel
theorem dX4_shiftedRight_13 : decode cX4_shiftedRight 13 = .ok (.invokevirtual 183, 3) := by decide +kernel
theorem dX4_shiftedRight_16 : decode cX4_shiftedRight 16 = .ok (.iload_n 1, 1) := by decide +kernel
theorem dX4_shiftedRight_17 : decode cX4_shiftedRight 17 = .ok (.iconst 2, 1) := by decide +kernel
theorem dX4_shiftedRight_18 : decode cX4_shiftedRight 18 = .ok (.idiv, 1) := by decide +kernel
theorem dX4_shiftedRight_19 : decode cX4_shiftedRight 19 = .ok (.sipush 128, 3) := by decide +kernel
theorem dX4_shiftedRight_22 : decode cX4_shiftedRight 22 = .ok (.iload_n 2, 1) := by decide +kernel
theorem dX4_shiftedRight_23 : decode cX4_shiftedRight 23 = .ok (.imul, 1) := by decide +kernel
theorem dX4_shiftedRight_24 : decode cX4_shiftedRight 24 = .ok (.iadd, 1) := by decide +kernel
theorem dX4_shiftedRight_25 : decode cX4_shiftedRight 25 = .ok (.ireturn, 1) := by decide +kernel
theorem dX4_shiftedRight_8 : decode cX4_shiftedRight 8 = .ok (.iconst 1, 1) := by decide +kernel
theorem dX4_shiftedRight_9 : decode cX4_shiftedRight 9 = .ok (.goto 4, 3) := by decide +kernel
theorem dX4_branchIsDue_0 : decode cX4_branchIsDue 0 = .ok (.iload_n 1, 1) := by decide +kernel
theorem dX4_branchIsDue_1 : decode cX4_branchIsDue 1 = .ok (.tableswitch 213 16 26 #[59, 76, 93, 110, 127, 146, 165, 183, 213, 201, 207], 59) := by decide +kernel
theorem dX4_branchIsDue_60 : decode cX4_branchIsDue 60 = .ok (.aload_n 0, 1) := by decide +kernel
theorem dX4_branchIsDue_61 : decode cX4_branchIsDue 61 = .ok (.getfield 15, 3) := by decide +kernel
theorem dX4_branchIsDue_64 : decode cX4_branchIsDue 64 = .ok (.iconst 5, 1) := by decide +kernel
theorem dX4_branchIsDue_65 : decode cX4_branchIsDue 65 = .ok (.iaload, 1) := by decide +kernel
theorem dX4_branchIsDue_66 : decode cX4_branchIsDue 66 = .ok (.iconst 2, 1) := by decide +kernel
theorem dX4_branchIsDue_67 : decode cX4_branchIsDue 67 = .ok (.iand, 1) := by decide +kernel
theorem dX4_branchIsDue_68 : decode cX4_branchIsDue 68 = .ok (.ifCond .eq 7, 3) := by decide +kernel
theorem dX4_branchIsDue_75 : decode cX4_branchIsDue 75 = .ok (.iconst 0, 1) := by decide +kernel
theorem dX4_branchIsDue_76 : decode cX4_branchIsDue 76 = .ok (.ireturn, 1) := by decide +kernel
theorem dX4_branchIsDue_71 : decode cX4_branchIsDue 71 = .ok (.iconst 1, 1) := by decide +kernel
theorem dX4_branchIsDue_72 : decode cX4_branchIsDue 72 = .ok (.goto 4, 3) := by decide +kernel
theorem dX4_branchIsDue_77 : decode cX4_branchIsDue 77 = .ok (.aload_n 0, 1) := by decide +kernel
theorem dX4_branchIsDue_78 : decode cX4_branchIsDue 78 = .ok (.getfield 15, 3) := by decide +kernel
theorem dX4_branchIsDue_81 : decode cX4_branchIsDue 81 = .ok (.iconst 5, 1) := by decide +kernel
theorem dX4_branchIsDue_82 : decode cX4_branchIsDue 82 = .ok (.iaload, 1) := by decide +kernel
theorem dX4_branchIsDue_83 : decode cX4_branchIsDue 83 = .ok (.iconst 2, 1) := by decide +kernel
theorem dX4_branchIsDue_84 : decode cX4_branchIsDue 84 = .ok (.iand, 1) := by decide +kernel
theorem dX4_branchIsDue_85 : decode cX4_branchIsDue 85 = .ok (.ifCond .ne 7, 3) := by decide +kernel
theorem dX4_branchIsDue_92 : decode cX4_branchIsDue 92 = .ok (.iconst 0, 1) := by decide +kernel
theorem dX4_branchIsDue_93 : decode cX4_branchIsDue 93 = .ok (.ireturn, 1) := by decide +kernel
theorem dX4_branchIsDue_88 : decode cX4_branchIsDue 88 = .ok (.iconst 1, 1) := by decide +kernel
theorem dX4_branchIsDue_89 : decode cX4_branchIsDue 89 = .ok (.goto 4, 3) := by decide +kernel
theorem dX4_branchIsDue_94 : decode cX4_branchIsDue 94 = .ok (.aload_n 0, 1) := by decide +kernel
theorem dX4_branchIsDue_95 : decode cX4_branchIsDue 95 = .ok (.getfield 15, 3) := by decide +kernel
theorem dX4_branchIsDue_98 : decode cX4_branchIsDue 98 = .ok (.iconst 5, 1) := by decide +kernel
theorem dX4_branchIsDue_99 : decode cX4_branchIsDue 99 = .ok (.iaload, 1) := by decide +kernel
theorem dX4_branchIsDue_100 : decode cX4_branchIsDue 100 = .ok (.iconst 1, 1) := by decide +kernel
theorem dX4_branchIsDue_101 : decode cX4_branchIsDue 101 = .ok (.iand, 1) := by decide +kernel
theorem dX4_branchIsDue_102 : decode cX4_branchIsDue 102 = .ok (.ifCond .eq 7, 3) := by decide +kernel
theorem dX4_branchIsDue_109 : decode cX4_branchIsDue 109 = .ok (.iconst 0, 1) := by decide +kernel
theorem dX4_branchIsDue_110 : decode cX4_branchIsDue 110 = .ok (.ireturn, 1) := by decide +kernel
theorem dX4_branchIsDue_105 : decode cX4_branchIsDue 105 = .ok (.iconst 1, 1) := by decide +kernel
theorem dX4_branchIsDue_106 : decode cX4_branchIsDue 106 = .ok (.goto 4, 3) := by decide +kernel
theorem dX4_branchIsDue_111 : decode cX4_branchIsDue 111 = .ok (.aload_n 0, 1) := by decide +kernel
theorem dX4_branchIsDue_112 : decode cX4_branchIsDue 112 = .ok (.getfield 15, 3) := by decide +kernel
theorem dX4_branchIsDue_115 : decode cX4_branchIsDue 115 = .ok (.iconst 5, 1) := by decide +kernel
theorem dX4_branchIsDue_116 : decode cX4_branchIsDue 116 = .ok (.iaload, 1) := by decide +kernel
theorem dX4_branchIsDue_117 : decode cX4_branchIsDue 117 = .ok (.iconst 1, 1) := by decide +kernel
theorem dX4_branchIsDue_118 : decode cX4_branchIsDue 118 = .ok (.iand, 1) := by decide +kernel
theorem dX4_branchIsDue_119 : decode cX4_branchIsDue 119 = .ok (.ifCond .ne 7, 3) := by decide +kernel
theorem dX4_branchIsDue_126 : decode cX4_branchIsDue 126 = .ok (.iconst 0, 1) := by decide +kernel
theorem dX4_branchIsDue_127 : decode cX4_branchIsDue 127 = .ok (.ireturn, 1) := by decide +kernel
theorem dX4_branchIsDue_122 : decode cX4_branchIsDue 122 = .ok (.iconst 1, 1) := by decide +kernel
theorem dX4_branchIsDue_123 : decode cX4_branchIsDue 123 = .ok (.goto 4, 3) := by decide +kernel
theorem dX4_branchIsDue_128 : decode cX4_branchIsDue 128 = .ok (.aload_n 0, 1) := by decide +kernel
theorem dX4_branchIsDue_129 : decode cX4_branchIsDue 129 = .ok (.getfield 15, 3) := by decide +kernel
theorem dX4_branchIsDue_132 : decode cX4_branchIsDue 132 = .ok (.iconst 5, 1) := by decide +kernel
theorem dX4_branchIsDue_133 : decode cX4_branchIsDue 133 = .ok (.iaload, 1) := by decide +kernel
theorem dX4_branchIsDue_134 : decode cX4_branchIsDue 134 = .ok (.sipush 128, 3) := by decide +kernel
theorem dX4_branchIsDue_137 : decode cX4_branchIsDue 137 = .ok (.iand, 1) := by decide +kernel
theorem dX4_branchIsDue_138 : decode cX4_branchIsDue 138 = .ok (.ifCond .eq 7, 3) := by decide +kernel
theorem dX4_branchIsDue_145 : decode cX4_branchIsDue 145 = .ok (.iconst 0, 1) := by decide +kernel
theorem dX4_branchIsDue_146 : decode cX4_branchIsDue 146 = .ok (.ireturn, 1) := by decide +kernel
theorem dX4_branchIsDue_141 : decode cX4_branchIsDue 141 = .ok (.iconst 1, 1) := by decide +kernel
theorem dX4_branchIsDue_142 : decode cX4_branchIsDue 142 = .ok (.goto 4, 3) := by decide +kernel
theorem dX4_branchIsDue_147 : decode cX4_branchIsDue 147 = .ok (.aload_n 0, 1) := by decide +kernel
theorem dX4_branchIsDue_148 : decode cX4_branchIsDue 148 = .ok (.getfield 15, 3) := by decide +kernel
theorem dX4_branchIsDue_151 : decode cX4_branchIsDue 151 = .ok (.iconst 5, 1) := by decide +kernel
theorem dX4_branchIsDue_152 : decode cX4_branchIsDue 152 = .ok (.iaload, 1) := by decide +kernel
theorem dX4_branchIsDue_153 : decode cX4_branchIsDue 153 = .ok (.sipush 128, 3) := by decide +kernel
theorem dX4_branchIsDue_156 : decode cX4_branchIsDue 156 = .ok (.iand, 1) := by decide +kernel
theorem dX4_branchIsDue_157 : decode cX4_branchIsDue 157 = .ok (.ifCond .ne 7, 3) := by decide +kernel
theorem dX4_branchIsDue_164 : decode cX4_branchIsDue 164 = .ok (.iconst 0, 1) := by decide +kernel
theorem dX4_branchIsDue_165 : decode cX4_branchIsDue 165 = .ok (.ireturn, 1) := by decide +kernel
theorem dX4_branchIsDue_160 : decode cX4_branchIsDue 160 = .ok (.iconst 1, 1) := by decide +kernel
theorem dX4_branchIsDue_161 : decode cX4_branchIsDue 161 = .ok (.goto 4, 3) := by decide +kernel
theorem dX4_branchIsDue_166 : decode cX4_branchIsDue 166 = .ok (.aload_n 0, 1) := by decide +kernel
theorem dX4_branchIsDue_167 : decode cX4_branchIsDue 167 = .ok (.getfield 15, 3) := by decide +kernel
theorem dX4_branchIsDue_170 : decode cX4_branchIsDue 170 = .ok (.iconst 5, 1) := by decide +kernel
theorem dX4_branchIsDue_171 : decode cX4_branchIsDue 171 = .ok (.iaload, 1) := by decide +kernel
theorem dX4_branchIsDue_172 : decode cX4_branchIsDue 172 = .ok (.bipush 64, 2) := by decide +kernel
theorem dX4_branchIsDue_174 : decode cX4_branchIsDue 174 = .ok (.iand, 1) := by decide +kernel
theorem dX4_branchIsDue_175 : decode cX4_branchIsDue 175 = .ok (.ifCond .eq 7, 3) := by decide +kernel
theorem dX4_branchIsDue_182 : decode cX4_branchIsDue 182 = .ok (.iconst 0, 1) := by decide +kernel
theorem dX4_branchIsDue_183 : decode cX4_branchIsDue 183 = .ok (.ireturn, 1) := by decide +kernel
theorem dX4_branchIsDue_178 : decode cX4_branchIsDue 178 = .ok (.iconst 1, 1) := by decide +kernel
theorem dX4_branchIsDue_179 : decode cX4_branchIsDue 179 = .ok (.goto 4, 3) := by decide +kernel
theorem dX4_branchIsDue_184 : decode cX4_branchIsDue 184 = .ok (.aload_n 0, 1) := by decide +kernel
theorem dX4_branchIsDue_185 : decode cX4_branchIsDue 185 = .ok (.getfield 15, 3) := by decide +kernel
theorem dX4_branchIsDue_188 : decode cX4_branchIsDue 188 = .ok (.iconst 5, 1) := by decide +kernel
theorem dX4_branchIsDue_189 : decode cX4_branchIsDue 189 = .ok (.iaload, 1) := by decide +kernel
theorem dX4_branchIsDue_190 : decode cX4_branchIsDue 190 = .ok (.bipush 64, 2) := by decide +kernel
theorem dX4_branchIsDue_192 : decode cX4_branchIsDue 192 = .ok (.iand, 1) := by decide +kernel
theorem dX4_branchIsDue_193 : decode cX4_branchIsDue 193 = .ok (.ifCond .ne 7, 3) := by decide +kernel
theorem dX4_branchIsDue_200 : decode cX4_branchIsDue 200 = .ok (.iconst 0, 1) := by decide +kernel
theorem dX4_branchIsDue_201 : decode cX4_branchIsDue 201 = .ok (.ireturn, 1) := by decide +kernel
theorem dX4_branchIsDue_196 : decode cX4_branchIsDue 196 = .ok (.iconst 1, 1) := by decide +kernel
theorem dX4_branchIsDue_197 : decode cX4_branchIsDue 197 = .ok (.goto 4, 3) := by decide +kernel
theorem dX4_branchIsDue_214 : decode cX4_branchIsDue 214 = .ok (.iconst 1, 1) := by decide +kernel
theorem dX4_branchIsDue_215 : decode cX4_branchIsDue 215 = .ok (.ireturn, 1) := by decide +kernel
theorem dX4_branchIsDue_202 : decode cX4_branchIsDue 202 = .ok (.aload_n 0, 1) := by decide +kernel
theorem dX4_branchIsDue_203 : decode cX4_branchIsDue 203 = .ok (.iconst 1, 1) := by decide +kernel
theorem dX4_branchIsDue_204 : decode cX4_branchIsDue 204 = .ok (.invokevirtual 214, 3) := by decide +kernel
theorem dX4_branchIsDue_207 : decode cX4_branchIsDue 207 = .ok (.ireturn, 1) := by decide +kernel
theorem dX4_branchIsDue_208 : decode cX4_branchIsDue 208 = .ok (.aload_n 0, 1) := by decide +kernel
theorem dX4_branchIsDue_209 : decode cX4_branchIsDue 209 = .ok (.iconst 2, 1) := by decide +kernel
theorem dX4_branchIsDue_210 : decode cX4_branchIsDue 210 = .ok (.invokevirtual 214, 3) := by decide +kernel
theorem dX4_branchIsDue_213 : decode cX4_branchIsDue 213 = .ok (.ireturn, 1) := by decide +kernel
theorem dX8_signed_0 : decode cX8_signed 0 = .ok (.iload_n 0, 1) := by decide +kernel
theorem dX8_signed_1 : decode cX8_signed 1 = .ok (.bipush 127, 2) := by decide +kernel
theorem dX8_signed_3 : decode cX8_signed 3 = .ok (.if_icmp .le 11, 3) := by decide +kernel
theorem dX8_signed_14 : decode cX8_signed 14 = .ok (.iload_n 0, 1) := by decide +kernel
theorem dX8_signed_15 : decode cX8_signed 15 = .ok (.ireturn, 1) := by decide +kernel
theorem dX8_signed_6 : decode cX8_signed 6 = .ok (.iload_n 0, 1) := by decide +kernel
theorem dX8_signed_7 : decode cX8_signed 7 = .ok (.sipush 256, 3) := by decide +kernel
theorem dX8_signed_10 : decode cX8_signed 10 = .ok (.isub, 1) := by decide +kernel
theorem dX8_signed_11 : decode cX8_signed 11 = .ok (.goto 4, 3) := by decide +kernel
theorem dX8_isShort_0 : decode cX8_isShort 0 = .ok (.iload_n 0, 1) := by decide +kernel
theorem dX8_isShort_1 : decode cX8_isShort 1 = .ok (.bipush 7, 2) := by decide +kernel
theorem dX8_isShort_3 : decode cX8_isShort 3 = .ok (.iand, 1) := by decide +kernel
theorem dX8_isShort_4 : decode cX8_isShort 4 = .ok (.ifCond .ne 15, 3) := by decide +kernel
theorem dX8_isShort_19 : decode cX8_isShort 19 = .ok (.iconst 0, 1) := by decide +kernel
theorem dX8_isShort_20 : decode cX8_isShort 20 = .ok (.ireturn, 1) := by decide +kernel
theorem dX8_isShort_7 : decode cX8_isShort 7 = .ok (.iload_n 0, 1) := by decide +kernel
theorem dX8_isShort_8 : decode cX8_isShort 8 = .ok (.iconst 3, 1) := by decide +kernel
theorem dX8_isShort_9 : decode cX8_isShort 9 = .ok (.ishr, 1) := by decide +kernel
theorem dX8_isShort_10 : decode cX8_isShort 10 = .ok (.bipush 16, 2) := by decide +kernel
theorem dX8_isShort_12 : decode cX8_isShort 12 = .ok (.if_icmp .lt 7, 3) := by decide +kernel
theorem dX8_isShort_15 : decode cX8_isShort 15 = .ok (.iconst 1, 1) := by decide +kernel
theorem dX8_isShort_16 : decode cX8_isShort 16 = .ok (.goto 4, 3) := by decide +kernel
theorem dX4_goBy_0 : decode cX4_goBy 0 = .ok (.aload_n 0, 1) := by decide +kernel
theorem dX4_goBy_1 : decode cX4_goBy 1 = .ok (.getfield 15, 3) := by decide +kernel
theorem dX4_goBy_4 : decode cX4_goBy 4 = .ok (.iconst 4, 1) := by decide +kernel
theorem dX4_goBy_5 : decode cX4_goBy 5 = .ok (.aload_n 0, 1) := by decide +kernel
theorem dX4_goBy_6 : decode cX4_goBy 6 = .ok (.getfield 15, 3) := by decide +kernel
theorem dX4_goBy_9 : decode cX4_goBy 9 = .ok (.iconst 4, 1) := by decide +kernel
theorem dX4_goBy_10 : decode cX4_goBy 10 = .ok (.iaload, 1) := by decide +kernel
theorem dX4_goBy_11 : decode cX4_goBy 11 = .ok (.iload_n 1, 1) := by decide +kernel
theorem dX4_goBy_12 : decode cX4_goBy 12 = .ok (.invokestatic 208, 3) := by decide +kernel
theorem dX4_goBy_15 : decode cX4_goBy 15 = .ok (.iadd, 1) := by decide +kernel
theorem dX4_goBy_16 : decode cX4_goBy 16 = .ok (.sipush 4095, 3) := by decide +kernel
theorem dX4_goBy_19 : decode cX4_goBy 19 = .ok (.iand, 1) := by decide +kernel
theorem dX4_goBy_20 : decode cX4_goBy 20 = .ok (.iastore, 1) := by decide +kernel
theorem dX4_goBy_21 : decode cX4_goBy 21 = .ok (.return_, 1) := by decide +kernel
theorem dX4_branch_0 : decode cX4_branch 0 = .ok (.aload_n 0, 1) := by decide +kernel
theorem dX4_branch_1 : decode cX4_branch 1 = .ok (.iload_n 1, 1) := by decide +kernel
theorem dX4_branch_2 : decode cX4_branch 2 = .ok (.invokevirtual 211, 3) := by decide +kernel
theorem dX4_branch_5 : decode cX4_branch 5 = .ok (.ifCond .ne 5, 3) := by decide +kernel
theorem dX4_branch_10 : decode cX4_branch 10 = .ok (.aload_n 0, 1) := by decide +kernel
theorem dX4_branch_11 : decode cX4_branch 11 = .ok (.iload_n 2, 1) := by decide +kernel
theorem dX4_branch_12 : decode cX4_branch 12 = .ok (.invokevirtual 202, 3) := by decide +kernel
theorem dX4_branch_15 : decode cX4_branch 15 = .ok (.iconst 3, 1) := by decide +kernel
theorem dX4_branch_16 : decode cX4_branch 16 = .ok (.ireturn, 1) := by decide +kernel
theorem dX4_branch_8 : decode cX4_branch 8 = .ok (.iconst 2, 1) := by decide +kernel
theorem dX4_branch_9 : decode cX4_branch 9 = .ok (.ireturn, 1) := by decide +kernel
theorem dX4_decimals_0 : decode cX4_decimals 0 = .ok (.aload_n 0, 1) := by decide +kernel
theorem dX4_decimals_1 : decode cX4_decimals 1 = .ok (.getfield 15, 3) := by decide +kernel
theorem dX4_decimals_4 : decode cX4_decimals 4 = .ok (.iconst 0, 1) := by decide +kernel
theorem dX4_decimals_5 : decode cX4_decimals 5 = .ok (.iaload, 1) := by decide +kernel
theorem dX4_decimals_6 : decode cX4_decimals 6 = .ok (.bipush 100, 2) := by decide +kernel
theorem dX4_decimals_8 : decode cX4_decimals 8 = .ok (.irem, 1) := by decide +kernel
theorem dX4_decimals_9 : decode cX4_decimals 9 = .ok (.istore_n 1, 1) := by decide +kernel
theorem dX4_decimals_10 : decode cX4_decimals 10 = .ok (.aload_n 0, 1) := by decide +kernel
theorem dX4_decimals_11 : decode cX4_decimals 11 = .ok (.iconst 1, 1) := by decide +kernel
theorem dX4_decimals_12 : decode cX4_decimals 12 = .ok (.aload_n 0, 1) := by decide +kernel
theorem dX4_decimals_13 : decode cX4_decimals 13 = .ok (.getfield 15, 3) := by decide +kernel
theorem dX4_decimals_16 : decode cX4_decimals 16 = .ok (.iconst 0, 1) := by decide +kernel
theorem dX4_decimals_17 : decode cX4_decimals 17 = .ok (.iaload, 1) := by decide +kernel
theorem dX4_decimals_18 : decode cX4_decimals 18 = .ok (.bipush 100, 2) := by decide +kernel
theorem dX4_decimals_20 : decode cX4_decimals 20 = .ok (.if_icmp .lt 7, 3) := by decide +kernel
theorem dX4_decimals_27 : decode cX4_decimals 27 = .ok (.iconst 0, 1) := by decide +kernel
theorem dX4_decimals_28 : decode cX4_decimals 28 = .ok (.invokevirtual 183, 3) := by decide +kernel
theorem dX4_decimals_31 : decode cX4_decimals 31 = .ok (.bipush 16, 2) := by decide +kernel
theorem dX4_decimals_33 : decode cX4_decimals 33 = .ok (.iload_n 1, 1) := by decide +kernel
theorem dX4_decimals_34 : decode cX4_decimals 34 = .ok (.bipush 10, 2) := by decide +kernel
theorem dX4_decimals_36 : decode cX4_decimals 36 = .ok (.idiv, 1) := by decide +kernel
theorem dX4_decimals_37 : decode cX4_decimals 37 = .ok (.imul, 1) := by decide +kernel
theorem dX4_decimals_38 : decode cX4_decimals 38 = .ok (.iload_n 1, 1) := by decide +kernel
theorem dX4_decimals_39 : decode cX4_decimals 39 = .ok (.bipush 10, 2) := by decide +kernel
theorem dX4_decimals_41 : decode cX4_decimals 41 = .ok (.irem, 1) := by decide +kernel
theorem dX4_decimals_42 : decode cX4_decimals 42 = .ok (.iadd, 1) := by decide +kernel
theorem dX4_decimals_43 : decode cX4_decimals 43 = .ok (.ireturn, 1) := by decide +kernel
theorem dX4_decimals_23 : decode cX4_decimals 23 = .ok (.iconst 1, 1) := by decide +kernel
theorem dX4_decimals_24 : decode cX4_decimals 24 = .ok (.goto 4, 3) := by decide +kernel
theorem dX4_changeRegister_0 : decode cX4_changeRegister 0 = .ok (.iload_n 1, 1) := by decide +kernel
theorem dX4_changeRegister_1 : decode cX4_changeRegister 1 = .ok (.tableswitch 186 23 30 #[47, 63, 79, 95, 111, 127, 143, 161], 47) := by decide +kernel
theorem dX4_changeRegister_48 : decode cX4_changeRegister 48 = .ok (.aload_n 0, 1) := by decide +kernel
theorem dX4_changeRegister_49 : decode cX4_changeRegister 49 = .ok (.iconst 1, 1) := by decide +kernel
theorem dX4_changeRegister_50 : decode cX4_changeRegister 50 = .ok (.aload_n 0, 1) := by decide +kernel
theorem dX4_changeRegister_51 : decode cX4_changeRegister 51 = .ok (.getfield 15, 3) := by decide +kernel
theorem dX4_changeRegister_54 : decode cX4_changeRegister 54 = .ok (.iconst 1, 1) := by decide +kernel
theorem dX4_changeRegister_55 : decode cX4_changeRegister 55 = .ok (.iaload, 1) := by decide +kernel
theorem dX4_changeRegister_56 : decode cX4_changeRegister 56 = .ok (.iconst 1, 1) := by decide +kernel
theorem dX4_changeRegister_57 : decode cX4_changeRegister 57 = .ok (.iadd, 1) := by decide +kernel
theorem dX4_changeRegister_58 : decode cX4_changeRegister 58 = .ok (.invokevirtual 159, 3) := by decide +kernel
theorem dX4_changeRegister_61 : decode cX4_changeRegister 61 = .ok (.goto 135, 3) := by decide +kernel
theorem dX4_changeRegister_196 : decode cX4_changeRegister 196 = .ok (.return_, 1) := by decide +kernel
theorem dX4_changeRegister_64 : decode cX4_changeRegister 64 = .ok (.aload_n 0, 1) := by decide +kernel
theorem dX4_changeRegister_65 : decode cX4_changeRegister 65 = .ok (.iconst 1, 1) := by decide +kernel
theorem dX4_changeRegister_66 : decode cX4_changeRegister 66 = .ok (.aload_n 0, 1) := by decide +kernel
theorem dX4_changeRegister_67 : decode cX4_changeRegister 67 = .ok (.getfield 15, 3) := by decide +kernel
theorem dX4_changeRegister_70 : decode cX4_changeRegister 70 = .ok (.iconst 1, 1) := by decide +kernel
theorem dX4_changeRegister_71 : decode cX4_changeRegister 71 = .ok (.iaload, 1) := by decide +kernel
theorem dX4_changeRegister_72 : decode cX4_changeRegister 72 = .ok (.iconst 1, 1) := by decide +kernel
theorem dX4_changeRegister_73 : decode cX4_changeRegister 73 = .ok (.isub, 1) := by decide +kernel
theorem dX4_changeRegister_74 : decode cX4_changeRegister 74 = .ok (.invokevirtual 159, 3) := by decide +kernel
theorem dX4_changeRegister_77 : decode cX4_changeRegister 77 = .ok (.goto 119, 3) := by decide +kernel
theorem dX4_changeRegister_80 : decode cX4_changeRegister 80 = .ok (.aload_n 0, 1) := by decide +kernel
theorem dX4_changeRegister_81 : decode cX4_changeRegister 81 = .ok (.iconst 2, 1) := by decide +kernel
theorem dX4_changeRegister_82 : decode cX4_changeRegister 82 = .ok (.aload_n 0, 1) := by decide +kernel
theorem dX4_changeRegister_83 : decode cX4_changeRegister 83 = .ok (.getfield 15, 3) := by decide +kernel
theorem dX4_changeRegister_86 : decode cX4_changeRegister 86 = .ok (.iconst 2, 1) := by decide +kernel
theorem dX4_changeRegister_87 : decode cX4_changeRegister 87 = .ok (.iaload, 1) := by decide +kernel
theorem dX4_changeRegister_88 : decode cX4_changeRegister 88 = .ok (.iconst 1, 1) := by decide +kernel
theorem dX4_changeRegister_89 : decode cX4_changeRegister 89 = .ok (.iadd, 1) := by decide +kernel
theorem dX4_changeRegister_90 : decode cX4_changeRegister 90 = .ok (.invokevirtual 159, 3) := by decide +kernel
theorem dX4_changeRegister_93 : decode cX4_changeRegister 93 = .ok (.goto 103, 3) := by decide +kernel
theorem dX4_changeRegister_96 : decode cX4_changeRegister 96 = .ok (.aload_n 0, 1) := by decide +kernel
theorem dX4_changeRegister_97 : decode cX4_changeRegister 97 = .ok (.iconst 2, 1) := by decide +kernel
theorem dX4_changeRegister_98 : decode cX4_changeRegister 98 = .ok (.aload_n 0, 1) := by decide +kernel
theorem dX4_changeRegister_99 : decode cX4_changeRegister 99 = .ok (.getfield 15, 3) := by decide +kernel
theorem dX4_changeRegister_102 : decode cX4_changeRegister 102 = .ok (.iconst 2, 1) := by decide +kernel
theorem dX4_changeRegister_103 : decode cX4_changeRegister 103 = .ok (.iaload, 1) := by decide +kernel
theorem dX4_changeRegister_104 : decode cX4_changeRegister 104 = .ok (.iconst 1, 1) := by decide +kernel
theorem dX4_changeRegister_105 : decode cX4_changeRegister 105 = .ok (.isub, 1) := by decide +kernel
theorem dX4_changeRegister_106 : decode cX4_changeRegister 106 = .ok (.invokevirtual 159, 3) := by decide +kernel
theorem dX4_changeRegister_109 : decode cX4_changeRegister 109 = .ok (.goto 87, 3) := by decide +kernel
theorem dX4_changeRegister_112 : decode cX4_changeRegister 112 = .ok (.aload_n 0, 1) := by decide +kernel
theorem dX4_changeRegister_113 : decode cX4_changeRegister 113 = .ok (.iconst 0, 1) := by decide +kernel
theorem dX4_changeRegister_114 : decode cX4_changeRegister 114 = .ok (.aload_n 0, 1) := by decide +kernel
theorem dX4_changeRegister_115 : decode cX4_changeRegister 115 = .ok (.getfield 15, 3) := by decide +kernel
theorem dX4_changeRegister_118 : decode cX4_changeRegister 118 = .ok (.iconst 0, 1) := by decide +kernel
theorem dX4_changeRegister_119 : decode cX4_changeRegister 119 = .ok (.iaload, 1) := by decide +kernel
theorem dX4_changeRegister_120 : decode cX4_changeRegister 120 = .ok (.iconst 1, 1) := by decide +kernel
theorem dX4_changeRegister_121 : decode cX4_changeRegister 121 = .ok (.iadd, 1) := by decide +kernel
theorem dX4_changeRegister_122 : decode cX4_changeRegister 122 = .ok (.invokevirtual 159, 3) := by decide +kernel
theorem dX4_changeRegister_125 : decode cX4_changeRegister 125 = .ok (.goto 71, 3) := by decide +kernel
theorem dX4_changeRegister_128 : decode cX4_changeRegister 128 = .ok (.aload_n 0, 1) := by decide +kernel
theorem dX4_changeRegister_129 : decode cX4_changeRegister 129 = .ok (.iconst 0, 1) := by decide +kernel
theorem dX4_changeRegister_130 : decode cX4_changeRegister 130 = .ok (.aload_n 0, 1) := by decide +kernel
theorem dX4_changeRegister_131 : decode cX4_changeRegister 131 = .ok (.getfield 15, 3) := by decide +kernel
theorem dX4_changeRegister_134 : decode cX4_changeRegister 134 = .ok (.iconst 0, 1) := by decide +kernel
theorem dX4_changeRegister_135 : decode cX4_changeRegister 135 = .ok (.iaload, 1) := by decide +kernel
theorem dX4_changeRegister_136 : decode cX4_changeRegister 136 = .ok (.iconst 1, 1) := by decide +kernel
theorem dX4_changeRegister_137 : decode cX4_changeRegister 137 = .ok (.isub, 1) := by decide +kernel
theorem dX4_changeRegister_138 : decode cX4_changeRegister 138 = .ok (.invokevirtual 159, 3) := by decide +kernel
theorem dX4_changeRegister_141 : decode cX4_changeRegister 141 = .ok (.goto 55, 3) := by decide +kernel
theorem dX4_changeRegister_144 : decode cX4_changeRegister 144 = .ok (.aload_n 0, 1) := by decide +kernel
theorem dX4_changeRegister_145 : decode cX4_changeRegister 145 = .ok (.iconst 0, 1) := by decide +kernel
theorem dX4_changeRegister_146 : decode cX4_changeRegister 146 = .ok (.sipush 256, 3) := by decide +kernel
theorem dX4_changeRegister_149 : decode cX4_changeRegister 149 = .ok (.aload_n 0, 1) := by decide +kernel
theorem dX4_changeRegister_150 : decode cX4_changeRegister 150 = .ok (.getfield 15, 3) := by decide +kernel
theorem dX4_changeRegister_153 : decode cX4_changeRegister 153 = .ok (.iconst 0, 1) := by decide +kernel
theorem dX4_changeRegister_154 : decode cX4_changeRegister 154 = .ok (.iaload, 1) := by decide +kernel
theorem dX4_changeRegister_155 : decode cX4_changeRegister 155 = .ok (.isub, 1) := by decide +kernel
theorem dX4_changeRegister_156 : decode cX4_changeRegister 156 = .ok (.invokevirtual 159, 3) := by decide +kernel
theorem dX4_changeRegister_159 : decode cX4_changeRegister 159 = .ok (.goto 37, 3) := by decide +kernel
theorem dX4_changeRegister_162 : decode cX4_changeRegister 162 = .ok (.aload_n 0, 1) := by decide +kernel
theorem dX4_changeRegister_163 : decode cX4_changeRegister 163 = .ok (.iconst 0, 1) := by decide +kernel
theorem dX4_changeRegister_164 : decode cX4_changeRegister 164 = .ok (.aload_n 0, 1) := by decide +kernel
theorem dX4_changeRegister_165 : decode cX4_changeRegister 165 = .ok (.getfield 15, 3) := by decide +kernel
theorem dX4_changeRegister_168 : decode cX4_changeRegister 168 = .ok (.iconst 0, 1) := by decide +kernel
theorem dX4_changeRegister_169 : decode cX4_changeRegister 169 = .ok (.iaload, 1) := by decide +kernel
theorem dX4_changeRegister_170 : decode cX4_changeRegister 170 = .ok (.iconst 4, 1) := by decide +kernel
theorem dX4_changeRegister_171 : decode cX4_changeRegister 171 = .ok (.ishl, 1) := by decide +kernel
theorem dX4_changeRegister_172 : decode cX4_changeRegister 172 = .ok (.aload_n 0, 1) := by decide +kernel
theorem dX4_changeRegister_173 : decode cX4_changeRegister 173 = .ok (.getfield 15, 3) := by decide +kernel
theorem dX4_changeRegister_176 : decode cX4_changeRegister 176 = .ok (.iconst 0, 1) := by decide +kernel
theorem dX4_changeRegister_177 : decode cX4_changeRegister 177 = .ok (.iaload, 1) := by decide +kernel
theorem dX4_changeRegister_178 : decode cX4_changeRegister 178 = .ok (.iconst 4, 1) := by decide +kernel
theorem dX4_changeRegister_179 : decode cX4_changeRegister 179 = .ok (.ishr, 1) := by decide +kernel
theorem dX4_changeRegister_180 : decode cX4_changeRegister 180 = .ok (.ior, 1) := by decide +kernel
theorem dX4_changeRegister_181 : decode cX4_changeRegister 181 = .ok (.invokevirtual 159, 3) := by decide +kernel
theorem dX4_changeRegister_184 : decode cX4_changeRegister 184 = .ok (.goto 12, 3) := by decide +kernel
theorem dX4_changeRegister_187 : decode cX4_changeRegister 187 = .ok (.aload_n 0, 1) := by decide +kernel
theorem dX4_changeRegister_188 : decode cX4_changeRegister 188 = .ok (.iconst 0, 1) := by decide +kernel
theorem dX4_changeRegister_189 : decode cX4_changeRegister 189 = .ok (.aload_n 0, 1) := by decide +kernel
theorem dX4_changeRegister_190 : decode cX4_changeRegister 190 = .ok (.invokevirtual 235, 3) := by decide +kernel
theorem dX4_changeRegister_193 : decode cX4_changeRegister 193 = .ok (.invokevirtual 159, 3) := by decide +kernel
theorem dX4_changeFlag_0 : decode cX4_changeFlag 0 = .ok (.iload_n 1, 1) := by decide +kernel
theorem dX4_changeFlag_1 : decode cX4_changeFlag 1 = .ok (.tableswitch 67 18 21 #[31, 40, 49, 58], 31) := by decide +kernel
theorem dX4_changeFlag_32 : decode cX4_changeFlag 32 = .ok (.aload_n 0, 1) := by decide +kernel
theorem dX4_changeFlag_33 : decode cX4_changeFlag 33 = .ok (.iconst 1, 1) := by decide +kernel
theorem dX4_changeFlag_34 : decode cX4_changeFlag 34 = .ok (.iconst 1, 1) := by decide +kernel
theorem dX4_changeFlag_35 : decode cX4_changeFlag 35 = .ok (.invokevirtual 183, 3) := by decide +kernel
theorem dX4_changeFlag_38 : decode cX4_changeFlag 38 = .ok (.goto 37, 3) := by decide +kernel
theorem dX4_changeFlag_75 : decode cX4_changeFlag 75 = .ok (.return_, 1) := by decide +kernel
theorem dX4_changeFlag_41 : decode cX4_changeFlag 41 = .ok (.aload_n 0, 1) := by decide +kernel
theorem dX4_changeFlag_42 : decode cX4_changeFlag 42 = .ok (.iconst 1, 1) := by decide +kernel
theorem dX4_changeFlag_43 : decode cX4_changeFlag 43 = .ok (.iconst 0, 1) := by decide +kernel
theorem dX4_changeFlag_44 : decode cX4_changeFlag 44 = .ok (.invokevirtual 183, 3) := by decide +kernel
theorem dX4_changeFlag_47 : decode cX4_changeFlag 47 = .ok (.goto 28, 3) := by decide +kernel
theorem dX4_changeFlag_50 : decode cX4_changeFlag 50 = .ok (.aload_n 0, 1) := by decide +kernel
theorem dX4_changeFlag_51 : decode cX4_changeFlag 51 = .ok (.iconst 4, 1) := by decide +kernel
theorem dX4_changeFlag_52 : decode cX4_changeFlag 52 = .ok (.iconst 1, 1) := by decide +kernel
theorem dX4_changeFlag_53 : decode cX4_changeFlag 53 = .ok (.invokevirtual 183, 3) := by decide +kernel
theorem dX4_changeFlag_56 : decode cX4_changeFlag 56 = .ok (.goto 19, 3) := by decide +kernel
theorem dX4_changeFlag_59 : decode cX4_changeFlag 59 = .ok (.aload_n 0, 1) := by decide +kernel
theorem dX4_changeFlag_60 : decode cX4_changeFlag 60 = .ok (.iconst 4, 1) := by decide +kernel
theorem dX4_changeFlag_61 : decode cX4_changeFlag 61 = .ok (.iconst 0, 1) := by decide +kernel
theorem dX4_changeFlag_62 : decode cX4_changeFlag 62 = .ok (.invokevirtual 183, 3) := by decide +kernel
theorem dX4_changeFlag_65 : decode cX4_changeFlag 65 = .ok (.goto 10, 3) := by decide +kernel
theorem dX4_changeFlag_68 : decode cX4_changeFlag 68 = .ok (.aload_n 0, 1) := by decide +kernel
theorem dX4_changeFlag_69 : decode cX4_changeFlag 69 = .ok (.bipush 64, 2) := by decide +kernel
theorem dX4_changeFlag_71 : decode cX4_changeFlag 71 = .ok (.iconst 0, 1) := by decide +kernel
theorem dX4_changeFlag_72 : decode cX4_changeFlag 72 = .ok (.invokevirtual 183, 3) := by decide +kernel
theorem dX4_move_0 : decode cX4_move 0 = .ok (.iload_n 1, 1) := by decide +kernel
theorem dX4_move_1 : decode cX4_move 1 = .ok (.tableswitch 105 4 8 #[35, 49, 63, 77, 91], 35) := by decide +kernel
theorem dX4_move_36 : decode cX4_move 36 = .ok (.aload_n 0, 1) := by decide +kernel
theorem dX4_move_37 : decode cX4_move 37 = .ok (.iconst 1, 1) := by decide +kernel
theorem dX4_move_38 : decode cX4_move 38 = .ok (.aload_n 0, 1) := by decide +kernel
theorem dX4_move_39 : decode cX4_move 39 = .ok (.getfield 15, 3) := by decide +kernel
theorem dX4_move_42 : decode cX4_move 42 = .ok (.iconst 0, 1) := by decide +kernel
theorem dX4_move_43 : decode cX4_move 43 = .ok (.iaload, 1) := by decide +kernel
theorem dX4_move_44 : decode cX4_move 44 = .ok (.invokevirtual 159, 3) := by decide +kernel
theorem dX4_move_47 : decode cX4_move 47 = .ok (.goto 71, 3) := by decide +kernel
theorem dX4_move_118 : decode cX4_move 118 = .ok (.return_, 1) := by decide +kernel
theorem dX4_move_50 : decode cX4_move 50 = .ok (.aload_n 0, 1) := by decide +kernel
theorem dX4_move_51 : decode cX4_move 51 = .ok (.iconst 0, 1) := by decide +kernel
theorem dX4_move_52 : decode cX4_move 52 = .ok (.aload_n 0, 1) := by decide +kernel
theorem dX4_move_53 : decode cX4_move 53 = .ok (.getfield 15, 3) := by decide +kernel
theorem dX4_move_56 : decode cX4_move 56 = .ok (.iconst 1, 1) := by decide +kernel
theorem dX4_move_57 : decode cX4_move 57 = .ok (.iaload, 1) := by decide +kernel
theorem dX4_move_58 : decode cX4_move 58 = .ok (.invokevirtual 159, 3) := by decide +kernel
theorem dX4_move_61 : decode cX4_move 61 = .ok (.goto 57, 3) := by decide +kernel
theorem dX4_move_64 : decode cX4_move 64 = .ok (.aload_n 0, 1) := by decide +kernel
theorem dX4_move_65 : decode cX4_move 65 = .ok (.iconst 2, 1) := by decide +kernel
theorem dX4_move_66 : decode cX4_move 66 = .ok (.aload_n 0, 1) := by decide +kernel
theorem dX4_move_67 : decode cX4_move 67 = .ok (.getfield 15, 3) := by decide +kernel
theorem dX4_move_70 : decode cX4_move 70 = .ok (.iconst 0, 1) := by decide +kernel
theorem dX4_move_71 : decode cX4_move 71 = .ok (.iaload, 1) := by decide +kernel
theorem dX4_move_72 : decode cX4_move 72 = .ok (.invokevirtual 159, 3) := by decide +kernel
theorem dX4_move_75 : decode cX4_move 75 = .ok (.goto 43, 3) := by decide +kernel
theorem dX4_move_78 : decode cX4_move 78 = .ok (.aload_n 0, 1) := by decide +kernel
theorem dX4_move_79 : decode cX4_move 79 = .ok (.iconst 0, 1) := by decide +kernel
theorem dX4_move_80 : decode cX4_move 80 = .ok (.aload_n 0, 1) := by decide +kernel
theorem dX4_move_81 : decode cX4_move 81 = .ok (.getfield 15, 3) := by decide +kernel
theorem dX4_move_84 : decode cX4_move 84 = .ok (.iconst 2, 1) := by decide +kernel
theorem dX4_move_85 : decode cX4_move 85 = .ok (.iaload, 1) := by decide +kernel
theorem dX4_move_86 : decode cX4_move 86 = .ok (.invokevirtual 159, 3) := by decide +kernel
theorem dX4_move_89 : decode cX4_move 89 = .ok (.goto 29, 3) := by decide +kernel
theorem dX4_move_92 : decode cX4_move 92 = .ok (.aload_n 0, 1) := by decide +kernel
theorem dX4_move_93 : decode cX4_move 93 = .ok (.iconst 1, 1) := by decide +kernel
theorem dX4_move_94 : decode cX4_move 94 = .ok (.aload_n 0, 1) := by decide +kernel
theorem dX4_move_95 : decode cX4_move 95 = .ok (.getfield 15, 3) := by decide +kernel
theorem dX4_move_98 : decode cX4_move 98 = .ok (.iconst 3, 1) := by decide +kernel
theorem dX4_move_99 : decode cX4_move 99 = .ok (.iaload, 1) := by decide +kernel
theorem dX4_move_100 : decode cX4_move 100 = .ok (.invokevirtual 159, 3) := by decide +kernel
theorem dX4_move_103 : decode cX4_move 103 = .ok (.goto 15, 3) := by decide +kernel
theorem dX4_move_106 : decode cX4_move 106 = .ok (.aload_n 0, 1) := by decide +kernel
theorem dX4_move_107 : decode cX4_move 107 = .ok (.getfield 15, 3) := by decide +kernel
theorem dX4_move_110 : decode cX4_move 110 = .ok (.iconst 3, 1) := by decide +kernel
theorem dX4_move_111 : decode cX4_move 111 = .ok (.aload_n 0, 1) := by decide +kernel
theorem dX4_move_112 : decode cX4_move 112 = .ok (.getfield 15, 3) := by decide +kernel
theorem dX4_move_115 : decode cX4_move 115 = .ok (.iconst 1, 1) := by decide +kernel
theorem dX4_move_116 : decode cX4_move 116 = .ok (.iaload, 1) := by decide +kernel
theorem dX4_move_117 : decode cX4_move 117 = .ok (.iastore, 1) := by decide +kernel
theorem dX4_pull_0 : decode cX4_pull 0 = .ok (.aload_n 0, 1) := by decide +kernel
theorem dX4_pull_1 : decode cX4_pull 1 = .ok (.getfield 15, 3) := by decide +kernel
theorem dX4_pull_4 : decode cX4_pull 4 = .ok (.iconst 3, 1) := by decide +kernel
theorem dX4_pull_5 : decode cX4_pull 5 = .ok (.aload_n 0, 1) := by decide +kernel
theorem dX4_pull_6 : decode cX4_pull 6 = .ok (.getfield 15, 3) := by decide +kernel
theorem dX4_pull_9 : decode cX4_pull 9 = .ok (.iconst 3, 1) := by decide +kernel
theorem dX4_pull_10 : decode cX4_pull 10 = .ok (.iaload, 1) := by decide +kernel
theorem dX4_pull_11 : decode cX4_pull 11 = .ok (.iconst 1, 1) := by decide +kernel
theorem dX4_pull_12 : decode cX4_pull 12 = .ok (.iadd, 1) := by decide +kernel
theorem dX4_pull_13 : decode cX4_pull 13 = .ok (.sipush 255, 3) := by decide +kernel
theorem dX4_pull_16 : decode cX4_pull 16 = .ok (.iand, 1) := by decide +kernel
theorem dX4_pull_17 : decode cX4_pull 17 = .ok (.iastore, 1) := by decide +kernel
theorem dX4_pull_18 : decode cX4_pull 18 = .ok (.aload_n 0, 1) := by decide +kernel
theorem dX4_pull_19 : decode cX4_pull 19 = .ok (.getfield 18, 3) := by decide +kernel
theorem dX4_pull_22 : decode cX4_pull 22 = .ok (.sipush 256, 3) := by decide +kernel
theorem dX4_pull_25 : decode cX4_pull 25 = .ok (.aload_n 0, 1) := by decide +kernel
theorem dX4_pull_26 : decode cX4_pull 26 = .ok (.getfield 15, 3) := by decide +kernel
theorem dX4_pull_29 : decode cX4_pull 29 = .ok (.iconst 3, 1) := by decide +kernel
theorem dX4_pull_30 : decode cX4_pull 30 = .ok (.iaload, 1) := by decide +kernel
theorem dX4_pull_31 : decode cX4_pull 31 = .ok (.iadd, 1) := by decide +kernel
theorem dX4_pull_32 : decode cX4_pull 32 = .ok (.iaload, 1) := by decide +kernel
theorem dX4_pull_33 : decode cX4_pull 33 = .ok (.ireturn, 1) := by decide +kernel
theorem dX4_pullPlace_0 : decode cX4_pullPlace 0 = .ok (.aload_n 0, 1) := by decide +kernel
theorem dX4_pullPlace_1 : decode cX4_pullPlace 1 = .ok (.invokevirtual 153, 3) := by decide +kernel
theorem dX4_pullPlace_4 : decode cX4_pullPlace 4 = .ok (.istore_n 1, 1) := by decide +kernel
theorem dX4_pullPlace_5 : decode cX4_pullPlace 5 = .ok (.aload_n 0, 1) := by decide +kernel
theorem dX4_pullPlace_6 : decode cX4_pullPlace 6 = .ok (.getfield 15, 3) := by decide +kernel
theorem dX4_pullPlace_9 : decode cX4_pullPlace 9 = .ok (.iconst 4, 1) := by decide +kernel
theorem dX4_pullPlace_10 : decode cX4_pullPlace 10 = .ok (.iload_n 1, 1) := by decide +kernel
theorem dX4_pullPlace_11 : decode cX4_pullPlace 11 = .ok (.sipush 256, 3) := by decide +kernel
theorem dX4_pullPlace_14 : decode cX4_pullPlace 14 = .ok (.aload_n 0, 1) := by decide +kernel
theorem dX4_pullPlace_15 : decode cX4_pullPlace 15 = .ok (.invokevirtual 153, 3) := by decide +kernel
theorem dX4_pullPlace_18 : decode cX4_pullPlace 18 = .ok (.imul, 1) := by decide +kernel
theorem dX4_pullPlace_19 : decode cX4_pullPlace 19 = .ok (.iadd, 1) := by decide +kernel
theorem dX4_pullPlace_20 : decode cX4_pullPlace 20 = .ok (.sipush 4095, 3) := by decide +kernel
theorem dX4_pullPlace_23 : decode cX4_pullPlace 23 = .ok (.iand, 1) := by decide +kernel
theorem dX4_pullPlace_24 : decode cX4_pullPlace 24 = .ok (.iastore, 1) := by decide +kernel
theorem dX4_pullPlace_25 : decode cX4_pullPlace 25 = .ok (.return_, 1) := by decide +kernel
theorem dX4_divide_0 : decode cX4_divide 0 = .ok (.sipush 256, 3) := by decide +kernel
theorem dX4_divide_3 : decode cX4_divide 3 = .ok (.aload_n 0, 1) := by decide +kernel
theorem dX4_divide_4 : decode cX4_divide 4 = .ok (.getfield 15, 3) := by decide +kernel
theorem dX4_divide_7 : decode cX4_divide 7 = .ok (.iconst 2, 1) := by decide +kernel
theorem dX4_divide_8 : decode cX4_divide 8 = .ok (.iaload, 1) := by decide +kernel
theorem dX4_divide_9 : decode cX4_divide 9 = .ok (.imul, 1) := by decide +kernel
theorem dX4_divide_10 : decode cX4_divide 10 = .ok (.aload_n 0, 1) := by decide +kernel
theorem dX4_divide_11 : decode cX4_divide 11 = .ok (.getfield 15, 3) := by decide +kernel
theorem dX4_divide_14 : decode cX4_divide 14 = .ok (.iconst 0, 1) := by decide +kernel
theorem dX4_divide_15 : decode cX4_divide 15 = .ok (.iaload, 1) := by decide +kernel
theorem dX4_divide_16 : decode cX4_divide 16 = .ok (.iadd, 1) := by decide +kernel
theorem dX4_divide_17 : decode cX4_divide 17 = .ok (.istore_n 2, 1) := by decide +kernel
theorem dX4_divide_18 : decode cX4_divide 18 = .ok (.iload_n 1, 1) := by decide +kernel
theorem dX4_divide_19 : decode cX4_divide 19 = .ok (.ifCond .eq 16, 3) := by decide +kernel
theorem dX4_divide_35 : decode cX4_divide 35 = .ok (.iconst 0, 1) := by decide +kernel
theorem dX4_divide_36 : decode cX4_divide 36 = .ok (.istore_n 3, 1) := by decide +kernel
theorem dX4_divide_37 : decode cX4_divide 37 = .ok (.aload_n 0, 1) := by decide +kernel
theorem dX4_divide_38 : decode cX4_divide 38 = .ok (.bipush 64, 2) := by decide +kernel
theorem dX4_divide_40 : decode cX4_divide 40 = .ok (.iload_n 3, 1) := by decide +kernel
theorem dX4_divide_41 : decode cX4_divide 41 = .ok (.ifCond .ne 7, 3) := by decide +kernel
theorem dX4_divide_44 : decode cX4_divide 44 = .ok (.iconst 1, 1) := by decide +kernel
theorem dX4_divide_45 : decode cX4_divide 45 = .ok (.goto 4, 3) := by decide +kernel
theorem dX4_divide_49 : decode cX4_divide 49 = .ok (.invokevirtual 183, 3) := by decide +kernel
theorem dX4_divide_52 : decode cX4_divide 52 = .ok (.aload_n 0, 1) := by decide +kernel
theorem dX4_divide_53 : decode cX4_divide 53 = .ok (.iconst 1, 1) := by decide +kernel
theorem dX4_divide_54 : decode cX4_divide 54 = .ok (.iload_n 3, 1) := by decide +kernel
theorem dX4_divide_55 : decode cX4_divide 55 = .ok (.ifCond .ne 7, 3) := by decide +kernel
theorem dX4_divide_58 : decode cX4_divide 58 = .ok (.iconst 1, 1) := by decide +kernel
theorem dX4_divide_59 : decode cX4_divide 59 = .ok (.goto 4, 3) := by decide +kernel
theorem dX4_divide_63 : decode cX4_divide 63 = .ok (.invokevirtual 183, 3) := by decide +kernel
theorem dX4_divide_66 : decode cX4_divide 66 = .ok (.iload_n 1, 1) := by decide +kernel
theorem dX4_divide_67 : decode cX4_divide 67 = .ok (.ifCond .eq 24, 3) := by decide +kernel
theorem dX4_divide_91 : decode cX4_divide 91 = .ok (.return_, 1) := by decide +kernel
theorem dX4_divide_70 : decode cX4_divide 70 = .ok (.iload_n 3, 1) := by decide +kernel
theorem dX4_divide_71 : decode cX4_divide 71 = .ok (.ifCond .eq 20, 3) := by decide +kernel
theorem dX4_divide_22 : decode cX4_divide 22 = .ok (.iload_n 2, 1) := by decide +kernel
theorem dX4_divide_23 : decode cX4_divide 23 = .ok (.iload_n 1, 1) := by decide +kernel
theorem dX4_divide_24 : decode cX4_divide 24 = .ok (.idiv, 1) := by decide +kernel
theorem dX4_divide_25 : decode cX4_divide 25 = .ok (.sipush 255, 3) := by decide +kernel
theorem dX4_divide_28 : decode cX4_divide 28 = .ok (.if_icmp .gt 7, 3) := by decide +kernel
theorem dX4_divide_31 : decode cX4_divide 31 = .ok (.iconst 1, 1) := by decide +kernel
theorem dX4_divide_32 : decode cX4_divide 32 = .ok (.goto 4, 3) := by decide +kernel
theorem dX4_divide_48 : decode cX4_divide 48 = .ok (.iconst 0, 1) := by decide +kernel
theorem dX4_divide_62 : decode cX4_divide 62 = .ok (.iconst 0, 1) := by decide +kernel
theorem dX4_divide_74 : decode cX4_divide 74 = .ok (.aload_n 0, 1) := by decide +kernel
theorem dX4_divide_75 : decode cX4_divide 75 = .ok (.getfield 15, 3) := by decide +kernel
theorem dX4_divide_78 : decode cX4_divide 78 = .ok (.iconst 2, 1) := by decide +kernel
theorem dX4_divide_79 : decode cX4_divide 79 = .ok (.iload_n 2, 1) := by decide +kernel
theorem dX4_divide_80 : decode cX4_divide 80 = .ok (.iload_n 1, 1) := by decide +kernel
theorem dX4_divide_81 : decode cX4_divide 81 = .ok (.irem, 1) := by decide +kernel
theorem dX4_divide_82 : decode cX4_divide 82 = .ok (.iastore, 1) := by decide +kernel
theorem dX4_divide_83 : decode cX4_divide 83 = .ok (.aload_n 0, 1) := by decide +kernel
theorem dX4_divide_84 : decode cX4_divide 84 = .ok (.iconst 0, 1) := by decide +kernel
theorem dX4_divide_85 : decode cX4_divide 85 = .ok (.iload_n 2, 1) := by decide +kernel
theorem dX4_divide_86 : decode cX4_divide 86 = .ok (.iload_n 1, 1) := by decide +kernel
theorem dX4_divide_87 : decode cX4_divide 87 = .ok (.idiv, 1) := by decide +kernel
theorem dX4_divide_88 : decode cX4_divide 88 = .ok (.invokevirtual 159, 3) := by decide +kernel
theorem dX4_useValue_0 : decode cX4_useValue 0 = .ok (.iload_n 1, 1) := by decide +kernel
theorem dX4_useValue_1 : decode cX4_useValue 1 = .ok (.tableswitch 245 0 14 #[75, 84, 93, 102, 110, 122, 138, 154, 170, 184, 198, 212, 220, 228, 236], 75) := by decide +kernel
theorem dX4_useValue_76 : decode cX4_useValue 76 = .ok (.aload_n 0, 1) := by decide +kernel
theorem dX4_useValue_77 : decode cX4_useValue 77 = .ok (.iconst 0, 1) := by decide +kernel
theorem dX4_useValue_78 : decode cX4_useValue 78 = .ok (.iload_n 2, 1) := by decide +kernel
theorem dX4_useValue_79 : decode cX4_useValue 79 = .ok (.invokevirtual 159, 3) := by decide +kernel
theorem dX4_useValue_82 : decode cX4_useValue 82 = .ok (.goto 170, 3) := by decide +kernel
theorem dX4_useValue_252 : decode cX4_useValue 252 = .ok (.return_, 1) := by decide +kernel
theorem dX4_useValue_85 : decode cX4_useValue 85 = .ok (.aload_n 0, 1) := by decide +kernel
theorem dX4_useValue_86 : decode cX4_useValue 86 = .ok (.iconst 1, 1) := by decide +kernel
theorem dX4_useValue_87 : decode cX4_useValue 87 = .ok (.iload_n 2, 1) := by decide +kernel
theorem dX4_useValue_88 : decode cX4_useValue 88 = .ok (.invokevirtual 159, 3) := by decide +kernel
theorem dX4_useValue_91 : decode cX4_useValue 91 = .ok (.goto 161, 3) := by decide +kernel
theorem dX4_useValue_94 : decode cX4_useValue 94 = .ok (.aload_n 0, 1) := by decide +kernel
theorem dX4_useValue_95 : decode cX4_useValue 95 = .ok (.iconst 2, 1) := by decide +kernel
theorem dX4_useValue_96 : decode cX4_useValue 96 = .ok (.iload_n 2, 1) := by decide +kernel
theorem dX4_useValue_97 : decode cX4_useValue 97 = .ok (.invokevirtual 159, 3) := by decide +kernel
theorem dX4_useValue_100 : decode cX4_useValue 100 = .ok (.goto 152, 3) := by decide +kernel
theorem dX4_useValue_103 : decode cX4_useValue 103 = .ok (.aload_n 0, 1) := by decide +kernel
theorem dX4_useValue_104 : decode cX4_useValue 104 = .ok (.iload_n 2, 1) := by decide +kernel
theorem dX4_useValue_105 : decode cX4_useValue 105 = .ok (.invokevirtual 162, 3) := by decide +kernel
theorem dX4_useValue_108 : decode cX4_useValue 108 = .ok (.goto 144, 3) := by decide +kernel
theorem dX4_useValue_111 : decode cX4_useValue 111 = .ok (.aload_n 0, 1) := by decide +kernel
theorem dX4_useValue_112 : decode cX4_useValue 112 = .ok (.sipush 255, 3) := by decide +kernel
theorem dX4_useValue_115 : decode cX4_useValue 115 = .ok (.iload_n 2, 1) := by decide +kernel
theorem dX4_useValue_116 : decode cX4_useValue 116 = .ok (.isub, 1) := by decide +kernel
theorem dX4_useValue_117 : decode cX4_useValue 117 = .ok (.invokevirtual 162, 3) := by decide +kernel
theorem dX4_useValue_120 : decode cX4_useValue 120 = .ok (.goto 132, 3) := by decide +kernel
theorem dX4_useValue_123 : decode cX4_useValue 123 = .ok (.aload_n 0, 1) := by decide +kernel
theorem dX4_useValue_124 : decode cX4_useValue 124 = .ok (.iconst 0, 1) := by decide +kernel
theorem dX4_useValue_125 : decode cX4_useValue 125 = .ok (.aload_n 0, 1) := by decide +kernel
theorem dX4_useValue_126 : decode cX4_useValue 126 = .ok (.getfield 15, 3) := by decide +kernel
theorem dX4_useValue_129 : decode cX4_useValue 129 = .ok (.iconst 0, 1) := by decide +kernel
theorem dX4_useValue_130 : decode cX4_useValue 130 = .ok (.iaload, 1) := by decide +kernel
theorem dX4_useValue_131 : decode cX4_useValue 131 = .ok (.iload_n 2, 1) := by decide +kernel
theorem dX4_useValue_132 : decode cX4_useValue 132 = .ok (.iand, 1) := by decide +kernel
theorem dX4_useValue_133 : decode cX4_useValue 133 = .ok (.invokevirtual 159, 3) := by decide +kernel
theorem dX4_useValue_136 : decode cX4_useValue 136 = .ok (.goto 116, 3) := by decide +kernel
theorem dX4_useValue_139 : decode cX4_useValue 139 = .ok (.aload_n 0, 1) := by decide +kernel
theorem dX4_useValue_140 : decode cX4_useValue 140 = .ok (.iconst 0, 1) := by decide +kernel
theorem dX4_useValue_141 : decode cX4_useValue 141 = .ok (.aload_n 0, 1) := by decide +kernel
theorem dX4_useValue_142 : decode cX4_useValue 142 = .ok (.getfield 15, 3) := by decide +kernel
theorem dX4_useValue_145 : decode cX4_useValue 145 = .ok (.iconst 0, 1) := by decide +kernel
theorem dX4_useValue_146 : decode cX4_useValue 146 = .ok (.iaload, 1) := by decide +kernel
theorem dX4_useValue_147 : decode cX4_useValue 147 = .ok (.iload_n 2, 1) := by decide +kernel
theorem dX4_useValue_148 : decode cX4_useValue 148 = .ok (.ior, 1) := by decide +kernel
theorem dX4_useValue_149 : decode cX4_useValue 149 = .ok (.invokevirtual 159, 3) := by decide +kernel
theorem dX4_useValue_152 : decode cX4_useValue 152 = .ok (.goto 100, 3) := by decide +kernel
theorem dX4_useValue_155 : decode cX4_useValue 155 = .ok (.aload_n 0, 1) := by decide +kernel
theorem dX4_useValue_156 : decode cX4_useValue 156 = .ok (.iconst 0, 1) := by decide +kernel
theorem dX4_useValue_157 : decode cX4_useValue 157 = .ok (.aload_n 0, 1) := by decide +kernel
theorem dX4_useValue_158 : decode cX4_useValue 158 = .ok (.getfield 15, 3) := by decide +kernel
theorem dX4_useValue_161 : decode cX4_useValue 161 = .ok (.iconst 0, 1) := by decide +kernel
theorem dX4_useValue_162 : decode cX4_useValue 162 = .ok (.iaload, 1) := by decide +kernel
theorem dX4_useValue_163 : decode cX4_useValue 163 = .ok (.iload_n 2, 1) := by decide +kernel
theorem dX4_useValue_164 : decode cX4_useValue 164 = .ok (.ixor, 1) := by decide +kernel
theorem dX4_useValue_165 : decode cX4_useValue 165 = .ok (.invokevirtual 159, 3) := by decide +kernel
theorem dX4_useValue_168 : decode cX4_useValue 168 = .ok (.goto 84, 3) := by decide +kernel
theorem dX4_useValue_171 : decode cX4_useValue 171 = .ok (.aload_n 0, 1) := by decide +kernel
theorem dX4_useValue_172 : decode cX4_useValue 172 = .ok (.aload_n 0, 1) := by decide +kernel
theorem dX4_useValue_173 : decode cX4_useValue 173 = .ok (.getfield 15, 3) := by decide +kernel
theorem dX4_useValue_176 : decode cX4_useValue 176 = .ok (.iconst 0, 1) := by decide +kernel
theorem dX4_useValue_177 : decode cX4_useValue 177 = .ok (.iaload, 1) := by decide +kernel
theorem dX4_useValue_178 : decode cX4_useValue 178 = .ok (.iload_n 2, 1) := by decide +kernel
theorem dX4_useValue_179 : decode cX4_useValue 179 = .ok (.invokevirtual 165, 3) := by decide +kernel
theorem dX4_useValue_182 : decode cX4_useValue 182 = .ok (.goto 70, 3) := by decide +kernel
theorem dX4_useValue_185 : decode cX4_useValue 185 = .ok (.aload_n 0, 1) := by decide +kernel
theorem dX4_useValue_186 : decode cX4_useValue 186 = .ok (.aload_n 0, 1) := by decide +kernel
theorem dX4_useValue_187 : decode cX4_useValue 187 = .ok (.getfield 15, 3) := by decide +kernel
theorem dX4_useValue_190 : decode cX4_useValue 190 = .ok (.iconst 1, 1) := by decide +kernel
theorem dX4_useValue_191 : decode cX4_useValue 191 = .ok (.iaload, 1) := by decide +kernel
theorem dX4_useValue_192 : decode cX4_useValue 192 = .ok (.iload_n 2, 1) := by decide +kernel
theorem dX4_useValue_193 : decode cX4_useValue 193 = .ok (.invokevirtual 165, 3) := by decide +kernel
theorem dX4_useValue_196 : decode cX4_useValue 196 = .ok (.goto 56, 3) := by decide +kernel
theorem dX4_useValue_199 : decode cX4_useValue 199 = .ok (.aload_n 0, 1) := by decide +kernel
theorem dX4_useValue_200 : decode cX4_useValue 200 = .ok (.aload_n 0, 1) := by decide +kernel
theorem dX4_useValue_201 : decode cX4_useValue 201 = .ok (.getfield 15, 3) := by decide +kernel
theorem dX4_useValue_204 : decode cX4_useValue 204 = .ok (.iconst 2, 1) := by decide +kernel
theorem dX4_useValue_205 : decode cX4_useValue 205 = .ok (.iaload, 1) := by decide +kernel
theorem dX4_useValue_206 : decode cX4_useValue 206 = .ok (.iload_n 2, 1) := by decide +kernel
theorem dX4_useValue_207 : decode cX4_useValue 207 = .ok (.invokevirtual 165, 3) := by decide +kernel
theorem dX4_useValue_210 : decode cX4_useValue 210 = .ok (.goto 42, 3) := by decide +kernel
theorem dX4_useValue_213 : decode cX4_useValue 213 = .ok (.aload_n 0, 1) := by decide +kernel
theorem dX4_useValue_214 : decode cX4_useValue 214 = .ok (.iload_n 2, 1) := by decide +kernel
theorem dX4_useValue_215 : decode cX4_useValue 215 = .ok (.invokevirtual 168, 3) := by decide +kernel
theorem dX4_useValue_218 : decode cX4_useValue 218 = .ok (.goto 34, 3) := by decide +kernel
theorem dX4_useValue_221 : decode cX4_useValue 221 = .ok (.aload_n 0, 1) := by decide +kernel
theorem dX4_useValue_222 : decode cX4_useValue 222 = .ok (.iload_n 2, 1) := by decide +kernel
theorem dX4_useValue_223 : decode cX4_useValue 223 = .ok (.invokevirtual 171, 3) := by decide +kernel
theorem dX4_useValue_226 : decode cX4_useValue 226 = .ok (.goto 26, 3) := by decide +kernel
theorem dX4_useValue_229 : decode cX4_useValue 229 = .ok (.aload_n 0, 1) := by decide +kernel
theorem dX4_useValue_230 : decode cX4_useValue 230 = .ok (.iload_n 2, 1) := by decide +kernel
theorem dX4_useValue_231 : decode cX4_useValue 231 = .ok (.invokevirtual 174, 3) := by decide +kernel
theorem dX4_useValue_234 : decode cX4_useValue 234 = .ok (.goto 18, 3) := by decide +kernel
theorem dX4_useValue_237 : decode cX4_useValue 237 = .ok (.aload_n 0, 1) := by decide +kernel
theorem dX4_useValue_238 : decode cX4_useValue 238 = .ok (.iconst 1, 1) := by decide +kernel
theorem dX4_useValue_239 : decode cX4_useValue 239 = .ok (.iload_n 2, 1) := by decide +kernel
theorem dX4_useValue_240 : decode cX4_useValue 240 = .ok (.invokevirtual 177, 3) := by decide +kernel
theorem dX4_useValue_243 : decode cX4_useValue 243 = .ok (.goto 9, 3) := by decide +kernel
theorem dX4_useValue_246 : decode cX4_useValue 246 = .ok (.aload_n 0, 1) := by decide +kernel
theorem dX4_useValue_247 : decode cX4_useValue 247 = .ok (.iconst 2, 1) := by decide +kernel
theorem dX4_useValue_248 : decode cX4_useValue 248 = .ok (.iload_n 2, 1) := by decide +kernel
theorem dX4_useValue_249 : decode cX4_useValue 249 = .ok (.invokevirtual 177, 3) := by decide +kernel
theorem dX4_changed_0 : decode cX4_changed 0 = .ok (.iload_n 2, 1) := by decide +kernel
theorem dX4_changed_1 : decode cX4_changed 1 = .ok (.istore_n 3, 1) := by decide +kernel
theorem dX4_changed_2 : decode cX4_changed 2 = .ok (.iload_n 1, 1) := by decide +kernel
theorem dX4_changed_3 : decode cX4_changed 3 = .ok (.tableswitch 152 20 28 #[49, 56, 63, 73, 83, 96, 109, 121, 135], 49) := by decide +kernel
theorem dX4_changed_52 : decode cX4_changed 52 = .ok (.iload_n 2, 1) := by decide +kernel
theorem dX4_changed_53 : decode cX4_changed 53 = .ok (.iconst 1, 1) := by decide +kernel
theorem dX4_changed_54 : decode cX4_changed 54 = .ok (.iadd, 1) := by decide +kernel
theorem dX4_changed_55 : decode cX4_changed 55 = .ok (.istore_n 3, 1) := by decide +kernel
theorem dX4_changed_56 : decode cX4_changed 56 = .ok (.goto 125, 3) := by decide +kernel
theorem dX4_changed_181 : decode cX4_changed 181 = .ok (.aload_n 0, 1) := by decide +kernel
theorem dX4_changed_182 : decode cX4_changed 182 = .ok (.iload_n 1, 1) := by decide +kernel
theorem dX4_changed_183 : decode cX4_changed 183 = .ok (.bipush 28, 2) := by decide +kernel
theorem dX4_changed_185 : decode cX4_changed 185 = .ok (.if_icmp .ne 7, 3) := by decide +kernel
theorem dX4_changed_192 : decode cX4_changed 192 = .ok (.iload_n 3, 1) := by decide +kernel
theorem dX4_changed_193 : decode cX4_changed 193 = .ok (.sipush 255, 3) := by decide +kernel
theorem dX4_changed_196 : decode cX4_changed 196 = .ok (.iand, 1) := by decide +kernel
theorem dX4_changed_197 : decode cX4_changed 197 = .ok (.invokevirtual 156, 3) := by decide +kernel
theorem dX4_changed_200 : decode cX4_changed 200 = .ok (.iload_n 3, 1) := by decide +kernel
theorem dX4_changed_201 : decode cX4_changed 201 = .ok (.sipush 255, 3) := by decide +kernel
theorem dX4_changed_204 : decode cX4_changed 204 = .ok (.iand, 1) := by decide +kernel
theorem dX4_changed_205 : decode cX4_changed 205 = .ok (.ireturn, 1) := by decide +kernel
theorem dX4_changed_188 : decode cX4_changed 188 = .ok (.iload_n 2, 1) := by decide +kernel
theorem dX4_changed_189 : decode cX4_changed 189 = .ok (.goto 8, 3) := by decide +kernel
theorem dX4_changed_59 : decode cX4_changed 59 = .ok (.iload_n 2, 1) := by decide +kernel
theorem dX4_changed_60 : decode cX4_changed 60 = .ok (.iconst 1, 1) := by decide +kernel
theorem dX4_changed_61 : decode cX4_changed 61 = .ok (.isub, 1) := by decide +kernel
theorem dX4_changed_62 : decode cX4_changed 62 = .ok (.istore_n 3, 1) := by decide +kernel
theorem dX4_changed_63 : decode cX4_changed 63 = .ok (.goto 118, 3) := by decide +kernel
theorem dX4_changed_66 : decode cX4_changed 66 = .ok (.aload_n 0, 1) := by decide +kernel
theorem dX4_changed_67 : decode cX4_changed 67 = .ok (.iload_n 2, 1) := by decide +kernel
theorem dX4_changed_68 : decode cX4_changed 68 = .ok (.iconst 0, 1) := by decide +kernel
theorem dX4_changed_69 : decode cX4_changed 69 = .ok (.invokevirtual 196, 3) := by decide +kernel
theorem dX4_changed_72 : decode cX4_changed 72 = .ok (.istore_n 3, 1) := by decide +kernel
theorem dX4_changed_73 : decode cX4_changed 73 = .ok (.goto 108, 3) := by decide +kernel
theorem dX4_changed_76 : decode cX4_changed 76 = .ok (.aload_n 0, 1) := by decide +kernel
theorem dX4_changed_77 : decode cX4_changed 77 = .ok (.iload_n 2, 1) := by decide +kernel
theorem dX4_changed_78 : decode cX4_changed 78 = .ok (.iconst 0, 1) := by decide +kernel
theorem dX4_changed_79 : decode cX4_changed 79 = .ok (.invokevirtual 199, 3) := by decide +kernel
theorem dX4_changed_82 : decode cX4_changed 82 = .ok (.istore_n 3, 1) := by decide +kernel
theorem dX4_changed_83 : decode cX4_changed 83 = .ok (.goto 98, 3) := by decide +kernel
theorem dX4_changed_86 : decode cX4_changed 86 = .ok (.aload_n 0, 1) := by decide +kernel
theorem dX4_changed_87 : decode cX4_changed 87 = .ok (.iload_n 2, 1) := by decide +kernel
theorem dX4_changed_88 : decode cX4_changed 88 = .ok (.aload_n 0, 1) := by decide +kernel
theorem dX4_changed_89 : decode cX4_changed 89 = .ok (.invokevirtual 180, 3) := by decide +kernel
theorem dX4_changed_92 : decode cX4_changed 92 = .ok (.invokevirtual 196, 3) := by decide +kernel
theorem dX4_changed_95 : decode cX4_changed 95 = .ok (.istore_n 3, 1) := by decide +kernel
theorem dX4_changed_96 : decode cX4_changed 96 = .ok (.goto 85, 3) := by decide +kernel
theorem dX4_changed_99 : decode cX4_changed 99 = .ok (.aload_n 0, 1) := by decide +kernel
theorem dX4_changed_100 : decode cX4_changed 100 = .ok (.iload_n 2, 1) := by decide +kernel
theorem dX4_changed_101 : decode cX4_changed 101 = .ok (.aload_n 0, 1) := by decide +kernel
theorem dX4_changed_102 : decode cX4_changed 102 = .ok (.invokevirtual 180, 3) := by decide +kernel
theorem dX4_changed_105 : decode cX4_changed 105 = .ok (.invokevirtual 199, 3) := by decide +kernel
theorem dX4_changed_108 : decode cX4_changed 108 = .ok (.istore_n 3, 1) := by decide +kernel
theorem dX4_changed_109 : decode cX4_changed 109 = .ok (.goto 72, 3) := by decide +kernel
theorem dX4_changed_112 : decode cX4_changed 112 = .ok (.iload_n 2, 1) := by decide +kernel
theorem dX4_changed_113 : decode cX4_changed 113 = .ok (.aload_n 0, 1) := by decide +kernel
theorem dX4_changed_114 : decode cX4_changed 114 = .ok (.getfield 15, 3) := by decide +kernel
theorem dX4_changed_117 : decode cX4_changed 117 = .ok (.iconst 0, 1) := by decide +kernel
theorem dX4_changed_118 : decode cX4_changed 118 = .ok (.iaload, 1) := by decide +kernel
theorem dX4_changed_119 : decode cX4_changed 119 = .ok (.ior, 1) := by decide +kernel
theorem dX4_changed_120 : decode cX4_changed 120 = .ok (.istore_n 3, 1) := by decide +kernel
theorem dX4_changed_121 : decode cX4_changed 121 = .ok (.goto 60, 3) := by decide +kernel
theorem dX4_changed_124 : decode cX4_changed 124 = .ok (.iload_n 2, 1) := by decide +kernel
theorem dX4_changed_125 : decode cX4_changed 125 = .ok (.aload_n 0, 1) := by decide +kernel
theorem dX4_changed_126 : decode cX4_changed 126 = .ok (.getfield 15, 3) := by decide +kernel
theorem dX4_changed_129 : decode cX4_changed 129 = .ok (.iconst 0, 1) := by decide +kernel
theorem dX4_changed_130 : decode cX4_changed 130 = .ok (.iaload, 1) := by decide +kernel
theorem dX4_changed_131 : decode cX4_changed 131 = .ok (.iconst (-1), 1) := by decide +kernel
theorem dX4_changed_132 : decode cX4_changed 132 = .ok (.ixor, 1) := by decide +kernel
theorem dX4_changed_133 : decode cX4_changed 133 = .ok (.iand, 1) := by decide +kernel
theorem dX4_changed_134 : decode cX4_changed 134 = .ok (.istore_n 3, 1) := by decide +kernel
theorem dX4_changed_135 : decode cX4_changed 135 = .ok (.goto 46, 3) := by decide +kernel
theorem dX4_changed_138 : decode cX4_changed 138 = .ok (.aload_n 0, 1) := by decide +kernel
theorem dX4_changed_139 : decode cX4_changed 139 = .ok (.getfield 15, 3) := by decide +kernel
theorem dX4_changed_142 : decode cX4_changed 142 = .ok (.iconst 0, 1) := by decide +kernel
theorem dX4_changed_143 : decode cX4_changed 143 = .ok (.iaload, 1) := by decide +kernel
theorem dX4_changed_144 : decode cX4_changed 144 = .ok (.istore_n 3, 1) := by decide +kernel
theorem dX4_changed_145 : decode cX4_changed 145 = .ok (.aload_n 0, 1) := by decide +kernel
theorem dX4_changed_146 : decode cX4_changed 146 = .ok (.getfield 15, 3) := by decide +kernel
theorem dX4_changed_149 : decode cX4_changed 149 = .ok (.iconst 0, 1) := by decide +kernel
theorem dX4_changed_150 : decode cX4_changed 150 = .ok (.iload_n 2, 1) := by decide +kernel
theorem dX4_changed_151 : decode cX4_changed 151 = .ok (.iastore, 1) := by decide +kernel
theorem dX4_changed_152 : decode cX4_changed 152 = .ok (.goto 29, 3) := by decide +kernel
theorem dX4_changed_155 : decode cX4_changed 155 = .ok (.iload_n 2, 1) := by decide +kernel
theorem dX4_changed_156 : decode cX4_changed 156 = .ok (.aload_n 0, 1) := by decide +kernel
theorem dX4_changed_157 : decode cX4_changed 157 = .ok (.getfield 15, 3) := by decide +kernel
theorem dX4_changed_160 : decode cX4_changed 160 = .ok (.iconst 0, 1) := by decide +kernel
theorem dX4_changed_161 : decode cX4_changed 161 = .ok (.iaload, 1) := by decide +kernel
theorem dX4_changed_162 : decode cX4_changed 162 = .ok (.iadd, 1) := by decide +kernel
theorem dX4_changed_163 : decode cX4_changed 163 = .ok (.istore_n 3, 1) := by decide +kernel
theorem dX4_changed_164 : decode cX4_changed 164 = .ok (.aload_n 0, 1) := by decide +kernel
theorem dX4_changed_165 : decode cX4_changed 165 = .ok (.iconst 1, 1) := by decide +kernel
theorem dX4_changed_166 : decode cX4_changed 166 = .ok (.iload_n 3, 1) := by decide +kernel
theorem dX4_changed_167 : decode cX4_changed 167 = .ok (.sipush 255, 3) := by decide +kernel
theorem dX4_changed_170 : decode cX4_changed 170 = .ok (.if_icmp .le 7, 3) := by decide +kernel
theorem dX4_changed_177 : decode cX4_changed 177 = .ok (.iconst 0, 1) := by decide +kernel
theorem dX4_changed_178 : decode cX4_changed 178 = .ok (.invokevirtual 183, 3) := by decide +kernel
theorem dX4_changed_173 : decode cX4_changed 173 = .ok (.iconst 1, 1) := by decide +kernel
theorem dX4_changed_174 : decode cX4_changed 174 = .ok (.goto 4, 3) := by decide +kernel
theorem dX4_doEnding_0 : decode cX4_doEnding 0 = .ok (.iload_n 1, 1) := by decide +kernel
theorem dX4_doEnding_1 : decode cX4_doEnding 1 = .ok (.ifCond .ne 5, 3) := by decide +kernel
theorem dX4_doEnding_6 : decode cX4_doEnding 6 = .ok (.iload_n 1, 1) := by decide +kernel
theorem dX4_doEnding_7 : decode cX4_doEnding 7 = .ok (.iconst 3, 1) := by decide +kernel
theorem dX4_doEnding_8 : decode cX4_doEnding 8 = .ok (.if_icmp .ne 13, 3) := by decide +kernel
theorem dX4_doEnding_21 : decode cX4_doEnding 21 = .ok (.iload_n 1, 1) := by decide +kernel
theorem dX4_doEnding_22 : decode cX4_doEnding 22 = .ok (.iconst 2, 1) := by decide +kernel
theorem dX4_doEnding_23 : decode cX4_doEnding 23 = .ok (.if_icmp .ne 17, 3) := by decide +kernel
theorem dX4_doEnding_40 : decode cX4_doEnding 40 = .ok (.aload_n 0, 1) := by decide +kernel
theorem dX4_doEnding_41 : decode cX4_doEnding 41 = .ok (.invokevirtual 232, 3) := by decide +kernel
theorem dX4_doEnding_44 : decode cX4_doEnding 44 = .ok (.bipush 6, 2) := by decide +kernel
theorem dX4_doEnding_46 : decode cX4_doEnding 46 = .ok (.ireturn, 1) := by decide +kernel
theorem dX4_doEnding_26 : decode cX4_doEnding 26 = .ok (.aload_n 0, 1) := by decide +kernel
theorem dX4_doEnding_27 : decode cX4_doEnding 27 = .ok (.getfield 15, 3) := by decide +kernel
theorem dX4_doEnding_30 : decode cX4_doEnding 30 = .ok (.iconst 5, 1) := by decide +kernel
theorem dX4_doEnding_31 : decode cX4_doEnding 31 = .ok (.aload_n 0, 1) := by decide +kernel
theorem dX4_doEnding_32 : decode cX4_doEnding 32 = .ok (.invokevirtual 153, 3) := by decide +kernel
theorem dX4_doEnding_35 : decode cX4_doEnding 35 = .ok (.sipush 199, 3) := by decide +kernel
theorem dX4_doEnding_38 : decode cX4_doEnding 38 = .ok (.iand, 1) := by decide +kernel
theorem dX4_doEnding_39 : decode cX4_doEnding 39 = .ok (.iastore, 1) := by decide +kernel
theorem dX4_doEnding_11 : decode cX4_doEnding 11 = .ok (.aload_n 0, 1) := by decide +kernel
theorem dX4_doEnding_12 : decode cX4_doEnding 12 = .ok (.getfield 15, 3) := by decide +kernel
theorem dX4_doEnding_15 : decode cX4_doEnding 15 = .ok (.bipush 6, 2) := by decide +kernel
theorem dX4_doEnding_17 : decode cX4_doEnding 17 = .ok (.iconst 1, 1) := by decide +kernel
theorem dX4_doEnding_18 : decode cX4_doEnding 18 = .ok (.iastore, 1) := by decide +kernel
theorem dX4_doEnding_19 : decode cX4_doEnding 19 = .ok (.iconst 2, 1) := by decide +kernel
theorem dX4_doEnding_20 : decode cX4_doEnding 20 = .ok (.ireturn, 1) := by decide +kernel
theorem dX4_doEnding_4 : decode cX4_doEnding 4 = .ok (.iconst 2, 1) := by decide +kernel
theorem dX4_doEnding_5 : decode cX4_doEnding 5 = .ok (.ireturn, 1) := by decide +kernel
set_option maxHeartbeats 4000000 in
set_option maxRecDepth 100000 in
theorem c_s_byteAt (l : Launch) (D : va_G) (cA cB : ClassId) (h0 : Nat) (hn : Nat) (hs : Nat) (hd : Nat) (hp : Nat) (hc : Nat) (wy : Int32) (dn : Int32) (f : Nat → Int32) (st : Nat → Int32) (x : Int32) (hf : okN f) (hst : ∀ j, j < 4096 → ∃ k : Nat, k < 256 ∧ st j = nI k) : CI l yX4_byteAt cX4_byteAt 2 (some .int) 0 0 0 0 D cA cB [.ref h0, .int x] [(h0, .inr (4, [.ref hn, .ref hs, .ref hd, .ref hp, .ref hc, .int wy, .int dn])), (hn, .inl (cA, 34, .inl f)), (hs, .inl (cA, 4096, .inl st))] (fun r W1 => ∃ (wy2 : Int32) (dn2 : Int32) (f2 : Nat → Int32) (st2 : Nat → Int32) (rk : Nat), r = nI rk ∧ (okN f2) ∧ (∀ j, j < 4096 → ∃ k : Nat, k < 256 ∧ st2 j = nI k) ∧ (rk < 256) ∧ W1 = [(h0, .inr (4, [.ref hn, .ref hs, .ref hd, .ref hp, .ref hc, .int wy2, .int dn2])), (hn, .inl (cA, 34, .inl f2)), (hs, .inl (cA, 4096, .inl st2))]) := by
  refine mkI (lv0 := [(0, .ref h0), (1, .int x)]) (by decide) (Nat.le_of_ble_eq_true rfl) rfl ?_
  intro p e s m below meth c A ls X hr hlocks hnm hE hA hP hD hS hl
  have hx := X.1
  have hb := X.2.1
  refine lv_aload_n hx hb dX4_byteAt_0 rfl (lv_at hl 0 rfl) ?_
  refine k_get (C := RX4) (T := TX4) (N := 7) (ci := 4) (v := .ref hs) X hE hP 0 rfl rfl iX4 1 (by decide) w_63 rfl dX4_byteAt_1 ?_
  refine lv_iload_n hx hb dX4_byteAt_4 rfl (lv_at hl 1 rfl) ?_
  refine lv_sipush (v := 4095) hx hb dX4_byteAt_5 (by decide) ?_
  refine lv_iand hx hb dX4_byteAt_8 ?_
  obtain ⟨k_1, hk_1, ek_1⟩ := pk_andE x (m := 4095) 12 (by decide)
  have hk_1 : k_1 < 4096 := hk_1
  refine tk (y := nI k_1) ek_1 ?_
  obtain ⟨k_2, hk_2, ek_2⟩ := hst k_1 (by omega)
  refine k_ald (v := nI k_2) X hE hP 2 rfl k_1 rfl (by omega) (by decide) ek_2 dX4_byteAt_9 ?_
  exact endI X hr hlocks hP hD hS dX4_byteAt_10 ⟨wy, dn, f, st, k_2, rfl, hf, hst, (by omega), rfl⟩
set_option maxHeartbeats 4000000 in
set_option maxRecDepth 100000 in
theorem c_s_placeAt (l : Launch) (D : va_G) (cA cB : ClassId) (h0 : Nat) (hn : Nat) (hs : Nat) (hd : Nat) (hp : Nat) (hc : Nat) (wy : Int32) (dn : Int32) (f : Nat → Int32) (st : Nat → Int32) (x : Int32) (hf : okN f) (hst : ∀ j, j < 4096 → ∃ k : Nat, k < 256 ∧ st j = nI k) : CI l yX4_placeAt cX4_placeAt 2 (some .int) 1 21 0 0 D cA cB [.ref h0, .int x] [(h0, .inr (4, [.ref hn, .ref hs, .ref hd, .ref hp, .ref hc, .int wy, .int dn])), (hn, .inl (cA, 34, .inl f)), (hs, .inl (cA, 4096, .inl st))] (fun r W1 => ∃ (wy2 : Int32) (dn2 : Int32) (f2 : Nat → Int32) (st2 : Nat → Int32) (rk : Nat), r = nI rk ∧ (okN f2) ∧ (∀ j, j < 4096 → ∃ k : Nat, k < 256 ∧ st2 j = nI k) ∧ (rk < 4096) ∧ W1 = [(h0, .inr (4, [.ref hn, .ref hs, .ref hd, .ref hp, .ref hc, .int wy2, .int dn2])), (hn, .inl (cA, 34, .inl f2)), (hs, .inl (cA, 4096, .inl st2))]) := by
  refine mkI (lv0 := [(0, .ref h0), (1, .int x)]) (by decide) (Nat.le_of_ble_eq_true rfl) rfl ?_
  intro p e s m below meth c A ls X hr hlocks hnm hE hA hP hD hS hl
  have hx := X.1
  have hb := X.2.1
  refine lv_aload_n hx hb dX4_placeAt_0 rfl (lv_at hl 0 rfl) ?_
  refine lv_iload_n hx hb dX4_placeAt_1 rfl (lv_at hl 1 rfl) ?_
  refine kVi (n3 := 1) (As := [.int x]) (rest := []) X hl.1 hE hP hD hS hA [(h0, .inr (4, [.ref hn, .ref hs, .ref hd, .ref hp, .ref hc, .int wy, .int dn])), (hn, .inl (cA, 34, .inl f)), (hs, .inl (cA, 4096, .inl st))] [] [0, 1, 2] [] rfl rfl rfl (by decide +kernel) (by decide +kernel) (by decide +kernel) (c_s_byteAt l D cA cB h0 hn hs hd hp hc wy dn f st x hf hst) w_65 w_66 w_64 w_67 w_68 0 (ci := 4) (T := TX4) (N := 7) rfl rfl (by decide +kernel) rfl rfl (Nat.le_of_ble_eq_true rfl) ⟨(Nat.le_of_ble_eq_true rfl), (Nat.le_of_ble_eq_true rfl)⟩ ⟨(Nat.le_of_ble_eq_true rfl), (Nat.le_of_ble_eq_true rfl)⟩ dX4_placeAt_2 (fun r W1 H locs hw hP hD hS => ?_)
  obtain ⟨wy2_1, dn2_2, f2_3, st2_4, rk_5, rfl, hf_6, hf_7, hf_8, rfl⟩ := hw
  have hP : va_P D classes [(h0, .inr (4, [.ref hn, .ref hs, .ref hd, .ref hp, .ref hc, .int wy2_1, .int dn2_2])), (hn, .inl (cA, 34, .inl f2_3)), (hs, .inl (cA, 4096, .inl st2_4))] H := hP
  have hD : va_D A [(h0, .inr (4, [.ref hn, .ref hs, .ref hd, .ref hp, .ref hc, .int wy2_1, .int dn2_2])), (hn, .inl (cA, 34, .inl f2_3)), (hs, .inl (cA, 4096, .inl st2_4))] := hD
  refine lv_sipush (v := 256) hx hb dX4_placeAt_5 (by decide) ?_
  refine lv_aload_n hx hb dX4_placeAt_8 rfl (lv_at hl 0 rfl) ?_
  refine lv_iload_n hx hb dX4_placeAt_9 rfl (lv_at hl 1 rfl) ?_
  refine lv_iconst (v := 1) hx hb dX4_placeAt_10 (by decide) ?_
  refine lv_iadd hx hb dX4_placeAt_11 ?_
  refine kVi (n3 := 1) (As := [.int (x + 1)]) (rest := [.int 256, .int (nI rk_5)]) X hl.1 hE hP hD hS hA [(h0, .inr (4, [.ref hn, .ref hs, .ref hd, .ref hp, .ref hc, .int wy2_1, .int dn2_2])), (hn, .inl (cA, 34, .inl f2_3)), (hs, .inl (cA, 4096, .inl st2_4))] [] [0, 1, 2] [] rfl rfl rfl (by decide +kernel) (by decide +kernel) (by decide +kernel) (c_s_byteAt l D cA cB h0 hn hs hd hp hc wy2_1 dn2_2 f2_3 st2_4 (x + 1) hf_6 hf_7) w_65 w_66 w_64 w_67 w_68 0 (ci := 4) (T := TX4) (N := 7) rfl rfl (by decide +kernel) rfl rfl (Nat.le_of_ble_eq_true rfl) ⟨(Nat.le_of_ble_eq_true rfl), (Nat.le_of_ble_eq_true rfl)⟩ ⟨(Nat.le_of_ble_eq_true rfl), (Nat.le_of_ble_eq_true rfl)⟩ dX4_placeAt_12 (fun r W1 H locs hw hP hD hS => ?_)
  obtain ⟨wy2_9, dn2_10, f2_11, st2_12, rk_13, rfl, hf_14, hf_15, hf_16, rfl⟩ := hw
  have hP : va_P D classes [(h0, .inr (4, [.ref hn, .ref hs, .ref hd, .ref hp, .ref hc, .int wy2_9, .int dn2_10])), (hn, .inl (cA, 34, .inl f2_11)), (hs, .inl (cA, 4096, .inl st2_12))] H := hP
  have hD : va_D A [(h0, .inr (4, [.ref hn, .ref hs, .ref hd, .ref hp, .ref hc, .int wy2_9, .int dn2_10])), (hn, .inl (cA, 34, .inl f2_11)), (hs, .inl (cA, 4096, .inl st2_12))] := hD
  refine lv_imul hx hb dX4_placeAt_15 ?_
  refine tk (y := nI (256 * rk_13)) (pk_mul 256 rk_13) ?_
  refine lv_iadd hx hb dX4_placeAt_16 ?_
  refine tk (y := nI (rk_5 + 256 * rk_13)) (nI_add rk_5 (256 * rk_13)) ?_
  refine lv_sipush (v := 4095) hx hb dX4_placeAt_17 (by decide) ?_
  refine lv_iand hx hb dX4_placeAt_20 ?_
  obtain ⟨k_17, hk_17, ek_17⟩ := pk_andE (nI (rk_5 + 256 * rk_13)) (m := 4095) 12 (by decide)
  have hk_17 : k_17 < 4096 := hk_17
  refine tk (y := nI k_17) ek_17 ?_
  exact endI X hr hlocks hP hD hS dX4_placeAt_21 ⟨wy2_9, dn2_10, f2_11, st2_12, k_17, rfl, hf_14, hf_15, (by omega), rfl⟩
set_option maxHeartbeats 4000000 in
set_option maxRecDepth 100000 in
theorem c_s_takeByte (l : Launch) (D : va_G) (cA cB : ClassId) (h0 : Nat) (hn : Nat) (hs : Nat) (hd : Nat) (hp : Nat) (hc : Nat) (wy : Int32) (dn : Int32) (f : Nat → Int32) (st : Nat → Int32) (hf : okN f) (hst : ∀ j, j < 4096 → ∃ k : Nat, k < 256 ∧ st j = nI k) : CI l yX4_takeByte cX4_takeByte 2 (some .int) 1 21 0 0 D cA cB [.ref h0] [(h0, .inr (4, [.ref hn, .ref hs, .ref hd, .ref hp, .ref hc, .int wy, .int dn])), (hn, .inl (cA, 34, .inl f)), (hs, .inl (cA, 4096, .inl st))] (fun r W1 => ∃ (wy2 : Int32) (dn2 : Int32) (f2 : Nat → Int32) (st2 : Nat → Int32) (rk : Nat), r = nI rk ∧ (okN f2) ∧ (∀ j, j < 4096 → ∃ k : Nat, k < 256 ∧ st2 j = nI k) ∧ (rk < 256) ∧ W1 = [(h0, .inr (4, [.ref hn, .ref hs, .ref hd, .ref hp, .ref hc, .int wy2, .int dn2])), (hn, .inl (cA, 34, .inl f2)), (hs, .inl (cA, 4096, .inl st2))]) := by
  refine mkI (lv0 := [(0, .ref h0)]) (by decide) (Nat.le_of_ble_eq_true rfl) rfl ?_
  intro p e s m below meth c A ls X hr hlocks hnm hE hA hP hD hS hl
  have hx := X.1
  have hb := X.2.1
  refine lv_aload_n hx hb dX4_takeByte_0 rfl (lv_at hl 0 rfl) ?_
  refine lv_aload_n hx hb dX4_takeByte_1 rfl (lv_at hl 0 rfl) ?_
  refine k_get (C := RX4) (T := TX4) (N := 7) (ci := 4) (v := .ref hn) X hE hP 0 rfl rfl iX4 0 (by decide) w_69 rfl dX4_takeByte_2 ?_
  refine lv_iconst (v := 4) hx hb dX4_takeByte_5 (by decide) ?_
  obtain ⟨k_1, hk_1, ek_1⟩ := hf.at 4 4096 (by decide) rfl
  refine k_ald (v := nI k_1) X hE hP 1 rfl 4 rfl (by decide) (by decide) ek_1 dX4_takeByte_6 ?_
  refine kVi (n3 := 1) (As := [.int (nI k_1)]) (rest := []) X hl.1 hE hP hD hS hA [(h0, .inr (4, [.ref hn, .ref hs, .ref hd, .ref hp, .ref hc, .int wy, .int dn])), (hn, .inl (cA, 34, .inl f)), (hs, .inl (cA, 4096, .inl st))] [] [0, 1, 2] [] rfl rfl rfl (by decide +kernel) (by decide +kernel) (by decide +kernel) (c_s_byteAt l D cA cB h0 hn hs hd hp hc wy dn f st (nI k_1) hf hst) w_65 w_66 w_64 w_67 w_68 0 (ci := 4) (T := TX4) (N := 7) rfl rfl (by decide +kernel) rfl rfl (Nat.le_of_ble_eq_true rfl) ⟨(Nat.le_of_ble_eq_true rfl), (Nat.le_of_ble_eq_true rfl)⟩ ⟨(Nat.le_of_ble_eq_true rfl), (Nat.le_of_ble_eq_true rfl)⟩ dX4_takeByte_7 (fun r W1 H locs hw hP hD hS => ?_)
  obtain ⟨wy2_2, dn2_3, f2_4, st2_5, rk_6, rfl, hf_7, hf_8, hf_9, rfl⟩ := hw
  have hP : va_P D classes [(h0, .inr (4, [.ref hn, .ref hs, .ref hd, .ref hp, .ref hc, .int wy2_2, .int dn2_3])), (hn, .inl (cA, 34, .inl f2_4)), (hs, .inl (cA, 4096, .inl st2_5))] H := hP
  have hD : va_D A [(h0, .inr (4, [.ref hn, .ref hs, .ref hd, .ref hp, .ref hc, .int wy2_2, .int dn2_3])), (hn, .inl (cA, 34, .inl f2_4)), (hs, .inl (cA, 4096, .inl st2_5))] := hD
  refine lv_istore_n (lv' := [(1, .int (nI rk_6)), (0, .ref h0)]) hx hb dX4_takeByte_10 rfl hl (by decide) rfl (fun ls hl => ?_)
  refine lv_aload_n hx hb dX4_takeByte_11 rfl (lv_at hl 1 rfl) ?_
  refine k_get (C := RX4) (T := TX4) (N := 7) (ci := 4) (v := .ref hn) X hE hP 0 rfl rfl iX4 0 (by decide) w_69 rfl dX4_takeByte_12 ?_
  refine lv_iconst (v := 4) hx hb dX4_takeByte_15 (by decide) ?_
  refine lv_aload_n hx hb dX4_takeByte_16 rfl (lv_at hl 1 rfl) ?_
  refine k_get (C := RX4) (T := TX4) (N := 7) (ci := 4) (v := .ref hn) X hE hP 0 rfl rfl iX4 0 (by decide) w_69 rfl dX4_takeByte_17 ?_
  refine lv_iconst (v := 4) hx hb dX4_takeByte_20 (by decide) ?_
  obtain ⟨k_10, hk_10, ek_10⟩ := hf_7.at 4 4096 (by decide) rfl
  refine k_ald (v := nI k_10) X hE hP 1 rfl 4 rfl (by decide) (by decide) ek_10 dX4_takeByte_21 ?_
  refine lv_iconst (v := 1) hx hb dX4_takeByte_22 (by decide) ?_
  refine lv_iadd hx hb dX4_takeByte_23 ?_
  refine tk (y := nI (k_10 + 1)) (nI_add k_10 1) ?_
  refine lv_sipush (v := 4095) hx hb dX4_takeByte_24 (by decide) ?_
  refine lv_iand hx hb dX4_takeByte_27 ?_
  obtain ⟨k_11, hk_11, ek_11⟩ := pk_andE (nI (k_10 + 1)) (m := 4095) 12 (by decide)
  have hk_11 : k_11 < 4096 := hk_11
  refine tk (y := nI k_11) ek_11 ?_
  refine k_ast X hE hP hD hS 1 rfl 4 rfl (by decide) (by decide) [(h0, .inr (4, [.ref hn, .ref hs, .ref hd, .ref hp, .ref hc, .int wy2_2, .int dn2_3])), (hn, .inl (cA, 34, .inl (upd f2_4 4 (nI k_11)))), (hs, .inl (cA, 4096, .inl st2_5))] rfl dX4_takeByte_28 (fun H locs hP hD hS => ?_)
  obtain ⟨g_12, eg_12⟩ : ∃ z, z = upd f2_4 4 (nI k_11) := ⟨_, rfl⟩
  rw [← eg_12] at hP hD
  have hg_12 := okN_upd hf_7 4 (nI k_11) (inR_of (k := k_11) rfl (by omega))
  rw [← eg_12] at hg_12
  have hP : va_P D classes [(h0, .inr (4, [.ref hn, .ref hs, .ref hd, .ref hp, .ref hc, .int wy2_2, .int dn2_3])), (hn, .inl (cA, 34, .inl g_12)), (hs, .inl (cA, 4096, .inl st2_5))] H := hP
  have hD : va_D A [(h0, .inr (4, [.ref hn, .ref hs, .ref hd, .ref hp, .ref hc, .int wy2_2, .int dn2_3])), (hn, .inl (cA, 34, .inl g_12)), (hs, .inl (cA, 4096, .inl st2_5))] := hD
  refine lv_iload_n hx hb dX4_takeByte_29 rfl (lv_at hl 0 rfl) ?_
  exact endI X hr hlocks hP hD hS dX4_takeByte_30 ⟨wy2_2, dn2_3, g_12, st2_5, rk_6, rfl, hg_12, hf_8, (by omega), rfl⟩
set_option maxHeartbeats 4000000 in
set_option maxRecDepth 100000 in
theorem c_s_takeWord (l : Launch) (D : va_G) (cA cB : ClassId) (h0 : Nat) (hn : Nat) (hs : Nat) (hd : Nat) (hp : Nat) (hc : Nat) (wy : Int32) (dn : Int32) (f : Nat → Int32) (st : Nat → Int32) (hf : okN f) (hst : ∀ j, j < 4096 → ∃ k : Nat, k < 256 ∧ st j = nI k) : CI l yX4_takeWord cX4_takeWord 2 (some .int) 2 42 0 0 D cA cB [.ref h0] [(h0, .inr (4, [.ref hn, .ref hs, .ref hd, .ref hp, .ref hc, .int wy, .int dn])), (hn, .inl (cA, 34, .inl f)), (hs, .inl (cA, 4096, .inl st))] (fun r W1 => ∃ (wy2 : Int32) (dn2 : Int32) (f2 : Nat → Int32) (st2 : Nat → Int32) (rk : Nat), r = nI rk ∧ (okN f2) ∧ (∀ j, j < 4096 → ∃ k : Nat, k < 256 ∧ st2 j = nI k) ∧ (rk < 65536) ∧ W1 = [(h0, .inr (4, [.ref hn, .ref hs, .ref hd, .ref hp, .ref hc, .int wy2, .int dn2])), (hn, .inl (cA, 34, .inl f2)), (hs, .inl (cA, 4096, .inl st2))]) := by
  refine mkI (lv0 := [(0, .ref h0)]) (by decide) (Nat.le_of_ble_eq_true rfl) rfl ?_
  intro p e s m below meth c A ls X hr hlocks hnm hE hA hP hD hS hl
  have hx := X.1
  have hb := X.2.1
  refine lv_aload_n hx hb dX4_takeWord_0 rfl (lv_at hl 0 rfl) ?_
  refine kVi (n3 := 0) (As := []) (rest := []) X hl.1 hE hP hD hS hA [(h0, .inr (4, [.ref hn, .ref hs, .ref hd, .ref hp, .ref hc, .int wy, .int dn])), (hn, .inl (cA, 34, .inl f)), (hs, .inl (cA, 4096, .inl st))] [] [0, 1, 2] [] rfl rfl rfl (by decide +kernel) (by decide +kernel) (by decide +kernel) (c_s_takeByte l D cA cB h0 hn hs hd hp hc wy dn f st hf hst) w_71 w_66 w_70 w_72 w_73 0 (ci := 4) (T := TX4) (N := 7) rfl rfl (by decide +kernel) rfl rfl (Nat.le_of_ble_eq_true rfl) ⟨(Nat.le_of_ble_eq_true rfl), (Nat.le_of_ble_eq_true rfl)⟩ ⟨(Nat.le_of_ble_eq_true rfl), (Nat.le_of_ble_eq_true rfl)⟩ dX4_takeWord_1 (fun r W1 H locs hw hP hD hS => ?_)
  obtain ⟨wy2_1, dn2_2, f2_3, st2_4, rk_5, rfl, hf_6, hf_7, hf_8, rfl⟩ := hw
  have hP : va_P D classes [(h0, .inr (4, [.ref hn, .ref hs, .ref hd, .ref hp, .ref hc, .int wy2_1, .int dn2_2])), (hn, .inl (cA, 34, .inl f2_3)), (hs, .inl (cA, 4096, .inl st2_4))] H := hP
  have hD : va_D A [(h0, .inr (4, [.ref hn, .ref hs, .ref hd, .ref hp, .ref hc, .int wy2_1, .int dn2_2])), (hn, .inl (cA, 34, .inl f2_3)), (hs, .inl (cA, 4096, .inl st2_4))] := hD
  refine lv_istore_n (lv' := [(1, .int (nI rk_5)), (0, .ref h0)]) hx hb dX4_takeWord_4 rfl hl (by decide) rfl (fun ls hl => ?_)
  refine lv_iload_n hx hb dX4_takeWord_5 rfl (lv_at hl 0 rfl) ?_
  refine lv_sipush (v := 256) hx hb dX4_takeWord_6 (by decide) ?_
  refine lv_aload_n hx hb dX4_takeWord_9 rfl (lv_at hl 1 rfl) ?_
  refine kVi (n3 := 0) (As := []) (rest := [.int 256, .int (nI rk_5)]) X hl.1 hE hP hD hS hA [(h0, .inr (4, [.ref hn, .ref hs, .ref hd, .ref hp, .ref hc, .int wy2_1, .int dn2_2])), (hn, .inl (cA, 34, .inl f2_3)), (hs, .inl (cA, 4096, .inl st2_4))] [] [0, 1, 2] [] rfl rfl rfl (by decide +kernel) (by decide +kernel) (by decide +kernel) (c_s_takeByte l D cA cB h0 hn hs hd hp hc wy2_1 dn2_2 f2_3 st2_4 hf_6 hf_7) w_71 w_66 w_70 w_72 w_73 0 (ci := 4) (T := TX4) (N := 7) rfl rfl (by decide +kernel) rfl rfl (Nat.le_of_ble_eq_true rfl) ⟨(Nat.le_of_ble_eq_true rfl), (Nat.le_of_ble_eq_true rfl)⟩ ⟨(Nat.le_of_ble_eq_true rfl), (Nat.le_of_ble_eq_true rfl)⟩ dX4_takeWord_10 (fun r W1 H locs hw hP hD hS => ?_)
  obtain ⟨wy2_9, dn2_10, f2_11, st2_12, rk_13, rfl, hf_14, hf_15, hf_16, rfl⟩ := hw
  have hP : va_P D classes [(h0, .inr (4, [.ref hn, .ref hs, .ref hd, .ref hp, .ref hc, .int wy2_9, .int dn2_10])), (hn, .inl (cA, 34, .inl f2_11)), (hs, .inl (cA, 4096, .inl st2_12))] H := hP
  have hD : va_D A [(h0, .inr (4, [.ref hn, .ref hs, .ref hd, .ref hp, .ref hc, .int wy2_9, .int dn2_10])), (hn, .inl (cA, 34, .inl f2_11)), (hs, .inl (cA, 4096, .inl st2_12))] := hD
  refine lv_imul hx hb dX4_takeWord_13 ?_
  refine tk (y := nI (256 * rk_13)) (pk_mul 256 rk_13) ?_
  refine lv_iadd hx hb dX4_takeWord_14 ?_
  refine tk (y := nI (rk_5 + 256 * rk_13)) (nI_add rk_5 (256 * rk_13)) ?_
  exact endI X hr hlocks hP hD hS dX4_takeWord_15 ⟨wy2_9, dn2_10, f2_11, st2_12, (rk_5 + 256 * rk_13), rfl, hf_14, hf_15, (by omega), rfl⟩
set_option maxHeartbeats 4000000 in
set_option maxRecDepth 100000 in
theorem c_s_pointerAt (l : Launch) (D : va_G) (cA cB : ClassId) (h0 : Nat) (hn : Nat) (hs : Nat) (hd : Nat) (hp : Nat) (hc : Nat) (wy : Int32) (dn : Int32) (f : Nat → Int32) (st : Nat → Int32) (x : Int32) (hf : okN f) (hst : ∀ j, j < 4096 → ∃ k : Nat, k < 256 ∧ st j = nI k) : CI l yX4_pointerAt cX4_pointerAt 2 (some .int) 1 21 0 0 D cA cB [.ref h0, .int x] [(h0, .inr (4, [.ref hn, .ref hs, .ref hd, .ref hp, .ref hc, .int wy, .int dn])), (hn, .inl (cA, 34, .inl f)), (hs, .inl (cA, 4096, .inl st))] (fun r W1 => ∃ (wy2 : Int32) (dn2 : Int32) (f2 : Nat → Int32) (st2 : Nat → Int32) (rk : Nat), r = nI rk ∧ (okN f2) ∧ (∀ j, j < 4096 → ∃ k : Nat, k < 256 ∧ st2 j = nI k) ∧ (rk < 65536) ∧ W1 = [(h0, .inr (4, [.ref hn, .ref hs, .ref hd, .ref hp, .ref hc, .int wy2, .int dn2])), (hn, .inl (cA, 34, .inl f2)), (hs, .inl (cA, 4096, .inl st2))]) := by
  refine mkI (lv0 := [(0, .ref h0), (1, .int x)]) (by decide) (Nat.le_of_ble_eq_true rfl) rfl ?_
  intro p e s m below meth c A ls X hr hlocks hnm hE hA hP hD hS hl
  have hx := X.1
  have hb := X.2.1
  refine lv_aload_n hx hb dX4_pointerAt_0 rfl (lv_at hl 0 rfl) ?_
  refine lv_iload_n hx hb dX4_pointerAt_1 rfl (lv_at hl 1 rfl) ?_
  refine kVi (n3 := 1) (As := [.int x]) (rest := []) X hl.1 hE hP hD hS hA [(h0, .inr (4, [.ref hn, .ref hs, .ref hd, .ref hp, .ref hc, .int wy, .int dn])), (hn, .inl (cA, 34, .inl f)), (hs, .inl (cA, 4096, .inl st))] [] [0, 1, 2] [] rfl rfl rfl (by decide +kernel) (by decide +kernel) (by decide +kernel) (c_s_byteAt l D cA cB h0 hn hs hd hp hc wy dn f st x hf hst) w_65 w_66 w_64 w_67 w_68 0 (ci := 4) (T := TX4) (N := 7) rfl rfl (by decide +kernel) rfl rfl (Nat.le_of_ble_eq_true rfl) ⟨(Nat.le_of_ble_eq_true rfl), (Nat.le_of_ble_eq_true rfl)⟩ ⟨(Nat.le_of_ble_eq_true rfl), (Nat.le_of_ble_eq_true rfl)⟩ dX4_pointerAt_2 (fun r W1 H locs hw hP hD hS => ?_)
  obtain ⟨wy2_1, dn2_2, f2_3, st2_4, rk_5, rfl, hf_6, hf_7, hf_8, rfl⟩ := hw
  have hP : va_P D classes [(h0, .inr (4, [.ref hn, .ref hs, .ref hd, .ref hp, .ref hc, .int wy2_1, .int dn2_2])), (hn, .inl (cA, 34, .inl f2_3)), (hs, .inl (cA, 4096, .inl st2_4))] H := hP
  have hD : va_D A [(h0, .inr (4, [.ref hn, .ref hs, .ref hd, .ref hp, .ref hc, .int wy2_1, .int dn2_2])), (hn, .inl (cA, 34, .inl f2_3)), (hs, .inl (cA, 4096, .inl st2_4))] := hD
  refine lv_sipush (v := 256) hx hb dX4_pointerAt_5 (by decide) ?_
  refine lv_aload_n hx hb dX4_pointerAt_8 rfl (lv_at hl 0 rfl) ?_
  refine lv_iload_n hx hb dX4_pointerAt_9 rfl (lv_at hl 1 rfl) ?_
  refine lv_iconst (v := 1) hx hb dX4_pointerAt_10 (by decide) ?_
  refine lv_iadd hx hb dX4_pointerAt_11 ?_
  refine lv_sipush (v := 255) hx hb dX4_pointerAt_12 (by decide) ?_
  refine lv_iand hx hb dX4_pointerAt_15 ?_
  obtain ⟨k_9, hk_9, ek_9⟩ := pk_andE (x + 1) (m := 255) 8 (by decide)
  have hk_9 : k_9 < 256 := hk_9
  refine tk (y := nI k_9) ek_9 ?_
  refine kVi (n3 := 1) (As := [.int (nI k_9)]) (rest := [.int 256, .int (nI rk_5)]) X hl.1 hE hP hD hS hA [(h0, .inr (4, [.ref hn, .ref hs, .ref hd, .ref hp, .ref hc, .int wy2_1, .int dn2_2])), (hn, .inl (cA, 34, .inl f2_3)), (hs, .inl (cA, 4096, .inl st2_4))] [] [0, 1, 2] [] rfl rfl rfl (by decide +kernel) (by decide +kernel) (by decide +kernel) (c_s_byteAt l D cA cB h0 hn hs hd hp hc wy2_1 dn2_2 f2_3 st2_4 (nI k_9) hf_6 hf_7) w_65 w_66 w_64 w_67 w_68 0 (ci := 4) (T := TX4) (N := 7) rfl rfl (by decide +kernel) rfl rfl (Nat.le_of_ble_eq_true rfl) ⟨(Nat.le_of_ble_eq_true rfl), (Nat.le_of_ble_eq_true rfl)⟩ ⟨(Nat.le_of_ble_eq_true rfl), (Nat.le_of_ble_eq_true rfl)⟩ dX4_pointerAt_16 (fun r W1 H locs hw hP hD hS => ?_)
  obtain ⟨wy2_10, dn2_11, f2_12, st2_13, rk_14, rfl, hf_15, hf_16, hf_17, rfl⟩ := hw
  have hP : va_P D classes [(h0, .inr (4, [.ref hn, .ref hs, .ref hd, .ref hp, .ref hc, .int wy2_10, .int dn2_11])), (hn, .inl (cA, 34, .inl f2_12)), (hs, .inl (cA, 4096, .inl st2_13))] H := hP
  have hD : va_D A [(h0, .inr (4, [.ref hn, .ref hs, .ref hd, .ref hp, .ref hc, .int wy2_10, .int dn2_11])), (hn, .inl (cA, 34, .inl f2_12)), (hs, .inl (cA, 4096, .inl st2_13))] := hD
  refine lv_imul hx hb dX4_pointerAt_19 ?_
  refine tk (y := nI (256 * rk_14)) (pk_mul 256 rk_14) ?_
  refine lv_iadd hx hb dX4_pointerAt_20 ?_
  refine tk (y := nI (rk_5 + 256 * rk_14)) (nI_add rk_5 (256 * rk_14)) ?_
  exact endI X hr hlocks hP hD hS dX4_pointerAt_21 ⟨wy2_10, dn2_11, f2_12, st2_13, (rk_5 + 256 * rk_14), rfl, hf_15, hf_16, (by omega), rfl⟩
set_option maxHeartbeats 4000000 in
set_option maxRecDepth 100000 in
theorem c_s_findAddress (l : Launch) (D : va_G) (cA cB : ClassId) (h0 : Nat) (hn : Nat) (hs : Nat) (hd : Nat) (hp : Nat) (hc : Nat) (wy : Int32) (dn : Int32) (f : Nat → Int32) (st : Nat → Int32) (w : Nat) (hf : okN f) (hst : ∀ j, j < 4096 → ∃ k : Nat, k < 256 ∧ st j = nI k) (hw : w < 8) : CI l yX4_findAddress cX4_findAddress 2 (some .int) 3 63 0 0 D cA cB [.ref h0, .int (nI w)] [(h0, .inr (4, [.ref hn, .ref hs, .ref hd, .ref hp, .ref hc, .int wy, .int dn])), (hn, .inl (cA, 34, .inl f)), (hs, .inl (cA, 4096, .inl st))] (fun r W1 => ∃ (wy2 : Int32) (dn2 : Int32) (f2 : Nat → Int32) (st2 : Nat → Int32) (rk : Nat), r = nI rk ∧ (okN f2) ∧ (∀ j, j < 4096 → ∃ k : Nat, k < 256 ∧ st2 j = nI k) ∧ (rk < 4096) ∧ W1 = [(h0, .inr (4, [.ref hn, .ref hs, .ref hd, .ref hp, .ref hc, .int wy2, .int dn2])), (hn, .inl (cA, 34, .inl f2)), (hs, .inl (cA, 4096, .inl st2))]) := by
  refine mkI (lv0 := [(0, .ref h0), (1, .int (nI w))]) (by decide) (Nat.le_of_ble_eq_true rfl) rfl ?_
  intro p e s m below meth c A ls X hr hlocks hnm hE hA hP hD hS hl
  have hx := X.1
  have hb := X.2.1
  refine lv_iload_n hx hb dX4_findAddress_0 rfl (lv_at hl 1 rfl) ?_
  by_cases c_1_1 : (nI w) = 1
  · refine lv_tableIn (tgt := 40) (off := 39) hx hb dX4_findAddress_1 (by rw [c_1_1]; decide) (by rw [c_1_1]; decide) (by rw [c_1_1]; decide) (by decide) ?_
    refine lv_aload_n hx hb dX4_findAddress_40 rfl (lv_at hl 0 rfl) ?_
    refine kVi (n3 := 0) (As := []) (rest := []) X hl.1 hE hP hD hS hA [(h0, .inr (4, [.ref hn, .ref hs, .ref hd, .ref hp, .ref hc, .int wy, .int dn])), (hn, .inl (cA, 34, .inl f)), (hs, .inl (cA, 4096, .inl st))] [] [0, 1, 2] [] rfl rfl rfl (by decide +kernel) (by decide +kernel) (by decide +kernel) (c_s_takeByte l D cA cB h0 hn hs hd hp hc wy dn f st hf hst) w_71 w_66 w_70 w_72 w_73 0 (ci := 4) (T := TX4) (N := 7) rfl rfl (by decide +kernel) rfl rfl (Nat.le_of_ble_eq_true rfl) ⟨(Nat.le_of_ble_eq_true rfl), (Nat.le_of_ble_eq_true rfl)⟩ ⟨(Nat.le_of_ble_eq_true rfl), (Nat.le_of_ble_eq_true rfl)⟩ dX4_findAddress_41 (fun r W1 H locs hw hP hD hS => ?_)
    obtain ⟨wy2_2, dn2_3, f2_4, st2_5, rk_6, rfl, hf_7, hf_8, hf_9, rfl⟩ := hw
    have hP : va_P D classes [(h0, .inr (4, [.ref hn, .ref hs, .ref hd, .ref hp, .ref hc, .int wy2_2, .int dn2_3])), (hn, .inl (cA, 34, .inl f2_4)), (hs, .inl (cA, 4096, .inl st2_5))] H := hP
    have hD : va_D A [(h0, .inr (4, [.ref hn, .ref hs, .ref hd, .ref hp, .ref hc, .int wy2_2, .int dn2_3])), (hn, .inl (cA, 34, .inl f2_4)), (hs, .inl (cA, 4096, .inl st2_5))] := hD
    exact endI X hr hlocks hP hD hS dX4_findAddress_44 ⟨wy2_2, dn2_3, f2_4, st2_5, rk_6, rfl, hf_7, hf_8, (by omega), rfl⟩
  · skip
    by_cases c_1_10 : (nI w) = 2
    · refine lv_tableIn (tgt := 45) (off := 44) hx hb dX4_findAddress_1 (by rw [c_1_10]; decide) (by rw [c_1_10]; decide) (by rw [c_1_10]; decide) (by decide) ?_
      refine lv_aload_n hx hb dX4_findAddress_45 rfl (lv_at hl 0 rfl) ?_
      refine kVi (n3 := 0) (As := []) (rest := []) X hl.1 hE hP hD hS hA [(h0, .inr (4, [.ref hn, .ref hs, .ref hd, .ref hp, .ref hc, .int wy, .int dn])), (hn, .inl (cA, 34, .inl f)), (hs, .inl (cA, 4096, .inl st))] [] [0, 1, 2] [] rfl rfl rfl (by decide +kernel) (by decide +kernel) (by decide +kernel) (c_s_takeByte l D cA cB h0 hn hs hd hp hc wy dn f st hf hst) w_71 w_66 w_70 w_72 w_73 0 (ci := 4) (T := TX4) (N := 7) rfl rfl (by decide +kernel) rfl rfl (Nat.le_of_ble_eq_true rfl) ⟨(Nat.le_of_ble_eq_true rfl), (Nat.le_of_ble_eq_true rfl)⟩ ⟨(Nat.le_of_ble_eq_true rfl), (Nat.le_of_ble_eq_true rfl)⟩ dX4_findAddress_46 (fun r W1 H locs hw hP hD hS => ?_)
      obtain ⟨wy2_11, dn2_12, f2_13, st2_14, rk_15, rfl, hf_16, hf_17, hf_18, rfl⟩ := hw
      have hP : va_P D classes [(h0, .inr (4, [.ref hn, .ref hs, .ref hd, .ref hp, .ref hc, .int wy2_11, .int dn2_12])), (hn, .inl (cA, 34, .inl f2_13)), (hs, .inl (cA, 4096, .inl st2_14))] H := hP
      have hD : va_D A [(h0, .inr (4, [.ref hn, .ref hs, .ref hd, .ref hp, .ref hc, .int wy2_11, .int dn2_12])), (hn, .inl (cA, 34, .inl f2_13)), (hs, .inl (cA, 4096, .inl st2_14))] := hD
      refine lv_aload_n hx hb dX4_findAddress_49 rfl (lv_at hl 0 rfl) ?_
      refine k_get (C := RX4) (T := TX4) (N := 7) (ci := 4) (v := .ref hn) X hE hP 0 rfl rfl iX4 0 (by decide) w_69 rfl dX4_findAddress_50 ?_
      refine lv_iconst (v := 1) hx hb dX4_findAddress_53 (by decide) ?_
      obtain ⟨k_19, hk_19, ek_19⟩ := hf_16.at 1 256 (by decide) rfl
      refine k_ald (v := nI k_19) X hE hP 1 rfl 1 rfl (by decide) (by decide) ek_19 dX4_findAddress_54 ?_
      refine lv_iadd hx hb dX4_findAddress_55 ?_
      refine tk (y := nI (rk_15 + k_19)) (nI_add rk_15 k_19) ?_
      refine lv_sipush (v := 255) hx hb dX4_findAddress_56 (by decide) ?_
      refine lv_iand hx hb dX4_findAddress_59 ?_
      obtain ⟨k_20, hk_20, ek_20⟩ := pk_andE (nI (rk_15 + k_19)) (m := 255) 8 (by decide)
      have hk_20 : k_20 < 256 := hk_20
      refine tk (y := nI k_20) ek_20 ?_
      exact endI X hr hlocks hP hD hS dX4_findAddress_60 ⟨wy2_11, dn2_12, f2_13, st2_14, k_20, rfl, hf_16, hf_17, (by omega), rfl⟩
    · skip
      by_cases c_1_21 : (nI w) = 3
      · refine lv_tableIn (tgt := 61) (off := 60) hx hb dX4_findAddress_1 (by rw [c_1_21]; decide) (by rw [c_1_21]; decide) (by rw [c_1_21]; decide) (by decide) ?_
        refine lv_aload_n hx hb dX4_findAddress_61 rfl (lv_at hl 0 rfl) ?_
        refine kVi (n3 := 0) (As := []) (rest := []) X hl.1 hE hP hD hS hA [(h0, .inr (4, [.ref hn, .ref hs, .ref hd, .ref hp, .ref hc, .int wy, .int dn])), (hn, .inl (cA, 34, .inl f)), (hs, .inl (cA, 4096, .inl st))] [] [0, 1, 2] [] rfl rfl rfl (by decide +kernel) (by decide +kernel) (by decide +kernel) (c_s_takeWord l D cA cB h0 hn hs hd hp hc wy dn f st hf hst) w_75 w_66 w_74 w_76 w_77 0 (ci := 4) (T := TX4) (N := 7) rfl rfl (by decide +kernel) rfl rfl (Nat.le_of_ble_eq_true rfl) ⟨(Nat.le_of_ble_eq_true rfl), (Nat.le_of_ble_eq_true rfl)⟩ ⟨(Nat.le_of_ble_eq_true rfl), (Nat.le_of_ble_eq_true rfl)⟩ dX4_findAddress_62 (fun r W1 H locs hw hP hD hS => ?_)
        obtain ⟨wy2_22, dn2_23, f2_24, st2_25, rk_26, rfl, hf_27, hf_28, hf_29, rfl⟩ := hw
        have hP : va_P D classes [(h0, .inr (4, [.ref hn, .ref hs, .ref hd, .ref hp, .ref hc, .int wy2_22, .int dn2_23])), (hn, .inl (cA, 34, .inl f2_24)), (hs, .inl (cA, 4096, .inl st2_25))] H := hP
        have hD : va_D A [(h0, .inr (4, [.ref hn, .ref hs, .ref hd, .ref hp, .ref hc, .int wy2_22, .int dn2_23])), (hn, .inl (cA, 34, .inl f2_24)), (hs, .inl (cA, 4096, .inl st2_25))] := hD
        refine lv_sipush (v := 4095) hx hb dX4_findAddress_65 (by decide) ?_
        refine lv_iand hx hb dX4_findAddress_68 ?_
        obtain ⟨k_30, hk_30, ek_30⟩ := pk_andE (nI rk_26) (m := 4095) 12 (by decide)
        have hk_30 : k_30 < 4096 := hk_30
        refine tk (y := nI k_30) ek_30 ?_
        exact endI X hr hlocks hP hD hS dX4_findAddress_69 ⟨wy2_22, dn2_23, f2_24, st2_25, k_30, rfl, hf_27, hf_28, (by omega), rfl⟩
      · skip
        by_cases c_1_31 : (nI w) = 4
        · refine lv_tableIn (tgt := 70) (off := 69) hx hb dX4_findAddress_1 (by rw [c_1_31]; decide) (by rw [c_1_31]; decide) (by rw [c_1_31]; decide) (by decide) ?_
          refine lv_aload_n hx hb dX4_findAddress_70 rfl (lv_at hl 0 rfl) ?_
          refine kVi (n3 := 0) (As := []) (rest := []) X hl.1 hE hP hD hS hA [(h0, .inr (4, [.ref hn, .ref hs, .ref hd, .ref hp, .ref hc, .int wy, .int dn])), (hn, .inl (cA, 34, .inl f)), (hs, .inl (cA, 4096, .inl st))] [] [0, 1, 2] [] rfl rfl rfl (by decide +kernel) (by decide +kernel) (by decide +kernel) (c_s_takeWord l D cA cB h0 hn hs hd hp hc wy dn f st hf hst) w_75 w_66 w_74 w_76 w_77 0 (ci := 4) (T := TX4) (N := 7) rfl rfl (by decide +kernel) rfl rfl (Nat.le_of_ble_eq_true rfl) ⟨(Nat.le_of_ble_eq_true rfl), (Nat.le_of_ble_eq_true rfl)⟩ ⟨(Nat.le_of_ble_eq_true rfl), (Nat.le_of_ble_eq_true rfl)⟩ dX4_findAddress_71 (fun r W1 H locs hw hP hD hS => ?_)
          obtain ⟨wy2_32, dn2_33, f2_34, st2_35, rk_36, rfl, hf_37, hf_38, hf_39, rfl⟩ := hw
          have hP : va_P D classes [(h0, .inr (4, [.ref hn, .ref hs, .ref hd, .ref hp, .ref hc, .int wy2_32, .int dn2_33])), (hn, .inl (cA, 34, .inl f2_34)), (hs, .inl (cA, 4096, .inl st2_35))] H := hP
          have hD : va_D A [(h0, .inr (4, [.ref hn, .ref hs, .ref hd, .ref hp, .ref hc, .int wy2_32, .int dn2_33])), (hn, .inl (cA, 34, .inl f2_34)), (hs, .inl (cA, 4096, .inl st2_35))] := hD
          refine lv_aload_n hx hb dX4_findAddress_74 rfl (lv_at hl 0 rfl) ?_
          refine k_get (C := RX4) (T := TX4) (N := 7) (ci := 4) (v := .ref hn) X hE hP 0 rfl rfl iX4 0 (by decide) w_69 rfl dX4_findAddress_75 ?_
          refine lv_iconst (v := 1) hx hb dX4_findAddress_78 (by decide) ?_
          obtain ⟨k_40, hk_40, ek_40⟩ := hf_37.at 1 256 (by decide) rfl
          refine k_ald (v := nI k_40) X hE hP 1 rfl 1 rfl (by decide) (by decide) ek_40 dX4_findAddress_79 ?_
          refine lv_iadd hx hb dX4_findAddress_80 ?_
          refine tk (y := nI (rk_36 + k_40)) (nI_add rk_36 k_40) ?_
          refine lv_sipush (v := 4095) hx hb dX4_findAddress_81 (by decide) ?_
          refine lv_iand hx hb dX4_findAddress_84 ?_
          obtain ⟨k_41, hk_41, ek_41⟩ := pk_andE (nI (rk_36 + k_40)) (m := 4095) 12 (by decide)
          have hk_41 : k_41 < 4096 := hk_41
          refine tk (y := nI k_41) ek_41 ?_
          exact endI X hr hlocks hP hD hS dX4_findAddress_85 ⟨wy2_32, dn2_33, f2_34, st2_35, k_41, rfl, hf_37, hf_38, (by omega), rfl⟩
        · skip
          by_cases c_1_42 : (nI w) = 5
          · refine lv_tableIn (tgt := 86) (off := 85) hx hb dX4_findAddress_1 (by rw [c_1_42]; decide) (by rw [c_1_42]; decide) (by rw [c_1_42]; decide) (by decide) ?_
            refine lv_aload_n hx hb dX4_findAddress_86 rfl (lv_at hl 0 rfl) ?_
            refine kVi (n3 := 0) (As := []) (rest := []) X hl.1 hE hP hD hS hA [(h0, .inr (4, [.ref hn, .ref hs, .ref hd, .ref hp, .ref hc, .int wy, .int dn])), (hn, .inl (cA, 34, .inl f)), (hs, .inl (cA, 4096, .inl st))] [] [0, 1, 2] [] rfl rfl rfl (by decide +kernel) (by decide +kernel) (by decide +kernel) (c_s_takeWord l D cA cB h0 hn hs hd hp hc wy dn f st hf hst) w_75 w_66 w_74 w_76 w_77 0 (ci := 4) (T := TX4) (N := 7) rfl rfl (by decide +kernel) rfl rfl (Nat.le_of_ble_eq_true rfl) ⟨(Nat.le_of_ble_eq_true rfl), (Nat.le_of_ble_eq_true rfl)⟩ ⟨(Nat.le_of_ble_eq_true rfl), (Nat.le_of_ble_eq_true rfl)⟩ dX4_findAddress_87 (fun r W1 H locs hw hP hD hS => ?_)
            obtain ⟨wy2_43, dn2_44, f2_45, st2_46, rk_47, rfl, hf_48, hf_49, hf_50, rfl⟩ := hw
            have hP : va_P D classes [(h0, .inr (4, [.ref hn, .ref hs, .ref hd, .ref hp, .ref hc, .int wy2_43, .int dn2_44])), (hn, .inl (cA, 34, .inl f2_45)), (hs, .inl (cA, 4096, .inl st2_46))] H := hP
            have hD : va_D A [(h0, .inr (4, [.ref hn, .ref hs, .ref hd, .ref hp, .ref hc, .int wy2_43, .int dn2_44])), (hn, .inl (cA, 34, .inl f2_45)), (hs, .inl (cA, 4096, .inl st2_46))] := hD
            refine lv_aload_n hx hb dX4_findAddress_90 rfl (lv_at hl 0 rfl) ?_
            refine k_get (C := RX4) (T := TX4) (N := 7) (ci := 4) (v := .ref hn) X hE hP 0 rfl rfl iX4 0 (by decide) w_69 rfl dX4_findAddress_91 ?_
            refine lv_iconst (v := 2) hx hb dX4_findAddress_94 (by decide) ?_
            obtain ⟨k_51, hk_51, ek_51⟩ := hf_48.at 2 256 (by decide) rfl
            refine k_ald (v := nI k_51) X hE hP 1 rfl 2 rfl (by decide) (by decide) ek_51 dX4_findAddress_95 ?_
            refine lv_iadd hx hb dX4_findAddress_96 ?_
            refine tk (y := nI (rk_47 + k_51)) (nI_add rk_47 k_51) ?_
            refine lv_sipush (v := 4095) hx hb dX4_findAddress_97 (by decide) ?_
            refine lv_iand hx hb dX4_findAddress_100 ?_
            obtain ⟨k_52, hk_52, ek_52⟩ := pk_andE (nI (rk_47 + k_51)) (m := 4095) 12 (by decide)
            have hk_52 : k_52 < 4096 := hk_52
            refine tk (y := nI k_52) ek_52 ?_
            exact endI X hr hlocks hP hD hS dX4_findAddress_101 ⟨wy2_43, dn2_44, f2_45, st2_46, k_52, rfl, hf_48, hf_49, (by omega), rfl⟩
          · skip
            by_cases c_1_53 : (nI w) = 6
            · refine lv_tableIn (tgt := 102) (off := 101) hx hb dX4_findAddress_1 (by rw [c_1_53]; decide) (by rw [c_1_53]; decide) (by rw [c_1_53]; decide) (by decide) ?_
              refine lv_aload_n hx hb dX4_findAddress_102 rfl (lv_at hl 0 rfl) ?_
              refine lv_aload_n hx hb dX4_findAddress_103 rfl (lv_at hl 0 rfl) ?_
              refine kVi (n3 := 0) (As := []) (rest := [.ref h0]) X hl.1 hE hP hD hS hA [(h0, .inr (4, [.ref hn, .ref hs, .ref hd, .ref hp, .ref hc, .int wy, .int dn])), (hn, .inl (cA, 34, .inl f)), (hs, .inl (cA, 4096, .inl st))] [] [0, 1, 2] [] rfl rfl rfl (by decide +kernel) (by decide +kernel) (by decide +kernel) (c_s_takeByte l D cA cB h0 hn hs hd hp hc wy dn f st hf hst) w_71 w_66 w_70 w_72 w_73 0 (ci := 4) (T := TX4) (N := 7) rfl rfl (by decide +kernel) rfl rfl (Nat.le_of_ble_eq_true rfl) ⟨(Nat.le_of_ble_eq_true rfl), (Nat.le_of_ble_eq_true rfl)⟩ ⟨(Nat.le_of_ble_eq_true rfl), (Nat.le_of_ble_eq_true rfl)⟩ dX4_findAddress_104 (fun r W1 H locs hw hP hD hS => ?_)
              obtain ⟨wy2_54, dn2_55, f2_56, st2_57, rk_58, rfl, hf_59, hf_60, hf_61, rfl⟩ := hw
              have hP : va_P D classes [(h0, .inr (4, [.ref hn, .ref hs, .ref hd, .ref hp, .ref hc, .int wy2_54, .int dn2_55])), (hn, .inl (cA, 34, .inl f2_56)), (hs, .inl (cA, 4096, .inl st2_57))] H := hP
              have hD : va_D A [(h0, .inr (4, [.ref hn, .ref hs, .ref hd, .ref hp, .ref hc, .int wy2_54, .int dn2_55])), (hn, .inl (cA, 34, .inl f2_56)), (hs, .inl (cA, 4096, .inl st2_57))] := hD
              refine kVi (n3 := 1) (As := [.int (nI rk_58)]) (rest := []) X hl.1 hE hP hD hS hA [(h0, .inr (4, [.ref hn, .ref hs, .ref hd, .ref hp, .ref hc, .int wy2_54, .int dn2_55])), (hn, .inl (cA, 34, .inl f2_56)), (hs, .inl (cA, 4096, .inl st2_57))] [] [0, 1, 2] [] rfl rfl rfl (by decide +kernel) (by decide +kernel) (by decide +kernel) (c_s_pointerAt l D cA cB h0 hn hs hd hp hc wy2_54 dn2_55 f2_56 st2_57 (nI rk_58) hf_59 hf_60) w_79 w_66 w_78 w_80 w_81 0 (ci := 4) (T := TX4) (N := 7) rfl rfl (by decide +kernel) rfl rfl (Nat.le_of_ble_eq_true rfl) ⟨(Nat.le_of_ble_eq_true rfl), (Nat.le_of_ble_eq_true rfl)⟩ ⟨(Nat.le_of_ble_eq_true rfl), (Nat.le_of_ble_eq_true rfl)⟩ dX4_findAddress_107 (fun r W1 H locs hw hP hD hS => ?_)
              obtain ⟨wy2_62, dn2_63, f2_64, st2_65, rk_66, rfl, hf_67, hf_68, hf_69, rfl⟩ := hw
              have hP : va_P D classes [(h0, .inr (4, [.ref hn, .ref hs, .ref hd, .ref hp, .ref hc, .int wy2_62, .int dn2_63])), (hn, .inl (cA, 34, .inl f2_64)), (hs, .inl (cA, 4096, .inl st2_65))] H := hP
              have hD : va_D A [(h0, .inr (4, [.ref hn, .ref hs, .ref hd, .ref hp, .ref hc, .int wy2_62, .int dn2_63])), (hn, .inl (cA, 34, .inl f2_64)), (hs, .inl (cA, 4096, .inl st2_65))] := hD
              refine lv_sipush (v := 4095) hx hb dX4_findAddress_110 (by decide) ?_
              refine lv_iand hx hb dX4_findAddress_113 ?_
              obtain ⟨k_70, hk_70, ek_70⟩ := pk_andE (nI rk_66) (m := 4095) 12 (by decide)
              have hk_70 : k_70 < 4096 := hk_70
              refine tk (y := nI k_70) ek_70 ?_
              exact endI X hr hlocks hP hD hS dX4_findAddress_114 ⟨wy2_62, dn2_63, f2_64, st2_65, k_70, rfl, hf_67, hf_68, (by omega), rfl⟩
            · skip
              refine lv_tableOut (tgt := 115) hx hb dX4_findAddress_1 (by have n_0 := lv_neT (k := 1) (a := 1) c_1_1 (by decide); have n_1 := lv_neT (k := 2) (a := 2) c_1_10 (by decide); have n_2 := lv_neT (k := 3) (a := 3) c_1_21 (by decide); have n_3 := lv_neT (k := 4) (a := 4) c_1_31 (by decide); have n_4 := lv_neT (k := 5) (a := 5) c_1_42 (by decide); have n_5 := lv_neT (k := 6) (a := 6) c_1_53 (by decide); omega) (by decide) ?_
              refine lv_aload_n hx hb dX4_findAddress_115 rfl (lv_at hl 0 rfl) ?_
              refine lv_aload_n hx hb dX4_findAddress_116 rfl (lv_at hl 0 rfl) ?_
              refine kVi (n3 := 0) (As := []) (rest := [.ref h0]) X hl.1 hE hP hD hS hA [(h0, .inr (4, [.ref hn, .ref hs, .ref hd, .ref hp, .ref hc, .int wy, .int dn])), (hn, .inl (cA, 34, .inl f)), (hs, .inl (cA, 4096, .inl st))] [] [0, 1, 2] [] rfl rfl rfl (by decide +kernel) (by decide +kernel) (by decide +kernel) (c_s_takeByte l D cA cB h0 hn hs hd hp hc wy dn f st hf hst) w_71 w_66 w_70 w_72 w_73 0 (ci := 4) (T := TX4) (N := 7) rfl rfl (by decide +kernel) rfl rfl (Nat.le_of_ble_eq_true rfl) ⟨(Nat.le_of_ble_eq_true rfl), (Nat.le_of_ble_eq_true rfl)⟩ ⟨(Nat.le_of_ble_eq_true rfl), (Nat.le_of_ble_eq_true rfl)⟩ dX4_findAddress_117 (fun r W1 H locs hw hP hD hS => ?_)
              obtain ⟨wy2_71, dn2_72, f2_73, st2_74, rk_75, rfl, hf_76, hf_77, hf_78, rfl⟩ := hw
              have hP : va_P D classes [(h0, .inr (4, [.ref hn, .ref hs, .ref hd, .ref hp, .ref hc, .int wy2_71, .int dn2_72])), (hn, .inl (cA, 34, .inl f2_73)), (hs, .inl (cA, 4096, .inl st2_74))] H := hP
              have hD : va_D A [(h0, .inr (4, [.ref hn, .ref hs, .ref hd, .ref hp, .ref hc, .int wy2_71, .int dn2_72])), (hn, .inl (cA, 34, .inl f2_73)), (hs, .inl (cA, 4096, .inl st2_74))] := hD
              refine kVi (n3 := 1) (As := [.int (nI rk_75)]) (rest := []) X hl.1 hE hP hD hS hA [(h0, .inr (4, [.ref hn, .ref hs, .ref hd, .ref hp, .ref hc, .int wy2_71, .int dn2_72])), (hn, .inl (cA, 34, .inl f2_73)), (hs, .inl (cA, 4096, .inl st2_74))] [] [0, 1, 2] [] rfl rfl rfl (by decide +kernel) (by decide +kernel) (by decide +kernel) (c_s_pointerAt l D cA cB h0 hn hs hd hp hc wy2_71 dn2_72 f2_73 st2_74 (nI rk_75) hf_76 hf_77) w_79 w_66 w_78 w_80 w_81 0 (ci := 4) (T := TX4) (N := 7) rfl rfl (by decide +kernel) rfl rfl (Nat.le_of_ble_eq_true rfl) ⟨(Nat.le_of_ble_eq_true rfl), (Nat.le_of_ble_eq_true rfl)⟩ ⟨(Nat.le_of_ble_eq_true rfl), (Nat.le_of_ble_eq_true rfl)⟩ dX4_findAddress_120 (fun r W1 H locs hw hP hD hS => ?_)
              obtain ⟨wy2_79, dn2_80, f2_81, st2_82, rk_83, rfl, hf_84, hf_85, hf_86, rfl⟩ := hw
              have hP : va_P D classes [(h0, .inr (4, [.ref hn, .ref hs, .ref hd, .ref hp, .ref hc, .int wy2_79, .int dn2_80])), (hn, .inl (cA, 34, .inl f2_81)), (hs, .inl (cA, 4096, .inl st2_82))] H := hP
              have hD : va_D A [(h0, .inr (4, [.ref hn, .ref hs, .ref hd, .ref hp, .ref hc, .int wy2_79, .int dn2_80])), (hn, .inl (cA, 34, .inl f2_81)), (hs, .inl (cA, 4096, .inl st2_82))] := hD
              refine lv_aload_n hx hb dX4_findAddress_123 rfl (lv_at hl 0 rfl) ?_
              refine k_get (C := RX4) (T := TX4) (N := 7) (ci := 4) (v := .ref hn) X hE hP 0 rfl rfl iX4 0 (by decide) w_69 rfl dX4_findAddress_124 ?_
              refine lv_iconst (v := 2) hx hb dX4_findAddress_127 (by decide) ?_
              obtain ⟨k_87, hk_87, ek_87⟩ := hf_84.at 2 256 (by decide) rfl
              refine k_ald (v := nI k_87) X hE hP 1 rfl 2 rfl (by decide) (by decide) ek_87 dX4_findAddress_128 ?_
              refine lv_iadd hx hb dX4_findAddress_129 ?_
              refine tk (y := nI (rk_83 + k_87)) (nI_add rk_83 k_87) ?_
              refine lv_sipush (v := 4095) hx hb dX4_findAddress_130 (by decide) ?_
              refine lv_iand hx hb dX4_findAddress_133 ?_
              obtain ⟨k_88, hk_88, ek_88⟩ := pk_andE (nI (rk_83 + k_87)) (m := 4095) 12 (by decide)
              have hk_88 : k_88 < 4096 := hk_88
              refine tk (y := nI k_88) ek_88 ?_
              exact endI X hr hlocks hP hD hS dX4_findAddress_134 ⟨wy2_79, dn2_80, f2_81, st2_82, k_88, rfl, hf_84, hf_85, (by omega), rfl⟩
set_option maxHeartbeats 4000000 in
set_option maxRecDepth 100000 in
theorem c_s_start (l : Launch) (D : va_G) (cA cB : ClassId) (h0 : Nat) (hn : Nat) (hs : Nat) (hd : Nat) (hp : Nat) (hc : Nat) (wy : Int32) (dn : Int32) (f : Nat → Int32) (st : Nat → Int32) (hf : okN f) (hst : ∀ j, j < 4096 → ∃ k : Nat, k < 256 ∧ st j = nI k) : CV l yX4_start cX4_start 1 none 2 42 0 0 D cA cB [.ref h0] [(h0, .inr (4, [.ref hn, .ref hs, .ref hd, .ref hp, .ref hc, .int wy, .int dn])), (hn, .inl (cA, 34, .inl f)), (hs, .inl (cA, 4096, .inl st))] (fun W1 => ∃ (wy2 : Int32) (dn2 : Int32) (f2 : Nat → Int32) (st2 : Nat → Int32), (okN f2) ∧ (∀ j, j < 4096 → ∃ k : Nat, k < 256 ∧ st2 j = nI k) ∧ W1 = [(h0, .inr (4, [.ref hn, .ref hs, .ref hd, .ref hp, .ref hc, .int wy2, .int dn2])), (hn, .inl (cA, 34, .inl f2)), (hs, .inl (cA, 4096, .inl st2))]) := by
  refine mkV (lv0 := [(0, .ref h0)]) (by decide) (Nat.le_of_ble_eq_true rfl) rfl ?_
  intro p e s m below meth c A ls X hr hlocks hnm hE hA hP hD hS hl
  have hx := X.1
  have hb := X.2.1
  refine lv_aload_n hx hb dX4_start_0 rfl (lv_at hl 0 rfl) ?_
  refine k_get (C := RX4) (T := TX4) (N := 7) (ci := 4) (v := .ref hn) X hE hP 0 rfl rfl iX4 0 (by decide) w_69 rfl dX4_start_1 ?_
  refine lv_iconst (v := 0) hx hb dX4_start_4 (by decide) ?_
  refine lv_iconst (v := 0) hx hb dX4_start_5 (by decide) ?_
  refine k_ast X hE hP hD hS 1 rfl 0 rfl (by decide) (by decide) [(h0, .inr (4, [.ref hn, .ref hs, .ref hd, .ref hp, .ref hc, .int wy, .int dn])), (hn, .inl (cA, 34, .inl (upd f 0 0))), (hs, .inl (cA, 4096, .inl st))] rfl dX4_start_6 (fun H locs hP hD hS => ?_)
  obtain ⟨g_1, eg_1⟩ : ∃ z, z = upd f 0 0 := ⟨_, rfl⟩
  rw [← eg_1] at hP hD
  have hg_1 := okN_upd hf 0 0 (inR_of (k := 0) rfl (by omega))
  rw [← eg_1] at hg_1
  have hP : va_P D classes [(h0, .inr (4, [.ref hn, .ref hs, .ref hd, .ref hp, .ref hc, .int wy, .int dn])), (hn, .inl (cA, 34, .inl g_1)), (hs, .inl (cA, 4096, .inl st))] H := hP
  have hD : va_D A [(h0, .inr (4, [.ref hn, .ref hs, .ref hd, .ref hp, .ref hc, .int wy, .int dn])), (hn, .inl (cA, 34, .inl g_1)), (hs, .inl (cA, 4096, .inl st))] := hD
  refine lv_aload_n hx hb dX4_start_7 rfl (lv_at hl 0 rfl) ?_
  refine k_get (C := RX4) (T := TX4) (N := 7) (ci := 4) (v := .ref hn) X hE hP 0 rfl rfl iX4 0 (by decide) w_69 rfl dX4_start_8 ?_
  refine lv_iconst (v := 1) hx hb dX4_start_11 (by decide) ?_
  refine lv_iconst (v := 0) hx hb dX4_start_12 (by decide) ?_
  refine k_ast X hE hP hD hS 1 rfl 1 rfl (by decide) (by decide) [(h0, .inr (4, [.ref hn, .ref hs, .ref hd, .ref hp, .ref hc, .int wy, .int dn])), (hn, .inl (cA, 34, .inl (upd g_1 1 0))), (hs, .inl (cA, 4096, .inl st))] rfl dX4_start_13 (fun H locs hP hD hS => ?_)
  obtain ⟨g_2, eg_2⟩ : ∃ z, z = upd g_1 1 0 := ⟨_, rfl⟩
  rw [← eg_2] at hP hD
  have hg_2 := okN_upd hg_1 1 0 (inR_of (k := 0) rfl (by omega))
  rw [← eg_2] at hg_2
  have hP : va_P D classes [(h0, .inr (4, [.ref hn, .ref hs, .ref hd, .ref hp, .ref hc, .int wy, .int dn])), (hn, .inl (cA, 34, .inl g_2)), (hs, .inl (cA, 4096, .inl st))] H := hP
  have hD : va_D A [(h0, .inr (4, [.ref hn, .ref hs, .ref hd, .ref hp, .ref hc, .int wy, .int dn])), (hn, .inl (cA, 34, .inl g_2)), (hs, .inl (cA, 4096, .inl st))] := hD
  refine lv_aload_n hx hb dX4_start_14 rfl (lv_at hl 0 rfl) ?_
  refine k_get (C := RX4) (T := TX4) (N := 7) (ci := 4) (v := .ref hn) X hE hP 0 rfl rfl iX4 0 (by decide) w_69 rfl dX4_start_15 ?_
  refine lv_iconst (v := 2) hx hb dX4_start_18 (by decide) ?_
  refine lv_iconst (v := 0) hx hb dX4_start_19 (by decide) ?_
  refine k_ast X hE hP hD hS 1 rfl 2 rfl (by decide) (by decide) [(h0, .inr (4, [.ref hn, .ref hs, .ref hd, .ref hp, .ref hc, .int wy, .int dn])), (hn, .inl (cA, 34, .inl (upd g_2 2 0))), (hs, .inl (cA, 4096, .inl st))] rfl dX4_start_20 (fun H locs hP hD hS => ?_)
  obtain ⟨g_3, eg_3⟩ : ∃ z, z = upd g_2 2 0 := ⟨_, rfl⟩
  rw [← eg_3] at hP hD
  have hg_3 := okN_upd hg_2 2 0 (inR_of (k := 0) rfl (by omega))
  rw [← eg_3] at hg_3
  have hP : va_P D classes [(h0, .inr (4, [.ref hn, .ref hs, .ref hd, .ref hp, .ref hc, .int wy, .int dn])), (hn, .inl (cA, 34, .inl g_3)), (hs, .inl (cA, 4096, .inl st))] H := hP
  have hD : va_D A [(h0, .inr (4, [.ref hn, .ref hs, .ref hd, .ref hp, .ref hc, .int wy, .int dn])), (hn, .inl (cA, 34, .inl g_3)), (hs, .inl (cA, 4096, .inl st))] := hD
  refine lv_aload_n hx hb dX4_start_21 rfl (lv_at hl 0 rfl) ?_
  refine k_get (C := RX4) (T := TX4) (N := 7) (ci := 4) (v := .ref hn) X hE hP 0 rfl rfl iX4 0 (by decide) w_69 rfl dX4_start_22 ?_
  refine lv_iconst (v := 3) hx hb dX4_start_25 (by decide) ?_
  refine lv_sipush (v := 255) hx hb dX4_start_26 (by decide) ?_
  refine k_ast X hE hP hD hS 1 rfl 3 rfl (by decide) (by decide) [(h0, .inr (4, [.ref hn, .ref hs, .ref hd, .ref hp, .ref hc, .int wy, .int dn])), (hn, .inl (cA, 34, .inl (upd g_3 3 255))), (hs, .inl (cA, 4096, .inl st))] rfl dX4_start_29 (fun H locs hP hD hS => ?_)
  obtain ⟨g_4, eg_4⟩ : ∃ z, z = upd g_3 3 255 := ⟨_, rfl⟩
  rw [← eg_4] at hP hD
  have hg_4 := okN_upd hg_3 3 255 (inR_of (k := 255) rfl (by omega))
  rw [← eg_4] at hg_4
  have hP : va_P D classes [(h0, .inr (4, [.ref hn, .ref hs, .ref hd, .ref hp, .ref hc, .int wy, .int dn])), (hn, .inl (cA, 34, .inl g_4)), (hs, .inl (cA, 4096, .inl st))] H := hP
  have hD : va_D A [(h0, .inr (4, [.ref hn, .ref hs, .ref hd, .ref hp, .ref hc, .int wy, .int dn])), (hn, .inl (cA, 34, .inl g_4)), (hs, .inl (cA, 4096, .inl st))] := hD
  refine lv_aload_n hx hb dX4_start_30 rfl (lv_at hl 0 rfl) ?_
  refine k_get (C := RX4) (T := TX4) (N := 7) (ci := 4) (v := .ref hn) X hE hP 0 rfl rfl iX4 0 (by decide) w_69 rfl dX4_start_31 ?_
  refine lv_iconst (v := 5) hx hb dX4_start_34 (by decide) ?_
  refine lv_iconst (v := 4) hx hb dX4_start_35 (by decide) ?_
  refine k_ast X hE hP hD hS 1 rfl 5 rfl (by decide) (by decide) [(h0, .inr (4, [.ref hn, .ref hs, .ref hd, .ref hp, .ref hc, .int wy, .int dn])), (hn, .inl (cA, 34, .inl (upd g_4 5 4))), (hs, .inl (cA, 4096, .inl st))] rfl dX4_start_36 (fun H locs hP hD hS => ?_)
  obtain ⟨g_5, eg_5⟩ : ∃ z, z = upd g_4 5 4 := ⟨_, rfl⟩
  rw [← eg_5] at hP hD
  have hg_5 := okN_upd hg_4 5 4 (inR_of (k := 4) rfl (by omega))
  rw [← eg_5] at hg_5
  have hP : va_P D classes [(h0, .inr (4, [.ref hn, .ref hs, .ref hd, .ref hp, .ref hc, .int wy, .int dn])), (hn, .inl (cA, 34, .inl g_5)), (hs, .inl (cA, 4096, .inl st))] H := hP
  have hD : va_D A [(h0, .inr (4, [.ref hn, .ref hs, .ref hd, .ref hp, .ref hc, .int wy, .int dn])), (hn, .inl (cA, 34, .inl g_5)), (hs, .inl (cA, 4096, .inl st))] := hD
  refine lv_aload_n hx hb dX4_start_37 rfl (lv_at hl 0 rfl) ?_
  refine k_get (C := RX4) (T := TX4) (N := 7) (ci := 4) (v := .ref hn) X hE hP 0 rfl rfl iX4 0 (by decide) w_69 rfl dX4_start_38 ?_
  refine lv_iconst (v := 4) hx hb dX4_start_41 (by decide) ?_
  refine lv_aload_n hx hb dX4_start_42 rfl (lv_at hl 0 rfl) ?_
  refine lv_sipush (v := 4078) hx hb dX4_start_43 (by decide) ?_
  refine kVi (n3 := 1) (As := [.int 4078]) (rest := [.int 4, .ref hn]) X hl.1 hE hP hD hS hA [(h0, .inr (4, [.ref hn, .ref hs, .ref hd, .ref hp, .ref hc, .int wy, .int dn])), (hn, .inl (cA, 34, .inl g_5)), (hs, .inl (cA, 4096, .inl st))] [] [0, 1, 2] [] rfl rfl rfl (by decide +kernel) (by decide +kernel) (by decide +kernel) (c_s_placeAt l D cA cB h0 hn hs hd hp hc wy dn g_5 st 4078 hg_5 hst) w_83 w_66 w_82 w_84 w_85 0 (ci := 4) (T := TX4) (N := 7) rfl rfl (by decide +kernel) rfl rfl (Nat.le_of_ble_eq_true rfl) ⟨(Nat.le_of_ble_eq_true rfl), (Nat.le_of_ble_eq_true rfl)⟩ ⟨(Nat.le_of_ble_eq_true rfl), (Nat.le_of_ble_eq_true rfl)⟩ dX4_start_46 (fun r W1 H locs hw hP hD hS => ?_)
  obtain ⟨wy2_6, dn2_7, f2_8, st2_9, rk_10, rfl, hf_11, hf_12, hf_13, rfl⟩ := hw
  have hP : va_P D classes [(h0, .inr (4, [.ref hn, .ref hs, .ref hd, .ref hp, .ref hc, .int wy2_6, .int dn2_7])), (hn, .inl (cA, 34, .inl f2_8)), (hs, .inl (cA, 4096, .inl st2_9))] H := hP
  have hD : va_D A [(h0, .inr (4, [.ref hn, .ref hs, .ref hd, .ref hp, .ref hc, .int wy2_6, .int dn2_7])), (hn, .inl (cA, 34, .inl f2_8)), (hs, .inl (cA, 4096, .inl st2_9))] := hD
  refine k_ast X hE hP hD hS 1 rfl 4 rfl (by decide) (by decide) [(h0, .inr (4, [.ref hn, .ref hs, .ref hd, .ref hp, .ref hc, .int wy2_6, .int dn2_7])), (hn, .inl (cA, 34, .inl (upd f2_8 4 (nI rk_10)))), (hs, .inl (cA, 4096, .inl st2_9))] rfl dX4_start_49 (fun H locs hP hD hS => ?_)
  obtain ⟨g_14, eg_14⟩ : ∃ z, z = upd f2_8 4 (nI rk_10) := ⟨_, rfl⟩
  rw [← eg_14] at hP hD
  have hg_14 := okN_upd hf_11 4 (nI rk_10) (inR_of (k := rk_10) rfl (by omega))
  rw [← eg_14] at hg_14
  have hP : va_P D classes [(h0, .inr (4, [.ref hn, .ref hs, .ref hd, .ref hp, .ref hc, .int wy2_6, .int dn2_7])), (hn, .inl (cA, 34, .inl g_14)), (hs, .inl (cA, 4096, .inl st2_9))] H := hP
  have hD : va_D A [(h0, .inr (4, [.ref hn, .ref hs, .ref hd, .ref hp, .ref hc, .int wy2_6, .int dn2_7])), (hn, .inl (cA, 34, .inl g_14)), (hs, .inl (cA, 4096, .inl st2_9))] := hD
  refine lv_aload_n hx hb dX4_start_50 rfl (lv_at hl 0 rfl) ?_
  refine k_get (C := RX4) (T := TX4) (N := 7) (ci := 4) (v := .ref hn) X hE hP 0 rfl rfl iX4 0 (by decide) w_69 rfl dX4_start_51 ?_
  refine lv_bipush (v := 6) hx hb dX4_start_54 (by decide) ?_
  refine lv_iconst (v := 0) hx hb dX4_start_56 (by decide) ?_
  refine k_ast X hE hP hD hS 1 rfl 6 rfl (by decide) (by decide) [(h0, .inr (4, [.ref hn, .ref hs, .ref hd, .ref hp, .ref hc, .int wy2_6, .int dn2_7])), (hn, .inl (cA, 34, .inl (upd g_14 6 0))), (hs, .inl (cA, 4096, .inl st2_9))] rfl dX4_start_57 (fun H locs hP hD hS => ?_)
  obtain ⟨g_15, eg_15⟩ : ∃ z, z = upd g_14 6 0 := ⟨_, rfl⟩
  rw [← eg_15] at hP hD
  have hg_15 := okN_upd hg_14 6 0 (inR_any rfl)
  rw [← eg_15] at hg_15
  have hP : va_P D classes [(h0, .inr (4, [.ref hn, .ref hs, .ref hd, .ref hp, .ref hc, .int wy2_6, .int dn2_7])), (hn, .inl (cA, 34, .inl g_15)), (hs, .inl (cA, 4096, .inl st2_9))] H := hP
  have hD : va_D A [(h0, .inr (4, [.ref hn, .ref hs, .ref hd, .ref hp, .ref hc, .int wy2_6, .int dn2_7])), (hn, .inl (cA, 34, .inl g_15)), (hs, .inl (cA, 4096, .inl st2_9))] := hD
  exact endV X hr hlocks hP hD hS dX4_start_58 ⟨wy2_6, dn2_7, g_15, st2_9, hg_15, hf_12, rfl⟩
set_option maxHeartbeats 4000000 in
set_option maxRecDepth 100000 in
theorem c_s_carry (l : Launch) (D : va_G) (cA cB : ClassId) (h0 : Nat) (hn : Nat) (hs : Nat) (hd : Nat) (hp : Nat) (hc : Nat) (wy : Int32) (dn : Int32) (f : Nat → Int32) (hf : okN f) : CI l yX4_carry cX4_carry 1 (some .int) 0 0 0 0 D cA cB [.ref h0] [(h0, .inr (4, [.ref hn, .ref hs, .ref hd, .ref hp, .ref hc, .int wy, .int dn])), (hn, .inl (cA, 34, .inl f))] (fun r W1 => ∃ (wy2 : Int32) (dn2 : Int32) (f2 : Nat → Int32) (rk : Nat), r = nI rk ∧ (okN f2) ∧ (rk < 2) ∧ W1 = [(h0, .inr (4, [.ref hn, .ref hs, .ref hd, .ref hp, .ref hc, .int wy2, .int dn2])), (hn, .inl (cA, 34, .inl f2))]) := by
  refine mkI (lv0 := [(0, .ref h0)]) (by decide) (Nat.le_of_ble_eq_true rfl) rfl ?_
  intro p e s m below meth c A ls X hr hlocks hnm hE hA hP hD hS hl
  have hx := X.1
  have hb := X.2.1
  refine lv_aload_n hx hb dX4_carry_0 rfl (lv_at hl 0 rfl) ?_
  refine k_get (C := RX4) (T := TX4) (N := 7) (ci := 4) (v := .ref hn) X hE hP 0 rfl rfl iX4 0 (by decide) w_69 rfl dX4_carry_1 ?_
  refine lv_iconst (v := 5) hx hb dX4_carry_4 (by decide) ?_
  obtain ⟨k_1, hk_1, ek_1⟩ := hf.at 5 256 (by decide) rfl
  refine k_ald (v := nI k_1) X hE hP 1 rfl 5 rfl (by decide) (by decide) ek_1 dX4_carry_5 ?_
  refine lv_iconst (v := 1) hx hb dX4_carry_6 (by decide) ?_
  refine lv_iand hx hb dX4_carry_7 ?_
  obtain ⟨k_2, hk_2, ek_2⟩ := pk_andE (nI k_1) (m := 1) 1 (by decide)
  have hk_2 : k_2 < 2 := hk_2
  refine tk (y := nI k_2) ek_2 ?_
  exact endI X hr hlocks hP hD hS dX4_carry_8 ⟨wy, dn, f, k_2, rfl, hf, (by omega), rfl⟩
set_option maxHeartbeats 4000000 in
set_option maxRecDepth 100000 in
theorem c_s_setFlag (l : Launch) (D : va_G) (cA cB : ClassId) (h0 : Nat) (hn : Nat) (hs : Nat) (hd : Nat) (hp : Nat) (hc : Nat) (wy : Int32) (dn : Int32) (f : Nat → Int32) (v : Nat) (o : Nat) (hf : okN f) (hv : v < 256) (ho : o < 2) : CV l yX4_setFlag cX4_setFlag 3 none 0 0 0 0 D cA cB [.ref h0, .int (nI v), .int (nI o)] [(h0, .inr (4, [.ref hn, .ref hs, .ref hd, .ref hp, .ref hc, .int wy, .int dn])), (hn, .inl (cA, 34, .inl f))] (fun W1 => ∃ (wy2 : Int32) (dn2 : Int32) (f2 : Nat → Int32), (okN f2) ∧ W1 = [(h0, .inr (4, [.ref hn, .ref hs, .ref hd, .ref hp, .ref hc, .int wy2, .int dn2])), (hn, .inl (cA, 34, .inl f2))]) := by
  refine mkV (lv0 := [(0, .ref h0), (1, .int (nI v)), (2, .int (nI o))]) (by decide) (Nat.le_of_ble_eq_true rfl) rfl ?_
  intro p e s m below meth c A ls X hr hlocks hnm hE hA hP hD hS hl
  have hx := X.1
  have hb := X.2.1
  refine lv_aload_n hx hb dX4_setFlag_0 rfl (lv_at hl 0 rfl) ?_
  refine k_get (C := RX4) (T := TX4) (N := 7) (ci := 4) (v := .ref hn) X hE hP 0 rfl rfl iX4 0 (by decide) w_69 rfl dX4_setFlag_1 ?_
  refine lv_iconst (v := 5) hx hb dX4_setFlag_4 (by decide) ?_
  refine lv_iload_n hx hb dX4_setFlag_5 rfl (lv_at hl 2 rfl) ?_
  refine lv_if_eq (tgt := 20) hx hb dX4_setFlag_6 (by decide) (fun c_6_1 => ?_) (fun c_6_1 => ?_)
  · have nc_6_1 : o = 0 := (nI_eq (a := o) (b := 0) (by omega) (by omega)).mp c_6_1
    refine lv_aload_n hx hb dX4_setFlag_20 rfl (lv_at hl 0 rfl) ?_
    refine k_get (C := RX4) (T := TX4) (N := 7) (ci := 4) (v := .ref hn) X hE hP 0 rfl rfl iX4 0 (by decide) w_69 rfl dX4_setFlag_21 ?_
    refine lv_iconst (v := 5) hx hb dX4_setFlag_24 (by decide) ?_
    obtain ⟨k_2, hk_2, ek_2⟩ := hf.at 5 256 (by decide) rfl
    refine k_ald (v := nI k_2) X hE hP 1 rfl 5 rfl (by decide) (by decide) ek_2 dX4_setFlag_25 ?_
    refine lv_iload_n hx hb dX4_setFlag_26 rfl (lv_at hl 1 rfl) ?_
    refine lv_iconst (v := (-1)) hx hb dX4_setFlag_27 (by decide) ?_
    refine lv_ixor hx hb dX4_setFlag_28 ?_
    refine lv_iand hx hb dX4_setFlag_29 ?_
    obtain ⟨k_3, hk_3, ek_3⟩ := sf_and (a := k_2) (by omega) ((nI v) ^^^ (-1)) (by omega : k_2 < 256)
    have hk_3 : k_3 < 256 := hk_3
    refine tk (y := nI k_3) ek_3 ?_
    refine k_ast X hE hP hD hS 1 rfl 5 rfl (by decide) (by decide) [(h0, .inr (4, [.ref hn, .ref hs, .ref hd, .ref hp, .ref hc, .int wy, .int dn])), (hn, .inl (cA, 34, .inl (upd f 5 (nI k_3))))] rfl dX4_setFlag_30 (fun H locs hP hD hS => ?_)
    obtain ⟨g_4, eg_4⟩ : ∃ z, z = upd f 5 (nI k_3) := ⟨_, rfl⟩
    rw [← eg_4] at hP hD
    have hg_4 := okN_upd hf 5 (nI k_3) (inR_of (k := k_3) rfl (by omega))
    rw [← eg_4] at hg_4
    have hP : va_P D classes [(h0, .inr (4, [.ref hn, .ref hs, .ref hd, .ref hp, .ref hc, .int wy, .int dn])), (hn, .inl (cA, 34, .inl g_4))] H := hP
    have hD : va_D A [(h0, .inr (4, [.ref hn, .ref hs, .ref hd, .ref hp, .ref hc, .int wy, .int dn])), (hn, .inl (cA, 34, .inl g_4))] := hD
    exact endV X hr hlocks hP hD hS dX4_setFlag_31 ⟨wy, dn, g_4, hg_4, rfl⟩
  · have nc_6_1 : ¬ o = 0 := fun q => c_6_1 ((nI_eq (a := o) (b := 0) (by omega) (by omega)).mpr q)
    refine lv_aload_n hx hb dX4_setFlag_9 rfl (lv_at hl 0 rfl) ?_
    refine k_get (C := RX4) (T := TX4) (N := 7) (ci := 4) (v := .ref hn) X hE hP 0 rfl rfl iX4 0 (by decide) w_69 rfl dX4_setFlag_10 ?_
    refine lv_iconst (v := 5) hx hb dX4_setFlag_13 (by decide) ?_
    obtain ⟨k_5, hk_5, ek_5⟩ := hf.at 5 256 (by decide) rfl
    refine k_ald (v := nI k_5) X hE hP 1 rfl 5 rfl (by decide) (by decide) ek_5 dX4_setFlag_14 ?_
    refine lv_iload_n hx hb dX4_setFlag_15 rfl (lv_at hl 1 rfl) ?_
    refine lv_ior hx hb dX4_setFlag_16 ?_
    obtain ⟨k_6, hk_6, ek_6⟩ := sf_or (a := k_5) (b := v) 8 256 rfl (by decide) (by omega) (by omega)
    have hk_6 : k_6 < 256 := hk_6
    refine tk (y := nI k_6) ek_6 ?_
    refine lv_goto (tgt := 30) hx hb dX4_setFlag_17 (by decide) ?_
    refine k_ast X hE hP hD hS 1 rfl 5 rfl (by decide) (by decide) [(h0, .inr (4, [.ref hn, .ref hs, .ref hd, .ref hp, .ref hc, .int wy, .int dn])), (hn, .inl (cA, 34, .inl (upd f 5 (nI k_6))))] rfl dX4_setFlag_30 (fun H locs hP hD hS => ?_)
    obtain ⟨g_7, eg_7⟩ : ∃ z, z = upd f 5 (nI k_6) := ⟨_, rfl⟩
    rw [← eg_7] at hP hD
    have hg_7 := okN_upd hf 5 (nI k_6) (inR_of (k := k_6) rfl (by omega))
    rw [← eg_7] at hg_7
    have hP : va_P D classes [(h0, .inr (4, [.ref hn, .ref hs, .ref hd, .ref hp, .ref hc, .int wy, .int dn])), (hn, .inl (cA, 34, .inl g_7))] H := hP
    have hD : va_D A [(h0, .inr (4, [.ref hn, .ref hs, .ref hd, .ref hp, .ref hc, .int wy, .int dn])), (hn, .inl (cA, 34, .inl g_7))] := hD
    exact endV X hr hlocks hP hD hS dX4_setFlag_31 ⟨wy, dn, g_7, hg_7, rfl⟩
set_option maxHeartbeats 4000000 in
set_option maxRecDepth 100000 in
theorem c_s_setNz (l : Launch) (D : va_G) (cA cB : ClassId) (h0 : Nat) (hn : Nat) (hs : Nat) (hd : Nat) (hp : Nat) (hc : Nat) (wy : Int32) (dn : Int32) (f : Nat → Int32) (v : Nat) (hf : okN f) (hv : v < 256) : CV l yX4_setNz cX4_setNz 2 none 0 0 0 0 D cA cB [.ref h0, .int (nI v)] [(h0, .inr (4, [.ref hn, .ref hs, .ref hd, .ref hp, .ref hc, .int wy, .int dn])), (hn, .inl (cA, 34, .inl f))] (fun W1 => ∃ (wy2 : Int32) (dn2 : Int32) (f2 : Nat → Int32), (okN f2) ∧ W1 = [(h0, .inr (4, [.ref hn, .ref hs, .ref hd, .ref hp, .ref hc, .int wy2, .int dn2])), (hn, .inl (cA, 34, .inl f2))]) := by
  refine mkV (lv0 := [(0, .ref h0), (1, .int (nI v))]) (by decide) (Nat.le_of_ble_eq_true rfl) rfl ?_
  intro p e s m below meth c A ls X hr hlocks hnm hE hA hP hD hS hl
  have hx := X.1
  have hb := X.2.1
  refine lv_aload_n hx hb dX4_setNz_0 rfl (lv_at hl 0 rfl) ?_
  refine k_get (C := RX4) (T := TX4) (N := 7) (ci := 4) (v := .ref hn) X hE hP 0 rfl rfl iX4 0 (by decide) w_69 rfl dX4_setNz_1 ?_
  refine lv_iconst (v := 5) hx hb dX4_setNz_4 (by decide) ?_
  refine lv_aload_n hx hb dX4_setNz_5 rfl (lv_at hl 0 rfl) ?_
  refine k_get (C := RX4) (T := TX4) (N := 7) (ci := 4) (v := .ref hn) X hE hP 0 rfl rfl iX4 0 (by decide) w_69 rfl dX4_setNz_6 ?_
  refine lv_iconst (v := 5) hx hb dX4_setNz_9 (by decide) ?_
  obtain ⟨k_1, hk_1, ek_1⟩ := hf.at 5 256 (by decide) rfl
  refine k_ald (v := nI k_1) X hE hP 1 rfl 5 rfl (by decide) (by decide) ek_1 dX4_setNz_10 ?_
  refine lv_sipush (v := (-131)) hx hb dX4_setNz_11 (by decide) ?_
  refine lv_iand hx hb dX4_setNz_14 ?_
  obtain ⟨k_2, hk_2, ek_2⟩ := sf_and (a := k_1) (by omega) (-131) (by omega : k_1 < 256)
  have hk_2 : k_2 < 256 := hk_2
  refine tk (y := nI k_2) ek_2 ?_
  refine lv_iload_n hx hb dX4_setNz_15 rfl (lv_at hl 1 rfl) ?_
  refine lv_sipush (v := 128) hx hb dX4_setNz_16 (by decide) ?_
  refine lv_iand hx hb dX4_setNz_19 ?_
  obtain ⟨k_3, hk_3, ek_3⟩ := sf_and (a := v) (by omega) 128 (by omega : v < 256)
  have hk_3 : k_3 < 256 := hk_3
  refine tk (y := nI k_3) ek_3 ?_
  refine lv_ior hx hb dX4_setNz_20 ?_
  obtain ⟨k_4, hk_4, ek_4⟩ := sf_or (a := k_2) (b := k_3) 8 256 rfl (by decide) (by omega) (by omega)
  have hk_4 : k_4 < 256 := hk_4
  refine tk (y := nI k_4) ek_4 ?_
  refine lv_iload_n hx hb dX4_setNz_21 rfl (lv_at hl 1 rfl) ?_
  refine lv_if_ne (tgt := 29) hx hb dX4_setNz_22 (by decide) (fun c_22_5 => ?_) (fun c_22_5 => ?_)
  · have nc_22_5 : ¬ v = 0 := fun q => c_22_5 ((nI_eq (a := v) (b := 0) (by omega) (by omega)).mpr q)
    refine lv_iconst (v := 0) hx hb dX4_setNz_29 (by decide) ?_
    refine lv_ior hx hb dX4_setNz_30 ?_
    obtain ⟨k_6, hk_6, ek_6⟩ := sf_or (a := k_4) (b := 0) 8 256 rfl (by decide) (by omega) (by omega)
    have hk_6 : k_6 < 256 := hk_6
    refine tk (y := nI k_6) ek_6 ?_
    refine k_ast X hE hP hD hS 1 rfl 5 rfl (by decide) (by decide) [(h0, .inr (4, [.ref hn, .ref hs, .ref hd, .ref hp, .ref hc, .int wy, .int dn])), (hn, .inl (cA, 34, .inl (upd f 5 (nI k_6))))] rfl dX4_setNz_31 (fun H locs hP hD hS => ?_)
    obtain ⟨g_7, eg_7⟩ : ∃ z, z = upd f 5 (nI k_6) := ⟨_, rfl⟩
    rw [← eg_7] at hP hD
    have hg_7 := okN_upd hf 5 (nI k_6) (inR_of (k := k_6) rfl (by omega))
    rw [← eg_7] at hg_7
    have hP : va_P D classes [(h0, .inr (4, [.ref hn, .ref hs, .ref hd, .ref hp, .ref hc, .int wy, .int dn])), (hn, .inl (cA, 34, .inl g_7))] H := hP
    have hD : va_D A [(h0, .inr (4, [.ref hn, .ref hs, .ref hd, .ref hp, .ref hc, .int wy, .int dn])), (hn, .inl (cA, 34, .inl g_7))] := hD
    exact endV X hr hlocks hP hD hS dX4_setNz_32 ⟨wy, dn, g_7, hg_7, rfl⟩
  · have nc_22_5 : v = 0 := (nI_eq (a := v) (b := 0) (by omega) (by omega)).mp c_22_5
    refine lv_iconst (v := 2) hx hb dX4_setNz_25 (by decide) ?_
    refine lv_goto (tgt := 30) hx hb dX4_setNz_26 (by decide) ?_
    refine lv_ior hx hb dX4_setNz_30 ?_
    obtain ⟨k_8, hk_8, ek_8⟩ := sf_or (a := k_4) (b := 2) 8 256 rfl (by decide) (by omega) (by omega)
    have hk_8 : k_8 < 256 := hk_8
    refine tk (y := nI k_8) ek_8 ?_
    refine k_ast X hE hP hD hS 1 rfl 5 rfl (by decide) (by decide) [(h0, .inr (4, [.ref hn, .ref hs, .ref hd, .ref hp, .ref hc, .int wy, .int dn])), (hn, .inl (cA, 34, .inl (upd f 5 (nI k_8))))] rfl dX4_setNz_31 (fun H locs hP hD hS => ?_)
    obtain ⟨g_9, eg_9⟩ : ∃ z, z = upd f 5 (nI k_8) := ⟨_, rfl⟩
    rw [← eg_9] at hP hD
    have hg_9 := okN_upd hf 5 (nI k_8) (inR_of (k := k_8) rfl (by omega))
    rw [← eg_9] at hg_9
    have hP : va_P D classes [(h0, .inr (4, [.ref hn, .ref hs, .ref hd, .ref hp, .ref hc, .int wy, .int dn])), (hn, .inl (cA, 34, .inl g_9))] H := hP
    have hD : va_D A [(h0, .inr (4, [.ref hn, .ref hs, .ref hd, .ref hp, .ref hc, .int wy, .int dn])), (hn, .inl (cA, 34, .inl g_9))] := hD
    exact endV X hr hlocks hP hD hS dX4_setNz_32 ⟨wy, dn, g_9, hg_9, rfl⟩
set_option maxHeartbeats 4000000 in
set_option maxRecDepth 100000 in
theorem c_s_set0 (l : Launch) (D : va_G) (cA cB : ClassId) (h0 : Nat) (hn : Nat) (hs : Nat) (hd : Nat) (hp : Nat) (hc : Nat) (wy : Int32) (dn : Int32) (f : Nat → Int32) (x : Int32) (hf : okN f) : CV l yX4_set cX4_set 3 none 1 21 0 0 D cA cB [.ref h0, .int 0, .int x] [(h0, .inr (4, [.ref hn, .ref hs, .ref hd, .ref hp, .ref hc, .int wy, .int dn])), (hn, .inl (cA, 34, .inl f))] (fun W1 => ∃ (wy2 : Int32) (dn2 : Int32) (f2 : Nat → Int32), (okN f2) ∧ W1 = [(h0, .inr (4, [.ref hn, .ref hs, .ref hd, .ref hp, .ref hc, .int wy2, .int dn2])), (hn, .inl (cA, 34, .inl f2))]) := by
  refine mkV (lv0 := [(0, .ref h0), (1, .int 0), (2, .int x)]) (by decide) (Nat.le_of_ble_eq_true rfl) rfl ?_
  intro p e s m below meth c A ls X hr hlocks hnm hE hA hP hD hS hl
  have hx := X.1
  have hb := X.2.1
  refine lv_aload_n hx hb dX4_set_0 rfl (lv_at hl 0 rfl) ?_
  refine k_get (C := RX4) (T := TX4) (N := 7) (ci := 4) (v := .ref hn) X hE hP 0 rfl rfl iX4 0 (by decide) w_69 rfl dX4_set_1 ?_
  refine lv_iload_n hx hb dX4_set_4 rfl (lv_at hl 1 rfl) ?_
  refine lv_iload_n hx hb dX4_set_5 rfl (lv_at hl 2 rfl) ?_
  refine lv_sipush (v := 255) hx hb dX4_set_6 (by decide) ?_
  refine lv_iand hx hb dX4_set_9 ?_
  obtain ⟨k_1, hk_1, ek_1⟩ := pk_andE x (m := 255) 8 (by decide)
  have hk_1 : k_1 < 256 := hk_1
  refine tk (y := nI k_1) ek_1 ?_
  refine k_ast X hE hP hD hS 1 rfl 0 rfl (by decide) (by decide) [(h0, .inr (4, [.ref hn, .ref hs, .ref hd, .ref hp, .ref hc, .int wy, .int dn])), (hn, .inl (cA, 34, .inl (upd f 0 (nI k_1))))] rfl dX4_set_10 (fun H locs hP hD hS => ?_)
  obtain ⟨g_2, eg_2⟩ : ∃ z, z = upd f 0 (nI k_1) := ⟨_, rfl⟩
  rw [← eg_2] at hP hD
  have hg_2 := okN_upd hf 0 (nI k_1) (inR_of (k := k_1) rfl (by omega))
  rw [← eg_2] at hg_2
  have hP : va_P D classes [(h0, .inr (4, [.ref hn, .ref hs, .ref hd, .ref hp, .ref hc, .int wy, .int dn])), (hn, .inl (cA, 34, .inl g_2))] H := hP
  have hD : va_D A [(h0, .inr (4, [.ref hn, .ref hs, .ref hd, .ref hp, .ref hc, .int wy, .int dn])), (hn, .inl (cA, 34, .inl g_2))] := hD
  refine lv_aload_n hx hb dX4_set_11 rfl (lv_at hl 0 rfl) ?_
  refine lv_iload_n hx hb dX4_set_12 rfl (lv_at hl 2 rfl) ?_
  refine lv_sipush (v := 255) hx hb dX4_set_13 (by decide) ?_
  refine lv_iand hx hb dX4_set_16 ?_
  obtain ⟨k_3, hk_3, ek_3⟩ := pk_andE x (m := 255) 8 (by decide)
  have hk_3 : k_3 < 256 := hk_3
  refine tk (y := nI k_3) ek_3 ?_
  refine kVv (n3 := 1) (As := [.int (nI k_3)]) (rest := []) X hl.1 hE hP hD hS hA [(h0, .inr (4, [.ref hn, .ref hs, .ref hd, .ref hp, .ref hc, .int wy, .int dn])), (hn, .inl (cA, 34, .inl g_2))] [] [0, 1] [] rfl rfl rfl (by decide +kernel) (by decide +kernel) (by decide +kernel) (c_s_setNz l D cA cB h0 hn hs hd hp hc wy dn g_2 k_3 hg_2 (by first | assumption | decide | rfl | omega)) w_87 w_66 w_86 w_88 w_89 0 (ci := 4) (T := TX4) (N := 7) rfl rfl (by decide +kernel) rfl rfl (Nat.le_of_ble_eq_true rfl) ⟨(Nat.le_of_ble_eq_true rfl), (Nat.le_of_ble_eq_true rfl)⟩ ⟨(Nat.le_of_ble_eq_true rfl), (Nat.le_of_ble_eq_true rfl)⟩ dX4_set_17 (fun W1 H locs hw hP hD hS => ?_)
  obtain ⟨wy2_4, dn2_5, f2_6, hf_7, rfl⟩ := hw
  have hP : va_P D classes [(h0, .inr (4, [.ref hn, .ref hs, .ref hd, .ref hp, .ref hc, .int wy2_4, .int dn2_5])), (hn, .inl (cA, 34, .inl f2_6))] H := hP
  have hD : va_D A [(h0, .inr (4, [.ref hn, .ref hs, .ref hd, .ref hp, .ref hc, .int wy2_4, .int dn2_5])), (hn, .inl (cA, 34, .inl f2_6))] := hD
  exact endV X hr hlocks hP hD hS dX4_set_20 ⟨wy2_4, dn2_5, f2_6, hf_7, rfl⟩
set_option maxHeartbeats 4000000 in
set_option maxRecDepth 100000 in
theorem c_s_set1 (l : Launch) (D : va_G) (cA cB : ClassId) (h0 : Nat) (hn : Nat) (hs : Nat) (hd : Nat) (hp : Nat) (hc : Nat) (wy : Int32) (dn : Int32) (f : Nat → Int32) (x : Int32) (hf : okN f) : CV l yX4_set cX4_set 3 none 1 21 0 0 D cA cB [.ref h0, .int 1, .int x] [(h0, .inr (4, [.ref hn, .ref hs, .ref hd, .ref hp, .ref hc, .int wy, .int dn])), (hn, .inl (cA, 34, .inl f))] (fun W1 => ∃ (wy2 : Int32) (dn2 : Int32) (f2 : Nat → Int32), (okN f2) ∧ W1 = [(h0, .inr (4, [.ref hn, .ref hs, .ref hd, .ref hp, .ref hc, .int wy2, .int dn2])), (hn, .inl (cA, 34, .inl f2))]) := by
  refine mkV (lv0 := [(0, .ref h0), (1, .int 1), (2, .int x)]) (by decide) (Nat.le_of_ble_eq_true rfl) rfl ?_
  intro p e s m below meth c A ls X hr hlocks hnm hE hA hP hD hS hl
  have hx := X.1
  have hb := X.2.1
  refine lv_aload_n hx hb dX4_set_0 rfl (lv_at hl 0 rfl) ?_
  refine k_get (C := RX4) (T := TX4) (N := 7) (ci := 4) (v := .ref hn) X hE hP 0 rfl rfl iX4 0 (by decide) w_69 rfl dX4_set_1 ?_
  refine lv_iload_n hx hb dX4_set_4 rfl (lv_at hl 1 rfl) ?_
  refine lv_iload_n hx hb dX4_set_5 rfl (lv_at hl 2 rfl) ?_
  refine lv_sipush (v := 255) hx hb dX4_set_6 (by decide) ?_
  refine lv_iand hx hb dX4_set_9 ?_
  obtain ⟨k_1, hk_1, ek_1⟩ := pk_andE x (m := 255) 8 (by decide)
  have hk_1 : k_1 < 256 := hk_1
  refine tk (y := nI k_1) ek_1 ?_
  refine k_ast X hE hP hD hS 1 rfl 1 rfl (by decide) (by decide) [(h0, .inr (4, [.ref hn, .ref hs, .ref hd, .ref hp, .ref hc, .int wy, .int dn])), (hn, .inl (cA, 34, .inl (upd f 1 (nI k_1))))] rfl dX4_set_10 (fun H locs hP hD hS => ?_)
  obtain ⟨g_2, eg_2⟩ : ∃ z, z = upd f 1 (nI k_1) := ⟨_, rfl⟩
  rw [← eg_2] at hP hD
  have hg_2 := okN_upd hf 1 (nI k_1) (inR_of (k := k_1) rfl (by omega))
  rw [← eg_2] at hg_2
  have hP : va_P D classes [(h0, .inr (4, [.ref hn, .ref hs, .ref hd, .ref hp, .ref hc, .int wy, .int dn])), (hn, .inl (cA, 34, .inl g_2))] H := hP
  have hD : va_D A [(h0, .inr (4, [.ref hn, .ref hs, .ref hd, .ref hp, .ref hc, .int wy, .int dn])), (hn, .inl (cA, 34, .inl g_2))] := hD
  refine lv_aload_n hx hb dX4_set_11 rfl (lv_at hl 0 rfl) ?_
  refine lv_iload_n hx hb dX4_set_12 rfl (lv_at hl 2 rfl) ?_
  refine lv_sipush (v := 255) hx hb dX4_set_13 (by decide) ?_
  refine lv_iand hx hb dX4_set_16 ?_
  obtain ⟨k_3, hk_3, ek_3⟩ := pk_andE x (m := 255) 8 (by decide)
  have hk_3 : k_3 < 256 := hk_3
  refine tk (y := nI k_3) ek_3 ?_
  refine kVv (n3 := 1) (As := [.int (nI k_3)]) (rest := []) X hl.1 hE hP hD hS hA [(h0, .inr (4, [.ref hn, .ref hs, .ref hd, .ref hp, .ref hc, .int wy, .int dn])), (hn, .inl (cA, 34, .inl g_2))] [] [0, 1] [] rfl rfl rfl (by decide +kernel) (by decide +kernel) (by decide +kernel) (c_s_setNz l D cA cB h0 hn hs hd hp hc wy dn g_2 k_3 hg_2 (by first | assumption | decide | rfl | omega)) w_87 w_66 w_86 w_88 w_89 0 (ci := 4) (T := TX4) (N := 7) rfl rfl (by decide +kernel) rfl rfl (Nat.le_of_ble_eq_true rfl) ⟨(Nat.le_of_ble_eq_true rfl), (Nat.le_of_ble_eq_true rfl)⟩ ⟨(Nat.le_of_ble_eq_true rfl), (Nat.le_of_ble_eq_true rfl)⟩ dX4_set_17 (fun W1 H locs hw hP hD hS => ?_)
  obtain ⟨wy2_4, dn2_5, f2_6, hf_7, rfl⟩ := hw
  have hP : va_P D classes [(h0, .inr (4, [.ref hn, .ref hs, .ref hd, .ref hp, .ref hc, .int wy2_4, .int dn2_5])), (hn, .inl (cA, 34, .inl f2_6))] H := hP
  have hD : va_D A [(h0, .inr (4, [.ref hn, .ref hs, .ref hd, .ref hp, .ref hc, .int wy2_4, .int dn2_5])), (hn, .inl (cA, 34, .inl f2_6))] := hD
  exact endV X hr hlocks hP hD hS dX4_set_20 ⟨wy2_4, dn2_5, f2_6, hf_7, rfl⟩
set_option maxHeartbeats 4000000 in
set_option maxRecDepth 100000 in
theorem c_s_set2 (l : Launch) (D : va_G) (cA cB : ClassId) (h0 : Nat) (hn : Nat) (hs : Nat) (hd : Nat) (hp : Nat) (hc : Nat) (wy : Int32) (dn : Int32) (f : Nat → Int32) (x : Int32) (hf : okN f) : CV l yX4_set cX4_set 3 none 1 21 0 0 D cA cB [.ref h0, .int 2, .int x] [(h0, .inr (4, [.ref hn, .ref hs, .ref hd, .ref hp, .ref hc, .int wy, .int dn])), (hn, .inl (cA, 34, .inl f))] (fun W1 => ∃ (wy2 : Int32) (dn2 : Int32) (f2 : Nat → Int32), (okN f2) ∧ W1 = [(h0, .inr (4, [.ref hn, .ref hs, .ref hd, .ref hp, .ref hc, .int wy2, .int dn2])), (hn, .inl (cA, 34, .inl f2))]) := by
  refine mkV (lv0 := [(0, .ref h0), (1, .int 2), (2, .int x)]) (by decide) (Nat.le_of_ble_eq_true rfl) rfl ?_
  intro p e s m below meth c A ls X hr hlocks hnm hE hA hP hD hS hl
  have hx := X.1
  have hb := X.2.1
  refine lv_aload_n hx hb dX4_set_0 rfl (lv_at hl 0 rfl) ?_
  refine k_get (C := RX4) (T := TX4) (N := 7) (ci := 4) (v := .ref hn) X hE hP 0 rfl rfl iX4 0 (by decide) w_69 rfl dX4_set_1 ?_
  refine lv_iload_n hx hb dX4_set_4 rfl (lv_at hl 1 rfl) ?_
  refine lv_iload_n hx hb dX4_set_5 rfl (lv_at hl 2 rfl) ?_
  refine lv_sipush (v := 255) hx hb dX4_set_6 (by decide) ?_
  refine lv_iand hx hb dX4_set_9 ?_
  obtain ⟨k_1, hk_1, ek_1⟩ := pk_andE x (m := 255) 8 (by decide)
  have hk_1 : k_1 < 256 := hk_1
  refine tk (y := nI k_1) ek_1 ?_
  refine k_ast X hE hP hD hS 1 rfl 2 rfl (by decide) (by decide) [(h0, .inr (4, [.ref hn, .ref hs, .ref hd, .ref hp, .ref hc, .int wy, .int dn])), (hn, .inl (cA, 34, .inl (upd f 2 (nI k_1))))] rfl dX4_set_10 (fun H locs hP hD hS => ?_)
  obtain ⟨g_2, eg_2⟩ : ∃ z, z = upd f 2 (nI k_1) := ⟨_, rfl⟩
  rw [← eg_2] at hP hD
  have hg_2 := okN_upd hf 2 (nI k_1) (inR_of (k := k_1) rfl (by omega))
  rw [← eg_2] at hg_2
  have hP : va_P D classes [(h0, .inr (4, [.ref hn, .ref hs, .ref hd, .ref hp, .ref hc, .int wy, .int dn])), (hn, .inl (cA, 34, .inl g_2))] H := hP
  have hD : va_D A [(h0, .inr (4, [.ref hn, .ref hs, .ref hd, .ref hp, .ref hc, .int wy, .int dn])), (hn, .inl (cA, 34, .inl g_2))] := hD
  refine lv_aload_n hx hb dX4_set_11 rfl (lv_at hl 0 rfl) ?_
  refine lv_iload_n hx hb dX4_set_12 rfl (lv_at hl 2 rfl) ?_
  refine lv_sipush (v := 255) hx hb dX4_set_13 (by decide) ?_
  refine lv_iand hx hb dX4_set_16 ?_
  obtain ⟨k_3, hk_3, ek_3⟩ := pk_andE x (m := 255) 8 (by decide)
  have hk_3 : k_3 < 256 := hk_3
  refine tk (y := nI k_3) ek_3 ?_
  refine kVv (n3 := 1) (As := [.int (nI k_3)]) (rest := []) X hl.1 hE hP hD hS hA [(h0, .inr (4, [.ref hn, .ref hs, .ref hd, .ref hp, .ref hc, .int wy, .int dn])), (hn, .inl (cA, 34, .inl g_2))] [] [0, 1] [] rfl rfl rfl (by decide +kernel) (by decide +kernel) (by decide +kernel) (c_s_setNz l D cA cB h0 hn hs hd hp hc wy dn g_2 k_3 hg_2 (by first | assumption | decide | rfl | omega)) w_87 w_66 w_86 w_88 w_89 0 (ci := 4) (T := TX4) (N := 7) rfl rfl (by decide +kernel) rfl rfl (Nat.le_of_ble_eq_true rfl) ⟨(Nat.le_of_ble_eq_true rfl), (Nat.le_of_ble_eq_true rfl)⟩ ⟨(Nat.le_of_ble_eq_true rfl), (Nat.le_of_ble_eq_true rfl)⟩ dX4_set_17 (fun W1 H locs hw hP hD hS => ?_)
  obtain ⟨wy2_4, dn2_5, f2_6, hf_7, rfl⟩ := hw
  have hP : va_P D classes [(h0, .inr (4, [.ref hn, .ref hs, .ref hd, .ref hp, .ref hc, .int wy2_4, .int dn2_5])), (hn, .inl (cA, 34, .inl f2_6))] H := hP
  have hD : va_D A [(h0, .inr (4, [.ref hn, .ref hs, .ref hd, .ref hp, .ref hc, .int wy2_4, .int dn2_5])), (hn, .inl (cA, 34, .inl f2_6))] := hD
  exact endV X hr hlocks hP hD hS dX4_set_20 ⟨wy2_4, dn2_5, f2_6, hf_7, rfl⟩
set_option maxHeartbeats 4000000 in
set_option maxRecDepth 100000 in
theorem c_s_add (l : Launch) (D : va_G) (cA cB : ClassId) (h0 : Nat) (hn : Nat) (hs : Nat) (hd : Nat) (hp : Nat) (hc : Nat) (wy : Int32) (dn : Int32) (f : Nat → Int32) (v : Nat) (hf : okN f) (hv : v < 256) : CV l yX4_add cX4_add 4 none 2 43 0 0 D cA cB [.ref h0, .int (nI v)] [(h0, .inr (4, [.ref hn, .ref hs, .ref hd, .ref hp, .ref hc, .int wy, .int dn])), (hn, .inl (cA, 34, .inl f))] (fun W1 => ∃ (wy2 : Int32) (dn2 : Int32) (f2 : Nat → Int32), (okN f2) ∧ W1 = [(h0, .inr (4, [.ref hn, .ref hs, .ref hd, .ref hp, .ref hc, .int wy2, .int dn2])), (hn, .inl (cA, 34, .inl f2))]) := by
  refine mkV (lv0 := [(0, .ref h0), (1, .int (nI v))]) (by decide) (Nat.le_of_ble_eq_true rfl) rfl ?_
  intro p e s m below meth c A ls X hr hlocks hnm hE hA hP hD hS hl
  have hx := X.1
  have hb := X.2.1
  refine lv_aload_n hx hb dX4_add_0 rfl (lv_at hl 0 rfl) ?_
  refine k_get (C := RX4) (T := TX4) (N := 7) (ci := 4) (v := .ref hn) X hE hP 0 rfl rfl iX4 0 (by decide) w_69 rfl dX4_add_1 ?_
  refine lv_iconst (v := 0) hx hb dX4_add_4 (by decide) ?_
  obtain ⟨k_1, hk_1, ek_1⟩ := hf.at 0 256 (by decide) rfl
  refine k_ald (v := nI k_1) X hE hP 1 rfl 0 rfl (by decide) (by decide) ek_1 dX4_add_5 ?_
  refine lv_istore_n (lv' := [(2, .int (nI k_1)), (0, .ref h0), (1, .int (nI v))]) hx hb dX4_add_6 rfl hl (by decide) rfl (fun ls hl => ?_)
  refine lv_iload_n hx hb dX4_add_7 rfl (lv_at hl 0 rfl) ?_
  refine lv_iload_n hx hb dX4_add_8 rfl (lv_at hl 2 rfl) ?_
  refine lv_iadd hx hb dX4_add_9 ?_
  refine tk (y := nI (k_1 + v)) (nI_add k_1 v) ?_
  refine lv_aload_n hx hb dX4_add_10 rfl (lv_at hl 1 rfl) ?_
  refine kVi (n3 := 0) (As := []) (rest := [.int (nI (k_1 + v))]) X hl.1 hE hP hD hS hA [(h0, .inr (4, [.ref hn, .ref hs, .ref hd, .ref hp, .ref hc, .int wy, .int dn])), (hn, .inl (cA, 34, .inl f))] [] [0, 1] [] rfl rfl rfl (by decide +kernel) (by decide +kernel) (by decide +kernel) (c_s_carry l D cA cB h0 hn hs hd hp hc wy dn f hf) w_91 w_66 w_90 w_92 w_93 0 (ci := 4) (T := TX4) (N := 7) rfl rfl (by decide +kernel) rfl rfl (Nat.le_of_ble_eq_true rfl) ⟨(Nat.le_of_ble_eq_true rfl), (Nat.le_of_ble_eq_true rfl)⟩ ⟨(Nat.le_of_ble_eq_true rfl), (Nat.le_of_ble_eq_true rfl)⟩ dX4_add_11 (fun r W1 H locs hw hP hD hS => ?_)
  obtain ⟨wy2_2, dn2_3, f2_4, rk_5, rfl, hf_6, hf_7, rfl⟩ := hw
  have hP : va_P D classes [(h0, .inr (4, [.ref hn, .ref hs, .ref hd, .ref hp, .ref hc, .int wy2_2, .int dn2_3])), (hn, .inl (cA, 34, .inl f2_4))] H := hP
  have hD : va_D A [(h0, .inr (4, [.ref hn, .ref hs, .ref hd, .ref hp, .ref hc, .int wy2_2, .int dn2_3])), (hn, .inl (cA, 34, .inl f2_4))] := hD
  refine lv_iadd hx hb dX4_add_14 ?_
  refine tk (y := nI (k_1 + v + rk_5)) (nI_add (k_1 + v) rk_5) ?_
  refine lv_istore_n (lv' := [(3, .int (nI (k_1 + v + rk_5))), (2, .int (nI k_1)), (0, .ref h0), (1, .int (nI v))]) hx hb dX4_add_15 rfl hl (by decide) rfl (fun ls hl => ?_)
  refine lv_aload_n hx hb dX4_add_16 rfl (lv_at hl 2 rfl) ?_
  refine lv_bipush (v := 64) hx hb dX4_add_17 (by decide) ?_
  refine lv_iload_n hx hb dX4_add_19 rfl (lv_at hl 1 rfl) ?_
  refine lv_sipush (v := 128) hx hb dX4_add_20 (by decide) ?_
  refine lv_iand hx hb dX4_add_23 ?_
  obtain ⟨k_8, hk_8, ek_8⟩ := sf_and (a := k_1) (by omega) 128 (by omega : k_1 < 256)
  have hk_8 : k_8 < 256 := hk_8
  refine tk (y := nI k_8) ek_8 ?_
  refine lv_iload_n hx hb dX4_add_24 rfl (lv_at hl 3 rfl) ?_
  refine lv_sipush (v := 128) hx hb dX4_add_25 (by decide) ?_
  refine lv_iand hx hb dX4_add_28 ?_
  obtain ⟨k_9, hk_9, ek_9⟩ := sf_and (a := v) (by omega) 128 (by omega : v < 256)
  have hk_9 : k_9 < 256 := hk_9
  refine tk (y := nI k_9) ek_9 ?_
  refine lv_icmp_ne (tgt := 49) hx hb dX4_add_29 (by decide) (fun c_29_10 => ?_) (fun c_29_10 => ?_)
  · have nc_29_10 : ¬ k_8 = k_9 := fun q => c_29_10 ((nI_eq (a := k_8) (b := k_9) (by omega) (by omega)).mpr q)
    refine lv_iconst (v := 0) hx hb dX4_add_49 (by decide) ?_
    refine kVv (n3 := 2) (As := [.int 64, .int 0]) (rest := []) X hl.1 hE hP hD hS hA [(h0, .inr (4, [.ref hn, .ref hs, .ref hd, .ref hp, .ref hc, .int wy2_2, .int dn2_3])), (hn, .inl (cA, 34, .inl f2_4))] [] [0, 1] [] rfl rfl rfl (by decide +kernel) (by decide +kernel) (by decide +kernel) (c_s_setFlag l D cA cB h0 hn hs hd hp hc wy2_2 dn2_3 f2_4 64 0 hf_6 (by first | assumption | decide | rfl | omega) (by first | assumption | decide | rfl | omega)) w_95 w_66 w_94 w_96 w_97 0 (ci := 4) (T := TX4) (N := 7) rfl rfl (by decide +kernel) rfl rfl (Nat.le_of_ble_eq_true rfl) ⟨(Nat.le_of_ble_eq_true rfl), (Nat.le_of_ble_eq_true rfl)⟩ ⟨(Nat.le_of_ble_eq_true rfl), (Nat.le_of_ble_eq_true rfl)⟩ dX4_add_50 (fun W1 H locs hw hP hD hS => ?_)
    obtain ⟨wy2_11, dn2_12, f2_13, hf_14, rfl⟩ := hw
    have hP : va_P D classes [(h0, .inr (4, [.ref hn, .ref hs, .ref hd, .ref hp, .ref hc, .int wy2_11, .int dn2_12])), (hn, .inl (cA, 34, .inl f2_13))] H := hP
    have hD : va_D A [(h0, .inr (4, [.ref hn, .ref hs, .ref hd, .ref hp, .ref hc, .int wy2_11, .int dn2_12])), (hn, .inl (cA, 34, .inl f2_13))] := hD
    refine lv_aload_n hx hb dX4_add_53 rfl (lv_at hl 2 rfl) ?_
    refine lv_iconst (v := 1) hx hb dX4_add_54 (by decide) ?_
    refine lv_iload_n hx hb dX4_add_55 rfl (lv_at hl 0 rfl) ?_
    refine lv_sipush (v := 255) hx hb dX4_add_56 (by decide) ?_
    refine lv_icmp_le (tgt := 66) hx hb dX4_add_59 (by decide) (fun c_59_15 => ?_) (fun c_59_15 => ?_)
    · have nc_59_15 : (k_1 + v + rk_5) ≤ 255 := (nI_leI (a := k_1 + v + rk_5) (b := 255) (by omega) (by omega)).mp c_59_15
      refine lv_iconst (v := 0) hx hb dX4_add_66 (by decide) ?_
      refine kVv (n3 := 2) (As := [.int 1, .int 0]) (rest := []) X hl.1 hE hP hD hS hA [(h0, .inr (4, [.ref hn, .ref hs, .ref hd, .ref hp, .ref hc, .int wy2_11, .int dn2_12])), (hn, .inl (cA, 34, .inl f2_13))] [] [0, 1] [] rfl rfl rfl (by decide +kernel) (by decide +kernel) (by decide +kernel) (c_s_setFlag l D cA cB h0 hn hs hd hp hc wy2_11 dn2_12 f2_13 1 0 hf_14 (by first | assumption | decide | rfl | omega) (by first | assumption | decide | rfl | omega)) w_95 w_66 w_94 w_96 w_97 0 (ci := 4) (T := TX4) (N := 7) rfl rfl (by decide +kernel) rfl rfl (Nat.le_of_ble_eq_true rfl) ⟨(Nat.le_of_ble_eq_true rfl), (Nat.le_of_ble_eq_true rfl)⟩ ⟨(Nat.le_of_ble_eq_true rfl), (Nat.le_of_ble_eq_true rfl)⟩ dX4_add_67 (fun W1 H locs hw hP hD hS => ?_)
      obtain ⟨wy2_16, dn2_17, f2_18, hf_19, rfl⟩ := hw
      have hP : va_P D classes [(h0, .inr (4, [.ref hn, .ref hs, .ref hd, .ref hp, .ref hc, .int wy2_16, .int dn2_17])), (hn, .inl (cA, 34, .inl f2_18))] H := hP
      have hD : va_D A [(h0, .inr (4, [.ref hn, .ref hs, .ref hd, .ref hp, .ref hc, .int wy2_16, .int dn2_17])), (hn, .inl (cA, 34, .inl f2_18))] := hD
      refine lv_aload_n hx hb dX4_add_70 rfl (lv_at hl 2 rfl) ?_
      refine lv_iconst (v := 0) hx hb dX4_add_71 (by decide) ?_
      refine lv_iload_n hx hb dX4_add_72 rfl (lv_at hl 0 rfl) ?_
      refine kVv (n3 := 2) (As := [.int 0, .int (nI (k_1 + v + rk_5))]) (rest := []) X hl.1 hE hP hD hS hA [(h0, .inr (4, [.ref hn, .ref hs, .ref hd, .ref hp, .ref hc, .int wy2_16, .int dn2_17])), (hn, .inl (cA, 34, .inl f2_18))] [] [0, 1] [] rfl rfl rfl (by decide +kernel) (by decide +kernel) (by decide +kernel) (c_s_set0 l D cA cB h0 hn hs hd hp hc wy2_16 dn2_17 f2_18 (nI (k_1 + v + rk_5)) hf_19) w_99 w_66 w_98 w_100 w_101 0 (ci := 4) (T := TX4) (N := 7) rfl rfl (by decide +kernel) rfl rfl (Nat.le_of_ble_eq_true rfl) ⟨(Nat.le_of_ble_eq_true rfl), (Nat.le_of_ble_eq_true rfl)⟩ ⟨(Nat.le_of_ble_eq_true rfl), (Nat.le_of_ble_eq_true rfl)⟩ dX4_add_73 (fun W1 H locs hw hP hD hS => ?_)
      obtain ⟨wy2_20, dn2_21, f2_22, hf_23, rfl⟩ := hw
      have hP : va_P D classes [(h0, .inr (4, [.ref hn, .ref hs, .ref hd, .ref hp, .ref hc, .int wy2_20, .int dn2_21])), (hn, .inl (cA, 34, .inl f2_22))] H := hP
      have hD : va_D A [(h0, .inr (4, [.ref hn, .ref hs, .ref hd, .ref hp, .ref hc, .int wy2_20, .int dn2_21])), (hn, .inl (cA, 34, .inl f2_22))] := hD
      exact endV X hr hlocks hP hD hS dX4_add_76 ⟨wy2_20, dn2_21, f2_22, hf_23, rfl⟩
    · have nc_59_15 : 255 < (k_1 + v + rk_5) := Nat.not_le.mp (fun q => c_59_15 ((nI_leI (a := k_1 + v + rk_5) (b := 255) (by omega) (by omega)).mpr q))
      refine lv_iconst (v := 1) hx hb dX4_add_62 (by decide) ?_
      refine lv_goto (tgt := 67) hx hb dX4_add_63 (by decide) ?_
      refine kVv (n3 := 2) (As := [.int 1, .int 1]) (rest := []) X hl.1 hE hP hD hS hA [(h0, .inr (4, [.ref hn, .ref hs, .ref hd, .ref hp, .ref hc, .int wy2_11, .int dn2_12])), (hn, .inl (cA, 34, .inl f2_13))] [] [0, 1] [] rfl rfl rfl (by decide +kernel) (by decide +kernel) (by decide +kernel) (c_s_setFlag l D cA cB h0 hn hs hd hp hc wy2_11 dn2_12 f2_13 1 1 hf_14 (by first | assumption | decide | rfl | omega) (by first | assumption | decide | rfl | omega)) w_95 w_66 w_94 w_96 w_97 0 (ci := 4) (T := TX4) (N := 7) rfl rfl (by decide +kernel) rfl rfl (Nat.le_of_ble_eq_true rfl) ⟨(Nat.le_of_ble_eq_true rfl), (Nat.le_of_ble_eq_true rfl)⟩ ⟨(Nat.le_of_ble_eq_true rfl), (Nat.le_of_ble_eq_true rfl)⟩ dX4_add_67 (fun W1 H locs hw hP hD hS => ?_)
      obtain ⟨wy2_24, dn2_25, f2_26, hf_27, rfl⟩ := hw
      have hP : va_P D classes [(h0, .inr (4, [.ref hn, .ref hs, .ref hd, .ref hp, .ref hc, .int wy2_24, .int dn2_25])), (hn, .inl (cA, 34, .inl f2_26))] H := hP
      have hD : va_D A [(h0, .inr (4, [.ref hn, .ref hs, .ref hd, .ref hp, .ref hc, .int wy2_24, .int dn2_25])), (hn, .inl (cA, 34, .inl f2_26))] := hD
      refine lv_aload_n hx hb dX4_add_70 rfl (lv_at hl 2 rfl) ?_
      refine lv_iconst (v := 0) hx hb dX4_add_71 (by decide) ?_
      refine lv_iload_n hx hb dX4_add_72 rfl (lv_at hl 0 rfl) ?_
      refine kVv (n3 := 2) (As := [.int 0, .int (nI (k_1 + v + rk_5))]) (rest := []) X hl.1 hE hP hD hS hA [(h0, .inr (4, [.ref hn, .ref hs, .ref hd, .ref hp, .ref hc, .int wy2_24, .int dn2_25])), (hn, .inl (cA, 34, .inl f2_26))] [] [0, 1] [] rfl rfl rfl (by decide +kernel) (by decide +kernel) (by decide +kernel) (c_s_set0 l D cA cB h0 hn hs hd hp hc wy2_24 dn2_25 f2_26 (nI (k_1 + v + rk_5)) hf_27) w_99 w_66 w_98 w_100 w_101 0 (ci := 4) (T := TX4) (N := 7) rfl rfl (by decide +kernel) rfl rfl (Nat.le_of_ble_eq_true rfl) ⟨(Nat.le_of_ble_eq_true rfl), (Nat.le_of_ble_eq_true rfl)⟩ ⟨(Nat.le_of_ble_eq_true rfl), (Nat.le_of_ble_eq_true rfl)⟩ dX4_add_73 (fun W1 H locs hw hP hD hS => ?_)
      obtain ⟨wy2_28, dn2_29, f2_30, hf_31, rfl⟩ := hw
      have hP : va_P D classes [(h0, .inr (4, [.ref hn, .ref hs, .ref hd, .ref hp, .ref hc, .int wy2_28, .int dn2_29])), (hn, .inl (cA, 34, .inl f2_30))] H := hP
      have hD : va_D A [(h0, .inr (4, [.ref hn, .ref hs, .ref hd, .ref hp, .ref hc, .int wy2_28, .int dn2_29])), (hn, .inl (cA, 34, .inl f2_30))] := hD
      exact endV X hr hlocks hP hD hS dX4_add_76 ⟨wy2_28, dn2_29, f2_30, hf_31, rfl⟩
  · have nc_29_10 : k_8 = k_9 := (nI_eq (a := k_8) (b := k_9) (by omega) (by omega)).mp c_29_10
    refine lv_iload_n hx hb dX4_add_32 rfl (lv_at hl 0 rfl) ?_
    refine lv_sipush (v := 128) hx hb dX4_add_33 (by decide) ?_
    refine lv_iand hx hb dX4_add_36 ?_
    obtain ⟨k_32, hk_32, ek_32⟩ := sf_and (a := k_1 + v + rk_5) (by omega) 128 (by omega : k_1 + v + rk_5 < 512)
    have hk_32 : k_32 < 512 := hk_32
    refine tk (y := nI k_32) ek_32 ?_
    refine lv_iload_n hx hb dX4_add_37 rfl (lv_at hl 1 rfl) ?_
    refine lv_sipush (v := 128) hx hb dX4_add_38 (by decide) ?_
    refine lv_iand hx hb dX4_add_41 ?_
    obtain ⟨k_33, hk_33, ek_33⟩ := sf_and (a := k_1) (by omega) 128 (by omega : k_1 < 256)
    have hk_33 : k_33 < 256 := hk_33
    refine tk (y := nI k_33) ek_33 ?_
    refine lv_icmp_eq (tgt := 49) hx hb dX4_add_42 (by decide) (fun c_42_34 => ?_) (fun c_42_34 => ?_)
    · have nc_42_34 : k_32 = k_33 := (nI_eq (a := k_32) (b := k_33) (by omega) (by omega)).mp c_42_34
      refine lv_iconst (v := 0) hx hb dX4_add_49 (by decide) ?_
      refine kVv (n3 := 2) (As := [.int 64, .int 0]) (rest := []) X hl.1 hE hP hD hS hA [(h0, .inr (4, [.ref hn, .ref hs, .ref hd, .ref hp, .ref hc, .int wy2_2, .int dn2_3])), (hn, .inl (cA, 34, .inl f2_4))] [] [0, 1] [] rfl rfl rfl (by decide +kernel) (by decide +kernel) (by decide +kernel) (c_s_setFlag l D cA cB h0 hn hs hd hp hc wy2_2 dn2_3 f2_4 64 0 hf_6 (by first | assumption | decide | rfl | omega) (by first | assumption | decide | rfl | omega)) w_95 w_66 w_94 w_96 w_97 0 (ci := 4) (T := TX4) (N := 7) rfl rfl (by decide +kernel) rfl rfl (Nat.le_of_ble_eq_true rfl) ⟨(Nat.le_of_ble_eq_true rfl), (Nat.le_of_ble_eq_true rfl)⟩ ⟨(Nat.le_of_ble_eq_true rfl), (Nat.le_of_ble_eq_true rfl)⟩ dX4_add_50 (fun W1 H locs hw hP hD hS => ?_)
      obtain ⟨wy2_35, dn2_36, f2_37, hf_38, rfl⟩ := hw
      have hP : va_P D classes [(h0, .inr (4, [.ref hn, .ref hs, .ref hd, .ref hp, .ref hc, .int wy2_35, .int dn2_36])), (hn, .inl (cA, 34, .inl f2_37))] H := hP
      have hD : va_D A [(h0, .inr (4, [.ref hn, .ref hs, .ref hd, .ref hp, .ref hc, .int wy2_35, .int dn2_36])), (hn, .inl (cA, 34, .inl f2_37))] := hD
      refine lv_aload_n hx hb dX4_add_53 rfl (lv_at hl 2 rfl) ?_
      refine lv_iconst (v := 1) hx hb dX4_add_54 (by decide) ?_
      refine lv_iload_n hx hb dX4_add_55 rfl (lv_at hl 0 rfl) ?_
      refine lv_sipush (v := 255) hx hb dX4_add_56 (by decide) ?_
      refine lv_icmp_le (tgt := 66) hx hb dX4_add_59 (by decide) (fun c_59_39 => ?_) (fun c_59_39 => ?_)
      · have nc_59_39 : (k_1 + v + rk_5) ≤ 255 := (nI_leI (a := k_1 + v + rk_5) (b := 255) (by omega) (by omega)).mp c_59_39
        refine lv_iconst (v := 0) hx hb dX4_add_66 (by decide) ?_
        refine kVv (n3 := 2) (As := [.int 1, .int 0]) (rest := []) X hl.1 hE hP hD hS hA [(h0, .inr (4, [.ref hn, .ref hs, .ref hd, .ref hp, .ref hc, .int wy2_35, .int dn2_36])), (hn, .inl (cA, 34, .inl f2_37))] [] [0, 1] [] rfl rfl rfl (by decide +kernel) (by decide +kernel) (by decide +kernel) (c_s_setFlag l D cA cB h0 hn hs hd hp hc wy2_35 dn2_36 f2_37 1 0 hf_38 (by first | assumption | decide | rfl | omega) (by first | assumption | decide | rfl | omega)) w_95 w_66 w_94 w_96 w_97 0 (ci := 4) (T := TX4) (N := 7) rfl rfl (by decide +kernel) rfl rfl (Nat.le_of_ble_eq_true rfl) ⟨(Nat.le_of_ble_eq_true rfl), (Nat.le_of_ble_eq_true rfl)⟩ ⟨(Nat.le_of_ble_eq_true rfl), (Nat.le_of_ble_eq_true rfl)⟩ dX4_add_67 (fun W1 H locs hw hP hD hS => ?_)
        obtain ⟨wy2_40, dn2_41, f2_42, hf_43, rfl⟩ := hw
        have hP : va_P D classes [(h0, .inr (4, [.ref hn, .ref hs, .ref hd, .ref hp, .ref hc, .int wy2_40, .int dn2_41])), (hn, .inl (cA, 34, .inl f2_42))] H := hP
        have hD : va_D A [(h0, .inr (4, [.ref hn, .ref hs, .ref hd, .ref hp, .ref hc, .int wy2_40, .int dn2_41])), (hn, .inl (cA, 34, .inl f2_42))] := hD
        refine lv_aload_n hx hb dX4_add_70 rfl (lv_at hl 2 rfl) ?_
        refine lv_iconst (v := 0) hx hb dX4_add_71 (by decide) ?_
        refine lv_iload_n hx hb dX4_add_72 rfl (lv_at hl 0 rfl) ?_
        refine kVv (n3 := 2) (As := [.int 0, .int (nI (k_1 + v + rk_5))]) (rest := []) X hl.1 hE hP hD hS hA [(h0, .inr (4, [.ref hn, .ref hs, .ref hd, .ref hp, .ref hc, .int wy2_40, .int dn2_41])), (hn, .inl (cA, 34, .inl f2_42))] [] [0, 1] [] rfl rfl rfl (by decide +kernel) (by decide +kernel) (by decide +kernel) (c_s_set0 l D cA cB h0 hn hs hd hp hc wy2_40 dn2_41 f2_42 (nI (k_1 + v + rk_5)) hf_43) w_99 w_66 w_98 w_100 w_101 0 (ci := 4) (T := TX4) (N := 7) rfl rfl (by decide +kernel) rfl rfl (Nat.le_of_ble_eq_true rfl) ⟨(Nat.le_of_ble_eq_true rfl), (Nat.le_of_ble_eq_true rfl)⟩ ⟨(Nat.le_of_ble_eq_true rfl), (Nat.le_of_ble_eq_true rfl)⟩ dX4_add_73 (fun W1 H locs hw hP hD hS => ?_)
        obtain ⟨wy2_44, dn2_45, f2_46, hf_47, rfl⟩ := hw
        have hP : va_P D classes [(h0, .inr (4, [.ref hn, .ref hs, .ref hd, .ref hp, .ref hc, .int wy2_44, .int dn2_45])), (hn, .inl (cA, 34, .inl f2_46))] H := hP
        have hD : va_D A [(h0, .inr (4, [.ref hn, .ref hs, .ref hd, .ref hp, .ref hc, .int wy2_44, .int dn2_45])), (hn, .inl (cA, 34, .inl f2_46))] := hD
        exact endV X hr hlocks hP hD hS dX4_add_76 ⟨wy2_44, dn2_45, f2_46, hf_47, rfl⟩
      · have nc_59_39 : 255 < (k_1 + v + rk_5) := Nat.not_le.mp (fun q => c_59_39 ((nI_leI (a := k_1 + v + rk_5) (b := 255) (by omega) (by omega)).mpr q))
        refine lv_iconst (v := 1) hx hb dX4_add_62 (by decide) ?_
        refine lv_goto (tgt := 67) hx hb dX4_add_63 (by decide) ?_
        refine kVv (n3 := 2) (As := [.int 1, .int 1]) (rest := []) X hl.1 hE hP hD hS hA [(h0, .inr (4, [.ref hn, .ref hs, .ref hd, .ref hp, .ref hc, .int wy2_35, .int dn2_36])), (hn, .inl (cA, 34, .inl f2_37))] [] [0, 1] [] rfl rfl rfl (by decide +kernel) (by decide +kernel) (by decide +kernel) (c_s_setFlag l D cA cB h0 hn hs hd hp hc wy2_35 dn2_36 f2_37 1 1 hf_38 (by first | assumption | decide | rfl | omega) (by first | assumption | decide | rfl | omega)) w_95 w_66 w_94 w_96 w_97 0 (ci := 4) (T := TX4) (N := 7) rfl rfl (by decide +kernel) rfl rfl (Nat.le_of_ble_eq_true rfl) ⟨(Nat.le_of_ble_eq_true rfl), (Nat.le_of_ble_eq_true rfl)⟩ ⟨(Nat.le_of_ble_eq_true rfl), (Nat.le_of_ble_eq_true rfl)⟩ dX4_add_67 (fun W1 H locs hw hP hD hS => ?_)
        obtain ⟨wy2_48, dn2_49, f2_50, hf_51, rfl⟩ := hw
        have hP : va_P D classes [(h0, .inr (4, [.ref hn, .ref hs, .ref hd, .ref hp, .ref hc, .int wy2_48, .int dn2_49])), (hn, .inl (cA, 34, .inl f2_50))] H := hP
        have hD : va_D A [(h0, .inr (4, [.ref hn, .ref hs, .ref hd, .ref hp, .ref hc, .int wy2_48, .int dn2_49])), (hn, .inl (cA, 34, .inl f2_50))] := hD
        refine lv_aload_n hx hb dX4_add_70 rfl (lv_at hl 2 rfl) ?_
        refine lv_iconst (v := 0) hx hb dX4_add_71 (by decide) ?_
        refine lv_iload_n hx hb dX4_add_72 rfl (lv_at hl 0 rfl) ?_
        refine kVv (n3 := 2) (As := [.int 0, .int (nI (k_1 + v + rk_5))]) (rest := []) X hl.1 hE hP hD hS hA [(h0, .inr (4, [.ref hn, .ref hs, .ref hd, .ref hp, .ref hc, .int wy2_48, .int dn2_49])), (hn, .inl (cA, 34, .inl f2_50))] [] [0, 1] [] rfl rfl rfl (by decide +kernel) (by decide +kernel) (by decide +kernel) (c_s_set0 l D cA cB h0 hn hs hd hp hc wy2_48 dn2_49 f2_50 (nI (k_1 + v + rk_5)) hf_51) w_99 w_66 w_98 w_100 w_101 0 (ci := 4) (T := TX4) (N := 7) rfl rfl (by decide +kernel) rfl rfl (Nat.le_of_ble_eq_true rfl) ⟨(Nat.le_of_ble_eq_true rfl), (Nat.le_of_ble_eq_true rfl)⟩ ⟨(Nat.le_of_ble_eq_true rfl), (Nat.le_of_ble_eq_true rfl)⟩ dX4_add_73 (fun W1 H locs hw hP hD hS => ?_)
        obtain ⟨wy2_52, dn2_53, f2_54, hf_55, rfl⟩ := hw
        have hP : va_P D classes [(h0, .inr (4, [.ref hn, .ref hs, .ref hd, .ref hp, .ref hc, .int wy2_52, .int dn2_53])), (hn, .inl (cA, 34, .inl f2_54))] H := hP
        have hD : va_D A [(h0, .inr (4, [.ref hn, .ref hs, .ref hd, .ref hp, .ref hc, .int wy2_52, .int dn2_53])), (hn, .inl (cA, 34, .inl f2_54))] := hD
        exact endV X hr hlocks hP hD hS dX4_add_76 ⟨wy2_52, dn2_53, f2_54, hf_55, rfl⟩
    · have nc_42_34 : ¬ k_32 = k_33 := fun q => c_42_34 ((nI_eq (a := k_32) (b := k_33) (by omega) (by omega)).mpr q)
      refine lv_iconst (v := 1) hx hb dX4_add_45 (by decide) ?_
      refine lv_goto (tgt := 50) hx hb dX4_add_46 (by decide) ?_
      refine kVv (n3 := 2) (As := [.int 64, .int 1]) (rest := []) X hl.1 hE hP hD hS hA [(h0, .inr (4, [.ref hn, .ref hs, .ref hd, .ref hp, .ref hc, .int wy2_2, .int dn2_3])), (hn, .inl (cA, 34, .inl f2_4))] [] [0, 1] [] rfl rfl rfl (by decide +kernel) (by decide +kernel) (by decide +kernel) (c_s_setFlag l D cA cB h0 hn hs hd hp hc wy2_2 dn2_3 f2_4 64 1 hf_6 (by first | assumption | decide | rfl | omega) (by first | assumption | decide | rfl | omega)) w_95 w_66 w_94 w_96 w_97 0 (ci := 4) (T := TX4) (N := 7) rfl rfl (by decide +kernel) rfl rfl (Nat.le_of_ble_eq_true rfl) ⟨(Nat.le_of_ble_eq_true rfl), (Nat.le_of_ble_eq_true rfl)⟩ ⟨(Nat.le_of_ble_eq_true rfl), (Nat.le_of_ble_eq_true rfl)⟩ dX4_add_50 (fun W1 H locs hw hP hD hS => ?_)
      obtain ⟨wy2_56, dn2_57, f2_58, hf_59, rfl⟩ := hw
      have hP : va_P D classes [(h0, .inr (4, [.ref hn, .ref hs, .ref hd, .ref hp, .ref hc, .int wy2_56, .int dn2_57])), (hn, .inl (cA, 34, .inl f2_58))] H := hP
      have hD : va_D A [(h0, .inr (4, [.ref hn, .ref hs, .ref hd, .ref hp, .ref hc, .int wy2_56, .int dn2_57])), (hn, .inl (cA, 34, .inl f2_58))] := hD
      refine lv_aload_n hx hb dX4_add_53 rfl (lv_at hl 2 rfl) ?_
      refine lv_iconst (v := 1) hx hb dX4_add_54 (by decide) ?_
      refine lv_iload_n hx hb dX4_add_55 rfl (lv_at hl 0 rfl) ?_
      refine lv_sipush (v := 255) hx hb dX4_add_56 (by decide) ?_
      refine lv_icmp_le (tgt := 66) hx hb dX4_add_59 (by decide) (fun c_59_60 => ?_) (fun c_59_60 => ?_)
      · have nc_59_60 : (k_1 + v + rk_5) ≤ 255 := (nI_leI (a := k_1 + v + rk_5) (b := 255) (by omega) (by omega)).mp c_59_60
        refine lv_iconst (v := 0) hx hb dX4_add_66 (by decide) ?_
        refine kVv (n3 := 2) (As := [.int 1, .int 0]) (rest := []) X hl.1 hE hP hD hS hA [(h0, .inr (4, [.ref hn, .ref hs, .ref hd, .ref hp, .ref hc, .int wy2_56, .int dn2_57])), (hn, .inl (cA, 34, .inl f2_58))] [] [0, 1] [] rfl rfl rfl (by decide +kernel) (by decide +kernel) (by decide +kernel) (c_s_setFlag l D cA cB h0 hn hs hd hp hc wy2_56 dn2_57 f2_58 1 0 hf_59 (by first | assumption | decide | rfl | omega) (by first | assumption | decide | rfl | omega)) w_95 w_66 w_94 w_96 w_97 0 (ci := 4) (T := TX4) (N := 7) rfl rfl (by decide +kernel) rfl rfl (Nat.le_of_ble_eq_true rfl) ⟨(Nat.le_of_ble_eq_true rfl), (Nat.le_of_ble_eq_true rfl)⟩ ⟨(Nat.le_of_ble_eq_true rfl), (Nat.le_of_ble_eq_true rfl)⟩ dX4_add_67 (fun W1 H locs hw hP hD hS => ?_)
        obtain ⟨wy2_61, dn2_62, f2_63, hf_64, rfl⟩ := hw
        have hP : va_P D classes [(h0, .inr (4, [.ref hn, .ref hs, .ref hd, .ref hp, .ref hc, .int wy2_61, .int dn2_62])), (hn, .inl (cA, 34, .inl f2_63))] H := hP
        have hD : va_D A [(h0, .inr (4, [.ref hn, .ref hs, .ref hd, .ref hp, .ref hc, .int wy2_61, .int dn2_62])), (hn, .inl (cA, 34, .inl f2_63))] := hD
        refine lv_aload_n hx hb dX4_add_70 rfl (lv_at hl 2 rfl) ?_
        refine lv_iconst (v := 0) hx hb dX4_add_71 (by decide) ?_
        refine lv_iload_n hx hb dX4_add_72 rfl (lv_at hl 0 rfl) ?_
        refine kVv (n3 := 2) (As := [.int 0, .int (nI (k_1 + v + rk_5))]) (rest := []) X hl.1 hE hP hD hS hA [(h0, .inr (4, [.ref hn, .ref hs, .ref hd, .ref hp, .ref hc, .int wy2_61, .int dn2_62])), (hn, .inl (cA, 34, .inl f2_63))] [] [0, 1] [] rfl rfl rfl (by decide +kernel) (by decide +kernel) (by decide +kernel) (c_s_set0 l D cA cB h0 hn hs hd hp hc wy2_61 dn2_62 f2_63 (nI (k_1 + v + rk_5)) hf_64) w_99 w_66 w_98 w_100 w_101 0 (ci := 4) (T := TX4) (N := 7) rfl rfl (by decide +kernel) rfl rfl (Nat.le_of_ble_eq_true rfl) ⟨(Nat.le_of_ble_eq_true rfl), (Nat.le_of_ble_eq_true rfl)⟩ ⟨(Nat.le_of_ble_eq_true rfl), (Nat.le_of_ble_eq_true rfl)⟩ dX4_add_73 (fun W1 H locs hw hP hD hS => ?_)
        obtain ⟨wy2_65, dn2_66, f2_67, hf_68, rfl⟩ := hw
        have hP : va_P D classes [(h0, .inr (4, [.ref hn, .ref hs, .ref hd, .ref hp, .ref hc, .int wy2_65, .int dn2_66])), (hn, .inl (cA, 34, .inl f2_67))] H := hP
        have hD : va_D A [(h0, .inr (4, [.ref hn, .ref hs, .ref hd, .ref hp, .ref hc, .int wy2_65, .int dn2_66])), (hn, .inl (cA, 34, .inl f2_67))] := hD
        exact endV X hr hlocks hP hD hS dX4_add_76 ⟨wy2_65, dn2_66, f2_67, hf_68, rfl⟩
      · have nc_59_60 : 255 < (k_1 + v + rk_5) := Nat.not_le.mp (fun q => c_59_60 ((nI_leI (a := k_1 + v + rk_5) (b := 255) (by omega) (by omega)).mpr q))
        refine lv_iconst (v := 1) hx hb dX4_add_62 (by decide) ?_
        refine lv_goto (tgt := 67) hx hb dX4_add_63 (by decide) ?_
        refine kVv (n3 := 2) (As := [.int 1, .int 1]) (rest := []) X hl.1 hE hP hD hS hA [(h0, .inr (4, [.ref hn, .ref hs, .ref hd, .ref hp, .ref hc, .int wy2_56, .int dn2_57])), (hn, .inl (cA, 34, .inl f2_58))] [] [0, 1] [] rfl rfl rfl (by decide +kernel) (by decide +kernel) (by decide +kernel) (c_s_setFlag l D cA cB h0 hn hs hd hp hc wy2_56 dn2_57 f2_58 1 1 hf_59 (by first | assumption | decide | rfl | omega) (by first | assumption | decide | rfl | omega)) w_95 w_66 w_94 w_96 w_97 0 (ci := 4) (T := TX4) (N := 7) rfl rfl (by decide +kernel) rfl rfl (Nat.le_of_ble_eq_true rfl) ⟨(Nat.le_of_ble_eq_true rfl), (Nat.le_of_ble_eq_true rfl)⟩ ⟨(Nat.le_of_ble_eq_true rfl), (Nat.le_of_ble_eq_true rfl)⟩ dX4_add_67 (fun W1 H locs hw hP hD hS => ?_)
        obtain ⟨wy2_69, dn2_70, f2_71, hf_72, rfl⟩ := hw
        have hP : va_P D classes [(h0, .inr (4, [.ref hn, .ref hs, .ref hd, .ref hp, .ref hc, .int wy2_69, .int dn2_70])), (hn, .inl (cA, 34, .inl f2_71))] H := hP
        have hD : va_D A [(h0, .inr (4, [.ref hn, .ref hs, .ref hd, .ref hp, .ref hc, .int wy2_69, .int dn2_70])), (hn, .inl (cA, 34, .inl f2_71))] := hD
        refine lv_aload_n hx hb dX4_add_70 rfl (lv_at hl 2 rfl) ?_
        refine lv_iconst (v := 0) hx hb dX4_add_71 (by decide) ?_
        refine lv_iload_n hx hb dX4_add_72 rfl (lv_at hl 0 rfl) ?_
        refine kVv (n3 := 2) (As := [.int 0, .int (nI (k_1 + v + rk_5))]) (rest := []) X hl.1 hE hP hD hS hA [(h0, .inr (4, [.ref hn, .ref hs, .ref hd, .ref hp, .ref hc, .int wy2_69, .int dn2_70])), (hn, .inl (cA, 34, .inl f2_71))] [] [0, 1] [] rfl rfl rfl (by decide +kernel) (by decide +kernel) (by decide +kernel) (c_s_set0 l D cA cB h0 hn hs hd hp hc wy2_69 dn2_70 f2_71 (nI (k_1 + v + rk_5)) hf_72) w_99 w_66 w_98 w_100 w_101 0 (ci := 4) (T := TX4) (N := 7) rfl rfl (by decide +kernel) rfl rfl (Nat.le_of_ble_eq_true rfl) ⟨(Nat.le_of_ble_eq_true rfl), (Nat.le_of_ble_eq_true rfl)⟩ ⟨(Nat.le_of_ble_eq_true rfl), (Nat.le_of_ble_eq_true rfl)⟩ dX4_add_73 (fun W1 H locs hw hP hD hS => ?_)
        obtain ⟨wy2_73, dn2_74, f2_75, hf_76, rfl⟩ := hw
        have hP : va_P D classes [(h0, .inr (4, [.ref hn, .ref hs, .ref hd, .ref hp, .ref hc, .int wy2_73, .int dn2_74])), (hn, .inl (cA, 34, .inl f2_75))] H := hP
        have hD : va_D A [(h0, .inr (4, [.ref hn, .ref hs, .ref hd, .ref hp, .ref hc, .int wy2_73, .int dn2_74])), (hn, .inl (cA, 34, .inl f2_75))] := hD
        exact endV X hr hlocks hP hD hS dX4_add_76 ⟨wy2_73, dn2_74, f2_75, hf_76, rfl⟩
set_option maxHeartbeats 4000000 in
set_option maxRecDepth 100000 in
theorem c_s_addTo1 (l : Launch) (D : va_G) (cA cB : ClassId) (h0 : Nat) (hn : Nat) (hs : Nat) (hd : Nat) (hp : Nat) (hc : Nat) (wy : Int32) (dn : Int32) (f : Nat → Int32) (v : Nat) (hf : okN f) (hv : v < 256) : CV l yX4_addTo cX4_addTo 4 none 2 43 0 0 D cA cB [.ref h0, .int 1, .int (nI v)] [(h0, .inr (4, [.ref hn, .ref hs, .ref hd, .ref hp, .ref hc, .int wy, .int dn])), (hn, .inl (cA, 34, .inl f))] (fun W1 => ∃ (wy2 : Int32) (dn2 : Int32) (f2 : Nat → Int32), (okN f2) ∧ W1 = [(h0, .inr (4, [.ref hn, .ref hs, .ref hd, .ref hp, .ref hc, .int wy2, .int dn2])), (hn, .inl (cA, 34, .inl f2))]) := by
  refine mkV (lv0 := [(0, .ref h0), (1, .int 1), (2, .int (nI v))]) (by decide) (Nat.le_of_ble_eq_true rfl) rfl ?_
  intro p e s m below meth c A ls X hr hlocks hnm hE hA hP hD hS hl
  have hx := X.1
  have hb := X.2.1
  refine lv_aload_n hx hb dX4_addTo_0 rfl (lv_at hl 0 rfl) ?_
  refine k_get (C := RX4) (T := TX4) (N := 7) (ci := 4) (v := .ref hn) X hE hP 0 rfl rfl iX4 0 (by decide) w_69 rfl dX4_addTo_1 ?_
  refine lv_iload_n hx hb dX4_addTo_4 rfl (lv_at hl 1 rfl) ?_
  obtain ⟨k_1, hk_1, ek_1⟩ := hf.at 1 256 (by decide) rfl
  refine k_ald (v := nI k_1) X hE hP 1 rfl 1 rfl (by decide) (by decide) ek_1 dX4_addTo_5 ?_
  refine lv_iload_n hx hb dX4_addTo_6 rfl (lv_at hl 2 rfl) ?_
  refine lv_iadd hx hb dX4_addTo_7 ?_
  refine tk (y := nI (k_1 + v)) (nI_add k_1 v) ?_
  refine lv_istore_n (lv' := [(3, .int (nI (k_1 + v))), (0, .ref h0), (1, .int 1), (2, .int (nI v))]) hx hb dX4_addTo_8 rfl hl (by decide) rfl (fun ls hl => ?_)
  refine lv_aload_n hx hb dX4_addTo_9 rfl (lv_at hl 1 rfl) ?_
  refine lv_iconst (v := 1) hx hb dX4_addTo_10 (by decide) ?_
  refine lv_iload_n hx hb dX4_addTo_11 rfl (lv_at hl 0 rfl) ?_
  refine lv_sipush (v := 255) hx hb dX4_addTo_12 (by decide) ?_
  refine lv_icmp_le (tgt := 22) hx hb dX4_addTo_15 (by decide) (fun c_15_2 => ?_) (fun c_15_2 => ?_)
  · have nc_15_2 : (k_1 + v) ≤ 255 := (nI_leI (a := k_1 + v) (b := 255) (by omega) (by omega)).mp c_15_2
    refine lv_iconst (v := 0) hx hb dX4_addTo_22 (by decide) ?_
    refine kVv (n3 := 2) (As := [.int 1, .int 0]) (rest := []) X hl.1 hE hP hD hS hA [(h0, .inr (4, [.ref hn, .ref hs, .ref hd, .ref hp, .ref hc, .int wy, .int dn])), (hn, .inl (cA, 34, .inl f))] [] [0, 1] [] rfl rfl rfl (by decide +kernel) (by decide +kernel) (by decide +kernel) (c_s_setFlag l D cA cB h0 hn hs hd hp hc wy dn f 1 0 hf (by first | assumption | decide | rfl | omega) (by first | assumption | decide | rfl | omega)) w_95 w_66 w_94 w_96 w_97 0 (ci := 4) (T := TX4) (N := 7) rfl rfl (by decide +kernel) rfl rfl (Nat.le_of_ble_eq_true rfl) ⟨(Nat.le_of_ble_eq_true rfl), (Nat.le_of_ble_eq_true rfl)⟩ ⟨(Nat.le_of_ble_eq_true rfl), (Nat.le_of_ble_eq_true rfl)⟩ dX4_addTo_23 (fun W1 H locs hw hP hD hS => ?_)
    obtain ⟨wy2_3, dn2_4, f2_5, hf_6, rfl⟩ := hw
    have hP : va_P D classes [(h0, .inr (4, [.ref hn, .ref hs, .ref hd, .ref hp, .ref hc, .int wy2_3, .int dn2_4])), (hn, .inl (cA, 34, .inl f2_5))] H := hP
    have hD : va_D A [(h0, .inr (4, [.ref hn, .ref hs, .ref hd, .ref hp, .ref hc, .int wy2_3, .int dn2_4])), (hn, .inl (cA, 34, .inl f2_5))] := hD
    refine lv_aload_n hx hb dX4_addTo_26 rfl (lv_at hl 1 rfl) ?_
    refine lv_iload_n hx hb dX4_addTo_27 rfl (lv_at hl 2 rfl) ?_
    refine lv_iload_n hx hb dX4_addTo_28 rfl (lv_at hl 0 rfl) ?_
    refine kVv (n3 := 2) (As := [.int 1, .int (nI (k_1 + v))]) (rest := []) X hl.1 hE hP hD hS hA [(h0, .inr (4, [.ref hn, .ref hs, .ref hd, .ref hp, .ref hc, .int wy2_3, .int dn2_4])), (hn, .inl (cA, 34, .inl f2_5))] [] [0, 1] [] rfl rfl rfl (by decide +kernel) (by decide +kernel) (by decide +kernel) (c_s_set1 l D cA cB h0 hn hs hd hp hc wy2_3 dn2_4 f2_5 (nI (k_1 + v)) hf_6) w_99 w_66 w_98 w_100 w_101 0 (ci := 4) (T := TX4) (N := 7) rfl rfl (by decide +kernel) rfl rfl (Nat.le_of_ble_eq_true rfl) ⟨(Nat.le_of_ble_eq_true rfl), (Nat.le_of_ble_eq_true rfl)⟩ ⟨(Nat.le_of_ble_eq_true rfl), (Nat.le_of_ble_eq_true rfl)⟩ dX4_addTo_29 (fun W1 H locs hw hP hD hS => ?_)
    obtain ⟨wy2_7, dn2_8, f2_9, hf_10, rfl⟩ := hw
    have hP : va_P D classes [(h0, .inr (4, [.ref hn, .ref hs, .ref hd, .ref hp, .ref hc, .int wy2_7, .int dn2_8])), (hn, .inl (cA, 34, .inl f2_9))] H := hP
    have hD : va_D A [(h0, .inr (4, [.ref hn, .ref hs, .ref hd, .ref hp, .ref hc, .int wy2_7, .int dn2_8])), (hn, .inl (cA, 34, .inl f2_9))] := hD
    exact endV X hr hlocks hP hD hS dX4_addTo_32 ⟨wy2_7, dn2_8, f2_9, hf_10, rfl⟩
  · have nc_15_2 : 255 < (k_1 + v) := Nat.not_le.mp (fun q => c_15_2 ((nI_leI (a := k_1 + v) (b := 255) (by omega) (by omega)).mpr q))
    refine lv_iconst (v := 1) hx hb dX4_addTo_18 (by decide) ?_
    refine lv_goto (tgt := 23) hx hb dX4_addTo_19 (by decide) ?_
    refine kVv (n3 := 2) (As := [.int 1, .int 1]) (rest := []) X hl.1 hE hP hD hS hA [(h0, .inr (4, [.ref hn, .ref hs, .ref hd, .ref hp, .ref hc, .int wy, .int dn])), (hn, .inl (cA, 34, .inl f))] [] [0, 1] [] rfl rfl rfl (by decide +kernel) (by decide +kernel) (by decide +kernel) (c_s_setFlag l D cA cB h0 hn hs hd hp hc wy dn f 1 1 hf (by first | assumption | decide | rfl | omega) (by first | assumption | decide | rfl | omega)) w_95 w_66 w_94 w_96 w_97 0 (ci := 4) (T := TX4) (N := 7) rfl rfl (by decide +kernel) rfl rfl (Nat.le_of_ble_eq_true rfl) ⟨(Nat.le_of_ble_eq_true rfl), (Nat.le_of_ble_eq_true rfl)⟩ ⟨(Nat.le_of_ble_eq_true rfl), (Nat.le_of_ble_eq_true rfl)⟩ dX4_addTo_23 (fun W1 H locs hw hP hD hS => ?_)
    obtain ⟨wy2_11, dn2_12, f2_13, hf_14, rfl⟩ := hw
    have hP : va_P D classes [(h0, .inr (4, [.ref hn, .ref hs, .ref hd, .ref hp, .ref hc, .int wy2_11, .int dn2_12])), (hn, .inl (cA, 34, .inl f2_13))] H := hP
    have hD : va_D A [(h0, .inr (4, [.ref hn, .ref hs, .ref hd, .ref hp, .ref hc, .int wy2_11, .int dn2_12])), (hn, .inl (cA, 34, .inl f2_13))] := hD
    refine lv_aload_n hx hb dX4_addTo_26 rfl (lv_at hl 1 rfl) ?_
    refine lv_iload_n hx hb dX4_addTo_27 rfl (lv_at hl 2 rfl) ?_
    refine lv_iload_n hx hb dX4_addTo_28 rfl (lv_at hl 0 rfl) ?_
    refine kVv (n3 := 2) (As := [.int 1, .int (nI (k_1 + v))]) (rest := []) X hl.1 hE hP hD hS hA [(h0, .inr (4, [.ref hn, .ref hs, .ref hd, .ref hp, .ref hc, .int wy2_11, .int dn2_12])), (hn, .inl (cA, 34, .inl f2_13))] [] [0, 1] [] rfl rfl rfl (by decide +kernel) (by decide +kernel) (by decide +kernel) (c_s_set1 l D cA cB h0 hn hs hd hp hc wy2_11 dn2_12 f2_13 (nI (k_1 + v)) hf_14) w_99 w_66 w_98 w_100 w_101 0 (ci := 4) (T := TX4) (N := 7) rfl rfl (by decide +kernel) rfl rfl (Nat.le_of_ble_eq_true rfl) ⟨(Nat.le_of_ble_eq_true rfl), (Nat.le_of_ble_eq_true rfl)⟩ ⟨(Nat.le_of_ble_eq_true rfl), (Nat.le_of_ble_eq_true rfl)⟩ dX4_addTo_29 (fun W1 H locs hw hP hD hS => ?_)
    obtain ⟨wy2_15, dn2_16, f2_17, hf_18, rfl⟩ := hw
    have hP : va_P D classes [(h0, .inr (4, [.ref hn, .ref hs, .ref hd, .ref hp, .ref hc, .int wy2_15, .int dn2_16])), (hn, .inl (cA, 34, .inl f2_17))] H := hP
    have hD : va_D A [(h0, .inr (4, [.ref hn, .ref hs, .ref hd, .ref hp, .ref hc, .int wy2_15, .int dn2_16])), (hn, .inl (cA, 34, .inl f2_17))] := hD
    exact endV X hr hlocks hP hD hS dX4_addTo_32 ⟨wy2_15, dn2_16, f2_17, hf_18, rfl⟩
set_option maxHeartbeats 4000000 in
set_option maxRecDepth 100000 in
theorem c_s_addTo2 (l : Launch) (D : va_G) (cA cB : ClassId) (h0 : Nat) (hn : Nat) (hs : Nat) (hd : Nat) (hp : Nat) (hc : Nat) (wy : Int32) (dn : Int32) (f : Nat → Int32) (v : Nat) (hf : okN f) (hv : v < 256) : CV l yX4_addTo cX4_addTo 4 none 2 43 0 0 D cA cB [.ref h0, .int 2, .int (nI v)] [(h0, .inr (4, [.ref hn, .ref hs, .ref hd, .ref hp, .ref hc, .int wy, .int dn])), (hn, .inl (cA, 34, .inl f))] (fun W1 => ∃ (wy2 : Int32) (dn2 : Int32) (f2 : Nat → Int32), (okN f2) ∧ W1 = [(h0, .inr (4, [.ref hn, .ref hs, .ref hd, .ref hp, .ref hc, .int wy2, .int dn2])), (hn, .inl (cA, 34, .inl f2))]) := by
  refine mkV (lv0 := [(0, .ref h0), (1, .int 2), (2, .int (nI v))]) (by decide) (Nat.le_of_ble_eq_true rfl) rfl ?_
  intro p e s m below meth c A ls X hr hlocks hnm hE hA hP hD hS hl
  have hx := X.1
  have hb := X.2.1
  refine lv_aload_n hx hb dX4_addTo_0 rfl (lv_at hl 0 rfl) ?_
  refine k_get (C := RX4) (T := TX4) (N := 7) (ci := 4) (v := .ref hn) X hE hP 0 rfl rfl iX4 0 (by decide) w_69 rfl dX4_addTo_1 ?_
  refine lv_iload_n hx hb dX4_addTo_4 rfl (lv_at hl 1 rfl) ?_
  obtain ⟨k_1, hk_1, ek_1⟩ := hf.at 2 256 (by decide) rfl
  refine k_ald (v := nI k_1) X hE hP 1 rfl 2 rfl (by decide) (by decide) ek_1 dX4_addTo_5 ?_
  refine lv_iload_n hx hb dX4_addTo_6 rfl (lv_at hl 2 rfl) ?_
  refine lv_iadd hx hb dX4_addTo_7 ?_
  refine tk (y := nI (k_1 + v)) (nI_add k_1 v) ?_
  refine lv_istore_n (lv' := [(3, .int (nI (k_1 + v))), (0, .ref h0), (1, .int 2), (2, .int (nI v))]) hx hb dX4_addTo_8 rfl hl (by decide) rfl (fun ls hl => ?_)
  refine lv_aload_n hx hb dX4_addTo_9 rfl (lv_at hl 1 rfl) ?_
  refine lv_iconst (v := 1) hx hb dX4_addTo_10 (by decide) ?_
  refine lv_iload_n hx hb dX4_addTo_11 rfl (lv_at hl 0 rfl) ?_
  refine lv_sipush (v := 255) hx hb dX4_addTo_12 (by decide) ?_
  refine lv_icmp_le (tgt := 22) hx hb dX4_addTo_15 (by decide) (fun c_15_2 => ?_) (fun c_15_2 => ?_)
  · have nc_15_2 : (k_1 + v) ≤ 255 := (nI_leI (a := k_1 + v) (b := 255) (by omega) (by omega)).mp c_15_2
    refine lv_iconst (v := 0) hx hb dX4_addTo_22 (by decide) ?_
    refine kVv (n3 := 2) (As := [.int 1, .int 0]) (rest := []) X hl.1 hE hP hD hS hA [(h0, .inr (4, [.ref hn, .ref hs, .ref hd, .ref hp, .ref hc, .int wy, .int dn])), (hn, .inl (cA, 34, .inl f))] [] [0, 1] [] rfl rfl rfl (by decide +kernel) (by decide +kernel) (by decide +kernel) (c_s_setFlag l D cA cB h0 hn hs hd hp hc wy dn f 1 0 hf (by first | assumption | decide | rfl | omega) (by first | assumption | decide | rfl | omega)) w_95 w_66 w_94 w_96 w_97 0 (ci := 4) (T := TX4) (N := 7) rfl rfl (by decide +kernel) rfl rfl (Nat.le_of_ble_eq_true rfl) ⟨(Nat.le_of_ble_eq_true rfl), (Nat.le_of_ble_eq_true rfl)⟩ ⟨(Nat.le_of_ble_eq_true rfl), (Nat.le_of_ble_eq_true rfl)⟩ dX4_addTo_23 (fun W1 H locs hw hP hD hS => ?_)
    obtain ⟨wy2_3, dn2_4, f2_5, hf_6, rfl⟩ := hw
    have hP : va_P D classes [(h0, .inr (4, [.ref hn, .ref hs, .ref hd, .ref hp, .ref hc, .int wy2_3, .int dn2_4])), (hn, .inl (cA, 34, .inl f2_5))] H := hP
    have hD : va_D A [(h0, .inr (4, [.ref hn, .ref hs, .ref hd, .ref hp, .ref hc, .int wy2_3, .int dn2_4])), (hn, .inl (cA, 34, .inl f2_5))] := hD
    refine lv_aload_n hx hb dX4_addTo_26 rfl (lv_at hl 1 rfl) ?_
    refine lv_iload_n hx hb dX4_addTo_27 rfl (lv_at hl 2 rfl) ?_
    refine lv_iload_n hx hb dX4_addTo_28 rfl (lv_at hl 0 rfl) ?_
    refine kVv (n3 := 2) (As := [.int 2, .int (nI (k_1 + v))]) (rest := []) X hl.1 hE hP hD hS hA [(h0, .inr (4, [.ref hn, .ref hs, .ref hd, .ref hp, .ref hc, .int wy2_3, .int dn2_4])), (hn, .inl (cA, 34, .inl f2_5))] [] [0, 1] [] rfl rfl rfl (by decide +kernel) (by decide +kernel) (by decide +kernel) (c_s_set2 l D cA cB h0 hn hs hd hp hc wy2_3 dn2_4 f2_5 (nI (k_1 + v)) hf_6) w_99 w_66 w_98 w_100 w_101 0 (ci := 4) (T := TX4) (N := 7) rfl rfl (by decide +kernel) rfl rfl (Nat.le_of_ble_eq_true rfl) ⟨(Nat.le_of_ble_eq_true rfl), (Nat.le_of_ble_eq_true rfl)⟩ ⟨(Nat.le_of_ble_eq_true rfl), (Nat.le_of_ble_eq_true rfl)⟩ dX4_addTo_29 (fun W1 H locs hw hP hD hS => ?_)
    obtain ⟨wy2_7, dn2_8, f2_9, hf_10, rfl⟩ := hw
    have hP : va_P D classes [(h0, .inr (4, [.ref hn, .ref hs, .ref hd, .ref hp, .ref hc, .int wy2_7, .int dn2_8])), (hn, .inl (cA, 34, .inl f2_9))] H := hP
    have hD : va_D A [(h0, .inr (4, [.ref hn, .ref hs, .ref hd, .ref hp, .ref hc, .int wy2_7, .int dn2_8])), (hn, .inl (cA, 34, .inl f2_9))] := hD
    exact endV X hr hlocks hP hD hS dX4_addTo_32 ⟨wy2_7, dn2_8, f2_9, hf_10, rfl⟩
  · have nc_15_2 : 255 < (k_1 + v) := Nat.not_le.mp (fun q => c_15_2 ((nI_leI (a := k_1 + v) (b := 255) (by omega) (by omega)).mpr q))
    refine lv_iconst (v := 1) hx hb dX4_addTo_18 (by decide) ?_
    refine lv_goto (tgt := 23) hx hb dX4_addTo_19 (by decide) ?_
    refine kVv (n3 := 2) (As := [.int 1, .int 1]) (rest := []) X hl.1 hE hP hD hS hA [(h0, .inr (4, [.ref hn, .ref hs, .ref hd, .ref hp, .ref hc, .int wy, .int dn])), (hn, .inl (cA, 34, .inl f))] [] [0, 1] [] rfl rfl rfl (by decide +kernel) (by decide +kernel) (by decide +kernel) (c_s_setFlag l D cA cB h0 hn hs hd hp hc wy dn f 1 1 hf (by first | assumption | decide | rfl | omega) (by first | assumption | decide | rfl | omega)) w_95 w_66 w_94 w_96 w_97 0 (ci := 4) (T := TX4) (N := 7) rfl rfl (by decide +kernel) rfl rfl (Nat.le_of_ble_eq_true rfl) ⟨(Nat.le_of_ble_eq_true rfl), (Nat.le_of_ble_eq_true rfl)⟩ ⟨(Nat.le_of_ble_eq_true rfl), (Nat.le_of_ble_eq_true rfl)⟩ dX4_addTo_23 (fun W1 H locs hw hP hD hS => ?_)
    obtain ⟨wy2_11, dn2_12, f2_13, hf_14, rfl⟩ := hw
    have hP : va_P D classes [(h0, .inr (4, [.ref hn, .ref hs, .ref hd, .ref hp, .ref hc, .int wy2_11, .int dn2_12])), (hn, .inl (cA, 34, .inl f2_13))] H := hP
    have hD : va_D A [(h0, .inr (4, [.ref hn, .ref hs, .ref hd, .ref hp, .ref hc, .int wy2_11, .int dn2_12])), (hn, .inl (cA, 34, .inl f2_13))] := hD
    refine lv_aload_n hx hb dX4_addTo_26 rfl (lv_at hl 1 rfl) ?_
    refine lv_iload_n hx hb dX4_addTo_27 rfl (lv_at hl 2 rfl) ?_
    refine lv_iload_n hx hb dX4_addTo_28 rfl (lv_at hl 0 rfl) ?_
    refine kVv (n3 := 2) (As := [.int 2, .int (nI (k_1 + v))]) (rest := []) X hl.1 hE hP hD hS hA [(h0, .inr (4, [.ref hn, .ref hs, .ref hd, .ref hp, .ref hc, .int wy2_11, .int dn2_12])), (hn, .inl (cA, 34, .inl f2_13))] [] [0, 1] [] rfl rfl rfl (by decide +kernel) (by decide +kernel) (by decide +kernel) (c_s_set2 l D cA cB h0 hn hs hd hp hc wy2_11 dn2_12 f2_13 (nI (k_1 + v)) hf_14) w_99 w_66 w_98 w_100 w_101 0 (ci := 4) (T := TX4) (N := 7) rfl rfl (by decide +kernel) rfl rfl (Nat.le_of_ble_eq_true rfl) ⟨(Nat.le_of_ble_eq_true rfl), (Nat.le_of_ble_eq_true rfl)⟩ ⟨(Nat.le_of_ble_eq_true rfl), (Nat.le_of_ble_eq_true rfl)⟩ dX4_addTo_29 (fun W1 H locs hw hP hD hS => ?_)
    obtain ⟨wy2_15, dn2_16, f2_17, hf_18, rfl⟩ := hw
    have hP : va_P D classes [(h0, .inr (4, [.ref hn, .ref hs, .ref hd, .ref hp, .ref hc, .int wy2_15, .int dn2_16])), (hn, .inl (cA, 34, .inl f2_17))] H := hP
    have hD : va_D A [(h0, .inr (4, [.ref hn, .ref hs, .ref hd, .ref hp, .ref hc, .int wy2_15, .int dn2_16])), (hn, .inl (cA, 34, .inl f2_17))] := hD
    exact endV X hr hlocks hP hD hS dX4_addTo_32 ⟨wy2_15, dn2_16, f2_17, hf_18, rfl⟩
set_option maxHeartbeats 4000000 in
set_option maxRecDepth 100000 in
theorem c_s_compare (l : Launch) (D : va_G) (cA cB : ClassId) (h0 : Nat) (hn : Nat) (hs : Nat) (hd : Nat) (hp : Nat) (hc : Nat) (wy : Int32) (dn : Int32) (f : Nat → Int32) (u : Nat) (v : Nat) (hf : okN f) (hu : u < 256) (hv : v < 256) : CV l yX4_compare cX4_compare 3 none 1 22 0 0 D cA cB [.ref h0, .int (nI u), .int (nI v)] [(h0, .inr (4, [.ref hn, .ref hs, .ref hd, .ref hp, .ref hc, .int wy, .int dn])), (hn, .inl (cA, 34, .inl f))] (fun W1 => ∃ (wy2 : Int32) (dn2 : Int32) (f2 : Nat → Int32), (okN f2) ∧ W1 = [(h0, .inr (4, [.ref hn, .ref hs, .ref hd, .ref hp, .ref hc, .int wy2, .int dn2])), (hn, .inl (cA, 34, .inl f2))]) := by
  refine mkV (lv0 := [(0, .ref h0), (1, .int (nI u)), (2, .int (nI v))]) (by decide) (Nat.le_of_ble_eq_true rfl) rfl ?_
  intro p e s m below meth c A ls X hr hlocks hnm hE hA hP hD hS hl
  have hx := X.1
  have hb := X.2.1
  refine lv_aload_n hx hb dX4_compare_0 rfl (lv_at hl 0 rfl) ?_
  refine lv_iconst (v := 1) hx hb dX4_compare_1 (by decide) ?_
  refine lv_iload_n hx hb dX4_compare_2 rfl (lv_at hl 1 rfl) ?_
  refine lv_iload_n hx hb dX4_compare_3 rfl (lv_at hl 2 rfl) ?_
  refine lv_icmp_lt (tgt := 11) hx hb dX4_compare_4 (by decide) (fun c_4_1 => ?_) (fun c_4_1 => ?_)
  · have nc_4_1 : u < v := (nI_ltI (a := u) (b := v) (by omega) (by omega)).mp c_4_1
    refine lv_iconst (v := 0) hx hb dX4_compare_11 (by decide) ?_
    refine kVv (n3 := 2) (As := [.int 1, .int 0]) (rest := []) X hl.1 hE hP hD hS hA [(h0, .inr (4, [.ref hn, .ref hs, .ref hd, .ref hp, .ref hc, .int wy, .int dn])), (hn, .inl (cA, 34, .inl f))] [] [0, 1] [] rfl rfl rfl (by decide +kernel) (by decide +kernel) (by decide +kernel) (c_s_setFlag l D cA cB h0 hn hs hd hp hc wy dn f 1 0 hf (by first | assumption | decide | rfl | omega) (by first | assumption | decide | rfl | omega)) w_95 w_66 w_94 w_96 w_97 0 (ci := 4) (T := TX4) (N := 7) rfl rfl (by decide +kernel) rfl rfl (Nat.le_of_ble_eq_true rfl) ⟨(Nat.le_of_ble_eq_true rfl), (Nat.le_of_ble_eq_true rfl)⟩ ⟨(Nat.le_of_ble_eq_true rfl), (Nat.le_of_ble_eq_true rfl)⟩ dX4_compare_12 (fun W1 H locs hw hP hD hS => ?_)
    obtain ⟨wy2_2, dn2_3, f2_4, hf_5, rfl⟩ := hw
    have hP : va_P D classes [(h0, .inr (4, [.ref hn, .ref hs, .ref hd, .ref hp, .ref hc, .int wy2_2, .int dn2_3])), (hn, .inl (cA, 34, .inl f2_4))] H := hP
    have hD : va_D A [(h0, .inr (4, [.ref hn, .ref hs, .ref hd, .ref hp, .ref hc, .int wy2_2, .int dn2_3])), (hn, .inl (cA, 34, .inl f2_4))] := hD
    refine lv_aload_n hx hb dX4_compare_15 rfl (lv_at hl 0 rfl) ?_
    refine lv_iload_n hx hb dX4_compare_16 rfl (lv_at hl 1 rfl) ?_
    refine lv_iload_n hx hb dX4_compare_17 rfl (lv_at hl 2 rfl) ?_
    refine lv_isub hx hb dX4_compare_18 ?_
    refine lv_sipush (v := 255) hx hb dX4_compare_19 (by decide) ?_
    refine lv_iand hx hb dX4_compare_22 ?_
    obtain ⟨k_6, hk_6, ek_6⟩ := pk_andE ((nI u) - (nI v)) (m := 255) 8 (by decide)
    have hk_6 : k_6 < 256 := hk_6
    refine tk (y := nI k_6) ek_6 ?_
    refine kVv (n3 := 1) (As := [.int (nI k_6)]) (rest := []) X hl.1 hE hP hD hS hA [(h0, .inr (4, [.ref hn, .ref hs, .ref hd, .ref hp, .ref hc, .int wy2_2, .int dn2_3])), (hn, .inl (cA, 34, .inl f2_4))] [] [0, 1] [] rfl rfl rfl (by decide +kernel) (by decide +kernel) (by decide +kernel) (c_s_setNz l D cA cB h0 hn hs hd hp hc wy2_2 dn2_3 f2_4 k_6 hf_5 (by first | assumption | decide | rfl | omega)) w_87 w_66 w_86 w_88 w_89 0 (ci := 4) (T := TX4) (N := 7) rfl rfl (by decide +kernel) rfl rfl (Nat.le_of_ble_eq_true rfl) ⟨(Nat.le_of_ble_eq_true rfl), (Nat.le_of_ble_eq_true rfl)⟩ ⟨(Nat.le_of_ble_eq_true rfl), (Nat.le_of_ble_eq_true rfl)⟩ dX4_compare_23 (fun W1 H locs hw hP hD hS => ?_)
    obtain ⟨wy2_7, dn2_8, f2_9, hf_10, rfl⟩ := hw
    have hP : va_P D classes [(h0, .inr (4, [.ref hn, .ref hs, .ref hd, .ref hp, .ref hc, .int wy2_7, .int dn2_8])), (hn, .inl (cA, 34, .inl f2_9))] H := hP
    have hD : va_D A [(h0, .inr (4, [.ref hn, .ref hs, .ref hd, .ref hp, .ref hc, .int wy2_7, .int dn2_8])), (hn, .inl (cA, 34, .inl f2_9))] := hD
    exact endV X hr hlocks hP hD hS dX4_compare_26 ⟨wy2_7, dn2_8, f2_9, hf_10, rfl⟩
  · have nc_4_1 : v ≤ u := Nat.not_lt.mp (fun q => c_4_1 ((nI_ltI (a := u) (b := v) (by omega) (by omega)).mpr q))
    refine lv_iconst (v := 1) hx hb dX4_compare_7 (by decide) ?_
    refine lv_goto (tgt := 12) hx hb dX4_compare_8 (by decide) ?_
    refine kVv (n3 := 2) (As := [.int 1, .int 1]) (rest := []) X hl.1 hE hP hD hS hA [(h0, .inr (4, [.ref hn, .ref hs, .ref hd, .ref hp, .ref hc, .int wy, .int dn])), (hn, .inl (cA, 34, .inl f))] [] [0, 1] [] rfl rfl rfl (by decide +kernel) (by decide +kernel) (by decide +kernel) (c_s_setFlag l D cA cB h0 hn hs hd hp hc wy dn f 1 1 hf (by first | assumption | decide | rfl | omega) (by first | assumption | decide | rfl | omega)) w_95 w_66 w_94 w_96 w_97 0 (ci := 4) (T := TX4) (N := 7) rfl rfl (by decide +kernel) rfl rfl (Nat.le_of_ble_eq_true rfl) ⟨(Nat.le_of_ble_eq_true rfl), (Nat.le_of_ble_eq_true rfl)⟩ ⟨(Nat.le_of_ble_eq_true rfl), (Nat.le_of_ble_eq_true rfl)⟩ dX4_compare_12 (fun W1 H locs hw hP hD hS => ?_)
    obtain ⟨wy2_11, dn2_12, f2_13, hf_14, rfl⟩ := hw
    have hP : va_P D classes [(h0, .inr (4, [.ref hn, .ref hs, .ref hd, .ref hp, .ref hc, .int wy2_11, .int dn2_12])), (hn, .inl (cA, 34, .inl f2_13))] H := hP
    have hD : va_D A [(h0, .inr (4, [.ref hn, .ref hs, .ref hd, .ref hp, .ref hc, .int wy2_11, .int dn2_12])), (hn, .inl (cA, 34, .inl f2_13))] := hD
    refine lv_aload_n hx hb dX4_compare_15 rfl (lv_at hl 0 rfl) ?_
    refine lv_iload_n hx hb dX4_compare_16 rfl (lv_at hl 1 rfl) ?_
    refine lv_iload_n hx hb dX4_compare_17 rfl (lv_at hl 2 rfl) ?_
    refine lv_isub hx hb dX4_compare_18 ?_
    refine lv_sipush (v := 255) hx hb dX4_compare_19 (by decide) ?_
    refine lv_iand hx hb dX4_compare_22 ?_
    obtain ⟨k_15, hk_15, ek_15⟩ := pk_andE ((nI u) - (nI v)) (m := 255) 8 (by decide)
    have hk_15 : k_15 < 256 := hk_15
    refine tk (y := nI k_15) ek_15 ?_
    refine kVv (n3 := 1) (As := [.int (nI k_15)]) (rest := []) X hl.1 hE hP hD hS hA [(h0, .inr (4, [.ref hn, .ref hs, .ref hd, .ref hp, .ref hc, .int wy2_11, .int dn2_12])), (hn, .inl (cA, 34, .inl f2_13))] [] [0, 1] [] rfl rfl rfl (by decide +kernel) (by decide +kernel) (by decide +kernel) (c_s_setNz l D cA cB h0 hn hs hd hp hc wy2_11 dn2_12 f2_13 k_15 hf_14 (by first | assumption | decide | rfl | omega)) w_87 w_66 w_86 w_88 w_89 0 (ci := 4) (T := TX4) (N := 7) rfl rfl (by decide +kernel) rfl rfl (Nat.le_of_ble_eq_true rfl) ⟨(Nat.le_of_ble_eq_true rfl), (Nat.le_of_ble_eq_true rfl)⟩ ⟨(Nat.le_of_ble_eq_true rfl), (Nat.le_of_ble_eq_true rfl)⟩ dX4_compare_23 (fun W1 H locs hw hP hD hS => ?_)
    obtain ⟨wy2_16, dn2_17, f2_18, hf_19, rfl⟩ := hw
    have hP : va_P D classes [(h0, .inr (4, [.ref hn, .ref hs, .ref hd, .ref hp, .ref hc, .int wy2_16, .int dn2_17])), (hn, .inl (cA, 34, .inl f2_18))] H := hP
    have hD : va_D A [(h0, .inr (4, [.ref hn, .ref hs, .ref hd, .ref hp, .ref hc, .int wy2_16, .int dn2_17])), (hn, .inl (cA, 34, .inl f2_18))] := hD
    exact endV X hr hlocks hP hD hS dX4_compare_26 ⟨wy2_16, dn2_17, f2_18, hf_19, rfl⟩
set_option maxHeartbeats 4000000 in
set_option maxRecDepth 100000 in
theorem c_s_test (l : Launch) (D : va_G) (cA cB : ClassId) (h0 : Nat) (hn : Nat) (hs : Nat) (hd : Nat) (hp : Nat) (hc : Nat) (wy : Int32) (dn : Int32) (f : Nat → Int32) (v : Nat) (hf : okN f) (hv : v < 256) : CV l yX4_test cX4_test 2 none 1 22 0 0 D cA cB [.ref h0, .int (nI v)] [(h0, .inr (4, [.ref hn, .ref hs, .ref hd, .ref hp, .ref hc, .int wy, .int dn])), (hn, .inl (cA, 34, .inl f))] (fun W1 => ∃ (wy2 : Int32) (dn2 : Int32) (f2 : Nat → Int32), (okN f2) ∧ W1 = [(h0, .inr (4, [.ref hn, .ref hs, .ref hd, .ref hp, .ref hc, .int wy2, .int dn2])), (hn, .inl (cA, 34, .inl f2))]) := by
  refine mkV (lv0 := [(0, .ref h0), (1, .int (nI v))]) (by decide) (Nat.le_of_ble_eq_true rfl) rfl ?_
  intro p e s m below meth c A ls X hr hlocks hnm hE hA hP hD hS hl
  have hx := X.1
  have hb := X.2.1
  refine lv_aload_n hx hb dX4_test_0 rfl (lv_at hl 0 rfl) ?_
  refine lv_iconst (v := 2) hx hb dX4_test_1 (by decide) ?_
  refine lv_aload_n hx hb dX4_test_2 rfl (lv_at hl 0 rfl) ?_
  refine k_get (C := RX4) (T := TX4) (N := 7) (ci := 4) (v := .ref hn) X hE hP 0 rfl rfl iX4 0 (by decide) w_69 rfl dX4_test_3 ?_
  refine lv_iconst (v := 0) hx hb dX4_test_6 (by decide) ?_
  obtain ⟨k_1, hk_1, ek_1⟩ := hf.at 0 256 (by decide) rfl
  refine k_ald (v := nI k_1) X hE hP 1 rfl 0 rfl (by decide) (by decide) ek_1 dX4_test_7 ?_
  refine lv_iload_n hx hb dX4_test_8 rfl (lv_at hl 1 rfl) ?_
  refine lv_iand hx hb dX4_test_9 ?_
  obtain ⟨k_2, hk_2, ek_2⟩ := sf_and (a := k_1) (by omega) (nI v) (by omega : k_1 < 256)
  have hk_2 : k_2 < 256 := hk_2
  refine tk (y := nI k_2) ek_2 ?_
  refine lv_if_ne (tgt := 17) hx hb dX4_test_10 (by decide) (fun c_10_3 => ?_) (fun c_10_3 => ?_)
  · have nc_10_3 : ¬ k_2 = 0 := fun q => c_10_3 ((nI_eq (a := k_2) (b := 0) (by omega) (by omega)).mpr q)
    refine lv_iconst (v := 0) hx hb dX4_test_17 (by decide) ?_
    refine kVv (n3 := 2) (As := [.int 2, .int 0]) (rest := []) X hl.1 hE hP hD hS hA [(h0, .inr (4, [.ref hn, .ref hs, .ref hd, .ref hp, .ref hc, .int wy, .int dn])), (hn, .inl (cA, 34, .inl f))] [] [0, 1] [] rfl rfl rfl (by decide +kernel) (by decide +kernel) (by decide +kernel) (c_s_setFlag l D cA cB h0 hn hs hd hp hc wy dn f 2 0 hf (by first | assumption | decide | rfl | omega) (by first | assumption | decide | rfl | omega)) w_95 w_66 w_94 w_96 w_97 0 (ci := 4) (T := TX4) (N := 7) rfl rfl (by decide +kernel) rfl rfl (Nat.le_of_ble_eq_true rfl) ⟨(Nat.le_of_ble_eq_true rfl), (Nat.le_of_ble_eq_true rfl)⟩ ⟨(Nat.le_of_ble_eq_true rfl), (Nat.le_of_ble_eq_true rfl)⟩ dX4_test_18 (fun W1 H locs hw hP hD hS => ?_)
    obtain ⟨wy2_4, dn2_5, f2_6, hf_7, rfl⟩ := hw
    have hP : va_P D classes [(h0, .inr (4, [.ref hn, .ref hs, .ref hd, .ref hp, .ref hc, .int wy2_4, .int dn2_5])), (hn, .inl (cA, 34, .inl f2_6))] H := hP
    have hD : va_D A [(h0, .inr (4, [.ref hn, .ref hs, .ref hd, .ref hp, .ref hc, .int wy2_4, .int dn2_5])), (hn, .inl (cA, 34, .inl f2_6))] := hD
    refine lv_aload_n hx hb dX4_test_21 rfl (lv_at hl 0 rfl) ?_
    refine lv_sipush (v := 128) hx hb dX4_test_22 (by decide) ?_
    refine lv_iload_n hx hb dX4_test_25 rfl (lv_at hl 1 rfl) ?_
    refine lv_sipush (v := 128) hx hb dX4_test_26 (by decide) ?_
    refine lv_iand hx hb dX4_test_29 ?_
    obtain ⟨k_8, hk_8, ek_8⟩ := sf_and (a := v) (by omega) 128 (by omega : v < 256)
    have hk_8 : k_8 < 256 := hk_8
    refine tk (y := nI k_8) ek_8 ?_
    refine lv_if_eq (tgt := 37) hx hb dX4_test_30 (by decide) (fun c_30_9 => ?_) (fun c_30_9 => ?_)
    · have nc_30_9 : k_8 = 0 := (nI_eq (a := k_8) (b := 0) (by omega) (by omega)).mp c_30_9
      refine lv_iconst (v := 0) hx hb dX4_test_37 (by decide) ?_
      refine kVv (n3 := 2) (As := [.int 128, .int 0]) (rest := []) X hl.1 hE hP hD hS hA [(h0, .inr (4, [.ref hn, .ref hs, .ref hd, .ref hp, .ref hc, .int wy2_4, .int dn2_5])), (hn, .inl (cA, 34, .inl f2_6))] [] [0, 1] [] rfl rfl rfl (by decide +kernel) (by decide +kernel) (by decide +kernel) (c_s_setFlag l D cA cB h0 hn hs hd hp hc wy2_4 dn2_5 f2_6 128 0 hf_7 (by first | assumption | decide | rfl | omega) (by first | assumption | decide | rfl | omega)) w_95 w_66 w_94 w_96 w_97 0 (ci := 4) (T := TX4) (N := 7) rfl rfl (by decide +kernel) rfl rfl (Nat.le_of_ble_eq_true rfl) ⟨(Nat.le_of_ble_eq_true rfl), (Nat.le_of_ble_eq_true rfl)⟩ ⟨(Nat.le_of_ble_eq_true rfl), (Nat.le_of_ble_eq_true rfl)⟩ dX4_test_38 (fun W1 H locs hw hP hD hS => ?_)
      obtain ⟨wy2_10, dn2_11, f2_12, hf_13, rfl⟩ := hw
      have hP : va_P D classes [(h0, .inr (4, [.ref hn, .ref hs, .ref hd, .ref hp, .ref hc, .int wy2_10, .int dn2_11])), (hn, .inl (cA, 34, .inl f2_12))] H := hP
      have hD : va_D A [(h0, .inr (4, [.ref hn, .ref hs, .ref hd, .ref hp, .ref hc, .int wy2_10, .int dn2_11])), (hn, .inl (cA, 34, .inl f2_12))] := hD
      refine lv_aload_n hx hb dX4_test_41 rfl (lv_at hl 0 rfl) ?_
      refine lv_bipush (v := 64) hx hb dX4_test_42 (by decide) ?_
      refine lv_iload_n hx hb dX4_test_44 rfl (lv_at hl 1 rfl) ?_
      refine lv_bipush (v := 64) hx hb dX4_test_45 (by decide) ?_
      refine lv_iand hx hb dX4_test_47 ?_
      obtain ⟨k_14, hk_14, ek_14⟩ := sf_and (a := v) (by omega) 64 (by omega : v < 256)
      have hk_14 : k_14 < 256 := hk_14
      refine tk (y := nI k_14) ek_14 ?_
      refine lv_if_eq (tgt := 55) hx hb dX4_test_48 (by decide) (fun c_48_15 => ?_) (fun c_48_15 => ?_)
      · have nc_48_15 : k_14 = 0 := (nI_eq (a := k_14) (b := 0) (by omega) (by omega)).mp c_48_15
        refine lv_iconst (v := 0) hx hb dX4_test_55 (by decide) ?_
        refine kVv (n3 := 2) (As := [.int 64, .int 0]) (rest := []) X hl.1 hE hP hD hS hA [(h0, .inr (4, [.ref hn, .ref hs, .ref hd, .ref hp, .ref hc, .int wy2_10, .int dn2_11])), (hn, .inl (cA, 34, .inl f2_12))] [] [0, 1] [] rfl rfl rfl (by decide +kernel) (by decide +kernel) (by decide +kernel) (c_s_setFlag l D cA cB h0 hn hs hd hp hc wy2_10 dn2_11 f2_12 64 0 hf_13 (by first | assumption | decide | rfl | omega) (by first | assumption | decide | rfl | omega)) w_95 w_66 w_94 w_96 w_97 0 (ci := 4) (T := TX4) (N := 7) rfl rfl (by decide +kernel) rfl rfl (Nat.le_of_ble_eq_true rfl) ⟨(Nat.le_of_ble_eq_true rfl), (Nat.le_of_ble_eq_true rfl)⟩ ⟨(Nat.le_of_ble_eq_true rfl), (Nat.le_of_ble_eq_true rfl)⟩ dX4_test_56 (fun W1 H locs hw hP hD hS => ?_)
        obtain ⟨wy2_16, dn2_17, f2_18, hf_19, rfl⟩ := hw
        have hP : va_P D classes [(h0, .inr (4, [.ref hn, .ref hs, .ref hd, .ref hp, .ref hc, .int wy2_16, .int dn2_17])), (hn, .inl (cA, 34, .inl f2_18))] H := hP
        have hD : va_D A [(h0, .inr (4, [.ref hn, .ref hs, .ref hd, .ref hp, .ref hc, .int wy2_16, .int dn2_17])), (hn, .inl (cA, 34, .inl f2_18))] := hD
        exact endV X hr hlocks hP hD hS dX4_test_59 ⟨wy2_16, dn2_17, f2_18, hf_19, rfl⟩
      · have nc_48_15 : ¬ k_14 = 0 := fun q => c_48_15 ((nI_eq (a := k_14) (b := 0) (by omega) (by omega)).mpr q)
        refine lv_iconst (v := 1) hx hb dX4_test_51 (by decide) ?_
        refine lv_goto (tgt := 56) hx hb dX4_test_52 (by decide) ?_
        refine kVv (n3 := 2) (As := [.int 64, .int 1]) (rest := []) X hl.1 hE hP hD hS hA [(h0, .inr (4, [.ref hn, .ref hs, .ref hd, .ref hp, .ref hc, .int wy2_10, .int dn2_11])), (hn, .inl (cA, 34, .inl f2_12))] [] [0, 1] [] rfl rfl rfl (by decide +kernel) (by decide +kernel) (by decide +kernel) (c_s_setFlag l D cA cB h0 hn hs hd hp hc wy2_10 dn2_11 f2_12 64 1 hf_13 (by first | assumption | decide | rfl | omega) (by first | assumption | decide | rfl | omega)) w_95 w_66 w_94 w_96 w_97 0 (ci := 4) (T := TX4) (N := 7) rfl rfl (by decide +kernel) rfl rfl (Nat.le_of_ble_eq_true rfl) ⟨(Nat.le_of_ble_eq_true rfl), (Nat.le_of_ble_eq_true rfl)⟩ ⟨(Nat.le_of_ble_eq_true rfl), (Nat.le_of_ble_eq_true rfl)⟩ dX4_test_56 (fun W1 H locs hw hP hD hS => ?_)
        obtain ⟨wy2_20, dn2_21, f2_22, hf_23, rfl⟩ := hw
        have hP : va_P D classes [(h0, .inr (4, [.ref hn, .ref hs, .ref hd, .ref hp, .ref hc, .int wy2_20, .int dn2_21])), (hn, .inl (cA, 34, .inl f2_22))] H := hP
        have hD : va_D A [(h0, .inr (4, [.ref hn, .ref hs, .ref hd, .ref hp, .ref hc, .int wy2_20, .int dn2_21])), (hn, .inl (cA, 34, .inl f2_22))] := hD
        exact endV X hr hlocks hP hD hS dX4_test_59 ⟨wy2_20, dn2_21, f2_22, hf_23, rfl⟩
    · have nc_30_9 : ¬ k_8 = 0 := fun q => c_30_9 ((nI_eq (a := k_8) (b := 0) (by omega) (by omega)).mpr q)
      refine lv_iconst (v := 1) hx hb dX4_test_33 (by decide) ?_
      refine lv_goto (tgt := 38) hx hb dX4_test_34 (by decide) ?_
      refine kVv (n3 := 2) (As := [.int 128, .int 1]) (rest := []) X hl.1 hE hP hD hS hA [(h0, .inr (4, [.ref hn, .ref hs, .ref hd, .ref hp, .ref hc, .int wy2_4, .int dn2_5])), (hn, .inl (cA, 34, .inl f2_6))] [] [0, 1] [] rfl rfl rfl (by decide +kernel) (by decide +kernel) (by decide +kernel) (c_s_setFlag l D cA cB h0 hn hs hd hp hc wy2_4 dn2_5 f2_6 128 1 hf_7 (by first | assumption | decide | rfl | omega) (by first | assumption | decide | rfl | omega)) w_95 w_66 w_94 w_96 w_97 0 (ci := 4) (T := TX4) (N := 7) rfl rfl (by decide +kernel) rfl rfl (Nat.le_of_ble_eq_true rfl) ⟨(Nat.le_of_ble_eq_true rfl), (Nat.le_of_ble_eq_true rfl)⟩ ⟨(Nat.le_of_ble_eq_true rfl), (Nat.le_of_ble_eq_true rfl)⟩ dX4_test_38 (fun W1 H locs hw hP hD hS => ?_)
      obtain ⟨wy2_24, dn2_25, f2_26, hf_27, rfl⟩ := hw
      have hP : va_P D classes [(h0, .inr (4, [.ref hn, .ref hs, .ref hd, .ref hp, .ref hc, .int wy2_24, .int dn2_25])), (hn, .inl (cA, 34, .inl f2_26))] H := hP
      have hD : va_D A [(h0, .inr (4, [.ref hn, .ref hs, .ref hd, .ref hp, .ref hc, .int wy2_24, .int dn2_25])), (hn, .inl (cA, 34, .inl f2_26))] := hD
      refine lv_aload_n hx hb dX4_test_41 rfl (lv_at hl 0 rfl) ?_
      refine lv_bipush (v := 64) hx hb dX4_test_42 (by decide) ?_
      refine lv_iload_n hx hb dX4_test_44 rfl (lv_at hl 1 rfl) ?_
      refine lv_bipush (v := 64) hx hb dX4_test_45 (by decide) ?_
      refine lv_iand hx hb dX4_test_47 ?_
      obtain ⟨k_28, hk_28, ek_28⟩ := sf_and (a := v) (by omega) 64 (by omega : v < 256)
      have hk_28 : k_28 < 256 := hk_28
      refine tk (y := nI k_28) ek_28 ?_
      refine lv_if_eq (tgt := 55) hx hb dX4_test_48 (by decide) (fun c_48_29 => ?_) (fun c_48_29 => ?_)
      · have nc_48_29 : k_28 = 0 := (nI_eq (a := k_28) (b := 0) (by omega) (by omega)).mp c_48_29
        refine lv_iconst (v := 0) hx hb dX4_test_55 (by decide) ?_
        refine kVv (n3 := 2) (As := [.int 64, .int 0]) (rest := []) X hl.1 hE hP hD hS hA [(h0, .inr (4, [.ref hn, .ref hs, .ref hd, .ref hp, .ref hc, .int wy2_24, .int dn2_25])), (hn, .inl (cA, 34, .inl f2_26))] [] [0, 1] [] rfl rfl rfl (by decide +kernel) (by decide +kernel) (by decide +kernel) (c_s_setFlag l D cA cB h0 hn hs hd hp hc wy2_24 dn2_25 f2_26 64 0 hf_27 (by first | assumption | decide | rfl | omega) (by first | assumption | decide | rfl | omega)) w_95 w_66 w_94 w_96 w_97 0 (ci := 4) (T := TX4) (N := 7) rfl rfl (by decide +kernel) rfl rfl (Nat.le_of_ble_eq_true rfl) ⟨(Nat.le_of_ble_eq_true rfl), (Nat.le_of_ble_eq_true rfl)⟩ ⟨(Nat.le_of_ble_eq_true rfl), (Nat.le_of_ble_eq_true rfl)⟩ dX4_test_56 (fun W1 H locs hw hP hD hS => ?_)
        obtain ⟨wy2_30, dn2_31, f2_32, hf_33, rfl⟩ := hw
        have hP : va_P D classes [(h0, .inr (4, [.ref hn, .ref hs, .ref hd, .ref hp, .ref hc, .int wy2_30, .int dn2_31])), (hn, .inl (cA, 34, .inl f2_32))] H := hP
        have hD : va_D A [(h0, .inr (4, [.ref hn, .ref hs, .ref hd, .ref hp, .ref hc, .int wy2_30, .int dn2_31])), (hn, .inl (cA, 34, .inl f2_32))] := hD
        exact endV X hr hlocks hP hD hS dX4_test_59 ⟨wy2_30, dn2_31, f2_32, hf_33, rfl⟩
      · have nc_48_29 : ¬ k_28 = 0 := fun q => c_48_29 ((nI_eq (a := k_28) (b := 0) (by omega) (by omega)).mpr q)
        refine lv_iconst (v := 1) hx hb dX4_test_51 (by decide) ?_
        refine lv_goto (tgt := 56) hx hb dX4_test_52 (by decide) ?_
        refine kVv (n3 := 2) (As := [.int 64, .int 1]) (rest := []) X hl.1 hE hP hD hS hA [(h0, .inr (4, [.ref hn, .ref hs, .ref hd, .ref hp, .ref hc, .int wy2_24, .int dn2_25])), (hn, .inl (cA, 34, .inl f2_26))] [] [0, 1] [] rfl rfl rfl (by decide +kernel) (by decide +kernel) (by decide +kernel) (c_s_setFlag l D cA cB h0 hn hs hd hp hc wy2_24 dn2_25 f2_26 64 1 hf_27 (by first | assumption | decide | rfl | omega) (by first | assumption | decide | rfl | omega)) w_95 w_66 w_94 w_96 w_97 0 (ci := 4) (T := TX4) (N := 7) rfl rfl (by decide +kernel) rfl rfl (Nat.le_of_ble_eq_true rfl) ⟨(Nat.le_of_ble_eq_true rfl), (Nat.le_of_ble_eq_true rfl)⟩ ⟨(Nat.le_of_ble_eq_true rfl), (Nat.le_of_ble_eq_true rfl)⟩ dX4_test_56 (fun W1 H locs hw hP hD hS => ?_)
        obtain ⟨wy2_34, dn2_35, f2_36, hf_37, rfl⟩ := hw
        have hP : va_P D classes [(h0, .inr (4, [.ref hn, .ref hs, .ref hd, .ref hp, .ref hc, .int wy2_34, .int dn2_35])), (hn, .inl (cA, 34, .inl f2_36))] H := hP
        have hD : va_D A [(h0, .inr (4, [.ref hn, .ref hs, .ref hd, .ref hp, .ref hc, .int wy2_34, .int dn2_35])), (hn, .inl (cA, 34, .inl f2_36))] := hD
        exact endV X hr hlocks hP hD hS dX4_test_59 ⟨wy2_34, dn2_35, f2_36, hf_37, rfl⟩
  · have nc_10_3 : k_2 = 0 := (nI_eq (a := k_2) (b := 0) (by omega) (by omega)).mp c_10_3
    refine lv_iconst (v := 1) hx hb dX4_test_13 (by decide) ?_
    refine lv_goto (tgt := 18) hx hb dX4_test_14 (by decide) ?_
    refine kVv (n3 := 2) (As := [.int 2, .int 1]) (rest := []) X hl.1 hE hP hD hS hA [(h0, .inr (4, [.ref hn, .ref hs, .ref hd, .ref hp, .ref hc, .int wy, .int dn])), (hn, .inl (cA, 34, .inl f))] [] [0, 1] [] rfl rfl rfl (by decide +kernel) (by decide +kernel) (by decide +kernel) (c_s_setFlag l D cA cB h0 hn hs hd hp hc wy dn f 2 1 hf (by first | assumption | decide | rfl | omega) (by first | assumption | decide | rfl | omega)) w_95 w_66 w_94 w_96 w_97 0 (ci := 4) (T := TX4) (N := 7) rfl rfl (by decide +kernel) rfl rfl (Nat.le_of_ble_eq_true rfl) ⟨(Nat.le_of_ble_eq_true rfl), (Nat.le_of_ble_eq_true rfl)⟩ ⟨(Nat.le_of_ble_eq_true rfl), (Nat.le_of_ble_eq_true rfl)⟩ dX4_test_18 (fun W1 H locs hw hP hD hS => ?_)
    obtain ⟨wy2_38, dn2_39, f2_40, hf_41, rfl⟩ := hw
    have hP : va_P D classes [(h0, .inr (4, [.ref hn, .ref hs, .ref hd, .ref hp, .ref hc, .int wy2_38, .int dn2_39])), (hn, .inl (cA, 34, .inl f2_40))] H := hP
    have hD : va_D A [(h0, .inr (4, [.ref hn, .ref hs, .ref hd, .ref hp, .ref hc, .int wy2_38, .int dn2_39])), (hn, .inl (cA, 34, .inl f2_40))] := hD
    refine lv_aload_n hx hb dX4_test_21 rfl (lv_at hl 0 rfl) ?_
    refine lv_sipush (v := 128) hx hb dX4_test_22 (by decide) ?_
    refine lv_iload_n hx hb dX4_test_25 rfl (lv_at hl 1 rfl) ?_
    refine lv_sipush (v := 128) hx hb dX4_test_26 (by decide) ?_
    refine lv_iand hx hb dX4_test_29 ?_
    obtain ⟨k_42, hk_42, ek_42⟩ := sf_and (a := v) (by omega) 128 (by omega : v < 256)
    have hk_42 : k_42 < 256 := hk_42
    refine tk (y := nI k_42) ek_42 ?_
    refine lv_if_eq (tgt := 37) hx hb dX4_test_30 (by decide) (fun c_30_43 => ?_) (fun c_30_43 => ?_)
    · have nc_30_43 : k_42 = 0 := (nI_eq (a := k_42) (b := 0) (by omega) (by omega)).mp c_30_43
      refine lv_iconst (v := 0) hx hb dX4_test_37 (by decide) ?_
      refine kVv (n3 := 2) (As := [.int 128, .int 0]) (rest := []) X hl.1 hE hP hD hS hA [(h0, .inr (4, [.ref hn, .ref hs, .ref hd, .ref hp, .ref hc, .int wy2_38, .int dn2_39])), (hn, .inl (cA, 34, .inl f2_40))] [] [0, 1] [] rfl rfl rfl (by decide +kernel) (by decide +kernel) (by decide +kernel) (c_s_setFlag l D cA cB h0 hn hs hd hp hc wy2_38 dn2_39 f2_40 128 0 hf_41 (by first | assumption | decide | rfl | omega) (by first | assumption | decide | rfl | omega)) w_95 w_66 w_94 w_96 w_97 0 (ci := 4) (T := TX4) (N := 7) rfl rfl (by decide +kernel) rfl rfl (Nat.le_of_ble_eq_true rfl) ⟨(Nat.le_of_ble_eq_true rfl), (Nat.le_of_ble_eq_true rfl)⟩ ⟨(Nat.le_of_ble_eq_true rfl), (Nat.le_of_ble_eq_true rfl)⟩ dX4_test_38 (fun W1 H locs hw hP hD hS => ?_)
      obtain ⟨wy2_44, dn2_45, f2_46, hf_47, rfl⟩ := hw
      have hP : va_P D classes [(h0, .inr (4, [.ref hn, .ref hs, .ref hd, .ref hp, .ref hc, .int wy2_44, .int dn2_45])), (hn, .inl (cA, 34, .inl f2_46))] H := hP
      have hD : va_D A [(h0, .inr (4, [.ref hn, .ref hs, .ref hd, .ref hp, .ref hc, .int wy2_44, .int dn2_45])), (hn, .inl (cA, 34, .inl f2_46))] := hD
      refine lv_aload_n hx hb dX4_test_41 rfl (lv_at hl 0 rfl) ?_
      refine lv_bipush (v := 64) hx hb dX4_test_42 (by decide) ?_
      refine lv_iload_n hx hb dX4_test_44 rfl (lv_at hl 1 rfl) ?_
      refine lv_bipush (v := 64) hx hb dX4_test_45 (by decide) ?_
      refine lv_iand hx hb dX4_test_47 ?_
      obtain ⟨k_48, hk_48, ek_48⟩ := sf_and (a := v) (by omega) 64 (by omega : v < 256)
      have hk_48 : k_48 < 256 := hk_48
      refine tk (y := nI k_48) ek_48 ?_
      refine lv_if_eq (tgt := 55) hx hb dX4_test_48 (by decide) (fun c_48_49 => ?_) (fun c_48_49 => ?_)
      · have nc_48_49 : k_48 = 0 := (nI_eq (a := k_48) (b := 0) (by omega) (by omega)).mp c_48_49
        refine lv_iconst (v := 0) hx hb dX4_test_55 (by decide) ?_
        refine kVv (n3 := 2) (As := [.int 64, .int 0]) (rest := []) X hl.1 hE hP hD hS hA [(h0, .inr (4, [.ref hn, .ref hs, .ref hd, .ref hp, .ref hc, .int wy2_44, .int dn2_45])), (hn, .inl (cA, 34, .inl f2_46))] [] [0, 1] [] rfl rfl rfl (by decide +kernel) (by decide +kernel) (by decide +kernel) (c_s_setFlag l D cA cB h0 hn hs hd hp hc wy2_44 dn2_45 f2_46 64 0 hf_47 (by first | assumption | decide | rfl | omega) (by first | assumption | decide | rfl | omega)) w_95 w_66 w_94 w_96 w_97 0 (ci := 4) (T := TX4) (N := 7) rfl rfl (by decide +kernel) rfl rfl (Nat.le_of_ble_eq_true rfl) ⟨(Nat.le_of_ble_eq_true rfl), (Nat.le_of_ble_eq_true rfl)⟩ ⟨(Nat.le_of_ble_eq_true rfl), (Nat.le_of_ble_eq_true rfl)⟩ dX4_test_56 (fun W1 H locs hw hP hD hS => ?_)
        obtain ⟨wy2_50, dn2_51, f2_52, hf_53, rfl⟩ := hw
        have hP : va_P D classes [(h0, .inr (4, [.ref hn, .ref hs, .ref hd, .ref hp, .ref hc, .int wy2_50, .int dn2_51])), (hn, .inl (cA, 34, .inl f2_52))] H := hP
        have hD : va_D A [(h0, .inr (4, [.ref hn, .ref hs, .ref hd, .ref hp, .ref hc, .int wy2_50, .int dn2_51])), (hn, .inl (cA, 34, .inl f2_52))] := hD
        exact endV X hr hlocks hP hD hS dX4_test_59 ⟨wy2_50, dn2_51, f2_52, hf_53, rfl⟩
      · have nc_48_49 : ¬ k_48 = 0 := fun q => c_48_49 ((nI_eq (a := k_48) (b := 0) (by omega) (by omega)).mpr q)
        refine lv_iconst (v := 1) hx hb dX4_test_51 (by decide) ?_
        refine lv_goto (tgt := 56) hx hb dX4_test_52 (by decide) ?_
        refine kVv (n3 := 2) (As := [.int 64, .int 1]) (rest := []) X hl.1 hE hP hD hS hA [(h0, .inr (4, [.ref hn, .ref hs, .ref hd, .ref hp, .ref hc, .int wy2_44, .int dn2_45])), (hn, .inl (cA, 34, .inl f2_46))] [] [0, 1] [] rfl rfl rfl (by decide +kernel) (by decide +kernel) (by decide +kernel) (c_s_setFlag l D cA cB h0 hn hs hd hp hc wy2_44 dn2_45 f2_46 64 1 hf_47 (by first | assumption | decide | rfl | omega) (by first | assumption | decide | rfl | omega)) w_95 w_66 w_94 w_96 w_97 0 (ci := 4) (T := TX4) (N := 7) rfl rfl (by decide +kernel) rfl rfl (Nat.le_of_ble_eq_true rfl) ⟨(Nat.le_of_ble_eq_true rfl), (Nat.le_of_ble_eq_true rfl)⟩ ⟨(Nat.le_of_ble_eq_true rfl), (Nat.le_of_ble_eq_true rfl)⟩ dX4_test_56 (fun W1 H locs hw hP hD hS => ?_)
        obtain ⟨wy2_54, dn2_55, f2_56, hf_57, rfl⟩ := hw
        have hP : va_P D classes [(h0, .inr (4, [.ref hn, .ref hs, .ref hd, .ref hp, .ref hc, .int wy2_54, .int dn2_55])), (hn, .inl (cA, 34, .inl f2_56))] H := hP
        have hD : va_D A [(h0, .inr (4, [.ref hn, .ref hs, .ref hd, .ref hp, .ref hc, .int wy2_54, .int dn2_55])), (hn, .inl (cA, 34, .inl f2_56))] := hD
        exact endV X hr hlocks hP hD hS dX4_test_59 ⟨wy2_54, dn2_55, f2_56, hf_57, rfl⟩
    · have nc_30_43 : ¬ k_42 = 0 := fun q => c_30_43 ((nI_eq (a := k_42) (b := 0) (by omega) (by omega)).mpr q)
      refine lv_iconst (v := 1) hx hb dX4_test_33 (by decide) ?_
      refine lv_goto (tgt := 38) hx hb dX4_test_34 (by decide) ?_
      refine kVv (n3 := 2) (As := [.int 128, .int 1]) (rest := []) X hl.1 hE hP hD hS hA [(h0, .inr (4, [.ref hn, .ref hs, .ref hd, .ref hp, .ref hc, .int wy2_38, .int dn2_39])), (hn, .inl (cA, 34, .inl f2_40))] [] [0, 1] [] rfl rfl rfl (by decide +kernel) (by decide +kernel) (by decide +kernel) (c_s_setFlag l D cA cB h0 hn hs hd hp hc wy2_38 dn2_39 f2_40 128 1 hf_41 (by first | assumption | decide | rfl | omega) (by first | assumption | decide | rfl | omega)) w_95 w_66 w_94 w_96 w_97 0 (ci := 4) (T := TX4) (N := 7) rfl rfl (by decide +kernel) rfl rfl (Nat.le_of_ble_eq_true rfl) ⟨(Nat.le_of_ble_eq_true rfl), (Nat.le_of_ble_eq_true rfl)⟩ ⟨(Nat.le_of_ble_eq_true rfl), (Nat.le_of_ble_eq_true rfl)⟩ dX4_test_38 (fun W1 H locs hw hP hD hS => ?_)
      obtain ⟨wy2_58, dn2_59, f2_60, hf_61, rfl⟩ := hw
      have hP : va_P D classes [(h0, .inr (4, [.ref hn, .ref hs, .ref hd, .ref hp, .ref hc, .int wy2_58, .int dn2_59])), (hn, .inl (cA, 34, .inl f2_60))] H := hP
      have hD : va_D A [(h0, .inr (4, [.ref hn, .ref hs, .ref hd, .ref hp, .ref hc, .int wy2_58, .int dn2_59])), (hn, .inl (cA, 34, .inl f2_60))] := hD
      refine lv_aload_n hx hb dX4_test_41 rfl (lv_at hl 0 rfl) ?_
      refine lv_bipush (v := 64) hx hb dX4_test_42 (by decide) ?_
      refine lv_iload_n hx hb dX4_test_44 rfl (lv_at hl 1 rfl) ?_
      refine lv_bipush (v := 64) hx hb dX4_test_45 (by decide) ?_
      refine lv_iand hx hb dX4_test_47 ?_
      obtain ⟨k_62, hk_62, ek_62⟩ := sf_and (a := v) (by omega) 64 (by omega : v < 256)
      have hk_62 : k_62 < 256 := hk_62
      refine tk (y := nI k_62) ek_62 ?_
      refine lv_if_eq (tgt := 55) hx hb dX4_test_48 (by decide) (fun c_48_63 => ?_) (fun c_48_63 => ?_)
      · have nc_48_63 : k_62 = 0 := (nI_eq (a := k_62) (b := 0) (by omega) (by omega)).mp c_48_63
        refine lv_iconst (v := 0) hx hb dX4_test_55 (by decide) ?_
        refine kVv (n3 := 2) (As := [.int 64, .int 0]) (rest := []) X hl.1 hE hP hD hS hA [(h0, .inr (4, [.ref hn, .ref hs, .ref hd, .ref hp, .ref hc, .int wy2_58, .int dn2_59])), (hn, .inl (cA, 34, .inl f2_60))] [] [0, 1] [] rfl rfl rfl (by decide +kernel) (by decide +kernel) (by decide +kernel) (c_s_setFlag l D cA cB h0 hn hs hd hp hc wy2_58 dn2_59 f2_60 64 0 hf_61 (by first | assumption | decide | rfl | omega) (by first | assumption | decide | rfl | omega)) w_95 w_66 w_94 w_96 w_97 0 (ci := 4) (T := TX4) (N := 7) rfl rfl (by decide +kernel) rfl rfl (Nat.le_of_ble_eq_true rfl) ⟨(Nat.le_of_ble_eq_true rfl), (Nat.le_of_ble_eq_true rfl)⟩ ⟨(Nat.le_of_ble_eq_true rfl), (Nat.le_of_ble_eq_true rfl)⟩ dX4_test_56 (fun W1 H locs hw hP hD hS => ?_)
        obtain ⟨wy2_64, dn2_65, f2_66, hf_67, rfl⟩ := hw
        have hP : va_P D classes [(h0, .inr (4, [.ref hn, .ref hs, .ref hd, .ref hp, .ref hc, .int wy2_64, .int dn2_65])), (hn, .inl (cA, 34, .inl f2_66))] H := hP
        have hD : va_D A [(h0, .inr (4, [.ref hn, .ref hs, .ref hd, .ref hp, .ref hc, .int wy2_64, .int dn2_65])), (hn, .inl (cA, 34, .inl f2_66))] := hD
        exact endV X hr hlocks hP hD hS dX4_test_59 ⟨wy2_64, dn2_65, f2_66, hf_67, rfl⟩
      · have nc_48_63 : ¬ k_62 = 0 := fun q => c_48_63 ((nI_eq (a := k_62) (b := 0) (by omega) (by omega)).mpr q)
        refine lv_iconst (v := 1) hx hb dX4_test_51 (by decide) ?_
        refine lv_goto (tgt := 56) hx hb dX4_test_52 (by decide) ?_
        refine kVv (n3 := 2) (As := [.int 64, .int 1]) (rest := []) X hl.1 hE hP hD hS hA [(h0, .inr (4, [.ref hn, .ref hs, .ref hd, .ref hp, .ref hc, .int wy2_58, .int dn2_59])), (hn, .inl (cA, 34, .inl f2_60))] [] [0, 1] [] rfl rfl rfl (by decide +kernel) (by decide +kernel) (by decide +kernel) (c_s_setFlag l D cA cB h0 hn hs hd hp hc wy2_58 dn2_59 f2_60 64 1 hf_61 (by first | assumption | decide | rfl | omega) (by first | assumption | decide | rfl | omega)) w_95 w_66 w_94 w_96 w_97 0 (ci := 4) (T := TX4) (N := 7) rfl rfl (by decide +kernel) rfl rfl (Nat.le_of_ble_eq_true rfl) ⟨(Nat.le_of_ble_eq_true rfl), (Nat.le_of_ble_eq_true rfl)⟩ ⟨(Nat.le_of_ble_eq_true rfl), (Nat.le_of_ble_eq_true rfl)⟩ dX4_test_56 (fun W1 H locs hw hP hD hS => ?_)
        obtain ⟨wy2_68, dn2_69, f2_70, hf_71, rfl⟩ := hw
        have hP : va_P D classes [(h0, .inr (4, [.ref hn, .ref hs, .ref hd, .ref hp, .ref hc, .int wy2_68, .int dn2_69])), (hn, .inl (cA, 34, .inl f2_70))] H := hP
        have hD : va_D A [(h0, .inr (4, [.ref hn, .ref hs, .ref hd, .ref hp, .ref hc, .int wy2_68, .int dn2_69])), (hn, .inl (cA, 34, .inl f2_70))] := hD
        exact endV X hr hlocks hP hD hS dX4_test_59 ⟨wy2_68, dn2_69, f2_70, hf_71, rfl⟩
set_option maxHeartbeats 4000000 in
set_option maxRecDepth 100000 in
theorem c_s_multiply (l : Launch) (D : va_G) (cA cB : ClassId) (h0 : Nat) (hn : Nat) (hs : Nat) (hd : Nat) (hp : Nat) (hc : Nat) (wy : Int32) (dn : Int32) (f : Nat → Int32) (v : Nat) (hf : okN f) (hv : v < 256) : CV l yX4_multiply cX4_multiply 3 none 2 43 0 0 D cA cB [.ref h0, .int (nI v)] [(h0, .inr (4, [.ref hn, .ref hs, .ref hd, .ref hp, .ref hc, .int wy, .int dn])), (hn, .inl (cA, 34, .inl f))] (fun W1 => ∃ (wy2 : Int32) (dn2 : Int32) (f2 : Nat → Int32), (okN f2) ∧ W1 = [(h0, .inr (4, [.ref hn, .ref hs, .ref hd, .ref hp, .ref hc, .int wy2, .int dn2])), (hn, .inl (cA, 34, .inl f2))]) := by
  refine mkV (lv0 := [(0, .ref h0), (1, .int (nI v))]) (by decide) (Nat.le_of_ble_eq_true rfl) rfl ?_
  intro p e s m below meth c A ls X hr hlocks hnm hE hA hP hD hS hl
  have hx := X.1
  have hb := X.2.1
  refine lv_aload_n hx hb dX4_multiply_0 rfl (lv_at hl 0 rfl) ?_
  refine k_get (C := RX4) (T := TX4) (N := 7) (ci := 4) (v := .ref hn) X hE hP 0 rfl rfl iX4 0 (by decide) w_69 rfl dX4_multiply_1 ?_
  refine lv_iconst (v := 0) hx hb dX4_multiply_4 (by decide) ?_
  obtain ⟨k_1, hk_1, ek_1⟩ := hf.at 0 256 (by decide) rfl
  refine k_ald (v := nI k_1) X hE hP 1 rfl 0 rfl (by decide) (by decide) ek_1 dX4_multiply_5 ?_
  refine lv_iload_n hx hb dX4_multiply_6 rfl (lv_at hl 1 rfl) ?_
  refine lv_imul hx hb dX4_multiply_7 ?_
  obtain ⟨k_2, hk_2, ek_2⟩ := sf_mul (a := k_1) (b := v) (A := 256) (B := 256) (C := 65026) (by omega) (by omega) (by decide)
  have hk_2 : k_2 < 65026 := hk_2
  refine tk (y := nI k_2) ek_2 ?_
  refine lv_istore_n (lv' := [(2, .int (nI k_2)), (0, .ref h0), (1, .int (nI v))]) hx hb dX4_multiply_8 rfl hl (by decide) rfl (fun ls hl => ?_)
  refine lv_aload_n hx hb dX4_multiply_9 rfl (lv_at hl 1 rfl) ?_
  refine k_get (C := RX4) (T := TX4) (N := 7) (ci := 4) (v := .ref hn) X hE hP 0 rfl rfl iX4 0 (by decide) w_69 rfl dX4_multiply_10 ?_
  refine lv_iconst (v := 2) hx hb dX4_multiply_13 (by decide) ?_
  refine lv_iload_n hx hb dX4_multiply_14 rfl (lv_at hl 0 rfl) ?_
  refine lv_bipush (v := 8) hx hb dX4_multiply_15 (by decide) ?_
  refine lv_ishr hx hb dX4_multiply_17 ?_
  refine tk (y := nI (k_2 / 256)) (pk_shrN (n := k_2) (by omega) _ 8 (by decide)) ?_
  refine k_ast X hE hP hD hS 1 rfl 2 rfl (by decide) (by decide) [(h0, .inr (4, [.ref hn, .ref hs, .ref hd, .ref hp, .ref hc, .int wy, .int dn])), (hn, .inl (cA, 34, .inl (upd f 2 (nI (k_2 / 256)))))] rfl dX4_multiply_18 (fun H locs hP hD hS => ?_)
  obtain ⟨g_3, eg_3⟩ : ∃ z, z = upd f 2 (nI (k_2 / 256)) := ⟨_, rfl⟩
  rw [← eg_3] at hP hD
  have hg_3 := okN_upd hf 2 (nI (k_2 / 256)) (inR_of (k := k_2 / 256) rfl (by omega))
  rw [← eg_3] at hg_3
  have hP : va_P D classes [(h0, .inr (4, [.ref hn, .ref hs, .ref hd, .ref hp, .ref hc, .int wy, .int dn])), (hn, .inl (cA, 34, .inl g_3))] H := hP
  have hD : va_D A [(h0, .inr (4, [.ref hn, .ref hs, .ref hd, .ref hp, .ref hc, .int wy, .int dn])), (hn, .inl (cA, 34, .inl g_3))] := hD
  refine lv_aload_n hx hb dX4_multiply_19 rfl (lv_at hl 1 rfl) ?_
  refine lv_iconst (v := 1) hx hb dX4_multiply_20 (by decide) ?_
  refine lv_aload_n hx hb dX4_multiply_21 rfl (lv_at hl 1 rfl) ?_
  refine k_get (C := RX4) (T := TX4) (N := 7) (ci := 4) (v := .ref hn) X hE hP 0 rfl rfl iX4 0 (by decide) w_69 rfl dX4_multiply_22 ?_
  refine lv_iconst (v := 2) hx hb dX4_multiply_25 (by decide) ?_
  have em_4 : g_3 2 = nI (k_2 / 256) := by rw [eg_3]; exact pk_us
  refine k_ald (v := nI (k_2 / 256)) X hE hP 1 rfl 2 rfl (by decide) (by decide) em_4 dX4_multiply_26 ?_
  refine lv_if_eq (tgt := 34) hx hb dX4_multiply_27 (by decide) (fun c_27_5 => ?_) (fun c_27_5 => ?_)
  · have nc_27_5 : (k_2 / 256) = 0 := (nI_eq (a := k_2 / 256) (b := 0) (by omega) (by omega)).mp c_27_5
    refine lv_iconst (v := 0) hx hb dX4_multiply_34 (by decide) ?_
    refine kVv (n3 := 2) (As := [.int 1, .int 0]) (rest := []) X hl.1 hE hP hD hS hA [(h0, .inr (4, [.ref hn, .ref hs, .ref hd, .ref hp, .ref hc, .int wy, .int dn])), (hn, .inl (cA, 34, .inl g_3))] [] [0, 1] [] rfl rfl rfl (by decide +kernel) (by decide +kernel) (by decide +kernel) (c_s_setFlag l D cA cB h0 hn hs hd hp hc wy dn g_3 1 0 hg_3 (by first | assumption | decide | rfl | omega) (by first | assumption | decide | rfl | omega)) w_95 w_66 w_94 w_96 w_97 0 (ci := 4) (T := TX4) (N := 7) rfl rfl (by decide +kernel) rfl rfl (Nat.le_of_ble_eq_true rfl) ⟨(Nat.le_of_ble_eq_true rfl), (Nat.le_of_ble_eq_true rfl)⟩ ⟨(Nat.le_of_ble_eq_true rfl), (Nat.le_of_ble_eq_true rfl)⟩ dX4_multiply_35 (fun W1 H locs hw hP hD hS => ?_)
    obtain ⟨wy2_6, dn2_7, f2_8, hf_9, rfl⟩ := hw
    have hP : va_P D classes [(h0, .inr (4, [.ref hn, .ref hs, .ref hd, .ref hp, .ref hc, .int wy2_6, .int dn2_7])), (hn, .inl (cA, 34, .inl f2_8))] H := hP
    have hD : va_D A [(h0, .inr (4, [.ref hn, .ref hs, .ref hd, .ref hp, .ref hc, .int wy2_6, .int dn2_7])), (hn, .inl (cA, 34, .inl f2_8))] := hD
    refine lv_aload_n hx hb dX4_multiply_38 rfl (lv_at hl 1 rfl) ?_
    refine lv_iconst (v := 0) hx hb dX4_multiply_39 (by decide) ?_
    refine lv_iload_n hx hb dX4_multiply_40 rfl (lv_at hl 0 rfl) ?_
    refine kVv (n3 := 2) (As := [.int 0, .int (nI k_2)]) (rest := []) X hl.1 hE hP hD hS hA [(h0, .inr (4, [.ref hn, .ref hs, .ref hd, .ref hp, .ref hc, .int wy2_6, .int dn2_7])), (hn, .inl (cA, 34, .inl f2_8))] [] [0, 1] [] rfl rfl rfl (by decide +kernel) (by decide +kernel) (by decide +kernel) (c_s_set0 l D cA cB h0 hn hs hd hp hc wy2_6 dn2_7 f2_8 (nI k_2) hf_9) w_99 w_66 w_98 w_100 w_101 0 (ci := 4) (T := TX4) (N := 7) rfl rfl (by decide +kernel) rfl rfl (Nat.le_of_ble_eq_true rfl) ⟨(Nat.le_of_ble_eq_true rfl), (Nat.le_of_ble_eq_true rfl)⟩ ⟨(Nat.le_of_ble_eq_true rfl), (Nat.le_of_ble_eq_true rfl)⟩ dX4_multiply_41 (fun W1 H locs hw hP hD hS => ?_)
    obtain ⟨wy2_10, dn2_11, f2_12, hf_13, rfl⟩ := hw
    have hP : va_P D classes [(h0, .inr (4, [.ref hn, .ref hs, .ref hd, .ref hp, .ref hc, .int wy2_10, .int dn2_11])), (hn, .inl (cA, 34, .inl f2_12))] H := hP
    have hD : va_D A [(h0, .inr (4, [.ref hn, .ref hs, .ref hd, .ref hp, .ref hc, .int wy2_10, .int dn2_11])), (hn, .inl (cA, 34, .inl f2_12))] := hD
    exact endV X hr hlocks hP hD hS dX4_multiply_44 ⟨wy2_10, dn2_11, f2_12, hf_13, rfl⟩
  · have nc_27_5 : ¬ (k_2 / 256) = 0 := fun q => c_27_5 ((nI_eq (a := k_2 / 256) (b := 0) (by omega) (by omega)).mpr q)
    refine lv_iconst (v := 1) hx hb dX4_multiply_30 (by decide) ?_
    refine lv_goto (tgt := 35) hx hb dX4_multiply_31 (by decide) ?_
    refine kVv (n3 := 2) (As := [.int 1, .int 1]) (rest := []) X hl.1 hE hP hD hS hA [(h0, .inr (4, [.ref hn, .ref hs, .ref hd, .ref hp, .ref hc, .int wy, .int dn])), (hn, .inl (cA, 34, .inl g_3))] [] [0, 1] [] rfl rfl rfl (by decide +kernel) (by decide +kernel) (by decide +kernel) (c_s_setFlag l D cA cB h0 hn hs hd hp hc wy dn g_3 1 1 hg_3 (by first | assumption | decide | rfl | omega) (by first | assumption | decide | rfl | omega)) w_95 w_66 w_94 w_96 w_97 0 (ci := 4) (T := TX4) (N := 7) rfl rfl (by decide +kernel) rfl rfl (Nat.le_of_ble_eq_true rfl) ⟨(Nat.le_of_ble_eq_true rfl), (Nat.le_of_ble_eq_true rfl)⟩ ⟨(Nat.le_of_ble_eq_true rfl), (Nat.le_of_ble_eq_true rfl)⟩ dX4_multiply_35 (fun W1 H locs hw hP hD hS => ?_)
    obtain ⟨wy2_14, dn2_15, f2_16, hf_17, rfl⟩ := hw
    have hP : va_P D classes [(h0, .inr (4, [.ref hn, .ref hs, .ref hd, .ref hp, .ref hc, .int wy2_14, .int dn2_15])), (hn, .inl (cA, 34, .inl f2_16))] H := hP
    have hD : va_D A [(h0, .inr (4, [.ref hn, .ref hs, .ref hd, .ref hp, .ref hc, .int wy2_14, .int dn2_15])), (hn, .inl (cA, 34, .inl f2_16))] := hD
    refine lv_aload_n hx hb dX4_multiply_38 rfl (lv_at hl 1 rfl) ?_
    refine lv_iconst (v := 0) hx hb dX4_multiply_39 (by decide) ?_
    refine lv_iload_n hx hb dX4_multiply_40 rfl (lv_at hl 0 rfl) ?_
    refine kVv (n3 := 2) (As := [.int 0, .int (nI k_2)]) (rest := []) X hl.1 hE hP hD hS hA [(h0, .inr (4, [.ref hn, .ref hs, .ref hd, .ref hp, .ref hc, .int wy2_14, .int dn2_15])), (hn, .inl (cA, 34, .inl f2_16))] [] [0, 1] [] rfl rfl rfl (by decide +kernel) (by decide +kernel) (by decide +kernel) (c_s_set0 l D cA cB h0 hn hs hd hp hc wy2_14 dn2_15 f2_16 (nI k_2) hf_17) w_99 w_66 w_98 w_100 w_101 0 (ci := 4) (T := TX4) (N := 7) rfl rfl (by decide +kernel) rfl rfl (Nat.le_of_ble_eq_true rfl) ⟨(Nat.le_of_ble_eq_true rfl), (Nat.le_of_ble_eq_true rfl)⟩ ⟨(Nat.le_of_ble_eq_true rfl), (Nat.le_of_ble_eq_true rfl)⟩ dX4_multiply_41 (fun W1 H locs hw hP hD hS => ?_)
    obtain ⟨wy2_18, dn2_19, f2_20, hf_21, rfl⟩ := hw
    have hP : va_P D classes [(h0, .inr (4, [.ref hn, .ref hs, .ref hd, .ref hp, .ref hc, .int wy2_18, .int dn2_19])), (hn, .inl (cA, 34, .inl f2_20))] H := hP
    have hD : va_D A [(h0, .inr (4, [.ref hn, .ref hs, .ref hd, .ref hp, .ref hc, .int wy2_18, .int dn2_19])), (hn, .inl (cA, 34, .inl f2_20))] := hD
    exact endV X hr hlocks hP hD hS dX4_multiply_44 ⟨wy2_18, dn2_19, f2_20, hf_21, rfl⟩
set_option maxHeartbeats 4000000 in
set_option maxRecDepth 100000 in
theorem c_s_oneLess1 (l : Launch) (D : va_G) (cA cB : ClassId) (h0 : Nat) (hn : Nat) (hs : Nat) (hd : Nat) (hp : Nat) (hc : Nat) (wy : Int32) (dn : Int32) (f : Nat → Int32) (hf : okN f) : CI l yX4_oneLess cX4_oneLess 2 (some .boolean) 0 0 0 0 D cA cB [.ref h0, .int 1] [(h0, .inr (4, [.ref hn, .ref hs, .ref hd, .ref hp, .ref hc, .int wy, .int dn])), (hn, .inl (cA, 34, .inl f))] (fun r W1 => ∃ (wy2 : Int32) (dn2 : Int32) (f2 : Nat → Int32) (rk : Nat), r = nI rk ∧ (okN f2) ∧ (rk < 2) ∧ W1 = [(h0, .inr (4, [.ref hn, .ref hs, .ref hd, .ref hp, .ref hc, .int wy2, .int dn2])), (hn, .inl (cA, 34, .inl f2))]) := by
  refine mkI (lv0 := [(0, .ref h0), (1, .int 1)]) (by decide) (Nat.le_of_ble_eq_true rfl) rfl ?_
  intro p e s m below meth c A ls X hr hlocks hnm hE hA hP hD hS hl
  have hx := X.1
  have hb := X.2.1
  refine lv_aload_n hx hb dX4_oneLess_0 rfl (lv_at hl 0 rfl) ?_
  refine k_get (C := RX4) (T := TX4) (N := 7) (ci := 4) (v := .ref hn) X hE hP 0 rfl rfl iX4 0 (by decide) w_69 rfl dX4_oneLess_1 ?_
  refine lv_iload_n hx hb dX4_oneLess_4 rfl (lv_at hl 1 rfl) ?_
  refine lv_aload_n hx hb dX4_oneLess_5 rfl (lv_at hl 0 rfl) ?_
  refine k_get (C := RX4) (T := TX4) (N := 7) (ci := 4) (v := .ref hn) X hE hP 0 rfl rfl iX4 0 (by decide) w_69 rfl dX4_oneLess_6 ?_
  refine lv_iload_n hx hb dX4_oneLess_9 rfl (lv_at hl 1 rfl) ?_
  obtain ⟨k_1, hk_1, ek_1⟩ := hf.at 1 256 (by decide) rfl
  refine k_ald (v := nI k_1) X hE hP 1 rfl 1 rfl (by decide) (by decide) ek_1 dX4_oneLess_10 ?_
  refine lv_iconst (v := 1) hx hb dX4_oneLess_11 (by decide) ?_
  refine lv_isub hx hb dX4_oneLess_12 ?_
  refine lv_sipush (v := 255) hx hb dX4_oneLess_13 (by decide) ?_
  refine lv_iand hx hb dX4_oneLess_16 ?_
  obtain ⟨k_2, hk_2, ek_2⟩ := pk_andE ((nI k_1) - 1) (m := 255) 8 (by decide)
  have hk_2 : k_2 < 256 := hk_2
  refine tk (y := nI k_2) ek_2 ?_
  refine k_ast X hE hP hD hS 1 rfl 1 rfl (by decide) (by decide) [(h0, .inr (4, [.ref hn, .ref hs, .ref hd, .ref hp, .ref hc, .int wy, .int dn])), (hn, .inl (cA, 34, .inl (upd f 1 (nI k_2))))] rfl dX4_oneLess_17 (fun H locs hP hD hS => ?_)
  obtain ⟨g_3, eg_3⟩ : ∃ z, z = upd f 1 (nI k_2) := ⟨_, rfl⟩
  rw [← eg_3] at hP hD
  have hg_3 := okN_upd hf 1 (nI k_2) (inR_of (k := k_2) rfl (by omega))
  rw [← eg_3] at hg_3
  have hP : va_P D classes [(h0, .inr (4, [.ref hn, .ref hs, .ref hd, .ref hp, .ref hc, .int wy, .int dn])), (hn, .inl (cA, 34, .inl g_3))] H := hP
  have hD : va_D A [(h0, .inr (4, [.ref hn, .ref hs, .ref hd, .ref hp, .ref hc, .int wy, .int dn])), (hn, .inl (cA, 34, .inl g_3))] := hD
  refine lv_aload_n hx hb dX4_oneLess_18 rfl (lv_at hl 0 rfl) ?_
  refine k_get (C := RX4) (T := TX4) (N := 7) (ci := 4) (v := .ref hn) X hE hP 0 rfl rfl iX4 0 (by decide) w_69 rfl dX4_oneLess_19 ?_
  refine lv_iload_n hx hb dX4_oneLess_22 rfl (lv_at hl 1 rfl) ?_
  have em_4 : g_3 1 = nI k_2 := by rw [eg_3]; exact pk_us
  refine k_ald (v := nI k_2) X hE hP 1 rfl 1 rfl (by decide) (by decide) em_4 dX4_oneLess_23 ?_
  refine lv_if_eq (tgt := 31) hx hb dX4_oneLess_24 (by decide) (fun c_24_5 => ?_) (fun c_24_5 => ?_)
  · have nc_24_5 : k_2 = 0 := (nI_eq (a := k_2) (b := 0) (by omega) (by omega)).mp c_24_5
    refine lv_iconst (v := 0) hx hb dX4_oneLess_31 (by decide) ?_
    exact endZ X hr rfl hlocks hP hD hS dX4_oneLess_32 ⟨wy, dn, g_3, 0, rfl, hg_3, (by omega), rfl⟩
  · have nc_24_5 : ¬ k_2 = 0 := fun q => c_24_5 ((nI_eq (a := k_2) (b := 0) (by omega) (by omega)).mpr q)
    refine lv_iconst (v := 1) hx hb dX4_oneLess_27 (by decide) ?_
    refine lv_goto (tgt := 32) hx hb dX4_oneLess_28 (by decide) ?_
    exact endZ X hr rfl hlocks hP hD hS dX4_oneLess_32 ⟨wy, dn, g_3, 1, rfl, hg_3, (by omega), rfl⟩
set_option maxHeartbeats 4000000 in
set_option maxRecDepth 100000 in
theorem c_s_oneLess2 (l : Launch) (D : va_G) (cA cB : ClassId) (h0 : Nat) (hn : Nat) (hs : Nat) (hd : Nat) (hp : Nat) (hc : Nat) (wy : Int32) (dn : Int32) (f : Nat → Int32) (hf : okN f) : CI l yX4_oneLess cX4_oneLess 2 (some .boolean) 0 0 0 0 D cA cB [.ref h0, .int 2] [(h0, .inr (4, [.ref hn, .ref hs, .ref hd, .ref hp, .ref hc, .int wy, .int dn])), (hn, .inl (cA, 34, .inl f))] (fun r W1 => ∃ (wy2 : Int32) (dn2 : Int32) (f2 : Nat → Int32) (rk : Nat), r = nI rk ∧ (okN f2) ∧ (rk < 2) ∧ W1 = [(h0, .inr (4, [.ref hn, .ref hs, .ref hd, .ref hp, .ref hc, .int wy2, .int dn2])), (hn, .inl (cA, 34, .inl f2))]) := by
  refine mkI (lv0 := [(0, .ref h0), (1, .int 2)]) (by decide) (Nat.le_of_ble_eq_true rfl) rfl ?_
  intro p e s m below meth c A ls X hr hlocks hnm hE hA hP hD hS hl
  have hx := X.1
  have hb := X.2.1
  refine lv_aload_n hx hb dX4_oneLess_0 rfl (lv_at hl 0 rfl) ?_
  refine k_get (C := RX4) (T := TX4) (N := 7) (ci := 4) (v := .ref hn) X hE hP 0 rfl rfl iX4 0 (by decide) w_69 rfl dX4_oneLess_1 ?_
  refine lv_iload_n hx hb dX4_oneLess_4 rfl (lv_at hl 1 rfl) ?_
  refine lv_aload_n hx hb dX4_oneLess_5 rfl (lv_at hl 0 rfl) ?_
  refine k_get (C := RX4) (T := TX4) (N := 7) (ci := 4) (v := .ref hn) X hE hP 0 rfl rfl iX4 0 (by decide) w_69 rfl dX4_oneLess_6 ?_
  refine lv_iload_n hx hb dX4_oneLess_9 rfl (lv_at hl 1 rfl) ?_
  obtain ⟨k_1, hk_1, ek_1⟩ := hf.at 2 256 (by decide) rfl
  refine k_ald (v := nI k_1) X hE hP 1 rfl 2 rfl (by decide) (by decide) ek_1 dX4_oneLess_10 ?_
  refine lv_iconst (v := 1) hx hb dX4_oneLess_11 (by decide) ?_
  refine lv_isub hx hb dX4_oneLess_12 ?_
  refine lv_sipush (v := 255) hx hb dX4_oneLess_13 (by decide) ?_
  refine lv_iand hx hb dX4_oneLess_16 ?_
  obtain ⟨k_2, hk_2, ek_2⟩ := pk_andE ((nI k_1) - 1) (m := 255) 8 (by decide)
  have hk_2 : k_2 < 256 := hk_2
  refine tk (y := nI k_2) ek_2 ?_
  refine k_ast X hE hP hD hS 1 rfl 2 rfl (by decide) (by decide) [(h0, .inr (4, [.ref hn, .ref hs, .ref hd, .ref hp, .ref hc, .int wy, .int dn])), (hn, .inl (cA, 34, .inl (upd f 2 (nI k_2))))] rfl dX4_oneLess_17 (fun H locs hP hD hS => ?_)
  obtain ⟨g_3, eg_3⟩ : ∃ z, z = upd f 2 (nI k_2) := ⟨_, rfl⟩
  rw [← eg_3] at hP hD
  have hg_3 := okN_upd hf 2 (nI k_2) (inR_of (k := k_2) rfl (by omega))
  rw [← eg_3] at hg_3
  have hP : va_P D classes [(h0, .inr (4, [.ref hn, .ref hs, .ref hd, .ref hp, .ref hc, .int wy, .int dn])), (hn, .inl (cA, 34, .inl g_3))] H := hP
  have hD : va_D A [(h0, .inr (4, [.ref hn, .ref hs, .ref hd, .ref hp, .ref hc, .int wy, .int dn])), (hn, .inl (cA, 34, .inl g_3))] := hD
  refine lv_aload_n hx hb dX4_oneLess_18 rfl (lv_at hl 0 rfl) ?_
  refine k_get (C := RX4) (T := TX4) (N := 7) (ci := 4) (v := .ref hn) X hE hP 0 rfl rfl iX4 0 (by decide) w_69 rfl dX4_oneLess_19 ?_
  refine lv_iload_n hx hb dX4_oneLess_22 rfl (lv_at hl 1 rfl) ?_
  have em_4 : g_3 2 = nI k_2 := by rw [eg_3]; exact pk_us
  refine k_ald (v := nI k_2) X hE hP 1 rfl 2 rfl (by decide) (by decide) em_4 dX4_oneLess_23 ?_
  refine lv_if_eq (tgt := 31) hx hb dX4_oneLess_24 (by decide) (fun c_24_5 => ?_) (fun c_24_5 => ?_)
  · have nc_24_5 : k_2 = 0 := (nI_eq (a := k_2) (b := 0) (by omega) (by omega)).mp c_24_5
    refine lv_iconst (v := 0) hx hb dX4_oneLess_31 (by decide) ?_
    exact endZ X hr rfl hlocks hP hD hS dX4_oneLess_32 ⟨wy, dn, g_3, 0, rfl, hg_3, (by omega), rfl⟩
  · have nc_24_5 : ¬ k_2 = 0 := fun q => c_24_5 ((nI_eq (a := k_2) (b := 0) (by omega) (by omega)).mpr q)
    refine lv_iconst (v := 1) hx hb dX4_oneLess_27 (by decide) ?_
    refine lv_goto (tgt := 32) hx hb dX4_oneLess_28 (by decide) ?_
    exact endZ X hr rfl hlocks hP hD hS dX4_oneLess_32 ⟨wy, dn, g_3, 1, rfl, hg_3, (by omega), rfl⟩
set_option maxHeartbeats 4000000 in
set_option maxRecDepth 100000 in
theorem c_s_shiftedLeft (l : Launch) (D : va_G) (cA cB : ClassId) (h0 : Nat) (hn : Nat) (hs : Nat) (hd : Nat) (hp : Nat) (hc : Nat) (wy : Int32) (dn : Int32) (f : Nat → Int32) (v : Nat) (o : Nat) (hf : okN f) (hv : v < 256) (ho : o < 2) : CI l yX4_shiftedLeft cX4_shiftedLeft 3 (some .int) 1 22 0 0 D cA cB [.ref h0, .int (nI v), .int (nI o)] [(h0, .inr (4, [.ref hn, .ref hs, .ref hd, .ref hp, .ref hc, .int wy, .int dn])), (hn, .inl (cA, 34, .inl f))] (fun r W1 => ∃ (wy2 : Int32) (dn2 : Int32) (f2 : Nat → Int32) (rv : Int32), r = rv ∧ (okN f2) ∧ W1 = [(h0, .inr (4, [.ref hn, .ref hs, .ref hd, .ref hp, .ref hc, .int wy2, .int dn2])), (hn, .inl (cA, 34, .inl f2))]) := by
  refine mkI (lv0 := [(0, .ref h0), (1, .int (nI v)), (2, .int (nI o))]) (by decide) (Nat.le_of_ble_eq_true rfl) rfl ?_
  intro p e s m below meth c A ls X hr hlocks hnm hE hA hP hD hS hl
  have hx := X.1
  have hb := X.2.1
  refine lv_aload_n hx hb dX4_shiftedLeft_0 rfl (lv_at hl 0 rfl) ?_
  refine lv_iconst (v := 1) hx hb dX4_shiftedLeft_1 (by decide) ?_
  refine lv_iload_n hx hb dX4_shiftedLeft_2 rfl (lv_at hl 1 rfl) ?_
  refine lv_sipush (v := 128) hx hb dX4_shiftedLeft_3 (by decide) ?_
  refine lv_iand hx hb dX4_shiftedLeft_6 ?_
  obtain ⟨k_1, hk_1, ek_1⟩ := sf_and (a := v) (by omega) 128 (by omega : v < 256)
  have hk_1 : k_1 < 256 := hk_1
  refine tk (y := nI k_1) ek_1 ?_
  refine lv_if_eq (tgt := 14) hx hb dX4_shiftedLeft_7 (by decide) (fun c_7_2 => ?_) (fun c_7_2 => ?_)
  · have nc_7_2 : k_1 = 0 := (nI_eq (a := k_1) (b := 0) (by omega) (by omega)).mp c_7_2
    refine lv_iconst (v := 0) hx hb dX4_shiftedLeft_14 (by decide) ?_
    refine kVv (n3 := 2) (As := [.int 1, .int 0]) (rest := []) X hl.1 hE hP hD hS hA [(h0, .inr (4, [.ref hn, .ref hs, .ref hd, .ref hp, .ref hc, .int wy, .int dn])), (hn, .inl (cA, 34, .inl f))] [] [0, 1] [] rfl rfl rfl (by decide +kernel) (by decide +kernel) (by decide +kernel) (c_s_setFlag l D cA cB h0 hn hs hd hp hc wy dn f 1 0 hf (by first | assumption | decide | rfl | omega) (by first | assumption | decide | rfl | omega)) w_95 w_66 w_94 w_96 w_97 0 (ci := 4) (T := TX4) (N := 7) rfl rfl (by decide +kernel) rfl rfl (Nat.le_of_ble_eq_true rfl) ⟨(Nat.le_of_ble_eq_true rfl), (Nat.le_of_ble_eq_true rfl)⟩ ⟨(Nat.le_of_ble_eq_true rfl), (Nat.le_of_ble_eq_true rfl)⟩ dX4_shiftedLeft_15 (fun W1 H locs hw hP hD hS => ?_)
    obtain ⟨wy2_3, dn2_4, f2_5, hf_6, rfl⟩ := hw
    have hP : va_P D classes [(h0, .inr (4, [.ref hn, .ref hs, .ref hd, .ref hp, .ref hc, .int wy2_3, .int dn2_4])), (hn, .inl (cA, 34, .inl f2_5))] H := hP
    have hD : va_D A [(h0, .inr (4, [.ref hn, .ref hs, .ref hd, .ref hp, .ref hc, .int wy2_3, .int dn2_4])), (hn, .inl (cA, 34, .inl f2_5))] := hD
    refine lv_iconst (v := 2) hx hb dX4_shiftedLeft_18 (by decide) ?_
    refine lv_iload_n hx hb dX4_shiftedLeft_19 rfl (lv_at hl 1 rfl) ?_
    refine lv_imul hx hb dX4_shiftedLeft_20 ?_
    refine tk (y := nI (2 * v)) (pk_mul 2 v) ?_
    refine lv_iload_n hx hb dX4_shiftedLeft_21 rfl (lv_at hl 2 rfl) ?_
    refine lv_iadd hx hb dX4_shiftedLeft_22 ?_
    refine tk (y := nI (2 * v + o)) (nI_add (2 * v) o) ?_
    exact endI X hr hlocks hP hD hS dX4_shiftedLeft_23 ⟨wy2_3, dn2_4, f2_5, (nI (2 * v + o)), rfl, hf_6, rfl⟩
  · have nc_7_2 : ¬ k_1 = 0 := fun q => c_7_2 ((nI_eq (a := k_1) (b := 0) (by omega) (by omega)).mpr q)
    refine lv_iconst (v := 1) hx hb dX4_shiftedLeft_10 (by decide) ?_
    refine lv_goto (tgt := 15) hx hb dX4_shiftedLeft_11 (by decide) ?_
    refine kVv (n3 := 2) (As := [.int 1, .int 1]) (rest := []) X hl.1 hE hP hD hS hA [(h0, .inr (4, [.ref hn, .ref hs, .ref hd, .ref hp, .ref hc, .int wy, .int dn])), (hn, .inl (cA, 34, .inl f))] [] [0, 1] [] rfl rfl rfl (by decide +kernel) (by decide +kernel) (by decide +kernel) (c_s_setFlag l D cA cB h0 hn hs hd hp hc wy dn f 1 1 hf (by first | assumption | decide | rfl | omega) (by first | assumption | decide | rfl | omega)) w_95 w_66 w_94 w_96 w_97 0 (ci := 4) (T := TX4) (N := 7) rfl rfl (by decide +kernel) rfl rfl (Nat.le_of_ble_eq_true rfl) ⟨(Nat.le_of_ble_eq_true rfl), (Nat.le_of_ble_eq_true rfl)⟩ ⟨(Nat.le_of_ble_eq_true rfl), (Nat.le_of_ble_eq_true rfl)⟩ dX4_shiftedLeft_15 (fun W1 H locs hw hP hD hS => ?_)
    obtain ⟨wy2_7, dn2_8, f2_9, hf_10, rfl⟩ := hw
    have hP : va_P D classes [(h0, .inr (4, [.ref hn, .ref hs, .ref hd, .ref hp, .ref hc, .int wy2_7, .int dn2_8])), (hn, .inl (cA, 34, .inl f2_9))] H := hP
    have hD : va_D A [(h0, .inr (4, [.ref hn, .ref hs, .ref hd, .ref hp, .ref hc, .int wy2_7, .int dn2_8])), (hn, .inl (cA, 34, .inl f2_9))] := hD
    refine lv_iconst (v := 2) hx hb dX4_shiftedLeft_18 (by decide) ?_
    refine lv_iload_n hx hb dX4_shiftedLeft_19 rfl (lv_at hl 1 rfl) ?_
    refine lv_imul hx hb dX4_shiftedLeft_20 ?_
    refine tk (y := nI (2 * v)) (pk_mul 2 v) ?_
    refine lv_iload_n hx hb dX4_shiftedLeft_21 rfl (lv_at hl 2 rfl) ?_
    refine lv_iadd hx hb dX4_shiftedLeft_22 ?_
    refine tk (y := nI (2 * v + o)) (nI_add (2 * v) o) ?_
    exact endI X hr hlocks hP hD hS dX4_shiftedLeft_23 ⟨wy2_7, dn2_8, f2_9, (nI (2 * v + o)), rfl, hf_10, rfl⟩
set_option maxHeartbeats 4000000 in
set_option maxRecDepth 100000 in
theorem c_s_shiftedRight (l : Launch) (D : va_G) (cA cB : ClassId) (h0 : Nat) (hn : Nat) (hs : Nat) (hd : Nat) (hp : Nat) (hc : Nat) (wy : Int32) (dn : Int32) (f : Nat → Int32) (v : Nat) (o : Nat) (hf : okN f) (hv : v < 256) (ho : o < 2) : CI l yX4_shiftedRight cX4_shiftedRight 3 (some .int) 1 22 0 0 D cA cB [.ref h0, .int (nI v), .int (nI o)] [(h0, .inr (4, [.ref hn, .ref hs, .ref hd, .ref hp, .ref hc, .int wy, .int dn])), (hn, .inl (cA, 34, .inl f))] (fun r W1 => ∃ (wy2 : Int32) (dn2 : Int32) (f2 : Nat → Int32) (rv : Int32), r = rv ∧ (okN f2) ∧ W1 = [(h0, .inr (4, [.ref hn, .ref hs, .ref hd, .ref hp, .ref hc, .int wy2, .int dn2])), (hn, .inl (cA, 34, .inl f2))]) := by
  refine mkI (lv0 := [(0, .ref h0), (1, .int (nI v)), (2, .int (nI o))]) (by decide) (Nat.le_of_ble_eq_true rfl) rfl ?_
  intro p e s m below meth c A ls X hr hlocks hnm hE hA hP hD hS hl
  have hx := X.1
  have hb := X.2.1
  refine lv_aload_n hx hb dX4_shiftedRight_0 rfl (lv_at hl 0 rfl) ?_
  refine lv_iconst (v := 1) hx hb dX4_shiftedRight_1 (by decide) ?_
  refine lv_iload_n hx hb dX4_shiftedRight_2 rfl (lv_at hl 1 rfl) ?_
  refine lv_iconst (v := 1) hx hb dX4_shiftedRight_3 (by decide) ?_
  refine lv_iand hx hb dX4_shiftedRight_4 ?_
  obtain ⟨k_1, hk_1, ek_1⟩ := pk_andE (nI v) (m := 1) 1 (by decide)
  have hk_1 : k_1 < 2 := hk_1
  refine tk (y := nI k_1) ek_1 ?_
  refine lv_if_eq (tgt := 12) hx hb dX4_shiftedRight_5 (by decide) (fun c_5_2 => ?_) (fun c_5_2 => ?_)
  · have nc_5_2 : k_1 = 0 := (nI_eq (a := k_1) (b := 0) (by omega) (by omega)).mp c_5_2
    refine lv_iconst (v := 0) hx hb dX4_shiftedRight_12 (by decide) ?_
    refine kVv (n3 := 2) (As := [.int 1, .int 0]) (rest := []) X hl.1 hE hP hD hS hA [(h0, .inr (4, [.ref hn, .ref hs, .ref hd, .ref hp, .ref hc, .int wy, .int dn])), (hn, .inl (cA, 34, .inl f))] [] [0, 1] [] rfl rfl rfl (by decide +kernel) (by decide +kernel) (by decide +kernel) (c_s_setFlag l D cA cB h0 hn hs hd hp hc wy dn f 1 0 hf (by first | assumption | decide | rfl | omega) (by first | assumption | decide | rfl | omega)) w_95 w_66 w_94 w_96 w_97 0 (ci := 4) (T := TX4) (N := 7) rfl rfl (by decide +kernel) rfl rfl (Nat.le_of_ble_eq_true rfl) ⟨(Nat.le_of_ble_eq_true rfl), (Nat.le_of_ble_eq_true rfl)⟩ ⟨(Nat.le_of_ble_eq_true rfl), (Nat.le_of_ble_eq_true rfl)⟩ dX4_shiftedRight_13 (fun W1 H locs hw hP hD hS => ?_)
    obtain ⟨wy2_3, dn2_4, f2_5, hf_6, rfl⟩ := hw
    have hP : va_P D classes [(h0, .inr (4, [.ref hn, .ref hs, .ref hd, .ref hp, .ref hc, .int wy2_3, .int dn2_4])), (hn, .inl (cA, 34, .inl f2_5))] H := hP
    have hD : va_D A [(h0, .inr (4, [.ref hn, .ref hs, .ref hd, .ref hp, .ref hc, .int wy2_3, .int dn2_4])), (hn, .inl (cA, 34, .inl f2_5))] := hD
    refine lv_iload_n hx hb dX4_shiftedRight_16 rfl (lv_at hl 1 rfl) ?_
    refine lv_iconst (v := 2) hx hb dX4_shiftedRight_17 (by decide) ?_
    refine lv_idiv hx hb dX4_shiftedRight_18 (by decide) ?_
    refine tk (y := nI (v / 2)) (pk_div (a := v) (d := 2) (by omega) (by decide) (by decide)) ?_
    refine lv_sipush (v := 128) hx hb dX4_shiftedRight_19 (by decide) ?_
    refine lv_iload_n hx hb dX4_shiftedRight_22 rfl (lv_at hl 2 rfl) ?_
    refine lv_imul hx hb dX4_shiftedRight_23 ?_
    refine tk (y := nI (128 * o)) (pk_mul 128 o) ?_
    refine lv_iadd hx hb dX4_shiftedRight_24 ?_
    refine tk (y := nI (v / 2 + 128 * o)) (nI_add (v / 2) (128 * o)) ?_
    exact endI X hr hlocks hP hD hS dX4_shiftedRight_25 ⟨wy2_3, dn2_4, f2_5, (nI (v / 2 + 128 * o)), rfl, hf_6, rfl⟩
  · have nc_5_2 : ¬ k_1 = 0 := fun q => c_5_2 ((nI_eq (a := k_1) (b := 0) (by omega) (by omega)).mpr q)
    refine lv_iconst (v := 1) hx hb dX4_shiftedRight_8 (by decide) ?_
    refine lv_goto (tgt := 13) hx hb dX4_shiftedRight_9 (by decide) ?_
    refine kVv (n3 := 2) (As := [.int 1, .int 1]) (rest := []) X hl.1 hE hP hD hS hA [(h0, .inr (4, [.ref hn, .ref hs, .ref hd, .ref hp, .ref hc, .int wy, .int dn])), (hn, .inl (cA, 34, .inl f))] [] [0, 1] [] rfl rfl rfl (by decide +kernel) (by decide +kernel) (by decide +kernel) (c_s_setFlag l D cA cB h0 hn hs hd hp hc wy dn f 1 1 hf (by first | assumption | decide | rfl | omega) (by first | assumption | decide | rfl | omega)) w_95 w_66 w_94 w_96 w_97 0 (ci := 4) (T := TX4) (N := 7) rfl rfl (by decide +kernel) rfl rfl (Nat.le_of_ble_eq_true rfl) ⟨(Nat.le_of_ble_eq_true rfl), (Nat.le_of_ble_eq_true rfl)⟩ ⟨(Nat.le_of_ble_eq_true rfl), (Nat.le_of_ble_eq_true rfl)⟩ dX4_shiftedRight_13 (fun W1 H locs hw hP hD hS => ?_)
    obtain ⟨wy2_7, dn2_8, f2_9, hf_10, rfl⟩ := hw
    have hP : va_P D classes [(h0, .inr (4, [.ref hn, .ref hs, .ref hd, .ref hp, .ref hc, .int wy2_7, .int dn2_8])), (hn, .inl (cA, 34, .inl f2_9))] H := hP
    have hD : va_D A [(h0, .inr (4, [.ref hn, .ref hs, .ref hd, .ref hp, .ref hc, .int wy2_7, .int dn2_8])), (hn, .inl (cA, 34, .inl f2_9))] := hD
    refine lv_iload_n hx hb dX4_shiftedRight_16 rfl (lv_at hl 1 rfl) ?_
    refine lv_iconst (v := 2) hx hb dX4_shiftedRight_17 (by decide) ?_
    refine lv_idiv hx hb dX4_shiftedRight_18 (by decide) ?_
    refine tk (y := nI (v / 2)) (pk_div (a := v) (d := 2) (by omega) (by decide) (by decide)) ?_
    refine lv_sipush (v := 128) hx hb dX4_shiftedRight_19 (by decide) ?_
    refine lv_iload_n hx hb dX4_shiftedRight_22 rfl (lv_at hl 2 rfl) ?_
    refine lv_imul hx hb dX4_shiftedRight_23 ?_
    refine tk (y := nI (128 * o)) (pk_mul 128 o) ?_
    refine lv_iadd hx hb dX4_shiftedRight_24 ?_
    refine tk (y := nI (v / 2 + 128 * o)) (nI_add (v / 2) (128 * o)) ?_
    exact endI X hr hlocks hP hD hS dX4_shiftedRight_25 ⟨wy2_7, dn2_8, f2_9, (nI (v / 2 + 128 * o)), rfl, hf_10, rfl⟩
set_option maxHeartbeats 4000000 in
set_option maxRecDepth 100000 in
theorem c_s_branchIsDue (l : Launch) (D : va_G) (cA cB : ClassId) (h0 : Nat) (hn : Nat) (hs : Nat) (hd : Nat) (hp : Nat) (hc : Nat) (wy : Int32) (dn : Int32) (f : Nat → Int32) (o : Nat) (hf : okN f) (ho : o < 32) : CI l yX4_branchIsDue cX4_branchIsDue 2 (some .boolean) 1 21 0 0 D cA cB [.ref h0, .int (nI o)] [(h0, .inr (4, [.ref hn, .ref hs, .ref hd, .ref hp, .ref hc, .int wy, .int dn])), (hn, .inl (cA, 34, .inl f))] (fun r W1 => ∃ (wy2 : Int32) (dn2 : Int32) (f2 : Nat → Int32) (rk : Nat), r = nI rk ∧ (okN f2) ∧ (rk < 2) ∧ W1 = [(h0, .inr (4, [.ref hn, .ref hs, .ref hd, .ref hp, .ref hc, .int wy2, .int dn2])), (hn, .inl (cA, 34, .inl f2))]) := by
  refine mkI (lv0 := [(0, .ref h0), (1, .int (nI o))]) (by decide) (Nat.le_of_ble_eq_true rfl) rfl ?_
  intro p e s m below meth c A ls X hr hlocks hnm hE hA hP hD hS hl
  have hx := X.1
  have hb := X.2.1
  refine lv_iload_n hx hb dX4_branchIsDue_0 rfl (lv_at hl 1 rfl) ?_
  by_cases c_1_1 : (nI o) = 16
  · refine lv_tableIn (tgt := 60) (off := 59) hx hb dX4_branchIsDue_1 (by rw [c_1_1]; decide) (by rw [c_1_1]; decide) (by rw [c_1_1]; decide) (by decide) ?_
    refine lv_aload_n hx hb dX4_branchIsDue_60 rfl (lv_at hl 0 rfl) ?_
    refine k_get (C := RX4) (T := TX4) (N := 7) (ci := 4) (v := .ref hn) X hE hP 0 rfl rfl iX4 0 (by decide) w_69 rfl dX4_branchIsDue_61 ?_
    refine lv_iconst (v := 5) hx hb dX4_branchIsDue_64 (by decide) ?_
    obtain ⟨k_2, hk_2, ek_2⟩ := hf.at 5 256 (by decide) rfl
    refine k_ald (v := nI k_2) X hE hP 1 rfl 5 rfl (by decide) (by decide) ek_2 dX4_branchIsDue_65 ?_
    refine lv_iconst (v := 2) hx hb dX4_branchIsDue_66 (by decide) ?_
    refine lv_iand hx hb dX4_branchIsDue_67 ?_
    obtain ⟨k_3, hk_3, ek_3⟩ := sf_and (a := k_2) (by omega) 2 (by omega : k_2 < 256)
    have hk_3 : k_3 < 256 := hk_3
    refine tk (y := nI k_3) ek_3 ?_
    refine lv_if_eq (tgt := 75) hx hb dX4_branchIsDue_68 (by decide) (fun c_68_4 => ?_) (fun c_68_4 => ?_)
    · have nc_68_4 : k_3 = 0 := (nI_eq (a := k_3) (b := 0) (by omega) (by omega)).mp c_68_4
      refine lv_iconst (v := 0) hx hb dX4_branchIsDue_75 (by decide) ?_
      exact endZ X hr rfl hlocks hP hD hS dX4_branchIsDue_76 ⟨wy, dn, f, 0, rfl, hf, (by omega), rfl⟩
    · have nc_68_4 : ¬ k_3 = 0 := fun q => c_68_4 ((nI_eq (a := k_3) (b := 0) (by omega) (by omega)).mpr q)
      refine lv_iconst (v := 1) hx hb dX4_branchIsDue_71 (by decide) ?_
      refine lv_goto (tgt := 76) hx hb dX4_branchIsDue_72 (by decide) ?_
      exact endZ X hr rfl hlocks hP hD hS dX4_branchIsDue_76 ⟨wy, dn, f, 1, rfl, hf, (by omega), rfl⟩
  · skip
    by_cases c_1_5 : (nI o) = 17
    · refine lv_tableIn (tgt := 77) (off := 76) hx hb dX4_branchIsDue_1 (by rw [c_1_5]; decide) (by rw [c_1_5]; decide) (by rw [c_1_5]; decide) (by decide) ?_
      refine lv_aload_n hx hb dX4_branchIsDue_77 rfl (lv_at hl 0 rfl) ?_
      refine k_get (C := RX4) (T := TX4) (N := 7) (ci := 4) (v := .ref hn) X hE hP 0 rfl rfl iX4 0 (by decide) w_69 rfl dX4_branchIsDue_78 ?_
      refine lv_iconst (v := 5) hx hb dX4_branchIsDue_81 (by decide) ?_
      obtain ⟨k_6, hk_6, ek_6⟩ := hf.at 5 256 (by decide) rfl
      refine k_ald (v := nI k_6) X hE hP 1 rfl 5 rfl (by decide) (by decide) ek_6 dX4_branchIsDue_82 ?_
      refine lv_iconst (v := 2) hx hb dX4_branchIsDue_83 (by decide) ?_
      refine lv_iand hx hb dX4_branchIsDue_84 ?_
      obtain ⟨k_7, hk_7, ek_7⟩ := sf_and (a := k_6) (by omega) 2 (by omega : k_6 < 256)
      have hk_7 : k_7 < 256 := hk_7
      refine tk (y := nI k_7) ek_7 ?_
      refine lv_if_ne (tgt := 92) hx hb dX4_branchIsDue_85 (by decide) (fun c_85_8 => ?_) (fun c_85_8 => ?_)
      · have nc_85_8 : ¬ k_7 = 0 := fun q => c_85_8 ((nI_eq (a := k_7) (b := 0) (by omega) (by omega)).mpr q)
        refine lv_iconst (v := 0) hx hb dX4_branchIsDue_92 (by decide) ?_
        exact endZ X hr rfl hlocks hP hD hS dX4_branchIsDue_93 ⟨wy, dn, f, 0, rfl, hf, (by omega), rfl⟩
      · have nc_85_8 : k_7 = 0 := (nI_eq (a := k_7) (b := 0) (by omega) (by omega)).mp c_85_8
        refine lv_iconst (v := 1) hx hb dX4_branchIsDue_88 (by decide) ?_
        refine lv_goto (tgt := 93) hx hb dX4_branchIsDue_89 (by decide) ?_
        exact endZ X hr rfl hlocks hP hD hS dX4_branchIsDue_93 ⟨wy, dn, f, 1, rfl, hf, (by omega), rfl⟩
    · skip
      by_cases c_1_9 : (nI o) = 18
      · refine lv_tableIn (tgt := 94) (off := 93) hx hb dX4_branchIsDue_1 (by rw [c_1_9]; decide) (by rw [c_1_9]; decide) (by rw [c_1_9]; decide) (by decide) ?_
        refine lv_aload_n hx hb dX4_branchIsDue_94 rfl (lv_at hl 0 rfl) ?_
        refine k_get (C := RX4) (T := TX4) (N := 7) (ci := 4) (v := .ref hn) X hE hP 0 rfl rfl iX4 0 (by decide) w_69 rfl dX4_branchIsDue_95 ?_
        refine lv_iconst (v := 5) hx hb dX4_branchIsDue_98 (by decide) ?_
        obtain ⟨k_10, hk_10, ek_10⟩ := hf.at 5 256 (by decide) rfl
        refine k_ald (v := nI k_10) X hE hP 1 rfl 5 rfl (by decide) (by decide) ek_10 dX4_branchIsDue_99 ?_
        refine lv_iconst (v := 1) hx hb dX4_branchIsDue_100 (by decide) ?_
        refine lv_iand hx hb dX4_branchIsDue_101 ?_
        obtain ⟨k_11, hk_11, ek_11⟩ := pk_andE (nI k_10) (m := 1) 1 (by decide)
        have hk_11 : k_11 < 2 := hk_11
        refine tk (y := nI k_11) ek_11 ?_
        refine lv_if_eq (tgt := 109) hx hb dX4_branchIsDue_102 (by decide) (fun c_102_12 => ?_) (fun c_102_12 => ?_)
        · have nc_102_12 : k_11 = 0 := (nI_eq (a := k_11) (b := 0) (by omega) (by omega)).mp c_102_12
          refine lv_iconst (v := 0) hx hb dX4_branchIsDue_109 (by decide) ?_
          exact endZ X hr rfl hlocks hP hD hS dX4_branchIsDue_110 ⟨wy, dn, f, 0, rfl, hf, (by omega), rfl⟩
        · have nc_102_12 : ¬ k_11 = 0 := fun q => c_102_12 ((nI_eq (a := k_11) (b := 0) (by omega) (by omega)).mpr q)
          refine lv_iconst (v := 1) hx hb dX4_branchIsDue_105 (by decide) ?_
          refine lv_goto (tgt := 110) hx hb dX4_branchIsDue_106 (by decide) ?_
          exact endZ X hr rfl hlocks hP hD hS dX4_branchIsDue_110 ⟨wy, dn, f, 1, rfl, hf, (by omega), rfl⟩
      · skip
        by_cases c_1_13 : (nI o) = 19
        · refine lv_tableIn (tgt := 111) (off := 110) hx hb dX4_branchIsDue_1 (by rw [c_1_13]; decide) (by rw [c_1_13]; decide) (by rw [c_1_13]; decide) (by decide) ?_
          refine lv_aload_n hx hb dX4_branchIsDue_111 rfl (lv_at hl 0 rfl) ?_
          refine k_get (C := RX4) (T := TX4) (N := 7) (ci := 4) (v := .ref hn) X hE hP 0 rfl rfl iX4 0 (by decide) w_69 rfl dX4_branchIsDue_112 ?_
          refine lv_iconst (v := 5) hx hb dX4_branchIsDue_115 (by decide) ?_
          obtain ⟨k_14, hk_14, ek_14⟩ := hf.at 5 256 (by decide) rfl
          refine k_ald (v := nI k_14) X hE hP 1 rfl 5 rfl (by decide) (by decide) ek_14 dX4_branchIsDue_116 ?_
          refine lv_iconst (v := 1) hx hb dX4_branchIsDue_117 (by decide) ?_
          refine lv_iand hx hb dX4_branchIsDue_118 ?_
          obtain ⟨k_15, hk_15, ek_15⟩ := pk_andE (nI k_14) (m := 1) 1 (by decide)
          have hk_15 : k_15 < 2 := hk_15
          refine tk (y := nI k_15) ek_15 ?_
          refine lv_if_ne (tgt := 126) hx hb dX4_branchIsDue_119 (by decide) (fun c_119_16 => ?_) (fun c_119_16 => ?_)
          · have nc_119_16 : ¬ k_15 = 0 := fun q => c_119_16 ((nI_eq (a := k_15) (b := 0) (by omega) (by omega)).mpr q)
            refine lv_iconst (v := 0) hx hb dX4_branchIsDue_126 (by decide) ?_
            exact endZ X hr rfl hlocks hP hD hS dX4_branchIsDue_127 ⟨wy, dn, f, 0, rfl, hf, (by omega), rfl⟩
          · have nc_119_16 : k_15 = 0 := (nI_eq (a := k_15) (b := 0) (by omega) (by omega)).mp c_119_16
            refine lv_iconst (v := 1) hx hb dX4_branchIsDue_122 (by decide) ?_
            refine lv_goto (tgt := 127) hx hb dX4_branchIsDue_123 (by decide) ?_
            exact endZ X hr rfl hlocks hP hD hS dX4_branchIsDue_127 ⟨wy, dn, f, 1, rfl, hf, (by omega), rfl⟩
        · skip
          by_cases c_1_17 : (nI o) = 20
          · refine lv_tableIn (tgt := 128) (off := 127) hx hb dX4_branchIsDue_1 (by rw [c_1_17]; decide) (by rw [c_1_17]; decide) (by rw [c_1_17]; decide) (by decide) ?_
            refine lv_aload_n hx hb dX4_branchIsDue_128 rfl (lv_at hl 0 rfl) ?_
            refine k_get (C := RX4) (T := TX4) (N := 7) (ci := 4) (v := .ref hn) X hE hP 0 rfl rfl iX4 0 (by decide) w_69 rfl dX4_branchIsDue_129 ?_
            refine lv_iconst (v := 5) hx hb dX4_branchIsDue_132 (by decide) ?_
            obtain ⟨k_18, hk_18, ek_18⟩ := hf.at 5 256 (by decide) rfl
            refine k_ald (v := nI k_18) X hE hP 1 rfl 5 rfl (by decide) (by decide) ek_18 dX4_branchIsDue_133 ?_
            refine lv_sipush (v := 128) hx hb dX4_branchIsDue_134 (by decide) ?_
            refine lv_iand hx hb dX4_branchIsDue_137 ?_
            obtain ⟨k_19, hk_19, ek_19⟩ := sf_and (a := k_18) (by omega) 128 (by omega : k_18 < 256)
            have hk_19 : k_19 < 256 := hk_19
            refine tk (y := nI k_19) ek_19 ?_
            refine lv_if_eq (tgt := 145) hx hb dX4_branchIsDue_138 (by decide) (fun c_138_20 => ?_) (fun c_138_20 => ?_)
            · have nc_138_20 : k_19 = 0 := (nI_eq (a := k_19) (b := 0) (by omega) (by omega)).mp c_138_20
              refine lv_iconst (v := 0) hx hb dX4_branchIsDue_145 (by decide) ?_
              exact endZ X hr rfl hlocks hP hD hS dX4_branchIsDue_146 ⟨wy, dn, f, 0, rfl, hf, (by omega), rfl⟩
            · have nc_138_20 : ¬ k_19 = 0 := fun q => c_138_20 ((nI_eq (a := k_19) (b := 0) (by omega) (by omega)).mpr q)
              refine lv_iconst (v := 1) hx hb dX4_branchIsDue_141 (by decide) ?_
              refine lv_goto (tgt := 146) hx hb dX4_branchIsDue_142 (by decide) ?_
              exact endZ X hr rfl hlocks hP hD hS dX4_branchIsDue_146 ⟨wy, dn, f, 1, rfl, hf, (by omega), rfl⟩
          · skip
            by_cases c_1_21 : (nI o) = 21
            · refine lv_tableIn (tgt := 147) (off := 146) hx hb dX4_branchIsDue_1 (by rw [c_1_21]; decide) (by rw [c_1_21]; decide) (by rw [c_1_21]; decide) (by decide) ?_
              refine lv_aload_n hx hb dX4_branchIsDue_147 rfl (lv_at hl 0 rfl) ?_
              refine k_get (C := RX4) (T := TX4) (N := 7) (ci := 4) (v := .ref hn) X hE hP 0 rfl rfl iX4 0 (by decide) w_69 rfl dX4_branchIsDue_148 ?_
              refine lv_iconst (v := 5) hx hb dX4_branchIsDue_151 (by decide) ?_
              obtain ⟨k_22, hk_22, ek_22⟩ := hf.at 5 256 (by decide) rfl
              refine k_ald (v := nI k_22) X hE hP 1 rfl 5 rfl (by decide) (by decide) ek_22 dX4_branchIsDue_152 ?_
              refine lv_sipush (v := 128) hx hb dX4_branchIsDue_153 (by decide) ?_
              refine lv_iand hx hb dX4_branchIsDue_156 ?_
              obtain ⟨k_23, hk_23, ek_23⟩ := sf_and (a := k_22) (by omega) 128 (by omega : k_22 < 256)
              have hk_23 : k_23 < 256 := hk_23
              refine tk (y := nI k_23) ek_23 ?_
              refine lv_if_ne (tgt := 164) hx hb dX4_branchIsDue_157 (by decide) (fun c_157_24 => ?_) (fun c_157_24 => ?_)
              · have nc_157_24 : ¬ k_23 = 0 := fun q => c_157_24 ((nI_eq (a := k_23) (b := 0) (by omega) (by omega)).mpr q)
                refine lv_iconst (v := 0) hx hb dX4_branchIsDue_164 (by decide) ?_
                exact endZ X hr rfl hlocks hP hD hS dX4_branchIsDue_165 ⟨wy, dn, f, 0, rfl, hf, (by omega), rfl⟩
              · have nc_157_24 : k_23 = 0 := (nI_eq (a := k_23) (b := 0) (by omega) (by omega)).mp c_157_24
                refine lv_iconst (v := 1) hx hb dX4_branchIsDue_160 (by decide) ?_
                refine lv_goto (tgt := 165) hx hb dX4_branchIsDue_161 (by decide) ?_
                exact endZ X hr rfl hlocks hP hD hS dX4_branchIsDue_165 ⟨wy, dn, f, 1, rfl, hf, (by omega), rfl⟩
            · skip
              by_cases c_1_25 : (nI o) = 22
              · refine lv_tableIn (tgt := 166) (off := 165) hx hb dX4_branchIsDue_1 (by rw [c_1_25]; decide) (by rw [c_1_25]; decide) (by rw [c_1_25]; decide) (by decide) ?_
                refine lv_aload_n hx hb dX4_branchIsDue_166 rfl (lv_at hl 0 rfl) ?_
                refine k_get (C := RX4) (T := TX4) (N := 7) (ci := 4) (v := .ref hn) X hE hP 0 rfl rfl iX4 0 (by decide) w_69 rfl dX4_branchIsDue_167 ?_
                refine lv_iconst (v := 5) hx hb dX4_branchIsDue_170 (by decide) ?_
                obtain ⟨k_26, hk_26, ek_26⟩ := hf.at 5 256 (by decide) rfl
                refine k_ald (v := nI k_26) X hE hP 1 rfl 5 rfl (by decide) (by decide) ek_26 dX4_branchIsDue_171 ?_
                refine lv_bipush (v := 64) hx hb dX4_branchIsDue_172 (by decide) ?_
                refine lv_iand hx hb dX4_branchIsDue_174 ?_
                obtain ⟨k_27, hk_27, ek_27⟩ := sf_and (a := k_26) (by omega) 64 (by omega : k_26 < 256)
                have hk_27 : k_27 < 256 := hk_27
                refine tk (y := nI k_27) ek_27 ?_
                refine lv_if_eq (tgt := 182) hx hb dX4_branchIsDue_175 (by decide) (fun c_175_28 => ?_) (fun c_175_28 => ?_)
                · have nc_175_28 : k_27 = 0 := (nI_eq (a := k_27) (b := 0) (by omega) (by omega)).mp c_175_28
                  refine lv_iconst (v := 0) hx hb dX4_branchIsDue_182 (by decide) ?_
                  exact endZ X hr rfl hlocks hP hD hS dX4_branchIsDue_183 ⟨wy, dn, f, 0, rfl, hf, (by omega), rfl⟩
                · have nc_175_28 : ¬ k_27 = 0 := fun q => c_175_28 ((nI_eq (a := k_27) (b := 0) (by omega) (by omega)).mpr q)
                  refine lv_iconst (v := 1) hx hb dX4_branchIsDue_178 (by decide) ?_
                  refine lv_goto (tgt := 183) hx hb dX4_branchIsDue_179 (by decide) ?_
                  exact endZ X hr rfl hlocks hP hD hS dX4_branchIsDue_183 ⟨wy, dn, f, 1, rfl, hf, (by omega), rfl⟩
              · skip
                by_cases c_1_29 : (nI o) = 23
                · refine lv_tableIn (tgt := 184) (off := 183) hx hb dX4_branchIsDue_1 (by rw [c_1_29]; decide) (by rw [c_1_29]; decide) (by rw [c_1_29]; decide) (by decide) ?_
                  refine lv_aload_n hx hb dX4_branchIsDue_184 rfl (lv_at hl 0 rfl) ?_
                  refine k_get (C := RX4) (T := TX4) (N := 7) (ci := 4) (v := .ref hn) X hE hP 0 rfl rfl iX4 0 (by decide) w_69 rfl dX4_branchIsDue_185 ?_
                  refine lv_iconst (v := 5) hx hb dX4_branchIsDue_188 (by decide) ?_
                  obtain ⟨k_30, hk_30, ek_30⟩ := hf.at 5 256 (by decide) rfl
                  refine k_ald (v := nI k_30) X hE hP 1 rfl 5 rfl (by decide) (by decide) ek_30 dX4_branchIsDue_189 ?_
                  refine lv_bipush (v := 64) hx hb dX4_branchIsDue_190 (by decide) ?_
                  refine lv_iand hx hb dX4_branchIsDue_192 ?_
                  obtain ⟨k_31, hk_31, ek_31⟩ := sf_and (a := k_30) (by omega) 64 (by omega : k_30 < 256)
                  have hk_31 : k_31 < 256 := hk_31
                  refine tk (y := nI k_31) ek_31 ?_
                  refine lv_if_ne (tgt := 200) hx hb dX4_branchIsDue_193 (by decide) (fun c_193_32 => ?_) (fun c_193_32 => ?_)
                  · have nc_193_32 : ¬ k_31 = 0 := fun q => c_193_32 ((nI_eq (a := k_31) (b := 0) (by omega) (by omega)).mpr q)
                    refine lv_iconst (v := 0) hx hb dX4_branchIsDue_200 (by decide) ?_
                    exact endZ X hr rfl hlocks hP hD hS dX4_branchIsDue_201 ⟨wy, dn, f, 0, rfl, hf, (by omega), rfl⟩
                  · have nc_193_32 : k_31 = 0 := (nI_eq (a := k_31) (b := 0) (by omega) (by omega)).mp c_193_32
                    refine lv_iconst (v := 1) hx hb dX4_branchIsDue_196 (by decide) ?_
                    refine lv_goto (tgt := 201) hx hb dX4_branchIsDue_197 (by decide) ?_
                    exact endZ X hr rfl hlocks hP hD hS dX4_branchIsDue_201 ⟨wy, dn, f, 1, rfl, hf, (by omega), rfl⟩
                · skip
                  by_cases c_1_33 : (nI o) = 24
                  · refine lv_tableIn (tgt := 214) (off := 213) hx hb dX4_branchIsDue_1 (by rw [c_1_33]; decide) (by rw [c_1_33]; decide) (by rw [c_1_33]; decide) (by decide) ?_
                    refine lv_iconst (v := 1) hx hb dX4_branchIsDue_214 (by decide) ?_
                    exact endZ X hr rfl hlocks hP hD hS dX4_branchIsDue_215 ⟨wy, dn, f, 1, rfl, hf, (by omega), rfl⟩
                  · skip
                    by_cases c_1_34 : (nI o) = 25
                    · refine lv_tableIn (tgt := 202) (off := 201) hx hb dX4_branchIsDue_1 (by rw [c_1_34]; decide) (by rw [c_1_34]; decide) (by rw [c_1_34]; decide) (by decide) ?_
                      refine lv_aload_n hx hb dX4_branchIsDue_202 rfl (lv_at hl 0 rfl) ?_
                      refine lv_iconst (v := 1) hx hb dX4_branchIsDue_203 (by decide) ?_
                      refine kVi (n3 := 1) (As := [.int 1]) (rest := []) X hl.1 hE hP hD hS hA [(h0, .inr (4, [.ref hn, .ref hs, .ref hd, .ref hp, .ref hc, .int wy, .int dn])), (hn, .inl (cA, 34, .inl f))] [] [0, 1] [] rfl rfl rfl (by decide +kernel) (by decide +kernel) (by decide +kernel) (c_s_oneLess1 l D cA cB h0 hn hs hd hp hc wy dn f hf) w_103 w_66 w_102 w_104 w_105 0 (ci := 4) (T := TX4) (N := 7) rfl rfl (by decide +kernel) rfl rfl (Nat.le_of_ble_eq_true rfl) ⟨(Nat.le_of_ble_eq_true rfl), (Nat.le_of_ble_eq_true rfl)⟩ ⟨(Nat.le_of_ble_eq_true rfl), (Nat.le_of_ble_eq_true rfl)⟩ dX4_branchIsDue_204 (fun r W1 H locs hw hP hD hS => ?_)
                      obtain ⟨wy2_35, dn2_36, f2_37, rk_38, rfl, hf_39, hf_40, rfl⟩ := hw
                      have hP : va_P D classes [(h0, .inr (4, [.ref hn, .ref hs, .ref hd, .ref hp, .ref hc, .int wy2_35, .int dn2_36])), (hn, .inl (cA, 34, .inl f2_37))] H := hP
                      have hD : va_D A [(h0, .inr (4, [.ref hn, .ref hs, .ref hd, .ref hp, .ref hc, .int wy2_35, .int dn2_36])), (hn, .inl (cA, 34, .inl f2_37))] := hD
                      exact endZ X hr (nar_b (by omega)) hlocks hP hD hS dX4_branchIsDue_207 ⟨wy2_35, dn2_36, f2_37, rk_38, rfl, hf_39, (by omega), rfl⟩
                    · skip
                      by_cases c_1_41 : (nI o) = 26
                      · refine lv_tableIn (tgt := 208) (off := 207) hx hb dX4_branchIsDue_1 (by rw [c_1_41]; decide) (by rw [c_1_41]; decide) (by rw [c_1_41]; decide) (by decide) ?_
                        refine lv_aload_n hx hb dX4_branchIsDue_208 rfl (lv_at hl 0 rfl) ?_
                        refine lv_iconst (v := 2) hx hb dX4_branchIsDue_209 (by decide) ?_
                        refine kVi (n3 := 1) (As := [.int 2]) (rest := []) X hl.1 hE hP hD hS hA [(h0, .inr (4, [.ref hn, .ref hs, .ref hd, .ref hp, .ref hc, .int wy, .int dn])), (hn, .inl (cA, 34, .inl f))] [] [0, 1] [] rfl rfl rfl (by decide +kernel) (by decide +kernel) (by decide +kernel) (c_s_oneLess2 l D cA cB h0 hn hs hd hp hc wy dn f hf) w_103 w_66 w_102 w_104 w_105 0 (ci := 4) (T := TX4) (N := 7) rfl rfl (by decide +kernel) rfl rfl (Nat.le_of_ble_eq_true rfl) ⟨(Nat.le_of_ble_eq_true rfl), (Nat.le_of_ble_eq_true rfl)⟩ ⟨(Nat.le_of_ble_eq_true rfl), (Nat.le_of_ble_eq_true rfl)⟩ dX4_branchIsDue_210 (fun r W1 H locs hw hP hD hS => ?_)
                        obtain ⟨wy2_42, dn2_43, f2_44, rk_45, rfl, hf_46, hf_47, rfl⟩ := hw
                        have hP : va_P D classes [(h0, .inr (4, [.ref hn, .ref hs, .ref hd, .ref hp, .ref hc, .int wy2_42, .int dn2_43])), (hn, .inl (cA, 34, .inl f2_44))] H := hP
                        have hD : va_D A [(h0, .inr (4, [.ref hn, .ref hs, .ref hd, .ref hp, .ref hc, .int wy2_42, .int dn2_43])), (hn, .inl (cA, 34, .inl f2_44))] := hD
                        exact endZ X hr (nar_b (by omega)) hlocks hP hD hS dX4_branchIsDue_213 ⟨wy2_42, dn2_43, f2_44, rk_45, rfl, hf_46, (by omega), rfl⟩
                      · skip
                        refine lv_tableOut (tgt := 214) hx hb dX4_branchIsDue_1 (by have n_0 := lv_neT (k := 16) (a := 16) c_1_1 (by decide); have n_1 := lv_neT (k := 17) (a := 17) c_1_5 (by decide); have n_2 := lv_neT (k := 18) (a := 18) c_1_9 (by decide); have n_3 := lv_neT (k := 19) (a := 19) c_1_13 (by decide); have n_4 := lv_neT (k := 20) (a := 20) c_1_17 (by decide); have n_5 := lv_neT (k := 21) (a := 21) c_1_21 (by decide); have n_6 := lv_neT (k := 22) (a := 22) c_1_25 (by decide); have n_7 := lv_neT (k := 23) (a := 23) c_1_29 (by decide); have n_8 := lv_neT (k := 24) (a := 24) c_1_33 (by decide); have n_9 := lv_neT (k := 25) (a := 25) c_1_34 (by decide); have n_10 := lv_neT (k := 26) (a := 26) c_1_41 (by decide); omega) (by decide) ?_
                        refine lv_iconst (v := 1) hx hb dX4_branchIsDue_214 (by decide) ?_
                        exact endZ X hr rfl hlocks hP hD hS dX4_branchIsDue_215 ⟨wy, dn, f, 1, rfl, hf, (by omega), rfl⟩
set_option maxHeartbeats 4000000 in
set_option maxRecDepth 100000 in
theorem c_s_signed (l : Launch) (D : va_G) (cA cB : ClassId) (v : Nat) (hv : v < 256) : CI l yX8_signed cX8_signed 1 (some .int) 0 0 0 0 D cA cB [.int (nI v)] [] (fun r W1 => ∃ (rv : Int32), r = rv ∧ W1 = []) := by
  refine mkI (lv0 := [(0, .int (nI v))]) (by decide) (Nat.le_of_ble_eq_true rfl) rfl ?_
  intro p e s m below meth c A ls X hr hlocks hnm hE hA hP hD hS hl
  have hx := X.1
  have hb := X.2.1
  refine lv_iload_n hx hb dX8_signed_0 rfl (lv_at hl 0 rfl) ?_
  refine lv_bipush (v := 127) hx hb dX8_signed_1 (by decide) ?_
  refine lv_icmp_le (tgt := 14) hx hb dX8_signed_3 (by decide) (fun c_3_1 => ?_) (fun c_3_1 => ?_)
  · have nc_3_1 : v ≤ 127 := (nI_leI (a := v) (b := 127) (by omega) (by omega)).mp c_3_1
    refine lv_iload_n hx hb dX8_signed_14 rfl (lv_at hl 0 rfl) ?_
    exact endI X hr hlocks hP hD hS dX8_signed_15 ⟨(nI v), rfl, rfl⟩
  · have nc_3_1 : 127 < v := Nat.not_le.mp (fun q => c_3_1 ((nI_leI (a := v) (b := 127) (by omega) (by omega)).mpr q))
    refine lv_iload_n hx hb dX8_signed_6 rfl (lv_at hl 0 rfl) ?_
    refine lv_sipush (v := 256) hx hb dX8_signed_7 (by decide) ?_
    refine lv_isub hx hb dX8_signed_10 ?_
    refine lv_goto (tgt := 15) hx hb dX8_signed_11 (by decide) ?_
    exact endI X hr hlocks hP hD hS dX8_signed_15 ⟨((nI v) - 256), rfl, rfl⟩
set_option maxHeartbeats 4000000 in
set_option maxRecDepth 100000 in
theorem c_s_isShort (l : Launch) (D : va_G) (cA cB : ClassId) (v : Nat) (hv : v < 256) : CI l yX8_isShort cX8_isShort 1 (some .boolean) 0 0 0 0 D cA cB [.int (nI v)] [] (fun r W1 => ∃ (rk : Nat), r = nI rk ∧ (rk < 2) ∧ W1 = []) := by
  refine mkI (lv0 := [(0, .int (nI v))]) (by decide) (Nat.le_of_ble_eq_true rfl) rfl ?_
  intro p e s m below meth c A ls X hr hlocks hnm hE hA hP hD hS hl
  have hx := X.1
  have hb := X.2.1
  refine lv_iload_n hx hb dX8_isShort_0 rfl (lv_at hl 0 rfl) ?_
  refine lv_bipush (v := 7) hx hb dX8_isShort_1 (by decide) ?_
  refine lv_iand hx hb dX8_isShort_3 ?_
  obtain ⟨k_1, hk_1, ek_1⟩ := pk_andE (nI v) (m := 7) 3 (by decide)
  have hk_1 : k_1 < 8 := hk_1
  refine tk (y := nI k_1) ek_1 ?_
  refine lv_if_ne (tgt := 19) hx hb dX8_isShort_4 (by decide) (fun c_4_2 => ?_) (fun c_4_2 => ?_)
  · have nc_4_2 : ¬ k_1 = 0 := fun q => c_4_2 ((nI_eq (a := k_1) (b := 0) (by omega) (by omega)).mpr q)
    refine lv_iconst (v := 0) hx hb dX8_isShort_19 (by decide) ?_
    exact endZ X hr rfl hlocks hP hD hS dX8_isShort_20 ⟨0, rfl, (by omega), rfl⟩
  · have nc_4_2 : k_1 = 0 := (nI_eq (a := k_1) (b := 0) (by omega) (by omega)).mp c_4_2
    refine lv_iload_n hx hb dX8_isShort_7 rfl (lv_at hl 0 rfl) ?_
    refine lv_iconst (v := 3) hx hb dX8_isShort_8 (by decide) ?_
    refine lv_ishr hx hb dX8_isShort_9 ?_
    refine tk (y := nI (v / 8)) (pk_shrN (n := v) (by omega) _ 3 (by decide)) ?_
    refine lv_bipush (v := 16) hx hb dX8_isShort_10 (by decide) ?_
    refine lv_icmp_lt (tgt := 19) hx hb dX8_isShort_12 (by decide) (fun c_12_3 => ?_) (fun c_12_3 => ?_)
    · have nc_12_3 : (v / 8) < 16 := (nI_ltI (a := v / 8) (b := 16) (by omega) (by omega)).mp c_12_3
      refine lv_iconst (v := 0) hx hb dX8_isShort_19 (by decide) ?_
      exact endZ X hr rfl hlocks hP hD hS dX8_isShort_20 ⟨0, rfl, (by omega), rfl⟩
    · have nc_12_3 : 16 ≤ (v / 8) := Nat.not_lt.mp (fun q => c_12_3 ((nI_ltI (a := v / 8) (b := 16) (by omega) (by omega)).mpr q))
      refine lv_iconst (v := 1) hx hb dX8_isShort_15 (by decide) ?_
      refine lv_goto (tgt := 20) hx hb dX8_isShort_16 (by decide) ?_
      exact endZ X hr rfl hlocks hP hD hS dX8_isShort_20 ⟨1, rfl, (by omega), rfl⟩
set_option maxHeartbeats 4000000 in
set_option maxRecDepth 100000 in
theorem c_s_goBy (l : Launch) (D : va_G) (cA cB : ClassId) (h0 : Nat) (hn : Nat) (hs : Nat) (hd : Nat) (hp : Nat) (hc : Nat) (wy : Int32) (dn : Int32) (f : Nat → Int32) (v : Nat) (hf : okN f) (hv : v < 256) : CV l yX4_goBy cX4_goBy 2 none 1 20 0 0 D cA cB [.ref h0, .int (nI v)] [(h0, .inr (4, [.ref hn, .ref hs, .ref hd, .ref hp, .ref hc, .int wy, .int dn])), (hn, .inl (cA, 34, .inl f))] (fun W1 => ∃ (wy2 : Int32) (dn2 : Int32) (f2 : Nat → Int32), (okN f2) ∧ W1 = [(h0, .inr (4, [.ref hn, .ref hs, .ref hd, .ref hp, .ref hc, .int wy2, .int dn2])), (hn, .inl (cA, 34, .inl f2))]) := by
  refine mkV (lv0 := [(0, .ref h0), (1, .int (nI v))]) (by decide) (Nat.le_of_ble_eq_true rfl) rfl ?_
  intro p e s m below meth c A ls X hr hlocks hnm hE hA hP hD hS hl
  have hx := X.1
  have hb := X.2.1
  refine lv_aload_n hx hb dX4_goBy_0 rfl (lv_at hl 0 rfl) ?_
  refine k_get (C := RX4) (T := TX4) (N := 7) (ci := 4) (v := .ref hn) X hE hP 0 rfl rfl iX4 0 (by decide) w_69 rfl dX4_goBy_1 ?_
  refine lv_iconst (v := 4) hx hb dX4_goBy_4 (by decide) ?_
  refine lv_aload_n hx hb dX4_goBy_5 rfl (lv_at hl 0 rfl) ?_
  refine k_get (C := RX4) (T := TX4) (N := 7) (ci := 4) (v := .ref hn) X hE hP 0 rfl rfl iX4 0 (by decide) w_69 rfl dX4_goBy_6 ?_
  refine lv_iconst (v := 4) hx hb dX4_goBy_9 (by decide) ?_
  obtain ⟨k_1, hk_1, ek_1⟩ := hf.at 4 4096 (by decide) rfl
  refine k_ald (v := nI k_1) X hE hP 1 rfl 4 rfl (by decide) (by decide) ek_1 dX4_goBy_10 ?_
  refine lv_iload_n hx hb dX4_goBy_11 rfl (lv_at hl 1 rfl) ?_
  refine kSNi (n3 := 1) (As := [.int (nI v)]) (rest := [.int (nI k_1), .int 4, .ref hn]) X hl.1 hE hP hD hS hA [] [(h0, .inr (4, [.ref hn, .ref hs, .ref hd, .ref hp, .ref hc, .int wy, .int dn])), (hn, .inl (cA, 34, .inl f))] [] [0, 1] rfl rfl rfl (by decide +kernel) (by decide +kernel) (by decide +kernel) (c_s_signed l D cA cB v (by first | assumption | decide | rfl | omega)) w_106 w_107 nw_33 w_108 (by decide +kernel) rfl rfl (Nat.le_of_ble_eq_true rfl) ⟨(Nat.le_of_ble_eq_true rfl), (Nat.le_of_ble_eq_true rfl)⟩ ⟨(Nat.le_of_ble_eq_true rfl), (Nat.le_of_ble_eq_true rfl)⟩ dX4_goBy_12 (fun r W1 H locs hw hP hD hS => ?_)
  obtain ⟨rv_2, er_3, rfl⟩ := hw
  have hP : va_P D classes [(h0, .inr (4, [.ref hn, .ref hs, .ref hd, .ref hp, .ref hc, .int wy, .int dn])), (hn, .inl (cA, 34, .inl f))] H := hP
  have hD : va_D A [(h0, .inr (4, [.ref hn, .ref hs, .ref hd, .ref hp, .ref hc, .int wy, .int dn])), (hn, .inl (cA, 34, .inl f))] := hD
  refine tk (y := rv_2) er_3 ?_
  refine lv_iadd hx hb dX4_goBy_15 ?_
  refine lv_sipush (v := 4095) hx hb dX4_goBy_16 (by decide) ?_
  refine lv_iand hx hb dX4_goBy_19 ?_
  obtain ⟨k_4, hk_4, ek_4⟩ := pk_andE ((nI k_1) + rv_2) (m := 4095) 12 (by decide)
  have hk_4 : k_4 < 4096 := hk_4
  refine tk (y := nI k_4) ek_4 ?_
  refine k_ast X hE hP hD hS 1 rfl 4 rfl (by decide) (by decide) [(h0, .inr (4, [.ref hn, .ref hs, .ref hd, .ref hp, .ref hc, .int wy, .int dn])), (hn, .inl (cA, 34, .inl (upd f 4 (nI k_4))))] rfl dX4_goBy_20 (fun H locs hP hD hS => ?_)
  obtain ⟨g_5, eg_5⟩ : ∃ z, z = upd f 4 (nI k_4) := ⟨_, rfl⟩
  rw [← eg_5] at hP hD
  have hg_5 := okN_upd hf 4 (nI k_4) (inR_of (k := k_4) rfl (by omega))
  rw [← eg_5] at hg_5
  have hP : va_P D classes [(h0, .inr (4, [.ref hn, .ref hs, .ref hd, .ref hp, .ref hc, .int wy, .int dn])), (hn, .inl (cA, 34, .inl g_5))] H := hP
  have hD : va_D A [(h0, .inr (4, [.ref hn, .ref hs, .ref hd, .ref hp, .ref hc, .int wy, .int dn])), (hn, .inl (cA, 34, .inl g_5))] := hD
  exact endV X hr hlocks hP hD hS dX4_goBy_21 ⟨wy, dn, g_5, hg_5, rfl⟩
set_option maxHeartbeats 4000000 in
set_option maxRecDepth 100000 in
theorem c_s_branch (l : Launch) (D : va_G) (cA cB : ClassId) (h0 : Nat) (hn : Nat) (hs : Nat) (hd : Nat) (hp : Nat) (hc : Nat) (wy : Int32) (dn : Int32) (f : Nat → Int32) (o : Nat) (v : Nat) (hf : okN f) (ho : o < 32) (hv : v < 256) : CI l yX4_branch cX4_branch 3 (some .int) 2 42 0 0 D cA cB [.ref h0, .int (nI o), .int (nI v)] [(h0, .inr (4, [.ref hn, .ref hs, .ref hd, .ref hp, .ref hc, .int wy, .int dn])), (hn, .inl (cA, 34, .inl f))] (fun r W1 => ∃ (wy2 : Int32) (dn2 : Int32) (f2 : Nat → Int32) (rk : Nat), r = nI rk ∧ (okN f2) ∧ (rk < 1000) ∧ W1 = [(h0, .inr (4, [.ref hn, .ref hs, .ref hd, .ref hp, .ref hc, .int wy2, .int dn2])), (hn, .inl (cA, 34, .inl f2))]) := by
  refine mkI (lv0 := [(0, .ref h0), (1, .int (nI o)), (2, .int (nI v))]) (by decide) (Nat.le_of_ble_eq_true rfl) rfl ?_
  intro p e s m below meth c A ls X hr hlocks hnm hE hA hP hD hS hl
  have hx := X.1
  have hb := X.2.1
  refine lv_aload_n hx hb dX4_branch_0 rfl (lv_at hl 0 rfl) ?_
  refine lv_iload_n hx hb dX4_branch_1 rfl (lv_at hl 1 rfl) ?_
  refine kVi (n3 := 1) (As := [.int (nI o)]) (rest := []) X hl.1 hE hP hD hS hA [(h0, .inr (4, [.ref hn, .ref hs, .ref hd, .ref hp, .ref hc, .int wy, .int dn])), (hn, .inl (cA, 34, .inl f))] [] [0, 1] [] rfl rfl rfl (by decide +kernel) (by decide +kernel) (by decide +kernel) (c_s_branchIsDue l D cA cB h0 hn hs hd hp hc wy dn f o hf (by first | assumption | decide | rfl | omega)) w_110 w_66 w_109 w_111 w_112 0 (ci := 4) (T := TX4) (N := 7) rfl rfl (by decide +kernel) rfl rfl (Nat.le_of_ble_eq_true rfl) ⟨(Nat.le_of_ble_eq_true rfl), (Nat.le_of_ble_eq_true rfl)⟩ ⟨(Nat.le_of_ble_eq_true rfl), (Nat.le_of_ble_eq_true rfl)⟩ dX4_branch_2 (fun r W1 H locs hw hP hD hS => ?_)
  obtain ⟨wy2_1, dn2_2, f2_3, rk_4, rfl, hf_5, hf_6, rfl⟩ := hw
  have hP : va_P D classes [(h0, .inr (4, [.ref hn, .ref hs, .ref hd, .ref hp, .ref hc, .int wy2_1, .int dn2_2])), (hn, .inl (cA, 34, .inl f2_3))] H := hP
  have hD : va_D A [(h0, .inr (4, [.ref hn, .ref hs, .ref hd, .ref hp, .ref hc, .int wy2_1, .int dn2_2])), (hn, .inl (cA, 34, .inl f2_3))] := hD
  refine lv_if_ne (tgt := 10) hx hb dX4_branch_5 (by decide) (fun c_5_7 => ?_) (fun c_5_7 => ?_)
  · have nc_5_7 : ¬ rk_4 = 0 := fun q => c_5_7 ((nI_eq (a := rk_4) (b := 0) (by omega) (by omega)).mpr q)
    refine lv_aload_n hx hb dX4_branch_10 rfl (lv_at hl 0 rfl) ?_
    refine lv_iload_n hx hb dX4_branch_11 rfl (lv_at hl 2 rfl) ?_
    refine kVv (n3 := 1) (As := [.int (nI v)]) (rest := []) X hl.1 hE hP hD hS hA [(h0, .inr (4, [.ref hn, .ref hs, .ref hd, .ref hp, .ref hc, .int wy2_1, .int dn2_2])), (hn, .inl (cA, 34, .inl f2_3))] [] [0, 1] [] rfl rfl rfl (by decide +kernel) (by decide +kernel) (by decide +kernel) (c_s_goBy l D cA cB h0 hn hs hd hp hc wy2_1 dn2_2 f2_3 v hf_5 (by first | assumption | decide | rfl | omega)) w_114 w_66 w_113 w_115 w_116 0 (ci := 4) (T := TX4) (N := 7) rfl rfl (by decide +kernel) rfl rfl (Nat.le_of_ble_eq_true rfl) ⟨(Nat.le_of_ble_eq_true rfl), (Nat.le_of_ble_eq_true rfl)⟩ ⟨(Nat.le_of_ble_eq_true rfl), (Nat.le_of_ble_eq_true rfl)⟩ dX4_branch_12 (fun W1 H locs hw hP hD hS => ?_)
    obtain ⟨wy2_8, dn2_9, f2_10, hf_11, rfl⟩ := hw
    have hP : va_P D classes [(h0, .inr (4, [.ref hn, .ref hs, .ref hd, .ref hp, .ref hc, .int wy2_8, .int dn2_9])), (hn, .inl (cA, 34, .inl f2_10))] H := hP
    have hD : va_D A [(h0, .inr (4, [.ref hn, .ref hs, .ref hd, .ref hp, .ref hc, .int wy2_8, .int dn2_9])), (hn, .inl (cA, 34, .inl f2_10))] := hD
    refine lv_iconst (v := 3) hx hb dX4_branch_15 (by decide) ?_
    exact endI X hr hlocks hP hD hS dX4_branch_16 ⟨wy2_8, dn2_9, f2_10, 3, rfl, hf_11, (by omega), rfl⟩
  · have nc_5_7 : rk_4 = 0 := (nI_eq (a := rk_4) (b := 0) (by omega) (by omega)).mp c_5_7
    refine lv_iconst (v := 2) hx hb dX4_branch_8 (by decide) ?_
    exact endI X hr hlocks hP hD hS dX4_branch_9 ⟨wy2_1, dn2_2, f2_3, 2, rfl, hf_5, (by omega), rfl⟩
set_option maxHeartbeats 4000000 in
set_option maxRecDepth 100000 in
theorem c_s_decimals (l : Launch) (D : va_G) (cA cB : ClassId) (h0 : Nat) (hn : Nat) (hs : Nat) (hd : Nat) (hp : Nat) (hc : Nat) (wy : Int32) (dn : Int32) (f : Nat → Int32) (hf : okN f) : CI l yX4_decimals cX4_decimals 2 (some .int) 1 22 0 0 D cA cB [.ref h0] [(h0, .inr (4, [.ref hn, .ref hs, .ref hd, .ref hp, .ref hc, .int wy, .int dn])), (hn, .inl (cA, 34, .inl f))] (fun r W1 => ∃ (wy2 : Int32) (dn2 : Int32) (f2 : Nat → Int32) (rv : Int32), r = rv ∧ (okN f2) ∧ W1 = [(h0, .inr (4, [.ref hn, .ref hs, .ref hd, .ref hp, .ref hc, .int wy2, .int dn2])), (hn, .inl (cA, 34, .inl f2))]) := by
  refine mkI (lv0 := [(0, .ref h0)]) (by decide) (Nat.le_of_ble_eq_true rfl) rfl ?_
  intro p e s m below meth c A ls X hr hlocks hnm hE hA hP hD hS hl
  have hx := X.1
  have hb := X.2.1
  refine lv_aload_n hx hb dX4_decimals_0 rfl (lv_at hl 0 rfl) ?_
  refine k_get (C := RX4) (T := TX4) (N := 7) (ci := 4) (v := .ref hn) X hE hP 0 rfl rfl iX4 0 (by decide) w_69 rfl dX4_decimals_1 ?_
  refine lv_iconst (v := 0) hx hb dX4_decimals_4 (by decide) ?_
  obtain ⟨k_1, hk_1, ek_1⟩ := hf.at 0 256 (by decide) rfl
  refine k_ald (v := nI k_1) X hE hP 1 rfl 0 rfl (by decide) (by decide) ek_1 dX4_decimals_5 ?_
  refine lv_bipush (v := 100) hx hb dX4_decimals_6 (by decide) ?_
  refine lv_irem hx hb dX4_decimals_8 (by decide) ?_
  refine tk (y := nI (k_1 % 100)) (pk_rem (a := k_1) (d := 100) (by omega) (by decide) (by decide)) ?_
  refine lv_istore_n (lv' := [(1, .int (nI (k_1 % 100))), (0, .ref h0)]) hx hb dX4_decimals_9 rfl hl (by decide) rfl (fun ls hl => ?_)
  refine lv_aload_n hx hb dX4_decimals_10 rfl (lv_at hl 1 rfl) ?_
  refine lv_iconst (v := 1) hx hb dX4_decimals_11 (by decide) ?_
  refine lv_aload_n hx hb dX4_decimals_12 rfl (lv_at hl 1 rfl) ?_
  refine k_get (C := RX4) (T := TX4) (N := 7) (ci := 4) (v := .ref hn) X hE hP 0 rfl rfl iX4 0 (by decide) w_69 rfl dX4_decimals_13 ?_
  refine lv_iconst (v := 0) hx hb dX4_decimals_16 (by decide) ?_
  refine k_ald (v := nI k_1) X hE hP 1 rfl 0 rfl (by decide) (by decide) ek_1 dX4_decimals_17 ?_
  refine lv_bipush (v := 100) hx hb dX4_decimals_18 (by decide) ?_
  refine lv_icmp_lt (tgt := 27) hx hb dX4_decimals_20 (by decide) (fun c_20_2 => ?_) (fun c_20_2 => ?_)
  · have nc_20_2 : k_1 < 100 := (nI_ltI (a := k_1) (b := 100) (by omega) (by omega)).mp c_20_2
    refine lv_iconst (v := 0) hx hb dX4_decimals_27 (by decide) ?_
    refine kVv (n3 := 2) (As := [.int 1, .int 0]) (rest := []) X hl.1 hE hP hD hS hA [(h0, .inr (4, [.ref hn, .ref hs, .ref hd, .ref hp, .ref hc, .int wy, .int dn])), (hn, .inl (cA, 34, .inl f))] [] [0, 1] [] rfl rfl rfl (by decide +kernel) (by decide +kernel) (by decide +kernel) (c_s_setFlag l D cA cB h0 hn hs hd hp hc wy dn f 1 0 hf (by first | assumption | decide | rfl | omega) (by first | assumption | decide | rfl | omega)) w_95 w_66 w_94 w_96 w_97 0 (ci := 4) (T := TX4) (N := 7) rfl rfl (by decide +kernel) rfl rfl (Nat.le_of_ble_eq_true rfl) ⟨(Nat.le_of_ble_eq_true rfl), (Nat.le_of_ble_eq_true rfl)⟩ ⟨(Nat.le_of_ble_eq_true rfl), (Nat.le_of_ble_eq_true rfl)⟩ dX4_decimals_28 (fun W1 H locs hw hP hD hS => ?_)
    obtain ⟨wy2_3, dn2_4, f2_5, hf_6, rfl⟩ := hw
    have hP : va_P D classes [(h0, .inr (4, [.ref hn, .ref hs, .ref hd, .ref hp, .ref hc, .int wy2_3, .int dn2_4])), (hn, .inl (cA, 34, .inl f2_5))] H := hP
    have hD : va_D A [(h0, .inr (4, [.ref hn, .ref hs, .ref hd, .ref hp, .ref hc, .int wy2_3, .int dn2_4])), (hn, .inl (cA, 34, .inl f2_5))] := hD
    refine lv_bipush (v := 16) hx hb dX4_decimals_31 (by decide) ?_
    refine lv_iload_n hx hb dX4_decimals_33 rfl (lv_at hl 0 rfl) ?_
    refine lv_bipush (v := 10) hx hb dX4_decimals_34 (by decide) ?_
    refine lv_idiv hx hb dX4_decimals_36 (by decide) ?_
    refine tk (y := nI ((k_1 % 100) / 10)) (pk_div (a := k_1 % 100) (d := 10) (by omega) (by decide) (by decide)) ?_
    refine lv_imul hx hb dX4_decimals_37 ?_
    refine tk (y := nI (16 * ((k_1 % 100) / 10))) (pk_mul 16 ((k_1 % 100) / 10)) ?_
    refine lv_iload_n hx hb dX4_decimals_38 rfl (lv_at hl 0 rfl) ?_
    refine lv_bipush (v := 10) hx hb dX4_decimals_39 (by decide) ?_
    refine lv_irem hx hb dX4_decimals_41 (by decide) ?_
    refine tk (y := nI ((k_1 % 100) % 10)) (pk_rem (a := k_1 % 100) (d := 10) (by omega) (by decide) (by decide)) ?_
    refine lv_iadd hx hb dX4_decimals_42 ?_
    refine tk (y := nI (16 * ((k_1 % 100) / 10) + (k_1 % 100) % 10)) (nI_add (16 * ((k_1 % 100) / 10)) ((k_1 % 100) % 10)) ?_
    exact endI X hr hlocks hP hD hS dX4_decimals_43 ⟨wy2_3, dn2_4, f2_5, (nI (16 * ((k_1 % 100) / 10) + (k_1 % 100) % 10)), rfl, hf_6, rfl⟩
  · have nc_20_2 : 100 ≤ k_1 := Nat.not_lt.mp (fun q => c_20_2 ((nI_ltI (a := k_1) (b := 100) (by omega) (by omega)).mpr q))
    refine lv_iconst (v := 1) hx hb dX4_decimals_23 (by decide) ?_
    refine lv_goto (tgt := 28) hx hb dX4_decimals_24 (by decide) ?_
    refine kVv (n3 := 2) (As := [.int 1, .int 1]) (rest := []) X hl.1 hE hP hD hS hA [(h0, .inr (4, [.ref hn, .ref hs, .ref hd, .ref hp, .ref hc, .int wy, .int dn])), (hn, .inl (cA, 34, .inl f))] [] [0, 1] [] rfl rfl rfl (by decide +kernel) (by decide +kernel) (by decide +kernel) (c_s_setFlag l D cA cB h0 hn hs hd hp hc wy dn f 1 1 hf (by first | assumption | decide | rfl | omega) (by first | assumption | decide | rfl | omega)) w_95 w_66 w_94 w_96 w_97 0 (ci := 4) (T := TX4) (N := 7) rfl rfl (by decide +kernel) rfl rfl (Nat.le_of_ble_eq_true rfl) ⟨(Nat.le_of_ble_eq_true rfl), (Nat.le_of_ble_eq_true rfl)⟩ ⟨(Nat.le_of_ble_eq_true rfl), (Nat.le_of_ble_eq_true rfl)⟩ dX4_decimals_28 (fun W1 H locs hw hP hD hS => ?_)
    obtain ⟨wy2_7, dn2_8, f2_9, hf_10, rfl⟩ := hw
    have hP : va_P D classes [(h0, .inr (4, [.ref hn, .ref hs, .ref hd, .ref hp, .ref hc, .int wy2_7, .int dn2_8])), (hn, .inl (cA, 34, .inl f2_9))] H := hP
    have hD : va_D A [(h0, .inr (4, [.ref hn, .ref hs, .ref hd, .ref hp, .ref hc, .int wy2_7, .int dn2_8])), (hn, .inl (cA, 34, .inl f2_9))] := hD
    refine lv_bipush (v := 16) hx hb dX4_decimals_31 (by decide) ?_
    refine lv_iload_n hx hb dX4_decimals_33 rfl (lv_at hl 0 rfl) ?_
    refine lv_bipush (v := 10) hx hb dX4_decimals_34 (by decide) ?_
    refine lv_idiv hx hb dX4_decimals_36 (by decide) ?_
    refine tk (y := nI ((k_1 % 100) / 10)) (pk_div (a := k_1 % 100) (d := 10) (by omega) (by decide) (by decide)) ?_
    refine lv_imul hx hb dX4_decimals_37 ?_
    refine tk (y := nI (16 * ((k_1 % 100) / 10))) (pk_mul 16 ((k_1 % 100) / 10)) ?_
    refine lv_iload_n hx hb dX4_decimals_38 rfl (lv_at hl 0 rfl) ?_
    refine lv_bipush (v := 10) hx hb dX4_decimals_39 (by decide) ?_
    refine lv_irem hx hb dX4_decimals_41 (by decide) ?_
    refine tk (y := nI ((k_1 % 100) % 10)) (pk_rem (a := k_1 % 100) (d := 10) (by omega) (by decide) (by decide)) ?_
    refine lv_iadd hx hb dX4_decimals_42 ?_
    refine tk (y := nI (16 * ((k_1 % 100) / 10) + (k_1 % 100) % 10)) (nI_add (16 * ((k_1 % 100) / 10)) ((k_1 % 100) % 10)) ?_
    exact endI X hr hlocks hP hD hS dX4_decimals_43 ⟨wy2_7, dn2_8, f2_9, (nI (16 * ((k_1 % 100) / 10) + (k_1 % 100) % 10)), rfl, hf_10, rfl⟩
set_option maxHeartbeats 4000000 in
set_option maxRecDepth 100000 in
theorem c_s_changeRegister (l : Launch) (D : va_G) (cA cB : ClassId) (h0 : Nat) (hn : Nat) (hs : Nat) (hd : Nat) (hp : Nat) (hc : Nat) (wy : Int32) (dn : Int32) (f : Nat → Int32) (o : Nat) (hf : okN f) (ho : o < 256) : CV l yX4_changeRegister cX4_changeRegister 2 none 2 43 0 0 D cA cB [.ref h0, .int (nI o)] [(h0, .inr (4, [.ref hn, .ref hs, .ref hd, .ref hp, .ref hc, .int wy, .int dn])), (hn, .inl (cA, 34, .inl f))] (fun W1 => ∃ (wy2 : Int32) (dn2 : Int32) (f2 : Nat → Int32), (okN f2) ∧ W1 = [(h0, .inr (4, [.ref hn, .ref hs, .ref hd, .ref hp, .ref hc, .int wy2, .int dn2])), (hn, .inl (cA, 34, .inl f2))]) := by
  refine mkV (lv0 := [(0, .ref h0), (1, .int (nI o))]) (by decide) (Nat.le_of_ble_eq_true rfl) rfl ?_
  intro p e s m below meth c A ls X hr hlocks hnm hE hA hP hD hS hl
  have hx := X.1
  have hb := X.2.1
  refine lv_iload_n hx hb dX4_changeRegister_0 rfl (lv_at hl 1 rfl) ?_
  by_cases c_1_1 : (nI o) = 23
  · refine lv_tableIn (tgt := 48) (off := 47) hx hb dX4_changeRegister_1 (by rw [c_1_1]; decide) (by rw [c_1_1]; decide) (by rw [c_1_1]; decide) (by decide) ?_
    refine lv_aload_n hx hb dX4_changeRegister_48 rfl (lv_at hl 0 rfl) ?_
    refine lv_iconst (v := 1) hx hb dX4_changeRegister_49 (by decide) ?_
    refine lv_aload_n hx hb dX4_changeRegister_50 rfl (lv_at hl 0 rfl) ?_
    refine k_get (C := RX4) (T := TX4) (N := 7) (ci := 4) (v := .ref hn) X hE hP 0 rfl rfl iX4 0 (by decide) w_69 rfl dX4_changeRegister_51 ?_
    refine lv_iconst (v := 1) hx hb dX4_changeRegister_54 (by decide) ?_
    obtain ⟨k_2, hk_2, ek_2⟩ := hf.at 1 256 (by decide) rfl
    refine k_ald (v := nI k_2) X hE hP 1 rfl 1 rfl (by decide) (by decide) ek_2 dX4_changeRegister_55 ?_
    refine lv_iconst (v := 1) hx hb dX4_changeRegister_56 (by decide) ?_
    refine lv_iadd hx hb dX4_changeRegister_57 ?_
    refine tk (y := nI (k_2 + 1)) (nI_add k_2 1) ?_
    refine kVv (n3 := 2) (As := [.int 1, .int (nI (k_2 + 1))]) (rest := []) X hl.1 hE hP hD hS hA [(h0, .inr (4, [.ref hn, .ref hs, .ref hd, .ref hp, .ref hc, .int wy, .int dn])), (hn, .inl (cA, 34, .inl f))] [] [0, 1] [] rfl rfl rfl (by decide +kernel) (by decide +kernel) (by decide +kernel) (c_s_set1 l D cA cB h0 hn hs hd hp hc wy dn f (nI (k_2 + 1)) hf) w_99 w_66 w_98 w_100 w_101 0 (ci := 4) (T := TX4) (N := 7) rfl rfl (by decide +kernel) rfl rfl (Nat.le_of_ble_eq_true rfl) ⟨(Nat.le_of_ble_eq_true rfl), (Nat.le_of_ble_eq_true rfl)⟩ ⟨(Nat.le_of_ble_eq_true rfl), (Nat.le_of_ble_eq_true rfl)⟩ dX4_changeRegister_58 (fun W1 H locs hw hP hD hS => ?_)
    obtain ⟨wy2_3, dn2_4, f2_5, hf_6, rfl⟩ := hw
    have hP : va_P D classes [(h0, .inr (4, [.ref hn, .ref hs, .ref hd, .ref hp, .ref hc, .int wy2_3, .int dn2_4])), (hn, .inl (cA, 34, .inl f2_5))] H := hP
    have hD : va_D A [(h0, .inr (4, [.ref hn, .ref hs, .ref hd, .ref hp, .ref hc, .int wy2_3, .int dn2_4])), (hn, .inl (cA, 34, .inl f2_5))] := hD
    refine lv_goto (tgt := 196) hx hb dX4_changeRegister_61 (by decide) ?_
    exact endV X hr hlocks hP hD hS dX4_changeRegister_196 ⟨wy2_3, dn2_4, f2_5, hf_6, rfl⟩
  · skip
    by_cases c_1_7 : (nI o) = 24
    · refine lv_tableIn (tgt := 64) (off := 63) hx hb dX4_changeRegister_1 (by rw [c_1_7]; decide) (by rw [c_1_7]; decide) (by rw [c_1_7]; decide) (by decide) ?_
      refine lv_aload_n hx hb dX4_changeRegister_64 rfl (lv_at hl 0 rfl) ?_
      refine lv_iconst (v := 1) hx hb dX4_changeRegister_65 (by decide) ?_
      refine lv_aload_n hx hb dX4_changeRegister_66 rfl (lv_at hl 0 rfl) ?_
      refine k_get (C := RX4) (T := TX4) (N := 7) (ci := 4) (v := .ref hn) X hE hP 0 rfl rfl iX4 0 (by decide) w_69 rfl dX4_changeRegister_67 ?_
      refine lv_iconst (v := 1) hx hb dX4_changeRegister_70 (by decide) ?_
      obtain ⟨k_8, hk_8, ek_8⟩ := hf.at 1 256 (by decide) rfl
      refine k_ald (v := nI k_8) X hE hP 1 rfl 1 rfl (by decide) (by decide) ek_8 dX4_changeRegister_71 ?_
      refine lv_iconst (v := 1) hx hb dX4_changeRegister_72 (by decide) ?_
      refine lv_isub hx hb dX4_changeRegister_73 ?_
      refine kVv (n3 := 2) (As := [.int 1, .int ((nI k_8) - 1)]) (rest := []) X hl.1 hE hP hD hS hA [(h0, .inr (4, [.ref hn, .ref hs, .ref hd, .ref hp, .ref hc, .int wy, .int dn])), (hn, .inl (cA, 34, .inl f))] [] [0, 1] [] rfl rfl rfl (by decide +kernel) (by decide +kernel) (by decide +kernel) (c_s_set1 l D cA cB h0 hn hs hd hp hc wy dn f ((nI k_8) - 1) hf) w_99 w_66 w_98 w_100 w_101 0 (ci := 4) (T := TX4) (N := 7) rfl rfl (by decide +kernel) rfl rfl (Nat.le_of_ble_eq_true rfl) ⟨(Nat.le_of_ble_eq_true rfl), (Nat.le_of_ble_eq_true rfl)⟩ ⟨(Nat.le_of_ble_eq_true rfl), (Nat.le_of_ble_eq_true rfl)⟩ dX4_changeRegister_74 (fun W1 H locs hw hP hD hS => ?_)
      obtain ⟨wy2_9, dn2_10, f2_11, hf_12, rfl⟩ := hw
      have hP : va_P D classes [(h0, .inr (4, [.ref hn, .ref hs, .ref hd, .ref hp, .ref hc, .int wy2_9, .int dn2_10])), (hn, .inl (cA, 34, .inl f2_11))] H := hP
      have hD : va_D A [(h0, .inr (4, [.ref hn, .ref hs, .ref hd, .ref hp, .ref hc, .int wy2_9, .int dn2_10])), (hn, .inl (cA, 34, .inl f2_11))] := hD
      refine lv_goto (tgt := 196) hx hb dX4_changeRegister_77 (by decide) ?_
      exact endV X hr hlocks hP hD hS dX4_changeRegister_196 ⟨wy2_9, dn2_10, f2_11, hf_12, rfl⟩
    · skip
      by_cases c_1_13 : (nI o) = 25
      · refine lv_tableIn (tgt := 80) (off := 79) hx hb dX4_changeRegister_1 (by rw [c_1_13]; decide) (by rw [c_1_13]; decide) (by rw [c_1_13]; decide) (by decide) ?_
        refine lv_aload_n hx hb dX4_changeRegister_80 rfl (lv_at hl 0 rfl) ?_
        refine lv_iconst (v := 2) hx hb dX4_changeRegister_81 (by decide) ?_
        refine lv_aload_n hx hb dX4_changeRegister_82 rfl (lv_at hl 0 rfl) ?_
        refine k_get (C := RX4) (T := TX4) (N := 7) (ci := 4) (v := .ref hn) X hE hP 0 rfl rfl iX4 0 (by decide) w_69 rfl dX4_changeRegister_83 ?_
        refine lv_iconst (v := 2) hx hb dX4_changeRegister_86 (by decide) ?_
        obtain ⟨k_14, hk_14, ek_14⟩ := hf.at 2 256 (by decide) rfl
        refine k_ald (v := nI k_14) X hE hP 1 rfl 2 rfl (by decide) (by decide) ek_14 dX4_changeRegister_87 ?_
        refine lv_iconst (v := 1) hx hb dX4_changeRegister_88 (by decide) ?_
        refine lv_iadd hx hb dX4_changeRegister_89 ?_
        refine tk (y := nI (k_14 + 1)) (nI_add k_14 1) ?_
        refine kVv (n3 := 2) (As := [.int 2, .int (nI (k_14 + 1))]) (rest := []) X hl.1 hE hP hD hS hA [(h0, .inr (4, [.ref hn, .ref hs, .ref hd, .ref hp, .ref hc, .int wy, .int dn])), (hn, .inl (cA, 34, .inl f))] [] [0, 1] [] rfl rfl rfl (by decide +kernel) (by decide +kernel) (by decide +kernel) (c_s_set2 l D cA cB h0 hn hs hd hp hc wy dn f (nI (k_14 + 1)) hf) w_99 w_66 w_98 w_100 w_101 0 (ci := 4) (T := TX4) (N := 7) rfl rfl (by decide +kernel) rfl rfl (Nat.le_of_ble_eq_true rfl) ⟨(Nat.le_of_ble_eq_true rfl), (Nat.le_of_ble_eq_true rfl)⟩ ⟨(Nat.le_of_ble_eq_true rfl), (Nat.le_of_ble_eq_true rfl)⟩ dX4_changeRegister_90 (fun W1 H locs hw hP hD hS => ?_)
        obtain ⟨wy2_15, dn2_16, f2_17, hf_18, rfl⟩ := hw
        have hP : va_P D classes [(h0, .inr (4, [.ref hn, .ref hs, .ref hd, .ref hp, .ref hc, .int wy2_15, .int dn2_16])), (hn, .inl (cA, 34, .inl f2_17))] H := hP
        have hD : va_D A [(h0, .inr (4, [.ref hn, .ref hs, .ref hd, .ref hp, .ref hc, .int wy2_15, .int dn2_16])), (hn, .inl (cA, 34, .inl f2_17))] := hD
        refine lv_goto (tgt := 196) hx hb dX4_changeRegister_93 (by decide) ?_
        exact endV X hr hlocks hP hD hS dX4_changeRegister_196 ⟨wy2_15, dn2_16, f2_17, hf_18, rfl⟩
      · skip
        by_cases c_1_19 : (nI o) = 26
        · refine lv_tableIn (tgt := 96) (off := 95) hx hb dX4_changeRegister_1 (by rw [c_1_19]; decide) (by rw [c_1_19]; decide) (by rw [c_1_19]; decide) (by decide) ?_
          refine lv_aload_n hx hb dX4_changeRegister_96 rfl (lv_at hl 0 rfl) ?_
          refine lv_iconst (v := 2) hx hb dX4_changeRegister_97 (by decide) ?_
          refine lv_aload_n hx hb dX4_changeRegister_98 rfl (lv_at hl 0 rfl) ?_
          refine k_get (C := RX4) (T := TX4) (N := 7) (ci := 4) (v := .ref hn) X hE hP 0 rfl rfl iX4 0 (by decide) w_69 rfl dX4_changeRegister_99 ?_
          refine lv_iconst (v := 2) hx hb dX4_changeRegister_102 (by decide) ?_
          obtain ⟨k_20, hk_20, ek_20⟩ := hf.at 2 256 (by decide) rfl
          refine k_ald (v := nI k_20) X hE hP 1 rfl 2 rfl (by decide) (by decide) ek_20 dX4_changeRegister_103 ?_
          refine lv_iconst (v := 1) hx hb dX4_changeRegister_104 (by decide) ?_
          refine lv_isub hx hb dX4_changeRegister_105 ?_
          refine kVv (n3 := 2) (As := [.int 2, .int ((nI k_20) - 1)]) (rest := []) X hl.1 hE hP hD hS hA [(h0, .inr (4, [.ref hn, .ref hs, .ref hd, .ref hp, .ref hc, .int wy, .int dn])), (hn, .inl (cA, 34, .inl f))] [] [0, 1] [] rfl rfl rfl (by decide +kernel) (by decide +kernel) (by decide +kernel) (c_s_set2 l D cA cB h0 hn hs hd hp hc wy dn f ((nI k_20) - 1) hf) w_99 w_66 w_98 w_100 w_101 0 (ci := 4) (T := TX4) (N := 7) rfl rfl (by decide +kernel) rfl rfl (Nat.le_of_ble_eq_true rfl) ⟨(Nat.le_of_ble_eq_true rfl), (Nat.le_of_ble_eq_true rfl)⟩ ⟨(Nat.le_of_ble_eq_true rfl), (Nat.le_of_ble_eq_true rfl)⟩ dX4_changeRegister_106 (fun W1 H locs hw hP hD hS => ?_)
          obtain ⟨wy2_21, dn2_22, f2_23, hf_24, rfl⟩ := hw
          have hP : va_P D classes [(h0, .inr (4, [.ref hn, .ref hs, .ref hd, .ref hp, .ref hc, .int wy2_21, .int dn2_22])), (hn, .inl (cA, 34, .inl f2_23))] H := hP
          have hD : va_D A [(h0, .inr (4, [.ref hn, .ref hs, .ref hd, .ref hp, .ref hc, .int wy2_21, .int dn2_22])), (hn, .inl (cA, 34, .inl f2_23))] := hD
          refine lv_goto (tgt := 196) hx hb dX4_changeRegister_109 (by decide) ?_
          exact endV X hr hlocks hP hD hS dX4_changeRegister_196 ⟨wy2_21, dn2_22, f2_23, hf_24, rfl⟩
        · skip
          by_cases c_1_25 : (nI o) = 27
          · refine lv_tableIn (tgt := 112) (off := 111) hx hb dX4_changeRegister_1 (by rw [c_1_25]; decide) (by rw [c_1_25]; decide) (by rw [c_1_25]; decide) (by decide) ?_
            refine lv_aload_n hx hb dX4_changeRegister_112 rfl (lv_at hl 0 rfl) ?_
            refine lv_iconst (v := 0) hx hb dX4_changeRegister_113 (by decide) ?_
            refine lv_aload_n hx hb dX4_changeRegister_114 rfl (lv_at hl 0 rfl) ?_
            refine k_get (C := RX4) (T := TX4) (N := 7) (ci := 4) (v := .ref hn) X hE hP 0 rfl rfl iX4 0 (by decide) w_69 rfl dX4_changeRegister_115 ?_
            refine lv_iconst (v := 0) hx hb dX4_changeRegister_118 (by decide) ?_
            obtain ⟨k_26, hk_26, ek_26⟩ := hf.at 0 256 (by decide) rfl
            refine k_ald (v := nI k_26) X hE hP 1 rfl 0 rfl (by decide) (by decide) ek_26 dX4_changeRegister_119 ?_
            refine lv_iconst (v := 1) hx hb dX4_changeRegister_120 (by decide) ?_
            refine lv_iadd hx hb dX4_changeRegister_121 ?_
            refine tk (y := nI (k_26 + 1)) (nI_add k_26 1) ?_
            refine kVv (n3 := 2) (As := [.int 0, .int (nI (k_26 + 1))]) (rest := []) X hl.1 hE hP hD hS hA [(h0, .inr (4, [.ref hn, .ref hs, .ref hd, .ref hp, .ref hc, .int wy, .int dn])), (hn, .inl (cA, 34, .inl f))] [] [0, 1] [] rfl rfl rfl (by decide +kernel) (by decide +kernel) (by decide +kernel) (c_s_set0 l D cA cB h0 hn hs hd hp hc wy dn f (nI (k_26 + 1)) hf) w_99 w_66 w_98 w_100 w_101 0 (ci := 4) (T := TX4) (N := 7) rfl rfl (by decide +kernel) rfl rfl (Nat.le_of_ble_eq_true rfl) ⟨(Nat.le_of_ble_eq_true rfl), (Nat.le_of_ble_eq_true rfl)⟩ ⟨(Nat.le_of_ble_eq_true rfl), (Nat.le_of_ble_eq_true rfl)⟩ dX4_changeRegister_122 (fun W1 H locs hw hP hD hS => ?_)
            obtain ⟨wy2_27, dn2_28, f2_29, hf_30, rfl⟩ := hw
            have hP : va_P D classes [(h0, .inr (4, [.ref hn, .ref hs, .ref hd, .ref hp, .ref hc, .int wy2_27, .int dn2_28])), (hn, .inl (cA, 34, .inl f2_29))] H := hP
            have hD : va_D A [(h0, .inr (4, [.ref hn, .ref hs, .ref hd, .ref hp, .ref hc, .int wy2_27, .int dn2_28])), (hn, .inl (cA, 34, .inl f2_29))] := hD
            refine lv_goto (tgt := 196) hx hb dX4_changeRegister_125 (by decide) ?_
            exact endV X hr hlocks hP hD hS dX4_changeRegister_196 ⟨wy2_27, dn2_28, f2_29, hf_30, rfl⟩
          · skip
            by_cases c_1_31 : (nI o) = 28
            · refine lv_tableIn (tgt := 128) (off := 127) hx hb dX4_changeRegister_1 (by rw [c_1_31]; decide) (by rw [c_1_31]; decide) (by rw [c_1_31]; decide) (by decide) ?_
              refine lv_aload_n hx hb dX4_changeRegister_128 rfl (lv_at hl 0 rfl) ?_
              refine lv_iconst (v := 0) hx hb dX4_changeRegister_129 (by decide) ?_
              refine lv_aload_n hx hb dX4_changeRegister_130 rfl (lv_at hl 0 rfl) ?_
              refine k_get (C := RX4) (T := TX4) (N := 7) (ci := 4) (v := .ref hn) X hE hP 0 rfl rfl iX4 0 (by decide) w_69 rfl dX4_changeRegister_131 ?_
              refine lv_iconst (v := 0) hx hb dX4_changeRegister_134 (by decide) ?_
              obtain ⟨k_32, hk_32, ek_32⟩ := hf.at 0 256 (by decide) rfl
              refine k_ald (v := nI k_32) X hE hP 1 rfl 0 rfl (by decide) (by decide) ek_32 dX4_changeRegister_135 ?_
              refine lv_iconst (v := 1) hx hb dX4_changeRegister_136 (by decide) ?_
              refine lv_isub hx hb dX4_changeRegister_137 ?_
              refine kVv (n3 := 2) (As := [.int 0, .int ((nI k_32) - 1)]) (rest := []) X hl.1 hE hP hD hS hA [(h0, .inr (4, [.ref hn, .ref hs, .ref hd, .ref hp, .ref hc, .int wy, .int dn])), (hn, .inl (cA, 34, .inl f))] [] [0, 1] [] rfl rfl rfl (by decide +kernel) (by decide +kernel) (by decide +kernel) (c_s_set0 l D cA cB h0 hn hs hd hp hc wy dn f ((nI k_32) - 1) hf) w_99 w_66 w_98 w_100 w_101 0 (ci := 4) (T := TX4) (N := 7) rfl rfl (by decide +kernel) rfl rfl (Nat.le_of_ble_eq_true rfl) ⟨(Nat.le_of_ble_eq_true rfl), (Nat.le_of_ble_eq_true rfl)⟩ ⟨(Nat.le_of_ble_eq_true rfl), (Nat.le_of_ble_eq_true rfl)⟩ dX4_changeRegister_138 (fun W1 H locs hw hP hD hS => ?_)
              obtain ⟨wy2_33, dn2_34, f2_35, hf_36, rfl⟩ := hw
              have hP : va_P D classes [(h0, .inr (4, [.ref hn, .ref hs, .ref hd, .ref hp, .ref hc, .int wy2_33, .int dn2_34])), (hn, .inl (cA, 34, .inl f2_35))] H := hP
              have hD : va_D A [(h0, .inr (4, [.ref hn, .ref hs, .ref hd, .ref hp, .ref hc, .int wy2_33, .int dn2_34])), (hn, .inl (cA, 34, .inl f2_35))] := hD
              refine lv_goto (tgt := 196) hx hb dX4_changeRegister_141 (by decide) ?_
              exact endV X hr hlocks hP hD hS dX4_changeRegister_196 ⟨wy2_33, dn2_34, f2_35, hf_36, rfl⟩
            · skip
              by_cases c_1_37 : (nI o) = 29
              · refine lv_tableIn (tgt := 144) (off := 143) hx hb dX4_changeRegister_1 (by rw [c_1_37]; decide) (by rw [c_1_37]; decide) (by rw [c_1_37]; decide) (by decide) ?_
                refine lv_aload_n hx hb dX4_changeRegister_144 rfl (lv_at hl 0 rfl) ?_
                refine lv_iconst (v := 0) hx hb dX4_changeRegister_145 (by decide) ?_
                refine lv_sipush (v := 256) hx hb dX4_changeRegister_146 (by decide) ?_
                refine lv_aload_n hx hb dX4_changeRegister_149 rfl (lv_at hl 0 rfl) ?_
                refine k_get (C := RX4) (T := TX4) (N := 7) (ci := 4) (v := .ref hn) X hE hP 0 rfl rfl iX4 0 (by decide) w_69 rfl dX4_changeRegister_150 ?_
                refine lv_iconst (v := 0) hx hb dX4_changeRegister_153 (by decide) ?_
                obtain ⟨k_38, hk_38, ek_38⟩ := hf.at 0 256 (by decide) rfl
                refine k_ald (v := nI k_38) X hE hP 1 rfl 0 rfl (by decide) (by decide) ek_38 dX4_changeRegister_154 ?_
                refine lv_isub hx hb dX4_changeRegister_155 ?_
                refine tk (y := nI (256 - k_38)) (pk_sub (a := 256) (b := k_38) (by omega)) ?_
                refine kVv (n3 := 2) (As := [.int 0, .int (nI (256 - k_38))]) (rest := []) X hl.1 hE hP hD hS hA [(h0, .inr (4, [.ref hn, .ref hs, .ref hd, .ref hp, .ref hc, .int wy, .int dn])), (hn, .inl (cA, 34, .inl f))] [] [0, 1] [] rfl rfl rfl (by decide +kernel) (by decide +kernel) (by decide +kernel) (c_s_set0 l D cA cB h0 hn hs hd hp hc wy dn f (nI (256 - k_38)) hf) w_99 w_66 w_98 w_100 w_101 0 (ci := 4) (T := TX4) (N := 7) rfl rfl (by decide +kernel) rfl rfl (Nat.le_of_ble_eq_true rfl) ⟨(Nat.le_of_ble_eq_true rfl), (Nat.le_of_ble_eq_true rfl)⟩ ⟨(Nat.le_of_ble_eq_true rfl), (Nat.le_of_ble_eq_true rfl)⟩ dX4_changeRegister_156 (fun W1 H locs hw hP hD hS => ?_)
                obtain ⟨wy2_39, dn2_40, f2_41, hf_42, rfl⟩ := hw
                have hP : va_P D classes [(h0, .inr (4, [.ref hn, .ref hs, .ref hd, .ref hp, .ref hc, .int wy2_39, .int dn2_40])), (hn, .inl (cA, 34, .inl f2_41))] H := hP
                have hD : va_D A [(h0, .inr (4, [.ref hn, .ref hs, .ref hd, .ref hp, .ref hc, .int wy2_39, .int dn2_40])), (hn, .inl (cA, 34, .inl f2_41))] := hD
                refine lv_goto (tgt := 196) hx hb dX4_changeRegister_159 (by decide) ?_
                exact endV X hr hlocks hP hD hS dX4_changeRegister_196 ⟨wy2_39, dn2_40, f2_41, hf_42, rfl⟩
              · skip
                by_cases c_1_43 : (nI o) = 30
                · refine lv_tableIn (tgt := 162) (off := 161) hx hb dX4_changeRegister_1 (by rw [c_1_43]; decide) (by rw [c_1_43]; decide) (by rw [c_1_43]; decide) (by decide) ?_
                  refine lv_aload_n hx hb dX4_changeRegister_162 rfl (lv_at hl 0 rfl) ?_
                  refine lv_iconst (v := 0) hx hb dX4_changeRegister_163 (by decide) ?_
                  refine lv_aload_n hx hb dX4_changeRegister_164 rfl (lv_at hl 0 rfl) ?_
                  refine k_get (C := RX4) (T := TX4) (N := 7) (ci := 4) (v := .ref hn) X hE hP 0 rfl rfl iX4 0 (by decide) w_69 rfl dX4_changeRegister_165 ?_
                  refine lv_iconst (v := 0) hx hb dX4_changeRegister_168 (by decide) ?_
                  obtain ⟨k_44, hk_44, ek_44⟩ := hf.at 0 256 (by decide) rfl
                  refine k_ald (v := nI k_44) X hE hP 1 rfl 0 rfl (by decide) (by decide) ek_44 dX4_changeRegister_169 ?_
                  refine lv_iconst (v := 4) hx hb dX4_changeRegister_170 (by decide) ?_
                  refine lv_ishl hx hb dX4_changeRegister_171 ?_
                  refine tk (y := nI (k_44 * 16)) (pk_shlN (n := k_44) _ 4 (by decide) (by omega)) ?_
                  refine lv_aload_n hx hb dX4_changeRegister_172 rfl (lv_at hl 0 rfl) ?_
                  refine k_get (C := RX4) (T := TX4) (N := 7) (ci := 4) (v := .ref hn) X hE hP 0 rfl rfl iX4 0 (by decide) w_69 rfl dX4_changeRegister_173 ?_
                  refine lv_iconst (v := 0) hx hb dX4_changeRegister_176 (by decide) ?_
                  refine k_ald (v := nI k_44) X hE hP 1 rfl 0 rfl (by decide) (by decide) ek_44 dX4_changeRegister_177 ?_
                  refine lv_iconst (v := 4) hx hb dX4_changeRegister_178 (by decide) ?_
                  refine lv_ishr hx hb dX4_changeRegister_179 ?_
                  refine tk (y := nI (k_44 / 16)) (pk_shrN (n := k_44) (by omega) _ 4 (by decide)) ?_
                  refine lv_ior hx hb dX4_changeRegister_180 ?_
                  obtain ⟨k_45, hk_45, ek_45⟩ := sf_or (a := k_44 * 16) (b := k_44 / 16) 12 4096 rfl (by decide) (by omega) (by omega)
                  have hk_45 : k_45 < 4096 := hk_45
                  refine tk (y := nI k_45) ek_45 ?_
                  refine kVv (n3 := 2) (As := [.int 0, .int (nI k_45)]) (rest := []) X hl.1 hE hP hD hS hA [(h0, .inr (4, [.ref hn, .ref hs, .ref hd, .ref hp, .ref hc, .int wy, .int dn])), (hn, .inl (cA, 34, .inl f))] [] [0, 1] [] rfl rfl rfl (by decide +kernel) (by decide +kernel) (by decide +kernel) (c_s_set0 l D cA cB h0 hn hs hd hp hc wy dn f (nI k_45) hf) w_99 w_66 w_98 w_100 w_101 0 (ci := 4) (T := TX4) (N := 7) rfl rfl (by decide +kernel) rfl rfl (Nat.le_of_ble_eq_true rfl) ⟨(Nat.le_of_ble_eq_true rfl), (Nat.le_of_ble_eq_true rfl)⟩ ⟨(Nat.le_of_ble_eq_true rfl), (Nat.le_of_ble_eq_true rfl)⟩ dX4_changeRegister_181 (fun W1 H locs hw hP hD hS => ?_)
                  obtain ⟨wy2_46, dn2_47, f2_48, hf_49, rfl⟩ := hw
                  have hP : va_P D classes [(h0, .inr (4, [.ref hn, .ref hs, .ref hd, .ref hp, .ref hc, .int wy2_46, .int dn2_47])), (hn, .inl (cA, 34, .inl f2_48))] H := hP
                  have hD : va_D A [(h0, .inr (4, [.ref hn, .ref hs, .ref hd, .ref hp, .ref hc, .int wy2_46, .int dn2_47])), (hn, .inl (cA, 34, .inl f2_48))] := hD
                  refine lv_goto (tgt := 196) hx hb dX4_changeRegister_184 (by decide) ?_
                  exact endV X hr hlocks hP hD hS dX4_changeRegister_196 ⟨wy2_46, dn2_47, f2_48, hf_49, rfl⟩
                · skip
                  refine lv_tableOut (tgt := 187) hx hb dX4_changeRegister_1 (by have n_0 := lv_neT (k := 23) (a := 23) c_1_1 (by decide); have n_1 := lv_neT (k := 24) (a := 24) c_1_7 (by decide); have n_2 := lv_neT (k := 25) (a := 25) c_1_13 (by decide); have n_3 := lv_neT (k := 26) (a := 26) c_1_19 (by decide); have n_4 := lv_neT (k := 27) (a := 27) c_1_25 (by decide); have n_5 := lv_neT (k := 28) (a := 28) c_1_31 (by decide); have n_6 := lv_neT (k := 29) (a := 29) c_1_37 (by decide); have n_7 := lv_neT (k := 30) (a := 30) c_1_43 (by decide); omega) (by decide) ?_
                  refine lv_aload_n hx hb dX4_changeRegister_187 rfl (lv_at hl 0 rfl) ?_
                  refine lv_iconst (v := 0) hx hb dX4_changeRegister_188 (by decide) ?_
                  refine lv_aload_n hx hb dX4_changeRegister_189 rfl (lv_at hl 0 rfl) ?_
                  refine kVi (n3 := 0) (As := []) (rest := [.int 0, .ref h0]) X hl.1 hE hP hD hS hA [(h0, .inr (4, [.ref hn, .ref hs, .ref hd, .ref hp, .ref hc, .int wy, .int dn])), (hn, .inl (cA, 34, .inl f))] [] [0, 1] [] rfl rfl rfl (by decide +kernel) (by decide +kernel) (by decide +kernel) (c_s_decimals l D cA cB h0 hn hs hd hp hc wy dn f hf) w_118 w_66 w_117 w_119 w_120 0 (ci := 4) (T := TX4) (N := 7) rfl rfl (by decide +kernel) rfl rfl (Nat.le_of_ble_eq_true rfl) ⟨(Nat.le_of_ble_eq_true rfl), (Nat.le_of_ble_eq_true rfl)⟩ ⟨(Nat.le_of_ble_eq_true rfl), (Nat.le_of_ble_eq_true rfl)⟩ dX4_changeRegister_190 (fun r W1 H locs hw hP hD hS => ?_)
                  obtain ⟨wy2_50, dn2_51, f2_52, rv_53, er_55, hf_54, rfl⟩ := hw
                  have hP : va_P D classes [(h0, .inr (4, [.ref hn, .ref hs, .ref hd, .ref hp, .ref hc, .int wy2_50, .int dn2_51])), (hn, .inl (cA, 34, .inl f2_52))] H := hP
                  have hD : va_D A [(h0, .inr (4, [.ref hn, .ref hs, .ref hd, .ref hp, .ref hc, .int wy2_50, .int dn2_51])), (hn, .inl (cA, 34, .inl f2_52))] := hD
                  refine tk (y := rv_53) er_55 ?_
                  refine kVv (n3 := 2) (As := [.int 0, .int rv_53]) (rest := []) X hl.1 hE hP hD hS hA [(h0, .inr (4, [.ref hn, .ref hs, .ref hd, .ref hp, .ref hc, .int wy2_50, .int dn2_51])), (hn, .inl (cA, 34, .inl f2_52))] [] [0, 1] [] rfl rfl rfl (by decide +kernel) (by decide +kernel) (by decide +kernel) (c_s_set0 l D cA cB h0 hn hs hd hp hc wy2_50 dn2_51 f2_52 rv_53 hf_54) w_99 w_66 w_98 w_100 w_101 0 (ci := 4) (T := TX4) (N := 7) rfl rfl (by decide +kernel) rfl rfl (Nat.le_of_ble_eq_true rfl) ⟨(Nat.le_of_ble_eq_true rfl), (Nat.le_of_ble_eq_true rfl)⟩ ⟨(Nat.le_of_ble_eq_true rfl), (Nat.le_of_ble_eq_true rfl)⟩ dX4_changeRegister_193 (fun W1 H locs hw hP hD hS => ?_)
                  obtain ⟨wy2_56, dn2_57, f2_58, hf_59, rfl⟩ := hw
                  have hP : va_P D classes [(h0, .inr (4, [.ref hn, .ref hs, .ref hd, .ref hp, .ref hc, .int wy2_56, .int dn2_57])), (hn, .inl (cA, 34, .inl f2_58))] H := hP
                  have hD : va_D A [(h0, .inr (4, [.ref hn, .ref hs, .ref hd, .ref hp, .ref hc, .int wy2_56, .int dn2_57])), (hn, .inl (cA, 34, .inl f2_58))] := hD
                  exact endV X hr hlocks hP hD hS dX4_changeRegister_196 ⟨wy2_56, dn2_57, f2_58, hf_59, rfl⟩
set_option maxHeartbeats 4000000 in
set_option maxRecDepth 100000 in
theorem c_s_changeFlag (l : Launch) (D : va_G) (cA cB : ClassId) (h0 : Nat) (hn : Nat) (hs : Nat) (hd : Nat) (hp : Nat) (hc : Nat) (wy : Int32) (dn : Int32) (f : Nat → Int32) (o : Nat) (hf : okN f) (ho : o < 256) : CV l yX4_changeFlag cX4_changeFlag 2 none 1 22 0 0 D cA cB [.ref h0, .int (nI o)] [(h0, .inr (4, [.ref hn, .ref hs, .ref hd, .ref hp, .ref hc, .int wy, .int dn])), (hn, .inl (cA, 34, .inl f))] (fun W1 => ∃ (wy2 : Int32) (dn2 : Int32) (f2 : Nat → Int32), (okN f2) ∧ W1 = [(h0, .inr (4, [.ref hn, .ref hs, .ref hd, .ref hp, .ref hc, .int wy2, .int dn2])), (hn, .inl (cA, 34, .inl f2))]) := by
  refine mkV (lv0 := [(0, .ref h0), (1, .int (nI o))]) (by decide) (Nat.le_of_ble_eq_true rfl) rfl ?_
  intro p e s m below meth c A ls X hr hlocks hnm hE hA hP hD hS hl
  have hx := X.1
  have hb := X.2.1
  refine lv_iload_n hx hb dX4_changeFlag_0 rfl (lv_at hl 1 rfl) ?_
  by_cases c_1_1 : (nI o) = 18
  · refine lv_tableIn (tgt := 32) (off := 31) hx hb dX4_changeFlag_1 (by rw [c_1_1]; decide) (by rw [c_1_1]; decide) (by rw [c_1_1]; decide) (by decide) ?_
    refine lv_aload_n hx hb dX4_changeFlag_32 rfl (lv_at hl 0 rfl) ?_
    refine lv_iconst (v := 1) hx hb dX4_changeFlag_33 (by decide) ?_
    refine lv_iconst (v := 1) hx hb dX4_changeFlag_34 (by decide) ?_
    refine kVv (n3 := 2) (As := [.int 1, .int 1]) (rest := []) X hl.1 hE hP hD hS hA [(h0, .inr (4, [.ref hn, .ref hs, .ref hd, .ref hp, .ref hc, .int wy, .int dn])), (hn, .inl (cA, 34, .inl f))] [] [0, 1] [] rfl rfl rfl (by decide +kernel) (by decide +kernel) (by decide +kernel) (c_s_setFlag l D cA cB h0 hn hs hd hp hc wy dn f 1 1 hf (by first | assumption | decide | rfl | omega) (by first | assumption | decide | rfl | omega)) w_95 w_66 w_94 w_96 w_97 0 (ci := 4) (T := TX4) (N := 7) rfl rfl (by decide +kernel) rfl rfl (Nat.le_of_ble_eq_true rfl) ⟨(Nat.le_of_ble_eq_true rfl), (Nat.le_of_ble_eq_true rfl)⟩ ⟨(Nat.le_of_ble_eq_true rfl), (Nat.le_of_ble_eq_true rfl)⟩ dX4_changeFlag_35 (fun W1 H locs hw hP hD hS => ?_)
    obtain ⟨wy2_2, dn2_3, f2_4, hf_5, rfl⟩ := hw
    have hP : va_P D classes [(h0, .inr (4, [.ref hn, .ref hs, .ref hd, .ref hp, .ref hc, .int wy2_2, .int dn2_3])), (hn, .inl (cA, 34, .inl f2_4))] H := hP
    have hD : va_D A [(h0, .inr (4, [.ref hn, .ref hs, .ref hd, .ref hp, .ref hc, .int wy2_2, .int dn2_3])), (hn, .inl (cA, 34, .inl f2_4))] := hD
    refine lv_goto (tgt := 75) hx hb dX4_changeFlag_38 (by decide) ?_
    exact endV X hr hlocks hP hD hS dX4_changeFlag_75 ⟨wy2_2, dn2_3, f2_4, hf_5, rfl⟩
  · skip
    by_cases c_1_6 : (nI o) = 19
    · refine lv_tableIn (tgt := 41) (off := 40) hx hb dX4_changeFlag_1 (by rw [c_1_6]; decide) (by rw [c_1_6]; decide) (by rw [c_1_6]; decide) (by decide) ?_
      refine lv_aload_n hx hb dX4_changeFlag_41 rfl (lv_at hl 0 rfl) ?_
      refine lv_iconst (v := 1) hx hb dX4_changeFlag_42 (by decide) ?_
      refine lv_iconst (v := 0) hx hb dX4_changeFlag_43 (by decide) ?_
      refine kVv (n3 := 2) (As := [.int 1, .int 0]) (rest := []) X hl.1 hE hP hD hS hA [(h0, .inr (4, [.ref hn, .ref hs, .ref hd, .ref hp, .ref hc, .int wy, .int dn])), (hn, .inl (cA, 34, .inl f))] [] [0, 1] [] rfl rfl rfl (by decide +kernel) (by decide +kernel) (by decide +kernel) (c_s_setFlag l D cA cB h0 hn hs hd hp hc wy dn f 1 0 hf (by first | assumption | decide | rfl | omega) (by first | assumption | decide | rfl | omega)) w_95 w_66 w_94 w_96 w_97 0 (ci := 4) (T := TX4) (N := 7) rfl rfl (by decide +kernel) rfl rfl (Nat.le_of_ble_eq_true rfl) ⟨(Nat.le_of_ble_eq_true rfl), (Nat.le_of_ble_eq_true rfl)⟩ ⟨(Nat.le_of_ble_eq_true rfl), (Nat.le_of_ble_eq_true rfl)⟩ dX4_changeFlag_44 (fun W1 H locs hw hP hD hS => ?_)
      obtain ⟨wy2_7, dn2_8, f2_9, hf_10, rfl⟩ := hw
      have hP : va_P D classes [(h0, .inr (4, [.ref hn, .ref hs, .ref hd, .ref hp, .ref hc, .int wy2_7, .int dn2_8])), (hn, .inl (cA, 34, .inl f2_9))] H := hP
      have hD : va_D A [(h0, .inr (4, [.ref hn, .ref hs, .ref hd, .ref hp, .ref hc, .int wy2_7, .int dn2_8])), (hn, .inl (cA, 34, .inl f2_9))] := hD
      refine lv_goto (tgt := 75) hx hb dX4_changeFlag_47 (by decide) ?_
      exact endV X hr hlocks hP hD hS dX4_changeFlag_75 ⟨wy2_7, dn2_8, f2_9, hf_10, rfl⟩
    · skip
      by_cases c_1_11 : (nI o) = 20
      · refine lv_tableIn (tgt := 50) (off := 49) hx hb dX4_changeFlag_1 (by rw [c_1_11]; decide) (by rw [c_1_11]; decide) (by rw [c_1_11]; decide) (by decide) ?_
        refine lv_aload_n hx hb dX4_changeFlag_50 rfl (lv_at hl 0 rfl) ?_
        refine lv_iconst (v := 4) hx hb dX4_changeFlag_51 (by decide) ?_
        refine lv_iconst (v := 1) hx hb dX4_changeFlag_52 (by decide) ?_
        refine kVv (n3 := 2) (As := [.int 4, .int 1]) (rest := []) X hl.1 hE hP hD hS hA [(h0, .inr (4, [.ref hn, .ref hs, .ref hd, .ref hp, .ref hc, .int wy, .int dn])), (hn, .inl (cA, 34, .inl f))] [] [0, 1] [] rfl rfl rfl (by decide +kernel) (by decide +kernel) (by decide +kernel) (c_s_setFlag l D cA cB h0 hn hs hd hp hc wy dn f 4 1 hf (by first | assumption | decide | rfl | omega) (by first | assumption | decide | rfl | omega)) w_95 w_66 w_94 w_96 w_97 0 (ci := 4) (T := TX4) (N := 7) rfl rfl (by decide +kernel) rfl rfl (Nat.le_of_ble_eq_true rfl) ⟨(Nat.le_of_ble_eq_true rfl), (Nat.le_of_ble_eq_true rfl)⟩ ⟨(Nat.le_of_ble_eq_true rfl), (Nat.le_of_ble_eq_true rfl)⟩ dX4_changeFlag_53 (fun W1 H locs hw hP hD hS => ?_)
        obtain ⟨wy2_12, dn2_13, f2_14, hf_15, rfl⟩ := hw
        have hP : va_P D classes [(h0, .inr (4, [.ref hn, .ref hs, .ref hd, .ref hp, .ref hc, .int wy2_12, .int dn2_13])), (hn, .inl (cA, 34, .inl f2_14))] H := hP
        have hD : va_D A [(h0, .inr (4, [.ref hn, .ref hs, .ref hd, .ref hp, .ref hc, .int wy2_12, .int dn2_13])), (hn, .inl (cA, 34, .inl f2_14))] := hD
        refine lv_goto (tgt := 75) hx hb dX4_changeFlag_56 (by decide) ?_
        exact endV X hr hlocks hP hD hS dX4_changeFlag_75 ⟨wy2_12, dn2_13, f2_14, hf_15, rfl⟩
      · skip
        by_cases c_1_16 : (nI o) = 21
        · refine lv_tableIn (tgt := 59) (off := 58) hx hb dX4_changeFlag_1 (by rw [c_1_16]; decide) (by rw [c_1_16]; decide) (by rw [c_1_16]; decide) (by decide) ?_
          refine lv_aload_n hx hb dX4_changeFlag_59 rfl (lv_at hl 0 rfl) ?_
          refine lv_iconst (v := 4) hx hb dX4_changeFlag_60 (by decide) ?_
          refine lv_iconst (v := 0) hx hb dX4_changeFlag_61 (by decide) ?_
          refine kVv (n3 := 2) (As := [.int 4, .int 0]) (rest := []) X hl.1 hE hP hD hS hA [(h0, .inr (4, [.ref hn, .ref hs, .ref hd, .ref hp, .ref hc, .int wy, .int dn])), (hn, .inl (cA, 34, .inl f))] [] [0, 1] [] rfl rfl rfl (by decide +kernel) (by decide +kernel) (by decide +kernel) (c_s_setFlag l D cA cB h0 hn hs hd hp hc wy dn f 4 0 hf (by first | assumption | decide | rfl | omega) (by first | assumption | decide | rfl | omega)) w_95 w_66 w_94 w_96 w_97 0 (ci := 4) (T := TX4) (N := 7) rfl rfl (by decide +kernel) rfl rfl (Nat.le_of_ble_eq_true rfl) ⟨(Nat.le_of_ble_eq_true rfl), (Nat.le_of_ble_eq_true rfl)⟩ ⟨(Nat.le_of_ble_eq_true rfl), (Nat.le_of_ble_eq_true rfl)⟩ dX4_changeFlag_62 (fun W1 H locs hw hP hD hS => ?_)
          obtain ⟨wy2_17, dn2_18, f2_19, hf_20, rfl⟩ := hw
          have hP : va_P D classes [(h0, .inr (4, [.ref hn, .ref hs, .ref hd, .ref hp, .ref hc, .int wy2_17, .int dn2_18])), (hn, .inl (cA, 34, .inl f2_19))] H := hP
          have hD : va_D A [(h0, .inr (4, [.ref hn, .ref hs, .ref hd, .ref hp, .ref hc, .int wy2_17, .int dn2_18])), (hn, .inl (cA, 34, .inl f2_19))] := hD
          refine lv_goto (tgt := 75) hx hb dX4_changeFlag_65 (by decide) ?_
          exact endV X hr hlocks hP hD hS dX4_changeFlag_75 ⟨wy2_17, dn2_18, f2_19, hf_20, rfl⟩
        · skip
          refine lv_tableOut (tgt := 68) hx hb dX4_changeFlag_1 (by have n_0 := lv_neT (k := 18) (a := 18) c_1_1 (by decide); have n_1 := lv_neT (k := 19) (a := 19) c_1_6 (by decide); have n_2 := lv_neT (k := 20) (a := 20) c_1_11 (by decide); have n_3 := lv_neT (k := 21) (a := 21) c_1_16 (by decide); omega) (by decide) ?_
          refine lv_aload_n hx hb dX4_changeFlag_68 rfl (lv_at hl 0 rfl) ?_
          refine lv_bipush (v := 64) hx hb dX4_changeFlag_69 (by decide) ?_
          refine lv_iconst (v := 0) hx hb dX4_changeFlag_71 (by decide) ?_
          refine kVv (n3 := 2) (As := [.int 64, .int 0]) (rest := []) X hl.1 hE hP hD hS hA [(h0, .inr (4, [.ref hn, .ref hs, .ref hd, .ref hp, .ref hc, .int wy, .int dn])), (hn, .inl (cA, 34, .inl f))] [] [0, 1] [] rfl rfl rfl (by decide +kernel) (by decide +kernel) (by decide +kernel) (c_s_setFlag l D cA cB h0 hn hs hd hp hc wy dn f 64 0 hf (by first | assumption | decide | rfl | omega) (by first | assumption | decide | rfl | omega)) w_95 w_66 w_94 w_96 w_97 0 (ci := 4) (T := TX4) (N := 7) rfl rfl (by decide +kernel) rfl rfl (Nat.le_of_ble_eq_true rfl) ⟨(Nat.le_of_ble_eq_true rfl), (Nat.le_of_ble_eq_true rfl)⟩ ⟨(Nat.le_of_ble_eq_true rfl), (Nat.le_of_ble_eq_true rfl)⟩ dX4_changeFlag_72 (fun W1 H locs hw hP hD hS => ?_)
          obtain ⟨wy2_21, dn2_22, f2_23, hf_24, rfl⟩ := hw
          have hP : va_P D classes [(h0, .inr (4, [.ref hn, .ref hs, .ref hd, .ref hp, .ref hc, .int wy2_21, .int dn2_22])), (hn, .inl (cA, 34, .inl f2_23))] H := hP
          have hD : va_D A [(h0, .inr (4, [.ref hn, .ref hs, .ref hd, .ref hp, .ref hc, .int wy2_21, .int dn2_22])), (hn, .inl (cA, 34, .inl f2_23))] := hD
          exact endV X hr hlocks hP hD hS dX4_changeFlag_75 ⟨wy2_21, dn2_22, f2_23, hf_24, rfl⟩
set_option maxHeartbeats 4000000 in
set_option maxRecDepth 100000 in
theorem c_s_move (l : Launch) (D : va_G) (cA cB : ClassId) (h0 : Nat) (hn : Nat) (hs : Nat) (hd : Nat) (hp : Nat) (hc : Nat) (wy : Int32) (dn : Int32) (f : Nat → Int32) (o : Nat) (hf : okN f) (ho : o < 256) : CV l yX4_move cX4_move 2 none 2 43 0 0 D cA cB [.ref h0, .int (nI o)] [(h0, .inr (4, [.ref hn, .ref hs, .ref hd, .ref hp, .ref hc, .int wy, .int dn])), (hn, .inl (cA, 34, .inl f))] (fun W1 => ∃ (wy2 : Int32) (dn2 : Int32) (f2 : Nat → Int32), (okN f2) ∧ W1 = [(h0, .inr (4, [.ref hn, .ref hs, .ref hd, .ref hp, .ref hc, .int wy2, .int dn2])), (hn, .inl (cA, 34, .inl f2))]) := by
  refine mkV (lv0 := [(0, .ref h0), (1, .int (nI o))]) (by decide) (Nat.le_of_ble_eq_true rfl) rfl ?_
  intro p e s m below meth c A ls X hr hlocks hnm hE hA hP hD hS hl
  have hx := X.1
  have hb := X.2.1
  refine lv_iload_n hx hb dX4_move_0 rfl (lv_at hl 1 rfl) ?_
  by_cases c_1_1 : (nI o) = 4
  · refine lv_tableIn (tgt := 36) (off := 35) hx hb dX4_move_1 (by rw [c_1_1]; decide) (by rw [c_1_1]; decide) (by rw [c_1_1]; decide) (by decide) ?_
    refine lv_aload_n hx hb dX4_move_36 rfl (lv_at hl 0 rfl) ?_
    refine lv_iconst (v := 1) hx hb dX4_move_37 (by decide) ?_
    refine lv_aload_n hx hb dX4_move_38 rfl (lv_at hl 0 rfl) ?_
    refine k_get (C := RX4) (T := TX4) (N := 7) (ci := 4) (v := .ref hn) X hE hP 0 rfl rfl iX4 0 (by decide) w_69 rfl dX4_move_39 ?_
    refine lv_iconst (v := 0) hx hb dX4_move_42 (by decide) ?_
    obtain ⟨k_2, hk_2, ek_2⟩ := hf.at 0 256 (by decide) rfl
    refine k_ald (v := nI k_2) X hE hP 1 rfl 0 rfl (by decide) (by decide) ek_2 dX4_move_43 ?_
    refine kVv (n3 := 2) (As := [.int 1, .int (nI k_2)]) (rest := []) X hl.1 hE hP hD hS hA [(h0, .inr (4, [.ref hn, .ref hs, .ref hd, .ref hp, .ref hc, .int wy, .int dn])), (hn, .inl (cA, 34, .inl f))] [] [0, 1] [] rfl rfl rfl (by decide +kernel) (by decide +kernel) (by decide +kernel) (c_s_set1 l D cA cB h0 hn hs hd hp hc wy dn f (nI k_2) hf) w_99 w_66 w_98 w_100 w_101 0 (ci := 4) (T := TX4) (N := 7) rfl rfl (by decide +kernel) rfl rfl (Nat.le_of_ble_eq_true rfl) ⟨(Nat.le_of_ble_eq_true rfl), (Nat.le_of_ble_eq_true rfl)⟩ ⟨(Nat.le_of_ble_eq_true rfl), (Nat.le_of_ble_eq_true rfl)⟩ dX4_move_44 (fun W1 H locs hw hP hD hS => ?_)
    obtain ⟨wy2_3, dn2_4, f2_5, hf_6, rfl⟩ := hw
    have hP : va_P D classes [(h0, .inr (4, [.ref hn, .ref hs, .ref hd, .ref hp, .ref hc, .int wy2_3, .int dn2_4])), (hn, .inl (cA, 34, .inl f2_5))] H := hP
    have hD : va_D A [(h0, .inr (4, [.ref hn, .ref hs, .ref hd, .ref hp, .ref hc, .int wy2_3, .int dn2_4])), (hn, .inl (cA, 34, .inl f2_5))] := hD
    refine lv_goto (tgt := 118) hx hb dX4_move_47 (by decide) ?_
    exact endV X hr hlocks hP hD hS dX4_move_118 ⟨wy2_3, dn2_4, f2_5, hf_6, rfl⟩
  · skip
    by_cases c_1_7 : (nI o) = 5
    · refine lv_tableIn (tgt := 50) (off := 49) hx hb dX4_move_1 (by rw [c_1_7]; decide) (by rw [c_1_7]; decide) (by rw [c_1_7]; decide) (by decide) ?_
      refine lv_aload_n hx hb dX4_move_50 rfl (lv_at hl 0 rfl) ?_
      refine lv_iconst (v := 0) hx hb dX4_move_51 (by decide) ?_
      refine lv_aload_n hx hb dX4_move_52 rfl (lv_at hl 0 rfl) ?_
      refine k_get (C := RX4) (T := TX4) (N := 7) (ci := 4) (v := .ref hn) X hE hP 0 rfl rfl iX4 0 (by decide) w_69 rfl dX4_move_53 ?_
      refine lv_iconst (v := 1) hx hb dX4_move_56 (by decide) ?_
      obtain ⟨k_8, hk_8, ek_8⟩ := hf.at 1 256 (by decide) rfl
      refine k_ald (v := nI k_8) X hE hP 1 rfl 1 rfl (by decide) (by decide) ek_8 dX4_move_57 ?_
      refine kVv (n3 := 2) (As := [.int 0, .int (nI k_8)]) (rest := []) X hl.1 hE hP hD hS hA [(h0, .inr (4, [.ref hn, .ref hs, .ref hd, .ref hp, .ref hc, .int wy, .int dn])), (hn, .inl (cA, 34, .inl f))] [] [0, 1] [] rfl rfl rfl (by decide +kernel) (by decide +kernel) (by decide +kernel) (c_s_set0 l D cA cB h0 hn hs hd hp hc wy dn f (nI k_8) hf) w_99 w_66 w_98 w_100 w_101 0 (ci := 4) (T := TX4) (N := 7) rfl rfl (by decide +kernel) rfl rfl (Nat.le_of_ble_eq_true rfl) ⟨(Nat.le_of_ble_eq_true rfl), (Nat.le_of_ble_eq_true rfl)⟩ ⟨(Nat.le_of_ble_eq_true rfl), (Nat.le_of_ble_eq_true rfl)⟩ dX4_move_58 (fun W1 H locs hw hP hD hS => ?_)
      obtain ⟨wy2_9, dn2_10, f2_11, hf_12, rfl⟩ := hw
      have hP : va_P D classes [(h0, .inr (4, [.ref hn, .ref hs, .ref hd, .ref hp, .ref hc, .int wy2_9, .int dn2_10])), (hn, .inl (cA, 34, .inl f2_11))] H := hP
      have hD : va_D A [(h0, .inr (4, [.ref hn, .ref hs, .ref hd, .ref hp, .ref hc, .int wy2_9, .int dn2_10])), (hn, .inl (cA, 34, .inl f2_11))] := hD
      refine lv_goto (tgt := 118) hx hb dX4_move_61 (by decide) ?_
      exact endV X hr hlocks hP hD hS dX4_move_118 ⟨wy2_9, dn2_10, f2_11, hf_12, rfl⟩
    · skip
      by_cases c_1_13 : (nI o) = 6
      · refine lv_tableIn (tgt := 64) (off := 63) hx hb dX4_move_1 (by rw [c_1_13]; decide) (by rw [c_1_13]; decide) (by rw [c_1_13]; decide) (by decide) ?_
        refine lv_aload_n hx hb dX4_move_64 rfl (lv_at hl 0 rfl) ?_
        refine lv_iconst (v := 2) hx hb dX4_move_65 (by decide) ?_
        refine lv_aload_n hx hb dX4_move_66 rfl (lv_at hl 0 rfl) ?_
        refine k_get (C := RX4) (T := TX4) (N := 7) (ci := 4) (v := .ref hn) X hE hP 0 rfl rfl iX4 0 (by decide) w_69 rfl dX4_move_67 ?_
        refine lv_iconst (v := 0) hx hb dX4_move_70 (by decide) ?_
        obtain ⟨k_14, hk_14, ek_14⟩ := hf.at 0 256 (by decide) rfl
        refine k_ald (v := nI k_14) X hE hP 1 rfl 0 rfl (by decide) (by decide) ek_14 dX4_move_71 ?_
        refine kVv (n3 := 2) (As := [.int 2, .int (nI k_14)]) (rest := []) X hl.1 hE hP hD hS hA [(h0, .inr (4, [.ref hn, .ref hs, .ref hd, .ref hp, .ref hc, .int wy, .int dn])), (hn, .inl (cA, 34, .inl f))] [] [0, 1] [] rfl rfl rfl (by decide +kernel) (by decide +kernel) (by decide +kernel) (c_s_set2 l D cA cB h0 hn hs hd hp hc wy dn f (nI k_14) hf) w_99 w_66 w_98 w_100 w_101 0 (ci := 4) (T := TX4) (N := 7) rfl rfl (by decide +kernel) rfl rfl (Nat.le_of_ble_eq_true rfl) ⟨(Nat.le_of_ble_eq_true rfl), (Nat.le_of_ble_eq_true rfl)⟩ ⟨(Nat.le_of_ble_eq_true rfl), (Nat.le_of_ble_eq_true rfl)⟩ dX4_move_72 (fun W1 H locs hw hP hD hS => ?_)
        obtain ⟨wy2_15, dn2_16, f2_17, hf_18, rfl⟩ := hw
        have hP : va_P D classes [(h0, .inr (4, [.ref hn, .ref hs, .ref hd, .ref hp, .ref hc, .int wy2_15, .int dn2_16])), (hn, .inl (cA, 34, .inl f2_17))] H := hP
        have hD : va_D A [(h0, .inr (4, [.ref hn, .ref hs, .ref hd, .ref hp, .ref hc, .int wy2_15, .int dn2_16])), (hn, .inl (cA, 34, .inl f2_17))] := hD
        refine lv_goto (tgt := 118) hx hb dX4_move_75 (by decide) ?_
        exact endV X hr hlocks hP hD hS dX4_move_118 ⟨wy2_15, dn2_16, f2_17, hf_18, rfl⟩
      · skip
        by_cases c_1_19 : (nI o) = 7
        · refine lv_tableIn (tgt := 78) (off := 77) hx hb dX4_move_1 (by rw [c_1_19]; decide) (by rw [c_1_19]; decide) (by rw [c_1_19]; decide) (by decide) ?_
          refine lv_aload_n hx hb dX4_move_78 rfl (lv_at hl 0 rfl) ?_
          refine lv_iconst (v := 0) hx hb dX4_move_79 (by decide) ?_
          refine lv_aload_n hx hb dX4_move_80 rfl (lv_at hl 0 rfl) ?_
          refine k_get (C := RX4) (T := TX4) (N := 7) (ci := 4) (v := .ref hn) X hE hP 0 rfl rfl iX4 0 (by decide) w_69 rfl dX4_move_81 ?_
          refine lv_iconst (v := 2) hx hb dX4_move_84 (by decide) ?_
          obtain ⟨k_20, hk_20, ek_20⟩ := hf.at 2 256 (by decide) rfl
          refine k_ald (v := nI k_20) X hE hP 1 rfl 2 rfl (by decide) (by decide) ek_20 dX4_move_85 ?_
          refine kVv (n3 := 2) (As := [.int 0, .int (nI k_20)]) (rest := []) X hl.1 hE hP hD hS hA [(h0, .inr (4, [.ref hn, .ref hs, .ref hd, .ref hp, .ref hc, .int wy, .int dn])), (hn, .inl (cA, 34, .inl f))] [] [0, 1] [] rfl rfl rfl (by decide +kernel) (by decide +kernel) (by decide +kernel) (c_s_set0 l D cA cB h0 hn hs hd hp hc wy dn f (nI k_20) hf) w_99 w_66 w_98 w_100 w_101 0 (ci := 4) (T := TX4) (N := 7) rfl rfl (by decide +kernel) rfl rfl (Nat.le_of_ble_eq_true rfl) ⟨(Nat.le_of_ble_eq_true rfl), (Nat.le_of_ble_eq_true rfl)⟩ ⟨(Nat.le_of_ble_eq_true rfl), (Nat.le_of_ble_eq_true rfl)⟩ dX4_move_86 (fun W1 H locs hw hP hD hS => ?_)
          obtain ⟨wy2_21, dn2_22, f2_23, hf_24, rfl⟩ := hw
          have hP : va_P D classes [(h0, .inr (4, [.ref hn, .ref hs, .ref hd, .ref hp, .ref hc, .int wy2_21, .int dn2_22])), (hn, .inl (cA, 34, .inl f2_23))] H := hP
          have hD : va_D A [(h0, .inr (4, [.ref hn, .ref hs, .ref hd, .ref hp, .ref hc, .int wy2_21, .int dn2_22])), (hn, .inl (cA, 34, .inl f2_23))] := hD
          refine lv_goto (tgt := 118) hx hb dX4_move_89 (by decide) ?_
          exact endV X hr hlocks hP hD hS dX4_move_118 ⟨wy2_21, dn2_22, f2_23, hf_24, rfl⟩
        · skip
          by_cases c_1_25 : (nI o) = 8
          · refine lv_tableIn (tgt := 92) (off := 91) hx hb dX4_move_1 (by rw [c_1_25]; decide) (by rw [c_1_25]; decide) (by rw [c_1_25]; decide) (by decide) ?_
            refine lv_aload_n hx hb dX4_move_92 rfl (lv_at hl 0 rfl) ?_
            refine lv_iconst (v := 1) hx hb dX4_move_93 (by decide) ?_
            refine lv_aload_n hx hb dX4_move_94 rfl (lv_at hl 0 rfl) ?_
            refine k_get (C := RX4) (T := TX4) (N := 7) (ci := 4) (v := .ref hn) X hE hP 0 rfl rfl iX4 0 (by decide) w_69 rfl dX4_move_95 ?_
            refine lv_iconst (v := 3) hx hb dX4_move_98 (by decide) ?_
            obtain ⟨k_26, hk_26, ek_26⟩ := hf.at 3 256 (by decide) rfl
            refine k_ald (v := nI k_26) X hE hP 1 rfl 3 rfl (by decide) (by decide) ek_26 dX4_move_99 ?_
            refine kVv (n3 := 2) (As := [.int 1, .int (nI k_26)]) (rest := []) X hl.1 hE hP hD hS hA [(h0, .inr (4, [.ref hn, .ref hs, .ref hd, .ref hp, .ref hc, .int wy, .int dn])), (hn, .inl (cA, 34, .inl f))] [] [0, 1] [] rfl rfl rfl (by decide +kernel) (by decide +kernel) (by decide +kernel) (c_s_set1 l D cA cB h0 hn hs hd hp hc wy dn f (nI k_26) hf) w_99 w_66 w_98 w_100 w_101 0 (ci := 4) (T := TX4) (N := 7) rfl rfl (by decide +kernel) rfl rfl (Nat.le_of_ble_eq_true rfl) ⟨(Nat.le_of_ble_eq_true rfl), (Nat.le_of_ble_eq_true rfl)⟩ ⟨(Nat.le_of_ble_eq_true rfl), (Nat.le_of_ble_eq_true rfl)⟩ dX4_move_100 (fun W1 H locs hw hP hD hS => ?_)
            obtain ⟨wy2_27, dn2_28, f2_29, hf_30, rfl⟩ := hw
            have hP : va_P D classes [(h0, .inr (4, [.ref hn, .ref hs, .ref hd, .ref hp, .ref hc, .int wy2_27, .int dn2_28])), (hn, .inl (cA, 34, .inl f2_29))] H := hP
            have hD : va_D A [(h0, .inr (4, [.ref hn, .ref hs, .ref hd, .ref hp, .ref hc, .int wy2_27, .int dn2_28])), (hn, .inl (cA, 34, .inl f2_29))] := hD
            refine lv_goto (tgt := 118) hx hb dX4_move_103 (by decide) ?_
            exact endV X hr hlocks hP hD hS dX4_move_118 ⟨wy2_27, dn2_28, f2_29, hf_30, rfl⟩
          · skip
            refine lv_tableOut (tgt := 106) hx hb dX4_move_1 (by have n_0 := lv_neT (k := 4) (a := 4) c_1_1 (by decide); have n_1 := lv_neT (k := 5) (a := 5) c_1_7 (by decide); have n_2 := lv_neT (k := 6) (a := 6) c_1_13 (by decide); have n_3 := lv_neT (k := 7) (a := 7) c_1_19 (by decide); have n_4 := lv_neT (k := 8) (a := 8) c_1_25 (by decide); omega) (by decide) ?_
            refine lv_aload_n hx hb dX4_move_106 rfl (lv_at hl 0 rfl) ?_
            refine k_get (C := RX4) (T := TX4) (N := 7) (ci := 4) (v := .ref hn) X hE hP 0 rfl rfl iX4 0 (by decide) w_69 rfl dX4_move_107 ?_
            refine lv_iconst (v := 3) hx hb dX4_move_110 (by decide) ?_
            refine lv_aload_n hx hb dX4_move_111 rfl (lv_at hl 0 rfl) ?_
            refine k_get (C := RX4) (T := TX4) (N := 7) (ci := 4) (v := .ref hn) X hE hP 0 rfl rfl iX4 0 (by decide) w_69 rfl dX4_move_112 ?_
            refine lv_iconst (v := 1) hx hb dX4_move_115 (by decide) ?_
            obtain ⟨k_31, hk_31, ek_31⟩ := hf.at 1 256 (by decide) rfl
            refine k_ald (v := nI k_31) X hE hP 1 rfl 1 rfl (by decide) (by decide) ek_31 dX4_move_116 ?_
            refine k_ast X hE hP hD hS 1 rfl 3 rfl (by decide) (by decide) [(h0, .inr (4, [.ref hn, .ref hs, .ref hd, .ref hp, .ref hc, .int wy, .int dn])), (hn, .inl (cA, 34, .inl (upd f 3 (nI k_31))))] rfl dX4_move_117 (fun H locs hP hD hS => ?_)
            obtain ⟨g_32, eg_32⟩ : ∃ z, z = upd f 3 (nI k_31) := ⟨_, rfl⟩
            rw [← eg_32] at hP hD
            have hg_32 := okN_upd hf 3 (nI k_31) (inR_of (k := k_31) rfl (by omega))
            rw [← eg_32] at hg_32
            have hP : va_P D classes [(h0, .inr (4, [.ref hn, .ref hs, .ref hd, .ref hp, .ref hc, .int wy, .int dn])), (hn, .inl (cA, 34, .inl g_32))] H := hP
            have hD : va_D A [(h0, .inr (4, [.ref hn, .ref hs, .ref hd, .ref hp, .ref hc, .int wy, .int dn])), (hn, .inl (cA, 34, .inl g_32))] := hD
            exact endV X hr hlocks hP hD hS dX4_move_118 ⟨wy, dn, g_32, hg_32, rfl⟩
set_option maxHeartbeats 4000000 in
set_option maxRecDepth 100000 in
theorem c_s_pull (l : Launch) (D : va_G) (cA cB : ClassId) (h0 : Nat) (hn : Nat) (hs : Nat) (hd : Nat) (hp : Nat) (hc : Nat) (wy : Int32) (dn : Int32) (f : Nat → Int32) (st : Nat → Int32) (hf : okN f) (hst : ∀ j, j < 4096 → ∃ k : Nat, k < 256 ∧ st j = nI k) : CI l yX4_pull cX4_pull 1 (some .int) 0 0 0 0 D cA cB [.ref h0] [(h0, .inr (4, [.ref hn, .ref hs, .ref hd, .ref hp, .ref hc, .int wy, .int dn])), (hn, .inl (cA, 34, .inl f)), (hs, .inl (cA, 4096, .inl st))] (fun r W1 => ∃ (wy2 : Int32) (dn2 : Int32) (f2 : Nat → Int32) (st2 : Nat → Int32) (rk : Nat), r = nI rk ∧ (okN f2) ∧ (∀ j, j < 4096 → ∃ k : Nat, k < 256 ∧ st2 j = nI k) ∧ (rk < 256) ∧ W1 = [(h0, .inr (4, [.ref hn, .ref hs, .ref hd, .ref hp, .ref hc, .int wy2, .int dn2])), (hn, .inl (cA, 34, .inl f2)), (hs, .inl (cA, 4096, .inl st2))]) := by
  refine mkI (lv0 := [(0, .ref h0)]) (by decide) (Nat.le_of_ble_eq_true rfl) rfl ?_
  intro p e s m below meth c A ls X hr hlocks hnm hE hA hP hD hS hl
  have hx := X.1
  have hb := X.2.1
  refine lv_aload_n hx hb dX4_pull_0 rfl (lv_at hl 0 rfl) ?_
  refine k_get (C := RX4) (T := TX4) (N := 7) (ci := 4) (v := .ref hn) X hE hP 0 rfl rfl iX4 0 (by decide) w_69 rfl dX4_pull_1 ?_
  refine lv_iconst (v := 3) hx hb dX4_pull_4 (by decide) ?_
  refine lv_aload_n hx hb dX4_pull_5 rfl (lv_at hl 0 rfl) ?_
  refine k_get (C := RX4) (T := TX4) (N := 7) (ci := 4) (v := .ref hn) X hE hP 0 rfl rfl iX4 0 (by decide) w_69 rfl dX4_pull_6 ?_
  refine lv_iconst (v := 3) hx hb dX4_pull_9 (by decide) ?_
  obtain ⟨k_1, hk_1, ek_1⟩ := hf.at 3 256 (by decide) rfl
  refine k_ald (v := nI k_1) X hE hP 1 rfl 3 rfl (by decide) (by decide) ek_1 dX4_pull_10 ?_
  refine lv_iconst (v := 1) hx hb dX4_pull_11 (by decide) ?_
  refine lv_iadd hx hb dX4_pull_12 ?_
  refine tk (y := nI (k_1 + 1)) (nI_add k_1 1) ?_
  refine lv_sipush (v := 255) hx hb dX4_pull_13 (by decide) ?_
  refine lv_iand hx hb dX4_pull_16 ?_
  obtain ⟨k_2, hk_2, ek_2⟩ := pk_andE (nI (k_1 + 1)) (m := 255) 8 (by decide)
  have hk_2 : k_2 < 256 := hk_2
  refine tk (y := nI k_2) ek_2 ?_
  refine k_ast X hE hP hD hS 1 rfl 3 rfl (by decide) (by decide) [(h0, .inr (4, [.ref hn, .ref hs, .ref hd, .ref hp, .ref hc, .int wy, .int dn])), (hn, .inl (cA, 34, .inl (upd f 3 (nI k_2)))), (hs, .inl (cA, 4096, .inl st))] rfl dX4_pull_17 (fun H locs hP hD hS => ?_)
  obtain ⟨g_3, eg_3⟩ : ∃ z, z = upd f 3 (nI k_2) := ⟨_, rfl⟩
  rw [← eg_3] at hP hD
  have hg_3 := okN_upd hf 3 (nI k_2) (inR_of (k := k_2) rfl (by omega))
  rw [← eg_3] at hg_3
  have hP : va_P D classes [(h0, .inr (4, [.ref hn, .ref hs, .ref hd, .ref hp, .ref hc, .int wy, .int dn])), (hn, .inl (cA, 34, .inl g_3)), (hs, .inl (cA, 4096, .inl st))] H := hP
  have hD : va_D A [(h0, .inr (4, [.ref hn, .ref hs, .ref hd, .ref hp, .ref hc, .int wy, .int dn])), (hn, .inl (cA, 34, .inl g_3)), (hs, .inl (cA, 4096, .inl st))] := hD
  refine lv_aload_n hx hb dX4_pull_18 rfl (lv_at hl 0 rfl) ?_
  refine k_get (C := RX4) (T := TX4) (N := 7) (ci := 4) (v := .ref hs) X hE hP 0 rfl rfl iX4 1 (by decide) w_63 rfl dX4_pull_19 ?_
  refine lv_sipush (v := 256) hx hb dX4_pull_22 (by decide) ?_
  refine lv_aload_n hx hb dX4_pull_25 rfl (lv_at hl 0 rfl) ?_
  refine k_get (C := RX4) (T := TX4) (N := 7) (ci := 4) (v := .ref hn) X hE hP 0 rfl rfl iX4 0 (by decide) w_69 rfl dX4_pull_26 ?_
  refine lv_iconst (v := 3) hx hb dX4_pull_29 (by decide) ?_
  have em_4 : g_3 3 = nI k_2 := by rw [eg_3]; exact pk_us
  refine k_ald (v := nI k_2) X hE hP 1 rfl 3 rfl (by decide) (by decide) em_4 dX4_pull_30 ?_
  refine lv_iadd hx hb dX4_pull_31 ?_
  refine tk (y := nI (256 + k_2)) (nI_add 256 k_2) ?_
  obtain ⟨k_5, hk_5, ek_5⟩ := hst (256 + k_2) (by omega)
  refine k_ald (v := nI k_5) X hE hP 2 rfl (256 + k_2) rfl (by omega) (by decide) ek_5 dX4_pull_32 ?_
  exact endI X hr hlocks hP hD hS dX4_pull_33 ⟨wy, dn, g_3, st, k_5, rfl, hg_3, hst, (by omega), rfl⟩
set_option maxHeartbeats 4000000 in
set_option maxRecDepth 100000 in
theorem c_s_pullPlace (l : Launch) (D : va_G) (cA cB : ClassId) (h0 : Nat) (hn : Nat) (hs : Nat) (hd : Nat) (hp : Nat) (hc : Nat) (wy : Int32) (dn : Int32) (f : Nat → Int32) (st : Nat → Int32) (hf : okN f) (hst : ∀ j, j < 4096 → ∃ k : Nat, k < 256 ∧ st j = nI k) : CV l yX4_pullPlace cX4_pullPlace 2 none 1 20 0 0 D cA cB [.ref h0] [(h0, .inr (4, [.ref hn, .ref hs, .ref hd, .ref hp, .ref hc, .int wy, .int dn])), (hn, .inl (cA, 34, .inl f)), (hs, .inl (cA, 4096, .inl st))] (fun W1 => ∃ (wy2 : Int32) (dn2 : Int32) (f2 : Nat → Int32) (st2 : Nat → Int32), (okN f2) ∧ (∀ j, j < 4096 → ∃ k : Nat, k < 256 ∧ st2 j = nI k) ∧ W1 = [(h0, .inr (4, [.ref hn, .ref hs, .ref hd, .ref hp, .ref hc, .int wy2, .int dn2])), (hn, .inl (cA, 34, .inl f2)), (hs, .inl (cA, 4096, .inl st2))]) := by
  refine mkV (lv0 := [(0, .ref h0)]) (by decide) (Nat.le_of_ble_eq_true rfl) rfl ?_
  intro p e s m below meth c A ls X hr hlocks hnm hE hA hP hD hS hl
  have hx := X.1
  have hb := X.2.1
  refine lv_aload_n hx hb dX4_pullPlace_0 rfl (lv_at hl 0 rfl) ?_
  refine kVi (n3 := 0) (As := []) (rest := []) X hl.1 hE hP hD hS hA [(h0, .inr (4, [.ref hn, .ref hs, .ref hd, .ref hp, .ref hc, .int wy, .int dn])), (hn, .inl (cA, 34, .inl f)), (hs, .inl (cA, 4096, .inl st))] [] [0, 1, 2] [] rfl rfl rfl (by decide +kernel) (by decide +kernel) (by decide +kernel) (c_s_pull l D cA cB h0 hn hs hd hp hc wy dn f st hf hst) w_122 w_66 w_121 w_123 w_124 0 (ci := 4) (T := TX4) (N := 7) rfl rfl (by decide +kernel) rfl rfl (Nat.le_of_ble_eq_true rfl) ⟨(Nat.le_of_ble_eq_true rfl), (Nat.le_of_ble_eq_true rfl)⟩ ⟨(Nat.le_of_ble_eq_true rfl), (Nat.le_of_ble_eq_true rfl)⟩ dX4_pullPlace_1 (fun r W1 H locs hw hP hD hS => ?_)
  obtain ⟨wy2_1, dn2_2, f2_3, st2_4, rk_5, rfl, hf_6, hf_7, hf_8, rfl⟩ := hw
  have hP : va_P D classes [(h0, .inr (4, [.ref hn, .ref hs, .ref hd, .ref hp, .ref hc, .int wy2_1, .int dn2_2])), (hn, .inl (cA, 34, .inl f2_3)), (hs, .inl (cA, 4096, .inl st2_4))] H := hP
  have hD : va_D A [(h0, .inr (4, [.ref hn, .ref hs, .ref hd, .ref hp, .ref hc, .int wy2_1, .int dn2_2])), (hn, .inl (cA, 34, .inl f2_3)), (hs, .inl (cA, 4096, .inl st2_4))] := hD
  refine lv_istore_n (lv' := [(1, .int (nI rk_5)), (0, .ref h0)]) hx hb dX4_pullPlace_4 rfl hl (by decide) rfl (fun ls hl => ?_)
  refine lv_aload_n hx hb dX4_pullPlace_5 rfl (lv_at hl 1 rfl) ?_
  refine k_get (C := RX4) (T := TX4) (N := 7) (ci := 4) (v := .ref hn) X hE hP 0 rfl rfl iX4 0 (by decide) w_69 rfl dX4_pullPlace_6 ?_
  refine lv_iconst (v := 4) hx hb dX4_pullPlace_9 (by decide) ?_
  refine lv_iload_n hx hb dX4_pullPlace_10 rfl (lv_at hl 0 rfl) ?_
  refine lv_sipush (v := 256) hx hb dX4_pullPlace_11 (by decide) ?_
  refine lv_aload_n hx hb dX4_pullPlace_14 rfl (lv_at hl 1 rfl) ?_
  refine kVi (n3 := 0) (As := []) (rest := [.int 256, .int (nI rk_5), .int 4, .ref hn]) X hl.1 hE hP hD hS hA [(h0, .inr (4, [.ref hn, .ref hs, .ref hd, .ref hp, .ref hc, .int wy2_1, .int dn2_2])), (hn, .inl (cA, 34, .inl f2_3)), (hs, .inl (cA, 4096, .inl st2_4))] [] [0, 1, 2] [] rfl rfl rfl (by decide +kernel) (by decide +kernel) (by decide +kernel) (c_s_pull l D cA cB h0 hn hs hd hp hc wy2_1 dn2_2 f2_3 st2_4 hf_6 hf_7) w_122 w_66 w_121 w_123 w_124 0 (ci := 4) (T := TX4) (N := 7) rfl rfl (by decide +kernel) rfl rfl (Nat.le_of_ble_eq_true rfl) ⟨(Nat.le_of_ble_eq_true rfl), (Nat.le_of_ble_eq_true rfl)⟩ ⟨(Nat.le_of_ble_eq_true rfl), (Nat.le_of_ble_eq_true rfl)⟩ dX4_pullPlace_15 (fun r W1 H locs hw hP hD hS => ?_)
  obtain ⟨wy2_9, dn2_10, f2_11, st2_12, rk_13, rfl, hf_14, hf_15, hf_16, rfl⟩ := hw
  have hP : va_P D classes [(h0, .inr (4, [.ref hn, .ref hs, .ref hd, .ref hp, .ref hc, .int wy2_9, .int dn2_10])), (hn, .inl (cA, 34, .inl f2_11)), (hs, .inl (cA, 4096, .inl st2_12))] H := hP
  have hD : va_D A [(h0, .inr (4, [.ref hn, .ref hs, .ref hd, .ref hp, .ref hc, .int wy2_9, .int dn2_10])), (hn, .inl (cA, 34, .inl f2_11)), (hs, .inl (cA, 4096, .inl st2_12))] := hD
  refine lv_imul hx hb dX4_pullPlace_18 ?_
  refine tk (y := nI (256 * rk_13)) (pk_mul 256 rk_13) ?_
  refine lv_iadd hx hb dX4_pullPlace_19 ?_
  refine tk (y := nI (rk_5 + 256 * rk_13)) (nI_add rk_5 (256 * rk_13)) ?_
  refine lv_sipush (v := 4095) hx hb dX4_pullPlace_20 (by decide) ?_
  refine lv_iand hx hb dX4_pullPlace_23 ?_
  obtain ⟨k_17, hk_17, ek_17⟩ := pk_andE (nI (rk_5 + 256 * rk_13)) (m := 4095) 12 (by decide)
  have hk_17 : k_17 < 4096 := hk_17
  refine tk (y := nI k_17) ek_17 ?_
  refine k_ast X hE hP hD hS 1 rfl 4 rfl (by decide) (by decide) [(h0, .inr (4, [.ref hn, .ref hs, .ref hd, .ref hp, .ref hc, .int wy2_9, .int dn2_10])), (hn, .inl (cA, 34, .inl (upd f2_11 4 (nI k_17)))), (hs, .inl (cA, 4096, .inl st2_12))] rfl dX4_pullPlace_24 (fun H locs hP hD hS => ?_)
  obtain ⟨g_18, eg_18⟩ : ∃ z, z = upd f2_11 4 (nI k_17) := ⟨_, rfl⟩
  rw [← eg_18] at hP hD
  have hg_18 := okN_upd hf_14 4 (nI k_17) (inR_of (k := k_17) rfl (by omega))
  rw [← eg_18] at hg_18
  have hP : va_P D classes [(h0, .inr (4, [.ref hn, .ref hs, .ref hd, .ref hp, .ref hc, .int wy2_9, .int dn2_10])), (hn, .inl (cA, 34, .inl g_18)), (hs, .inl (cA, 4096, .inl st2_12))] H := hP
  have hD : va_D A [(h0, .inr (4, [.ref hn, .ref hs, .ref hd, .ref hp, .ref hc, .int wy2_9, .int dn2_10])), (hn, .inl (cA, 34, .inl g_18)), (hs, .inl (cA, 4096, .inl st2_12))] := hD
  exact endV X hr hlocks hP hD hS dX4_pullPlace_25 ⟨wy2_9, dn2_10, g_18, st2_12, hg_18, hf_15, rfl⟩
set_option maxHeartbeats 4000000 in
set_option maxRecDepth 100000 in
theorem c_s_divide (l : Launch) (D : va_G) (cA cB : ClassId) (h0 : Nat) (hn : Nat) (hs : Nat) (hd : Nat) (hp : Nat) (hc : Nat) (wy : Int32) (dn : Int32) (f : Nat → Int32) (v : Nat) (hf : okN f) (hv : v < 256) : CV l yX4_divide cX4_divide 4 none 2 43 0 0 D cA cB [.ref h0, .int (nI v)] [(h0, .inr (4, [.ref hn, .ref hs, .ref hd, .ref hp, .ref hc, .int wy, .int dn])), (hn, .inl (cA, 34, .inl f))] (fun W1 => ∃ (wy2 : Int32) (dn2 : Int32) (f2 : Nat → Int32), (okN f2) ∧ W1 = [(h0, .inr (4, [.ref hn, .ref hs, .ref hd, .ref hp, .ref hc, .int wy2, .int dn2])), (hn, .inl (cA, 34, .inl f2))]) := by
  refine mkV (lv0 := [(0, .ref h0), (1, .int (nI v))]) (by decide) (Nat.le_of_ble_eq_true rfl) rfl ?_
  intro p e s m below meth c A ls X hr hlocks hnm hE hA hP hD hS hl
  have hx := X.1
  have hb := X.2.1
  refine lv_sipush (v := 256) hx hb dX4_divide_0 (by decide) ?_
  refine lv_aload_n hx hb dX4_divide_3 rfl (lv_at hl 0 rfl) ?_
  refine k_get (C := RX4) (T := TX4) (N := 7) (ci := 4) (v := .ref hn) X hE hP 0 rfl rfl iX4 0 (by decide) w_69 rfl dX4_divide_4 ?_
  refine lv_iconst (v := 2) hx hb dX4_divide_7 (by decide) ?_
  obtain ⟨k_1, hk_1, ek_1⟩ := hf.at 2 256 (by decide) rfl
  refine k_ald (v := nI k_1) X hE hP 1 rfl 2 rfl (by decide) (by decide) ek_1 dX4_divide_8 ?_
  refine lv_imul hx hb dX4_divide_9 ?_
  refine tk (y := nI (256 * k_1)) (pk_mul 256 k_1) ?_
  refine lv_aload_n hx hb dX4_divide_10 rfl (lv_at hl 0 rfl) ?_
  refine k_get (C := RX4) (T := TX4) (N := 7) (ci := 4) (v := .ref hn) X hE hP 0 rfl rfl iX4 0 (by decide) w_69 rfl dX4_divide_11 ?_
  refine lv_iconst (v := 0) hx hb dX4_divide_14 (by decide) ?_
  obtain ⟨k_2, hk_2, ek_2⟩ := hf.at 0 256 (by decide) rfl
  refine k_ald (v := nI k_2) X hE hP 1 rfl 0 rfl (by decide) (by decide) ek_2 dX4_divide_15 ?_
  refine lv_iadd hx hb dX4_divide_16 ?_
  refine tk (y := nI (256 * k_1 + k_2)) (nI_add (256 * k_1) k_2) ?_
  refine lv_istore_n (lv' := [(2, .int (nI (256 * k_1 + k_2))), (0, .ref h0), (1, .int (nI v))]) hx hb dX4_divide_17 rfl hl (by decide) rfl (fun ls hl => ?_)
  refine lv_iload_n hx hb dX4_divide_18 rfl (lv_at hl 2 rfl) ?_
  refine lv_if_eq (tgt := 35) hx hb dX4_divide_19 (by decide) (fun c_19_3 => ?_) (fun c_19_3 => ?_)
  · have nc_19_3 : v = 0 := (nI_eq (a := v) (b := 0) (by omega) (by omega)).mp c_19_3
    refine lv_iconst (v := 0) hx hb dX4_divide_35 (by decide) ?_
    refine lv_istore_n (lv' := [(3, .int 0), (2, .int (nI (256 * k_1 + k_2))), (0, .ref h0), (1, .int (nI v))]) hx hb dX4_divide_36 rfl hl (by decide) rfl (fun ls hl => ?_)
    refine lv_aload_n hx hb dX4_divide_37 rfl (lv_at hl 2 rfl) ?_
    refine lv_bipush (v := 64) hx hb dX4_divide_38 (by decide) ?_
    refine lv_iload_n hx hb dX4_divide_40 rfl (lv_at hl 0 rfl) ?_
    refine lv_if_ne (tgt := 48) hx hb dX4_divide_41 (by decide) (fun c_41 => absurd (by decide) c_41) (fun c_41 => ?_)
    refine lv_iconst (v := 1) hx hb dX4_divide_44 (by decide) ?_
    refine lv_goto (tgt := 49) hx hb dX4_divide_45 (by decide) ?_
    refine kVv (n3 := 2) (As := [.int 64, .int 1]) (rest := []) X hl.1 hE hP hD hS hA [(h0, .inr (4, [.ref hn, .ref hs, .ref hd, .ref hp, .ref hc, .int wy, .int dn])), (hn, .inl (cA, 34, .inl f))] [] [0, 1] [] rfl rfl rfl (by decide +kernel) (by decide +kernel) (by decide +kernel) (c_s_setFlag l D cA cB h0 hn hs hd hp hc wy dn f 64 1 hf (by first | assumption | decide | rfl | omega) (by first | assumption | decide | rfl | omega)) w_95 w_66 w_94 w_96 w_97 0 (ci := 4) (T := TX4) (N := 7) rfl rfl (by decide +kernel) rfl rfl (Nat.le_of_ble_eq_true rfl) ⟨(Nat.le_of_ble_eq_true rfl), (Nat.le_of_ble_eq_true rfl)⟩ ⟨(Nat.le_of_ble_eq_true rfl), (Nat.le_of_ble_eq_true rfl)⟩ dX4_divide_49 (fun W1 H locs hw hP hD hS => ?_)
    obtain ⟨wy2_4, dn2_5, f2_6, hf_7, rfl⟩ := hw
    have hP : va_P D classes [(h0, .inr (4, [.ref hn, .ref hs, .ref hd, .ref hp, .ref hc, .int wy2_4, .int dn2_5])), (hn, .inl (cA, 34, .inl f2_6))] H := hP
    have hD : va_D A [(h0, .inr (4, [.ref hn, .ref hs, .ref hd, .ref hp, .ref hc, .int wy2_4, .int dn2_5])), (hn, .inl (cA, 34, .inl f2_6))] := hD
    refine lv_aload_n hx hb dX4_divide_52 rfl (lv_at hl 2 rfl) ?_
    refine lv_iconst (v := 1) hx hb dX4_divide_53 (by decide) ?_
    refine lv_iload_n hx hb dX4_divide_54 rfl (lv_at hl 0 rfl) ?_
    refine lv_if_ne (tgt := 62) hx hb dX4_divide_55 (by decide) (fun c_55 => absurd (by decide) c_55) (fun c_55 => ?_)
    refine lv_iconst (v := 1) hx hb dX4_divide_58 (by decide) ?_
    refine lv_goto (tgt := 63) hx hb dX4_divide_59 (by decide) ?_
    refine kVv (n3 := 2) (As := [.int 1, .int 1]) (rest := []) X hl.1 hE hP hD hS hA [(h0, .inr (4, [.ref hn, .ref hs, .ref hd, .ref hp, .ref hc, .int wy2_4, .int dn2_5])), (hn, .inl (cA, 34, .inl f2_6))] [] [0, 1] [] rfl rfl rfl (by decide +kernel) (by decide +kernel) (by decide +kernel) (c_s_setFlag l D cA cB h0 hn hs hd hp hc wy2_4 dn2_5 f2_6 1 1 hf_7 (by first | assumption | decide | rfl | omega) (by first | assumption | decide | rfl | omega)) w_95 w_66 w_94 w_96 w_97 0 (ci := 4) (T := TX4) (N := 7) rfl rfl (by decide +kernel) rfl rfl (Nat.le_of_ble_eq_true rfl) ⟨(Nat.le_of_ble_eq_true rfl), (Nat.le_of_ble_eq_true rfl)⟩ ⟨(Nat.le_of_ble_eq_true rfl), (Nat.le_of_ble_eq_true rfl)⟩ dX4_divide_63 (fun W1 H locs hw hP hD hS => ?_)
    obtain ⟨wy2_8, dn2_9, f2_10, hf_11, rfl⟩ := hw
    have hP : va_P D classes [(h0, .inr (4, [.ref hn, .ref hs, .ref hd, .ref hp, .ref hc, .int wy2_8, .int dn2_9])), (hn, .inl (cA, 34, .inl f2_10))] H := hP
    have hD : va_D A [(h0, .inr (4, [.ref hn, .ref hs, .ref hd, .ref hp, .ref hc, .int wy2_8, .int dn2_9])), (hn, .inl (cA, 34, .inl f2_10))] := hD
    refine lv_iload_n hx hb dX4_divide_66 rfl (lv_at hl 3 rfl) ?_
    refine lv_if_eq (tgt := 91) hx hb dX4_divide_67 (by decide) (fun c_67_12 => ?_) (fun c_67_12 => ?_)
    · have nc_67_12 : v = 0 := (nI_eq (a := v) (b := 0) (by omega) (by omega)).mp c_67_12
      exact endV X hr hlocks hP hD hS dX4_divide_91 ⟨wy2_8, dn2_9, f2_10, hf_11, rfl⟩
    · have nc_67_12 : ¬ v = 0 := fun q => c_67_12 ((nI_eq (a := v) (b := 0) (by omega) (by omega)).mpr q)
      refine lv_iload_n hx hb dX4_divide_70 rfl (lv_at hl 0 rfl) ?_
      refine lv_if_eq (tgt := 91) hx hb dX4_divide_71 (by decide) (fun c_71 => ?_) (fun c_71 => absurd (by decide) c_71)
      exact endV X hr hlocks hP hD hS dX4_divide_91 ⟨wy2_8, dn2_9, f2_10, hf_11, rfl⟩
  · have nc_19_3 : ¬ v = 0 := fun q => c_19_3 ((nI_eq (a := v) (b := 0) (by omega) (by omega)).mpr q)
    refine lv_iload_n hx hb dX4_divide_22 rfl (lv_at hl 0 rfl) ?_
    refine lv_iload_n hx hb dX4_divide_23 rfl (lv_at hl 2 rfl) ?_
    refine lv_idiv hx hb dX4_divide_24 (fun q => by have q2 := (nI_eq (a := v) (b := 0) (by omega) (by omega)).mp q; omega) ?_
    obtain ⟨k_13, hk_13, ek_13⟩ := sf_div (a := 256 * k_1 + k_2) (b := v) (B := 65536) (by omega) (by omega) (by omega) (by omega)
    have hk_13 : k_13 < 65536 := hk_13
    refine tk (y := nI k_13) ek_13 ?_
    refine lv_sipush (v := 255) hx hb dX4_divide_25 (by decide) ?_
    refine lv_icmp_gt (tgt := 35) hx hb dX4_divide_28 (by decide) (fun c_28_14 => ?_) (fun c_28_14 => ?_)
    · have nc_28_14 : 255 < k_13 := (nI_ltI (a := 255) (b := k_13) (by omega) (by omega)).mp c_28_14
      refine lv_iconst (v := 0) hx hb dX4_divide_35 (by decide) ?_
      refine lv_istore_n (lv' := [(3, .int 0), (2, .int (nI (256 * k_1 + k_2))), (0, .ref h0), (1, .int (nI v))]) hx hb dX4_divide_36 rfl hl (by decide) rfl (fun ls hl => ?_)
      refine lv_aload_n hx hb dX4_divide_37 rfl (lv_at hl 2 rfl) ?_
      refine lv_bipush (v := 64) hx hb dX4_divide_38 (by decide) ?_
      refine lv_iload_n hx hb dX4_divide_40 rfl (lv_at hl 0 rfl) ?_
      refine lv_if_ne (tgt := 48) hx hb dX4_divide_41 (by decide) (fun c_41 => absurd (by decide) c_41) (fun c_41 => ?_)
      refine lv_iconst (v := 1) hx hb dX4_divide_44 (by decide) ?_
      refine lv_goto (tgt := 49) hx hb dX4_divide_45 (by decide) ?_
      refine kVv (n3 := 2) (As := [.int 64, .int 1]) (rest := []) X hl.1 hE hP hD hS hA [(h0, .inr (4, [.ref hn, .ref hs, .ref hd, .ref hp, .ref hc, .int wy, .int dn])), (hn, .inl (cA, 34, .inl f))] [] [0, 1] [] rfl rfl rfl (by decide +kernel) (by decide +kernel) (by decide +kernel) (c_s_setFlag l D cA cB h0 hn hs hd hp hc wy dn f 64 1 hf (by first | assumption | decide | rfl | omega) (by first | assumption | decide | rfl | omega)) w_95 w_66 w_94 w_96 w_97 0 (ci := 4) (T := TX4) (N := 7) rfl rfl (by decide +kernel) rfl rfl (Nat.le_of_ble_eq_true rfl) ⟨(Nat.le_of_ble_eq_true rfl), (Nat.le_of_ble_eq_true rfl)⟩ ⟨(Nat.le_of_ble_eq_true rfl), (Nat.le_of_ble_eq_true rfl)⟩ dX4_divide_49 (fun W1 H locs hw hP hD hS => ?_)
      obtain ⟨wy2_15, dn2_16, f2_17, hf_18, rfl⟩ := hw
      have hP : va_P D classes [(h0, .inr (4, [.ref hn, .ref hs, .ref hd, .ref hp, .ref hc, .int wy2_15, .int dn2_16])), (hn, .inl (cA, 34, .inl f2_17))] H := hP
      have hD : va_D A [(h0, .inr (4, [.ref hn, .ref hs, .ref hd, .ref hp, .ref hc, .int wy2_15, .int dn2_16])), (hn, .inl (cA, 34, .inl f2_17))] := hD
      refine lv_aload_n hx hb dX4_divide_52 rfl (lv_at hl 2 rfl) ?_
      refine lv_iconst (v := 1) hx hb dX4_divide_53 (by decide) ?_
      refine lv_iload_n hx hb dX4_divide_54 rfl (lv_at hl 0 rfl) ?_
      refine lv_if_ne (tgt := 62) hx hb dX4_divide_55 (by decide) (fun c_55 => absurd (by decide) c_55) (fun c_55 => ?_)
      refine lv_iconst (v := 1) hx hb dX4_divide_58 (by decide) ?_
      refine lv_goto (tgt := 63) hx hb dX4_divide_59 (by decide) ?_
      refine kVv (n3 := 2) (As := [.int 1, .int 1]) (rest := []) X hl.1 hE hP hD hS hA [(h0, .inr (4, [.ref hn, .ref hs, .ref hd, .ref hp, .ref hc, .int wy2_15, .int dn2_16])), (hn, .inl (cA, 34, .inl f2_17))] [] [0, 1] [] rfl rfl rfl (by decide +kernel) (by decide +kernel) (by decide +kernel) (c_s_setFlag l D cA cB h0 hn hs hd hp hc wy2_15 dn2_16 f2_17 1 1 hf_18 (by first | assumption | decide | rfl | omega) (by first | assumption | decide | rfl | omega)) w_95 w_66 w_94 w_96 w_97 0 (ci := 4) (T := TX4) (N := 7) rfl rfl (by decide +kernel) rfl rfl (Nat.le_of_ble_eq_true rfl) ⟨(Nat.le_of_ble_eq_true rfl), (Nat.le_of_ble_eq_true rfl)⟩ ⟨(Nat.le_of_ble_eq_true rfl), (Nat.le_of_ble_eq_true rfl)⟩ dX4_divide_63 (fun W1 H locs hw hP hD hS => ?_)
      obtain ⟨wy2_19, dn2_20, f2_21, hf_22, rfl⟩ := hw
      have hP : va_P D classes [(h0, .inr (4, [.ref hn, .ref hs, .ref hd, .ref hp, .ref hc, .int wy2_19, .int dn2_20])), (hn, .inl (cA, 34, .inl f2_21))] H := hP
      have hD : va_D A [(h0, .inr (4, [.ref hn, .ref hs, .ref hd, .ref hp, .ref hc, .int wy2_19, .int dn2_20])), (hn, .inl (cA, 34, .inl f2_21))] := hD
      refine lv_iload_n hx hb dX4_divide_66 rfl (lv_at hl 3 rfl) ?_
      refine lv_if_eq (tgt := 91) hx hb dX4_divide_67 (by decide) (fun c_67_23 => ?_) (fun c_67_23 => ?_)
      · have nc_67_23 : v = 0 := (nI_eq (a := v) (b := 0) (by omega) (by omega)).mp c_67_23
        exact endV X hr hlocks hP hD hS dX4_divide_91 ⟨wy2_19, dn2_20, f2_21, hf_22, rfl⟩
      · have nc_67_23 : ¬ v = 0 := fun q => c_67_23 ((nI_eq (a := v) (b := 0) (by omega) (by omega)).mpr q)
        refine lv_iload_n hx hb dX4_divide_70 rfl (lv_at hl 0 rfl) ?_
        refine lv_if_eq (tgt := 91) hx hb dX4_divide_71 (by decide) (fun c_71 => ?_) (fun c_71 => absurd (by decide) c_71)
        exact endV X hr hlocks hP hD hS dX4_divide_91 ⟨wy2_19, dn2_20, f2_21, hf_22, rfl⟩
    · have nc_28_14 : k_13 ≤ 255 := Nat.not_lt.mp (fun q => c_28_14 ((nI_ltI (a := 255) (b := k_13) (by omega) (by omega)).mpr q))
      refine lv_iconst (v := 1) hx hb dX4_divide_31 (by decide) ?_
      refine lv_goto (tgt := 36) hx hb dX4_divide_32 (by decide) ?_
      refine lv_istore_n (lv' := [(3, .int 1), (2, .int (nI (256 * k_1 + k_2))), (0, .ref h0), (1, .int (nI v))]) hx hb dX4_divide_36 rfl hl (by decide) rfl (fun ls hl => ?_)
      refine lv_aload_n hx hb dX4_divide_37 rfl (lv_at hl 2 rfl) ?_
      refine lv_bipush (v := 64) hx hb dX4_divide_38 (by decide) ?_
      refine lv_iload_n hx hb dX4_divide_40 rfl (lv_at hl 0 rfl) ?_
      refine lv_if_ne (tgt := 48) hx hb dX4_divide_41 (by decide) (fun c_41 => ?_) (fun c_41 => absurd c_41 (by decide))
      refine lv_iconst (v := 0) hx hb dX4_divide_48 (by decide) ?_
      refine kVv (n3 := 2) (As := [.int 64, .int 0]) (rest := []) X hl.1 hE hP hD hS hA [(h0, .inr (4, [.ref hn, .ref hs, .ref hd, .ref hp, .ref hc, .int wy, .int dn])), (hn, .inl (cA, 34, .inl f))] [] [0, 1] [] rfl rfl rfl (by decide +kernel) (by decide +kernel) (by decide +kernel) (c_s_setFlag l D cA cB h0 hn hs hd hp hc wy dn f 64 0 hf (by first | assumption | decide | rfl | omega) (by first | assumption | decide | rfl | omega)) w_95 w_66 w_94 w_96 w_97 0 (ci := 4) (T := TX4) (N := 7) rfl rfl (by decide +kernel) rfl rfl (Nat.le_of_ble_eq_true rfl) ⟨(Nat.le_of_ble_eq_true rfl), (Nat.le_of_ble_eq_true rfl)⟩ ⟨(Nat.le_of_ble_eq_true rfl), (Nat.le_of_ble_eq_true rfl)⟩ dX4_divide_49 (fun W1 H locs hw hP hD hS => ?_)
      obtain ⟨wy2_24, dn2_25, f2_26, hf_27, rfl⟩ := hw
      have hP : va_P D classes [(h0, .inr (4, [.ref hn, .ref hs, .ref hd, .ref hp, .ref hc, .int wy2_24, .int dn2_25])), (hn, .inl (cA, 34, .inl f2_26))] H := hP
      have hD : va_D A [(h0, .inr (4, [.ref hn, .ref hs, .ref hd, .ref hp, .ref hc, .int wy2_24, .int dn2_25])), (hn, .inl (cA, 34, .inl f2_26))] := hD
      refine lv_aload_n hx hb dX4_divide_52 rfl (lv_at hl 2 rfl) ?_
      refine lv_iconst (v := 1) hx hb dX4_divide_53 (by decide) ?_
      refine lv_iload_n hx hb dX4_divide_54 rfl (lv_at hl 0 rfl) ?_
      refine lv_if_ne (tgt := 62) hx hb dX4_divide_55 (by decide) (fun c_55 => ?_) (fun c_55 => absurd c_55 (by decide))
      refine lv_iconst (v := 0) hx hb dX4_divide_62 (by decide) ?_
      refine kVv (n3 := 2) (As := [.int 1, .int 0]) (rest := []) X hl.1 hE hP hD hS hA [(h0, .inr (4, [.ref hn, .ref hs, .ref hd, .ref hp, .ref hc, .int wy2_24, .int dn2_25])), (hn, .inl (cA, 34, .inl f2_26))] [] [0, 1] [] rfl rfl rfl (by decide +kernel) (by decide +kernel) (by decide +kernel) (c_s_setFlag l D cA cB h0 hn hs hd hp hc wy2_24 dn2_25 f2_26 1 0 hf_27 (by first | assumption | decide | rfl | omega) (by first | assumption | decide | rfl | omega)) w_95 w_66 w_94 w_96 w_97 0 (ci := 4) (T := TX4) (N := 7) rfl rfl (by decide +kernel) rfl rfl (Nat.le_of_ble_eq_true rfl) ⟨(Nat.le_of_ble_eq_true rfl), (Nat.le_of_ble_eq_true rfl)⟩ ⟨(Nat.le_of_ble_eq_true rfl), (Nat.le_of_ble_eq_true rfl)⟩ dX4_divide_63 (fun W1 H locs hw hP hD hS => ?_)
      obtain ⟨wy2_28, dn2_29, f2_30, hf_31, rfl⟩ := hw
      have hP : va_P D classes [(h0, .inr (4, [.ref hn, .ref hs, .ref hd, .ref hp, .ref hc, .int wy2_28, .int dn2_29])), (hn, .inl (cA, 34, .inl f2_30))] H := hP
      have hD : va_D A [(h0, .inr (4, [.ref hn, .ref hs, .ref hd, .ref hp, .ref hc, .int wy2_28, .int dn2_29])), (hn, .inl (cA, 34, .inl f2_30))] := hD
      refine lv_iload_n hx hb dX4_divide_66 rfl (lv_at hl 3 rfl) ?_
      refine lv_if_eq (tgt := 91) hx hb dX4_divide_67 (by decide) (fun c_67_32 => ?_) (fun c_67_32 => ?_)
      · have nc_67_32 : v = 0 := (nI_eq (a := v) (b := 0) (by omega) (by omega)).mp c_67_32
        exact endV X hr hlocks hP hD hS dX4_divide_91 ⟨wy2_28, dn2_29, f2_30, hf_31, rfl⟩
      · have nc_67_32 : ¬ v = 0 := fun q => c_67_32 ((nI_eq (a := v) (b := 0) (by omega) (by omega)).mpr q)
        refine lv_iload_n hx hb dX4_divide_70 rfl (lv_at hl 0 rfl) ?_
        refine lv_if_eq (tgt := 91) hx hb dX4_divide_71 (by decide) (fun c_71 => absurd c_71 (by decide)) (fun c_71 => ?_)
        refine lv_aload_n hx hb dX4_divide_74 rfl (lv_at hl 2 rfl) ?_
        refine k_get (C := RX4) (T := TX4) (N := 7) (ci := 4) (v := .ref hn) X hE hP 0 rfl rfl iX4 0 (by decide) w_69 rfl dX4_divide_75 ?_
        refine lv_iconst (v := 2) hx hb dX4_divide_78 (by decide) ?_
        refine lv_iload_n hx hb dX4_divide_79 rfl (lv_at hl 1 rfl) ?_
        refine lv_iload_n hx hb dX4_divide_80 rfl (lv_at hl 3 rfl) ?_
        refine lv_irem hx hb dX4_divide_81 (fun q => by have q2 := (nI_eq (a := v) (b := 0) (by omega) (by omega)).mp q; omega) ?_
        obtain ⟨k_33, hk_33, ek_33⟩ := sf_rem (a := 256 * k_1 + k_2) (b := v) (by omega) (by omega) (by omega)
        skip
        refine tk (y := nI k_33) ek_33 ?_
        refine k_ast X hE hP hD hS 1 rfl 2 rfl (by decide) (by decide) [(h0, .inr (4, [.ref hn, .ref hs, .ref hd, .ref hp, .ref hc, .int wy2_28, .int dn2_29])), (hn, .inl (cA, 34, .inl (upd f2_30 2 (nI k_33))))] rfl dX4_divide_82 (fun H locs hP hD hS => ?_)
        obtain ⟨g_34, eg_34⟩ : ∃ z, z = upd f2_30 2 (nI k_33) := ⟨_, rfl⟩
        rw [← eg_34] at hP hD
        have hg_34 := okN_upd hf_31 2 (nI k_33) (inR_of (k := k_33) rfl (by omega))
        rw [← eg_34] at hg_34
        have hP : va_P D classes [(h0, .inr (4, [.ref hn, .ref hs, .ref hd, .ref hp, .ref hc, .int wy2_28, .int dn2_29])), (hn, .inl (cA, 34, .inl g_34))] H := hP
        have hD : va_D A [(h0, .inr (4, [.ref hn, .ref hs, .ref hd, .ref hp, .ref hc, .int wy2_28, .int dn2_29])), (hn, .inl (cA, 34, .inl g_34))] := hD
        refine lv_aload_n hx hb dX4_divide_83 rfl (lv_at hl 2 rfl) ?_
        refine lv_iconst (v := 0) hx hb dX4_divide_84 (by decide) ?_
        refine lv_iload_n hx hb dX4_divide_85 rfl (lv_at hl 1 rfl) ?_
        refine lv_iload_n hx hb dX4_divide_86 rfl (lv_at hl 3 rfl) ?_
        refine lv_idiv hx hb dX4_divide_87 (fun q => by have q2 := (nI_eq (a := v) (b := 0) (by omega) (by omega)).mp q; omega) ?_
        obtain ⟨k_35, hk_35, ek_35⟩ := sf_div (a := 256 * k_1 + k_2) (b := v) (B := 65536) (by omega) (by omega) (by omega) (by omega)
        have hk_35 : k_35 < 65536 := hk_35
        refine tk (y := nI k_35) ek_35 ?_
        refine kVv (n3 := 2) (As := [.int 0, .int (nI k_35)]) (rest := []) X hl.1 hE hP hD hS hA [(h0, .inr (4, [.ref hn, .ref hs, .ref hd, .ref hp, .ref hc, .int wy2_28, .int dn2_29])), (hn, .inl (cA, 34, .inl g_34))] [] [0, 1] [] rfl rfl rfl (by decide +kernel) (by decide +kernel) (by decide +kernel) (c_s_set0 l D cA cB h0 hn hs hd hp hc wy2_28 dn2_29 g_34 (nI k_35) hg_34) w_99 w_66 w_98 w_100 w_101 0 (ci := 4) (T := TX4) (N := 7) rfl rfl (by decide +kernel) rfl rfl (Nat.le_of_ble_eq_true rfl) ⟨(Nat.le_of_ble_eq_true rfl), (Nat.le_of_ble_eq_true rfl)⟩ ⟨(Nat.le_of_ble_eq_true rfl), (Nat.le_of_ble_eq_true rfl)⟩ dX4_divide_88 (fun W1 H locs hw hP hD hS => ?_)
        obtain ⟨wy2_36, dn2_37, f2_38, hf_39, rfl⟩ := hw
        have hP : va_P D classes [(h0, .inr (4, [.ref hn, .ref hs, .ref hd, .ref hp, .ref hc, .int wy2_36, .int dn2_37])), (hn, .inl (cA, 34, .inl f2_38))] H := hP
        have hD : va_D A [(h0, .inr (4, [.ref hn, .ref hs, .ref hd, .ref hp, .ref hc, .int wy2_36, .int dn2_37])), (hn, .inl (cA, 34, .inl f2_38))] := hD
        exact endV X hr hlocks hP hD hS dX4_divide_91 ⟨wy2_36, dn2_37, f2_38, hf_39, rfl⟩
set_option maxHeartbeats 4000000 in
set_option maxRecDepth 100000 in
theorem c_s_useValue (l : Launch) (D : va_G) (cA cB : ClassId) (h0 : Nat) (hn : Nat) (hs : Nat) (hd : Nat) (hp : Nat) (hc : Nat) (wy : Int32) (dn : Int32) (f : Nat → Int32) (o : Nat) (v : Nat) (hf : okN f) (ho : o < 16) (hv : v < 256) : CV l yX4_useValue cX4_useValue 3 none 3 66 0 0 D cA cB [.ref h0, .int (nI o), .int (nI v)] [(h0, .inr (4, [.ref hn, .ref hs, .ref hd, .ref hp, .ref hc, .int wy, .int dn])), (hn, .inl (cA, 34, .inl f))] (fun W1 => ∃ (wy2 : Int32) (dn2 : Int32) (f2 : Nat → Int32), (okN f2) ∧ W1 = [(h0, .inr (4, [.ref hn, .ref hs, .ref hd, .ref hp, .ref hc, .int wy2, .int dn2])), (hn, .inl (cA, 34, .inl f2))]) := by
  refine mkV (lv0 := [(0, .ref h0), (1, .int (nI o)), (2, .int (nI v))]) (by decide) (Nat.le_of_ble_eq_true rfl) rfl ?_
  intro p e s m below meth c A ls X hr hlocks hnm hE hA hP hD hS hl
  have hx := X.1
  have hb := X.2.1
  refine lv_iload_n hx hb dX4_useValue_0 rfl (lv_at hl 1 rfl) ?_
  by_cases c_1_1 : (nI o) = 0
  · refine lv_tableIn (tgt := 76) (off := 75) hx hb dX4_useValue_1 (by rw [c_1_1]; decide) (by rw [c_1_1]; decide) (by rw [c_1_1]; decide) (by decide) ?_
    refine lv_aload_n hx hb dX4_useValue_76 rfl (lv_at hl 0 rfl) ?_
    refine lv_iconst (v := 0) hx hb dX4_useValue_77 (by decide) ?_
    refine lv_iload_n hx hb dX4_useValue_78 rfl (lv_at hl 2 rfl) ?_
    refine kVv (n3 := 2) (As := [.int 0, .int (nI v)]) (rest := []) X hl.1 hE hP hD hS hA [(h0, .inr (4, [.ref hn, .ref hs, .ref hd, .ref hp, .ref hc, .int wy, .int dn])), (hn, .inl (cA, 34, .inl f))] [] [0, 1] [] rfl rfl rfl (by decide +kernel) (by decide +kernel) (by decide +kernel) (c_s_set0 l D cA cB h0 hn hs hd hp hc wy dn f (nI v) hf) w_99 w_66 w_98 w_100 w_101 0 (ci := 4) (T := TX4) (N := 7) rfl rfl (by decide +kernel) rfl rfl (Nat.le_of_ble_eq_true rfl) ⟨(Nat.le_of_ble_eq_true rfl), (Nat.le_of_ble_eq_true rfl)⟩ ⟨(Nat.le_of_ble_eq_true rfl), (Nat.le_of_ble_eq_true rfl)⟩ dX4_useValue_79 (fun W1 H locs hw hP hD hS => ?_)
    obtain ⟨wy2_2, dn2_3, f2_4, hf_5, rfl⟩ := hw
    have hP : va_P D classes [(h0, .inr (4, [.ref hn, .ref hs, .ref hd, .ref hp, .ref hc, .int wy2_2, .int dn2_3])), (hn, .inl (cA, 34, .inl f2_4))] H := hP
    have hD : va_D A [(h0, .inr (4, [.ref hn, .ref hs, .ref hd, .ref hp, .ref hc, .int wy2_2, .int dn2_3])), (hn, .inl (cA, 34, .inl f2_4))] := hD
    refine lv_goto (tgt := 252) hx hb dX4_useValue_82 (by decide) ?_
    exact endV X hr hlocks hP hD hS dX4_useValue_252 ⟨wy2_2, dn2_3, f2_4, hf_5, rfl⟩
  · skip
    by_cases c_1_6 : (nI o) = 1
    · refine lv_tableIn (tgt := 85) (off := 84) hx hb dX4_useValue_1 (by rw [c_1_6]; decide) (by rw [c_1_6]; decide) (by rw [c_1_6]; decide) (by decide) ?_
      refine lv_aload_n hx hb dX4_useValue_85 rfl (lv_at hl 0 rfl) ?_
      refine lv_iconst (v := 1) hx hb dX4_useValue_86 (by decide) ?_
      refine lv_iload_n hx hb dX4_useValue_87 rfl (lv_at hl 2 rfl) ?_
      refine kVv (n3 := 2) (As := [.int 1, .int (nI v)]) (rest := []) X hl.1 hE hP hD hS hA [(h0, .inr (4, [.ref hn, .ref hs, .ref hd, .ref hp, .ref hc, .int wy, .int dn])), (hn, .inl (cA, 34, .inl f))] [] [0, 1] [] rfl rfl rfl (by decide +kernel) (by decide +kernel) (by decide +kernel) (c_s_set1 l D cA cB h0 hn hs hd hp hc wy dn f (nI v) hf) w_99 w_66 w_98 w_100 w_101 0 (ci := 4) (T := TX4) (N := 7) rfl rfl (by decide +kernel) rfl rfl (Nat.le_of_ble_eq_true rfl) ⟨(Nat.le_of_ble_eq_true rfl), (Nat.le_of_ble_eq_true rfl)⟩ ⟨(Nat.le_of_ble_eq_true rfl), (Nat.le_of_ble_eq_true rfl)⟩ dX4_useValue_88 (fun W1 H locs hw hP hD hS => ?_)
      obtain ⟨wy2_7, dn2_8, f2_9, hf_10, rfl⟩ := hw
      have hP : va_P D classes [(h0, .inr (4, [.ref hn, .ref hs, .ref hd, .ref hp, .ref hc, .int wy2_7, .int dn2_8])), (hn, .inl (cA, 34, .inl f2_9))] H := hP
      have hD : va_D A [(h0, .inr (4, [.ref hn, .ref hs, .ref hd, .ref hp, .ref hc, .int wy2_7, .int dn2_8])), (hn, .inl (cA, 34, .inl f2_9))] := hD
      refine lv_goto (tgt := 252) hx hb dX4_useValue_91 (by decide) ?_
      exact endV X hr hlocks hP hD hS dX4_useValue_252 ⟨wy2_7, dn2_8, f2_9, hf_10, rfl⟩
    · skip
      by_cases c_1_11 : (nI o) = 2
      · refine lv_tableIn (tgt := 94) (off := 93) hx hb dX4_useValue_1 (by rw [c_1_11]; decide) (by rw [c_1_11]; decide) (by rw [c_1_11]; decide) (by decide) ?_
        refine lv_aload_n hx hb dX4_useValue_94 rfl (lv_at hl 0 rfl) ?_
        refine lv_iconst (v := 2) hx hb dX4_useValue_95 (by decide) ?_
        refine lv_iload_n hx hb dX4_useValue_96 rfl (lv_at hl 2 rfl) ?_
        refine kVv (n3 := 2) (As := [.int 2, .int (nI v)]) (rest := []) X hl.1 hE hP hD hS hA [(h0, .inr (4, [.ref hn, .ref hs, .ref hd, .ref hp, .ref hc, .int wy, .int dn])), (hn, .inl (cA, 34, .inl f))] [] [0, 1] [] rfl rfl rfl (by decide +kernel) (by decide +kernel) (by decide +kernel) (c_s_set2 l D cA cB h0 hn hs hd hp hc wy dn f (nI v) hf) w_99 w_66 w_98 w_100 w_101 0 (ci := 4) (T := TX4) (N := 7) rfl rfl (by decide +kernel) rfl rfl (Nat.le_of_ble_eq_true rfl) ⟨(Nat.le_of_ble_eq_true rfl), (Nat.le_of_ble_eq_true rfl)⟩ ⟨(Nat.le_of_ble_eq_true rfl), (Nat.le_of_ble_eq_true rfl)⟩ dX4_useValue_97 (fun W1 H locs hw hP hD hS => ?_)
        obtain ⟨wy2_12, dn2_13, f2_14, hf_15, rfl⟩ := hw
        have hP : va_P D classes [(h0, .inr (4, [.ref hn, .ref hs, .ref hd, .ref hp, .ref hc, .int wy2_12, .int dn2_13])), (hn, .inl (cA, 34, .inl f2_14))] H := hP
        have hD : va_D A [(h0, .inr (4, [.ref hn, .ref hs, .ref hd, .ref hp, .ref hc, .int wy2_12, .int dn2_13])), (hn, .inl (cA, 34, .inl f2_14))] := hD
        refine lv_goto (tgt := 252) hx hb dX4_useValue_100 (by decide) ?_
        exact endV X hr hlocks hP hD hS dX4_useValue_252 ⟨wy2_12, dn2_13, f2_14, hf_15, rfl⟩
      · skip
        by_cases c_1_16 : (nI o) = 3
        · refine lv_tableIn (tgt := 103) (off := 102) hx hb dX4_useValue_1 (by rw [c_1_16]; decide) (by rw [c_1_16]; decide) (by rw [c_1_16]; decide) (by decide) ?_
          refine lv_aload_n hx hb dX4_useValue_103 rfl (lv_at hl 0 rfl) ?_
          refine lv_iload_n hx hb dX4_useValue_104 rfl (lv_at hl 2 rfl) ?_
          refine kVv (n3 := 1) (As := [.int (nI v)]) (rest := []) X hl.1 hE hP hD hS hA [(h0, .inr (4, [.ref hn, .ref hs, .ref hd, .ref hp, .ref hc, .int wy, .int dn])), (hn, .inl (cA, 34, .inl f))] [] [0, 1] [] rfl rfl rfl (by decide +kernel) (by decide +kernel) (by decide +kernel) (c_s_add l D cA cB h0 hn hs hd hp hc wy dn f v hf (by first | assumption | decide | rfl | omega)) w_126 w_66 w_125 w_127 w_128 0 (ci := 4) (T := TX4) (N := 7) rfl rfl (by decide +kernel) rfl rfl (Nat.le_of_ble_eq_true rfl) ⟨(Nat.le_of_ble_eq_true rfl), (Nat.le_of_ble_eq_true rfl)⟩ ⟨(Nat.le_of_ble_eq_true rfl), (Nat.le_of_ble_eq_true rfl)⟩ dX4_useValue_105 (fun W1 H locs hw hP hD hS => ?_)
          obtain ⟨wy2_17, dn2_18, f2_19, hf_20, rfl⟩ := hw
          have hP : va_P D classes [(h0, .inr (4, [.ref hn, .ref hs, .ref hd, .ref hp, .ref hc, .int wy2_17, .int dn2_18])), (hn, .inl (cA, 34, .inl f2_19))] H := hP
          have hD : va_D A [(h0, .inr (4, [.ref hn, .ref hs, .ref hd, .ref hp, .ref hc, .int wy2_17, .int dn2_18])), (hn, .inl (cA, 34, .inl f2_19))] := hD
          refine lv_goto (tgt := 252) hx hb dX4_useValue_108 (by decide) ?_
          exact endV X hr hlocks hP hD hS dX4_useValue_252 ⟨wy2_17, dn2_18, f2_19, hf_20, rfl⟩
        · skip
          by_cases c_1_21 : (nI o) = 4
          · refine lv_tableIn (tgt := 111) (off := 110) hx hb dX4_useValue_1 (by rw [c_1_21]; decide) (by rw [c_1_21]; decide) (by rw [c_1_21]; decide) (by decide) ?_
            refine lv_aload_n hx hb dX4_useValue_111 rfl (lv_at hl 0 rfl) ?_
            refine lv_sipush (v := 255) hx hb dX4_useValue_112 (by decide) ?_
            refine lv_iload_n hx hb dX4_useValue_115 rfl (lv_at hl 2 rfl) ?_
            refine lv_isub hx hb dX4_useValue_116 ?_
            refine tk (y := nI (255 - v)) (pk_sub (a := 255) (b := v) (by omega)) ?_
            refine kVv (n3 := 1) (As := [.int (nI (255 - v))]) (rest := []) X hl.1 hE hP hD hS hA [(h0, .inr (4, [.ref hn, .ref hs, .ref hd, .ref hp, .ref hc, .int wy, .int dn])), (hn, .inl (cA, 34, .inl f))] [] [0, 1] [] rfl rfl rfl (by decide +kernel) (by decide +kernel) (by decide +kernel) (c_s_add l D cA cB h0 hn hs hd hp hc wy dn f (255 - v) hf (by first | assumption | decide | rfl | omega)) w_126 w_66 w_125 w_127 w_128 0 (ci := 4) (T := TX4) (N := 7) rfl rfl (by decide +kernel) rfl rfl (Nat.le_of_ble_eq_true rfl) ⟨(Nat.le_of_ble_eq_true rfl), (Nat.le_of_ble_eq_true rfl)⟩ ⟨(Nat.le_of_ble_eq_true rfl), (Nat.le_of_ble_eq_true rfl)⟩ dX4_useValue_117 (fun W1 H locs hw hP hD hS => ?_)
            obtain ⟨wy2_22, dn2_23, f2_24, hf_25, rfl⟩ := hw
            have hP : va_P D classes [(h0, .inr (4, [.ref hn, .ref hs, .ref hd, .ref hp, .ref hc, .int wy2_22, .int dn2_23])), (hn, .inl (cA, 34, .inl f2_24))] H := hP
            have hD : va_D A [(h0, .inr (4, [.ref hn, .ref hs, .ref hd, .ref hp, .ref hc, .int wy2_22, .int dn2_23])), (hn, .inl (cA, 34, .inl f2_24))] := hD
            refine lv_goto (tgt := 252) hx hb dX4_useValue_120 (by decide) ?_
            exact endV X hr hlocks hP hD hS dX4_useValue_252 ⟨wy2_22, dn2_23, f2_24, hf_25, rfl⟩
          · skip
            by_cases c_1_26 : (nI o) = 5
            · refine lv_tableIn (tgt := 123) (off := 122) hx hb dX4_useValue_1 (by rw [c_1_26]; decide) (by rw [c_1_26]; decide) (by rw [c_1_26]; decide) (by decide) ?_
              refine lv_aload_n hx hb dX4_useValue_123 rfl (lv_at hl 0 rfl) ?_
              refine lv_iconst (v := 0) hx hb dX4_useValue_124 (by decide) ?_
              refine lv_aload_n hx hb dX4_useValue_125 rfl (lv_at hl 0 rfl) ?_
              refine k_get (C := RX4) (T := TX4) (N := 7) (ci := 4) (v := .ref hn) X hE hP 0 rfl rfl iX4 0 (by decide) w_69 rfl dX4_useValue_126 ?_
              refine lv_iconst (v := 0) hx hb dX4_useValue_129 (by decide) ?_
              obtain ⟨k_27, hk_27, ek_27⟩ := hf.at 0 256 (by decide) rfl
              refine k_ald (v := nI k_27) X hE hP 1 rfl 0 rfl (by decide) (by decide) ek_27 dX4_useValue_130 ?_
              refine lv_iload_n hx hb dX4_useValue_131 rfl (lv_at hl 2 rfl) ?_
              refine lv_iand hx hb dX4_useValue_132 ?_
              obtain ⟨k_28, hk_28, ek_28⟩ := sf_and (a := k_27) (by omega) (nI v) (by omega : k_27 < 256)
              have hk_28 : k_28 < 256 := hk_28
              refine tk (y := nI k_28) ek_28 ?_
              refine kVv (n3 := 2) (As := [.int 0, .int (nI k_28)]) (rest := []) X hl.1 hE hP hD hS hA [(h0, .inr (4, [.ref hn, .ref hs, .ref hd, .ref hp, .ref hc, .int wy, .int dn])), (hn, .inl (cA, 34, .inl f))] [] [0, 1] [] rfl rfl rfl (by decide +kernel) (by decide +kernel) (by decide +kernel) (c_s_set0 l D cA cB h0 hn hs hd hp hc wy dn f (nI k_28) hf) w_99 w_66 w_98 w_100 w_101 0 (ci := 4) (T := TX4) (N := 7) rfl rfl (by decide +kernel) rfl rfl (Nat.le_of_ble_eq_true rfl) ⟨(Nat.le_of_ble_eq_true rfl), (Nat.le_of_ble_eq_true rfl)⟩ ⟨(Nat.le_of_ble_eq_true rfl), (Nat.le_of_ble_eq_true rfl)⟩ dX4_useValue_133 (fun W1 H locs hw hP hD hS => ?_)
              obtain ⟨wy2_29, dn2_30, f2_31, hf_32, rfl⟩ := hw
              have hP : va_P D classes [(h0, .inr (4, [.ref hn, .ref hs, .ref hd, .ref hp, .ref hc, .int wy2_29, .int dn2_30])), (hn, .inl (cA, 34, .inl f2_31))] H := hP
              have hD : va_D A [(h0, .inr (4, [.ref hn, .ref hs, .ref hd, .ref hp, .ref hc, .int wy2_29, .int dn2_30])), (hn, .inl (cA, 34, .inl f2_31))] := hD
              refine lv_goto (tgt := 252) hx hb dX4_useValue_136 (by decide) ?_
              exact endV X hr hlocks hP hD hS dX4_useValue_252 ⟨wy2_29, dn2_30, f2_31, hf_32, rfl⟩
            · skip
              by_cases c_1_33 : (nI o) = 6
              · refine lv_tableIn (tgt := 139) (off := 138) hx hb dX4_useValue_1 (by rw [c_1_33]; decide) (by rw [c_1_33]; decide) (by rw [c_1_33]; decide) (by decide) ?_
                refine lv_aload_n hx hb dX4_useValue_139 rfl (lv_at hl 0 rfl) ?_
                refine lv_iconst (v := 0) hx hb dX4_useValue_140 (by decide) ?_
                refine lv_aload_n hx hb dX4_useValue_141 rfl (lv_at hl 0 rfl) ?_
                refine k_get (C := RX4) (T := TX4) (N := 7) (ci := 4) (v := .ref hn) X hE hP 0 rfl rfl iX4 0 (by decide) w_69 rfl dX4_useValue_142 ?_
                refine lv_iconst (v := 0) hx hb dX4_useValue_145 (by decide) ?_
                obtain ⟨k_34, hk_34, ek_34⟩ := hf.at 0 256 (by decide) rfl
                refine k_ald (v := nI k_34) X hE hP 1 rfl 0 rfl (by decide) (by decide) ek_34 dX4_useValue_146 ?_
                refine lv_iload_n hx hb dX4_useValue_147 rfl (lv_at hl 2 rfl) ?_
                refine lv_ior hx hb dX4_useValue_148 ?_
                obtain ⟨k_35, hk_35, ek_35⟩ := sf_or (a := k_34) (b := v) 8 256 rfl (by decide) (by omega) (by omega)
                have hk_35 : k_35 < 256 := hk_35
                refine tk (y := nI k_35) ek_35 ?_
                refine kVv (n3 := 2) (As := [.int 0, .int (nI k_35)]) (rest := []) X hl.1 hE hP hD hS hA [(h0, .inr (4, [.ref hn, .ref hs, .ref hd, .ref hp, .ref hc, .int wy, .int dn])), (hn, .inl (cA, 34, .inl f))] [] [0, 1] [] rfl rfl rfl (by decide +kernel) (by decide +kernel) (by decide +kernel) (c_s_set0 l D cA cB h0 hn hs hd hp hc wy dn f (nI k_35) hf) w_99 w_66 w_98 w_100 w_101 0 (ci := 4) (T := TX4) (N := 7) rfl rfl (by decide +kernel) rfl rfl (Nat.le_of_ble_eq_true rfl) ⟨(Nat.le_of_ble_eq_true rfl), (Nat.le_of_ble_eq_true rfl)⟩ ⟨(Nat.le_of_ble_eq_true rfl), (Nat.le_of_ble_eq_true rfl)⟩ dX4_useValue_149 (fun W1 H locs hw hP hD hS => ?_)
                obtain ⟨wy2_36, dn2_37, f2_38, hf_39, rfl⟩ := hw
                have hP : va_P D classes [(h0, .inr (4, [.ref hn, .ref hs, .ref hd, .ref hp, .ref hc, .int wy2_36, .int dn2_37])), (hn, .inl (cA, 34, .inl f2_38))] H := hP
                have hD : va_D A [(h0, .inr (4, [.ref hn, .ref hs, .ref hd, .ref hp, .ref hc, .int wy2_36, .int dn2_37])), (hn, .inl (cA, 34, .inl f2_38))] := hD
                refine lv_goto (tgt := 252) hx hb dX4_useValue_152 (by decide) ?_
                exact endV X hr hlocks hP hD hS dX4_useValue_252 ⟨wy2_36, dn2_37, f2_38, hf_39, rfl⟩
              · skip
                by_cases c_1_40 : (nI o) = 7
                · refine lv_tableIn (tgt := 155) (off := 154) hx hb dX4_useValue_1 (by rw [c_1_40]; decide) (by rw [c_1_40]; decide) (by rw [c_1_40]; decide) (by decide) ?_
                  refine lv_aload_n hx hb dX4_useValue_155 rfl (lv_at hl 0 rfl) ?_
                  refine lv_iconst (v := 0) hx hb dX4_useValue_156 (by decide) ?_
                  refine lv_aload_n hx hb dX4_useValue_157 rfl (lv_at hl 0 rfl) ?_
                  refine k_get (C := RX4) (T := TX4) (N := 7) (ci := 4) (v := .ref hn) X hE hP 0 rfl rfl iX4 0 (by decide) w_69 rfl dX4_useValue_158 ?_
                  refine lv_iconst (v := 0) hx hb dX4_useValue_161 (by decide) ?_
                  obtain ⟨k_41, hk_41, ek_41⟩ := hf.at 0 256 (by decide) rfl
                  refine k_ald (v := nI k_41) X hE hP 1 rfl 0 rfl (by decide) (by decide) ek_41 dX4_useValue_162 ?_
                  refine lv_iload_n hx hb dX4_useValue_163 rfl (lv_at hl 2 rfl) ?_
                  refine lv_ixor hx hb dX4_useValue_164 ?_
                  obtain ⟨k_42, hk_42, ek_42⟩ := sf_xor (a := k_41) (b := v) 8 256 rfl (by decide) (by omega) (by omega)
                  have hk_42 : k_42 < 256 := hk_42
                  refine tk (y := nI k_42) ek_42 ?_
                  refine kVv (n3 := 2) (As := [.int 0, .int (nI k_42)]) (rest := []) X hl.1 hE hP hD hS hA [(h0, .inr (4, [.ref hn, .ref hs, .ref hd, .ref hp, .ref hc, .int wy, .int dn])), (hn, .inl (cA, 34, .inl f))] [] [0, 1] [] rfl rfl rfl (by decide +kernel) (by decide +kernel) (by decide +kernel) (c_s_set0 l D cA cB h0 hn hs hd hp hc wy dn f (nI k_42) hf) w_99 w_66 w_98 w_100 w_101 0 (ci := 4) (T := TX4) (N := 7) rfl rfl (by decide +kernel) rfl rfl (Nat.le_of_ble_eq_true rfl) ⟨(Nat.le_of_ble_eq_true rfl), (Nat.le_of_ble_eq_true rfl)⟩ ⟨(Nat.le_of_ble_eq_true rfl), (Nat.le_of_ble_eq_true rfl)⟩ dX4_useValue_165 (fun W1 H locs hw hP hD hS => ?_)
                  obtain ⟨wy2_43, dn2_44, f2_45, hf_46, rfl⟩ := hw
                  have hP : va_P D classes [(h0, .inr (4, [.ref hn, .ref hs, .ref hd, .ref hp, .ref hc, .int wy2_43, .int dn2_44])), (hn, .inl (cA, 34, .inl f2_45))] H := hP
                  have hD : va_D A [(h0, .inr (4, [.ref hn, .ref hs, .ref hd, .ref hp, .ref hc, .int wy2_43, .int dn2_44])), (hn, .inl (cA, 34, .inl f2_45))] := hD
                  refine lv_goto (tgt := 252) hx hb dX4_useValue_168 (by decide) ?_
                  exact endV X hr hlocks hP hD hS dX4_useValue_252 ⟨wy2_43, dn2_44, f2_45, hf_46, rfl⟩
                · skip
                  by_cases c_1_47 : (nI o) = 8
                  · refine lv_tableIn (tgt := 171) (off := 170) hx hb dX4_useValue_1 (by rw [c_1_47]; decide) (by rw [c_1_47]; decide) (by rw [c_1_47]; decide) (by decide) ?_
                    refine lv_aload_n hx hb dX4_useValue_171 rfl (lv_at hl 0 rfl) ?_
                    refine lv_aload_n hx hb dX4_useValue_172 rfl (lv_at hl 0 rfl) ?_
                    refine k_get (C := RX4) (T := TX4) (N := 7) (ci := 4) (v := .ref hn) X hE hP 0 rfl rfl iX4 0 (by decide) w_69 rfl dX4_useValue_173 ?_
                    refine lv_iconst (v := 0) hx hb dX4_useValue_176 (by decide) ?_
                    obtain ⟨k_48, hk_48, ek_48⟩ := hf.at 0 256 (by decide) rfl
                    refine k_ald (v := nI k_48) X hE hP 1 rfl 0 rfl (by decide) (by decide) ek_48 dX4_useValue_177 ?_
                    refine lv_iload_n hx hb dX4_useValue_178 rfl (lv_at hl 2 rfl) ?_
                    refine kVv (n3 := 2) (As := [.int (nI k_48), .int (nI v)]) (rest := []) X hl.1 hE hP hD hS hA [(h0, .inr (4, [.ref hn, .ref hs, .ref hd, .ref hp, .ref hc, .int wy, .int dn])), (hn, .inl (cA, 34, .inl f))] [] [0, 1] [] rfl rfl rfl (by decide +kernel) (by decide +kernel) (by decide +kernel) (c_s_compare l D cA cB h0 hn hs hd hp hc wy dn f k_48 v hf (by first | assumption | decide | rfl | omega) (by first | assumption | decide | rfl | omega)) w_130 w_66 w_129 w_131 w_132 0 (ci := 4) (T := TX4) (N := 7) rfl rfl (by decide +kernel) rfl rfl (Nat.le_of_ble_eq_true rfl) ⟨(Nat.le_of_ble_eq_true rfl), (Nat.le_of_ble_eq_true rfl)⟩ ⟨(Nat.le_of_ble_eq_true rfl), (Nat.le_of_ble_eq_true rfl)⟩ dX4_useValue_179 (fun W1 H locs hw hP hD hS => ?_)
                    obtain ⟨wy2_49, dn2_50, f2_51, hf_52, rfl⟩ := hw
                    have hP : va_P D classes [(h0, .inr (4, [.ref hn, .ref hs, .ref hd, .ref hp, .ref hc, .int wy2_49, .int dn2_50])), (hn, .inl (cA, 34, .inl f2_51))] H := hP
                    have hD : va_D A [(h0, .inr (4, [.ref hn, .ref hs, .ref hd, .ref hp, .ref hc, .int wy2_49, .int dn2_50])), (hn, .inl (cA, 34, .inl f2_51))] := hD
                    refine lv_goto (tgt := 252) hx hb dX4_useValue_182 (by decide) ?_
                    exact endV X hr hlocks hP hD hS dX4_useValue_252 ⟨wy2_49, dn2_50, f2_51, hf_52, rfl⟩
                  · skip
                    by_cases c_1_53 : (nI o) = 9
                    · refine lv_tableIn (tgt := 185) (off := 184) hx hb dX4_useValue_1 (by rw [c_1_53]; decide) (by rw [c_1_53]; decide) (by rw [c_1_53]; decide) (by decide) ?_
                      refine lv_aload_n hx hb dX4_useValue_185 rfl (lv_at hl 0 rfl) ?_
                      refine lv_aload_n hx hb dX4_useValue_186 rfl (lv_at hl 0 rfl) ?_
                      refine k_get (C := RX4) (T := TX4) (N := 7) (ci := 4) (v := .ref hn) X hE hP 0 rfl rfl iX4 0 (by decide) w_69 rfl dX4_useValue_187 ?_
                      refine lv_iconst (v := 1) hx hb dX4_useValue_190 (by decide) ?_
                      obtain ⟨k_54, hk_54, ek_54⟩ := hf.at 1 256 (by decide) rfl
                      refine k_ald (v := nI k_54) X hE hP 1 rfl 1 rfl (by decide) (by decide) ek_54 dX4_useValue_191 ?_
                      refine lv_iload_n hx hb dX4_useValue_192 rfl (lv_at hl 2 rfl) ?_
                      refine kVv (n3 := 2) (As := [.int (nI k_54), .int (nI v)]) (rest := []) X hl.1 hE hP hD hS hA [(h0, .inr (4, [.ref hn, .ref hs, .ref hd, .ref hp, .ref hc, .int wy, .int dn])), (hn, .inl (cA, 34, .inl f))] [] [0, 1] [] rfl rfl rfl (by decide +kernel) (by decide +kernel) (by decide +kernel) (c_s_compare l D cA cB h0 hn hs hd hp hc wy dn f k_54 v hf (by first | assumption | decide | rfl | omega) (by first | assumption | decide | rfl | omega)) w_130 w_66 w_129 w_131 w_132 0 (ci := 4) (T := TX4) (N := 7) rfl rfl (by decide +kernel) rfl rfl (Nat.le_of_ble_eq_true rfl) ⟨(Nat.le_of_ble_eq_true rfl), (Nat.le_of_ble_eq_true rfl)⟩ ⟨(Nat.le_of_ble_eq_true rfl), (Nat.le_of_ble_eq_true rfl)⟩ dX4_useValue_193 (fun W1 H locs hw hP hD hS => ?_)
                      obtain ⟨wy2_55, dn2_56, f2_57, hf_58, rfl⟩ := hw
                      have hP : va_P D classes [(h0, .inr (4, [.ref hn, .ref hs, .ref hd, .ref hp, .ref hc, .int wy2_55, .int dn2_56])), (hn, .inl (cA, 34, .inl f2_57))] H := hP
                      have hD : va_D A [(h0, .inr (4, [.ref hn, .ref hs, .ref hd, .ref hp, .ref hc, .int wy2_55, .int dn2_56])), (hn, .inl (cA, 34, .inl f2_57))] := hD
                      refine lv_goto (tgt := 252) hx hb dX4_useValue_196 (by decide) ?_
                      exact endV X hr hlocks hP hD hS dX4_useValue_252 ⟨wy2_55, dn2_56, f2_57, hf_58, rfl⟩
                    · skip
                      by_cases c_1_59 : (nI o) = 10
                      · refine lv_tableIn (tgt := 199) (off := 198) hx hb dX4_useValue_1 (by rw [c_1_59]; decide) (by rw [c_1_59]; decide) (by rw [c_1_59]; decide) (by decide) ?_
                        refine lv_aload_n hx hb dX4_useValue_199 rfl (lv_at hl 0 rfl) ?_
                        refine lv_aload_n hx hb dX4_useValue_200 rfl (lv_at hl 0 rfl) ?_
                        refine k_get (C := RX4) (T := TX4) (N := 7) (ci := 4) (v := .ref hn) X hE hP 0 rfl rfl iX4 0 (by decide) w_69 rfl dX4_useValue_201 ?_
                        refine lv_iconst (v := 2) hx hb dX4_useValue_204 (by decide) ?_
                        obtain ⟨k_60, hk_60, ek_60⟩ := hf.at 2 256 (by decide) rfl
                        refine k_ald (v := nI k_60) X hE hP 1 rfl 2 rfl (by decide) (by decide) ek_60 dX4_useValue_205 ?_
                        refine lv_iload_n hx hb dX4_useValue_206 rfl (lv_at hl 2 rfl) ?_
                        refine kVv (n3 := 2) (As := [.int (nI k_60), .int (nI v)]) (rest := []) X hl.1 hE hP hD hS hA [(h0, .inr (4, [.ref hn, .ref hs, .ref hd, .ref hp, .ref hc, .int wy, .int dn])), (hn, .inl (cA, 34, .inl f))] [] [0, 1] [] rfl rfl rfl (by decide +kernel) (by decide +kernel) (by decide +kernel) (c_s_compare l D cA cB h0 hn hs hd hp hc wy dn f k_60 v hf (by first | assumption | decide | rfl | omega) (by first | assumption | decide | rfl | omega)) w_130 w_66 w_129 w_131 w_132 0 (ci := 4) (T := TX4) (N := 7) rfl rfl (by decide +kernel) rfl rfl (Nat.le_of_ble_eq_true rfl) ⟨(Nat.le_of_ble_eq_true rfl), (Nat.le_of_ble_eq_true rfl)⟩ ⟨(Nat.le_of_ble_eq_true rfl), (Nat.le_of_ble_eq_true rfl)⟩ dX4_useValue_207 (fun W1 H locs hw hP hD hS => ?_)
                        obtain ⟨wy2_61, dn2_62, f2_63, hf_64, rfl⟩ := hw
                        have hP : va_P D classes [(h0, .inr (4, [.ref hn, .ref hs, .ref hd, .ref hp, .ref hc, .int wy2_61, .int dn2_62])), (hn, .inl (cA, 34, .inl f2_63))] H := hP
                        have hD : va_D A [(h0, .inr (4, [.ref hn, .ref hs, .ref hd, .ref hp, .ref hc, .int wy2_61, .int dn2_62])), (hn, .inl (cA, 34, .inl f2_63))] := hD
                        refine lv_goto (tgt := 252) hx hb dX4_useValue_210 (by decide) ?_
                        exact endV X hr hlocks hP hD hS dX4_useValue_252 ⟨wy2_61, dn2_62, f2_63, hf_64, rfl⟩
                      · skip
                        by_cases c_1_65 : (nI o) = 11
                        · refine lv_tableIn (tgt := 213) (off := 212) hx hb dX4_useValue_1 (by rw [c_1_65]; decide) (by rw [c_1_65]; decide) (by rw [c_1_65]; decide) (by decide) ?_
                          refine lv_aload_n hx hb dX4_useValue_213 rfl (lv_at hl 0 rfl) ?_
                          refine lv_iload_n hx hb dX4_useValue_214 rfl (lv_at hl 2 rfl) ?_
                          refine kVv (n3 := 1) (As := [.int (nI v)]) (rest := []) X hl.1 hE hP hD hS hA [(h0, .inr (4, [.ref hn, .ref hs, .ref hd, .ref hp, .ref hc, .int wy, .int dn])), (hn, .inl (cA, 34, .inl f))] [] [0, 1] [] rfl rfl rfl (by decide +kernel) (by decide +kernel) (by decide +kernel) (c_s_test l D cA cB h0 hn hs hd hp hc wy dn f v hf (by first | assumption | decide | rfl | omega)) w_134 w_66 w_133 w_135 w_136 0 (ci := 4) (T := TX4) (N := 7) rfl rfl (by decide +kernel) rfl rfl (Nat.le_of_ble_eq_true rfl) ⟨(Nat.le_of_ble_eq_true rfl), (Nat.le_of_ble_eq_true rfl)⟩ ⟨(Nat.le_of_ble_eq_true rfl), (Nat.le_of_ble_eq_true rfl)⟩ dX4_useValue_215 (fun W1 H locs hw hP hD hS => ?_)
                          obtain ⟨wy2_66, dn2_67, f2_68, hf_69, rfl⟩ := hw
                          have hP : va_P D classes [(h0, .inr (4, [.ref hn, .ref hs, .ref hd, .ref hp, .ref hc, .int wy2_66, .int dn2_67])), (hn, .inl (cA, 34, .inl f2_68))] H := hP
                          have hD : va_D A [(h0, .inr (4, [.ref hn, .ref hs, .ref hd, .ref hp, .ref hc, .int wy2_66, .int dn2_67])), (hn, .inl (cA, 34, .inl f2_68))] := hD
                          refine lv_goto (tgt := 252) hx hb dX4_useValue_218 (by decide) ?_
                          exact endV X hr hlocks hP hD hS dX4_useValue_252 ⟨wy2_66, dn2_67, f2_68, hf_69, rfl⟩
                        · skip
                          by_cases c_1_70 : (nI o) = 12
                          · refine lv_tableIn (tgt := 221) (off := 220) hx hb dX4_useValue_1 (by rw [c_1_70]; decide) (by rw [c_1_70]; decide) (by rw [c_1_70]; decide) (by decide) ?_
                            refine lv_aload_n hx hb dX4_useValue_221 rfl (lv_at hl 0 rfl) ?_
                            refine lv_iload_n hx hb dX4_useValue_222 rfl (lv_at hl 2 rfl) ?_
                            refine kVv (n3 := 1) (As := [.int (nI v)]) (rest := []) X hl.1 hE hP hD hS hA [(h0, .inr (4, [.ref hn, .ref hs, .ref hd, .ref hp, .ref hc, .int wy, .int dn])), (hn, .inl (cA, 34, .inl f))] [] [0, 1] [] rfl rfl rfl (by decide +kernel) (by decide +kernel) (by decide +kernel) (c_s_multiply l D cA cB h0 hn hs hd hp hc wy dn f v hf (by first | assumption | decide | rfl | omega)) w_138 w_66 w_137 w_139 w_140 0 (ci := 4) (T := TX4) (N := 7) rfl rfl (by decide +kernel) rfl rfl (Nat.le_of_ble_eq_true rfl) ⟨(Nat.le_of_ble_eq_true rfl), (Nat.le_of_ble_eq_true rfl)⟩ ⟨(Nat.le_of_ble_eq_true rfl), (Nat.le_of_ble_eq_true rfl)⟩ dX4_useValue_223 (fun W1 H locs hw hP hD hS => ?_)
                            obtain ⟨wy2_71, dn2_72, f2_73, hf_74, rfl⟩ := hw
                            have hP : va_P D classes [(h0, .inr (4, [.ref hn, .ref hs, .ref hd, .ref hp, .ref hc, .int wy2_71, .int dn2_72])), (hn, .inl (cA, 34, .inl f2_73))] H := hP
                            have hD : va_D A [(h0, .inr (4, [.ref hn, .ref hs, .ref hd, .ref hp, .ref hc, .int wy2_71, .int dn2_72])), (hn, .inl (cA, 34, .inl f2_73))] := hD
                            refine lv_goto (tgt := 252) hx hb dX4_useValue_226 (by decide) ?_
                            exact endV X hr hlocks hP hD hS dX4_useValue_252 ⟨wy2_71, dn2_72, f2_73, hf_74, rfl⟩
                          · skip
                            by_cases c_1_75 : (nI o) = 13
                            · refine lv_tableIn (tgt := 229) (off := 228) hx hb dX4_useValue_1 (by rw [c_1_75]; decide) (by rw [c_1_75]; decide) (by rw [c_1_75]; decide) (by decide) ?_
                              refine lv_aload_n hx hb dX4_useValue_229 rfl (lv_at hl 0 rfl) ?_
                              refine lv_iload_n hx hb dX4_useValue_230 rfl (lv_at hl 2 rfl) ?_
                              refine kVv (n3 := 1) (As := [.int (nI v)]) (rest := []) X hl.1 hE hP hD hS hA [(h0, .inr (4, [.ref hn, .ref hs, .ref hd, .ref hp, .ref hc, .int wy, .int dn])), (hn, .inl (cA, 34, .inl f))] [] [0, 1] [] rfl rfl rfl (by decide +kernel) (by decide +kernel) (by decide +kernel) (c_s_divide l D cA cB h0 hn hs hd hp hc wy dn f v hf (by first | assumption | decide | rfl | omega)) w_142 w_66 w_141 w_143 w_144 0 (ci := 4) (T := TX4) (N := 7) rfl rfl (by decide +kernel) rfl rfl (Nat.le_of_ble_eq_true rfl) ⟨(Nat.le_of_ble_eq_true rfl), (Nat.le_of_ble_eq_true rfl)⟩ ⟨(Nat.le_of_ble_eq_true rfl), (Nat.le_of_ble_eq_true rfl)⟩ dX4_useValue_231 (fun W1 H locs hw hP hD hS => ?_)
                              obtain ⟨wy2_76, dn2_77, f2_78, hf_79, rfl⟩ := hw
                              have hP : va_P D classes [(h0, .inr (4, [.ref hn, .ref hs, .ref hd, .ref hp, .ref hc, .int wy2_76, .int dn2_77])), (hn, .inl (cA, 34, .inl f2_78))] H := hP
                              have hD : va_D A [(h0, .inr (4, [.ref hn, .ref hs, .ref hd, .ref hp, .ref hc, .int wy2_76, .int dn2_77])), (hn, .inl (cA, 34, .inl f2_78))] := hD
                              refine lv_goto (tgt := 252) hx hb dX4_useValue_234 (by decide) ?_
                              exact endV X hr hlocks hP hD hS dX4_useValue_252 ⟨wy2_76, dn2_77, f2_78, hf_79, rfl⟩
                            · skip
                              by_cases c_1_80 : (nI o) = 14
                              · refine lv_tableIn (tgt := 237) (off := 236) hx hb dX4_useValue_1 (by rw [c_1_80]; decide) (by rw [c_1_80]; decide) (by rw [c_1_80]; decide) (by decide) ?_
                                refine lv_aload_n hx hb dX4_useValue_237 rfl (lv_at hl 0 rfl) ?_
                                refine lv_iconst (v := 1) hx hb dX4_useValue_238 (by decide) ?_
                                refine lv_iload_n hx hb dX4_useValue_239 rfl (lv_at hl 2 rfl) ?_
                                refine kVv (n3 := 2) (As := [.int 1, .int (nI v)]) (rest := []) X hl.1 hE hP hD hS hA [(h0, .inr (4, [.ref hn, .ref hs, .ref hd, .ref hp, .ref hc, .int wy, .int dn])), (hn, .inl (cA, 34, .inl f))] [] [0, 1] [] rfl rfl rfl (by decide +kernel) (by decide +kernel) (by decide +kernel) (c_s_addTo1 l D cA cB h0 hn hs hd hp hc wy dn f v hf (by first | assumption | decide | rfl | omega)) w_146 w_66 w_145 w_147 w_148 0 (ci := 4) (T := TX4) (N := 7) rfl rfl (by decide +kernel) rfl rfl (Nat.le_of_ble_eq_true rfl) ⟨(Nat.le_of_ble_eq_true rfl), (Nat.le_of_ble_eq_true rfl)⟩ ⟨(Nat.le_of_ble_eq_true rfl), (Nat.le_of_ble_eq_true rfl)⟩ dX4_useValue_240 (fun W1 H locs hw hP hD hS => ?_)
                                obtain ⟨wy2_81, dn2_82, f2_83, hf_84, rfl⟩ := hw
                                have hP : va_P D classes [(h0, .inr (4, [.ref hn, .ref hs, .ref hd, .ref hp, .ref hc, .int wy2_81, .int dn2_82])), (hn, .inl (cA, 34, .inl f2_83))] H := hP
                                have hD : va_D A [(h0, .inr (4, [.ref hn, .ref hs, .ref hd, .ref hp, .ref hc, .int wy2_81, .int dn2_82])), (hn, .inl (cA, 34, .inl f2_83))] := hD
                                refine lv_goto (tgt := 252) hx hb dX4_useValue_243 (by decide) ?_
                                exact endV X hr hlocks hP hD hS dX4_useValue_252 ⟨wy2_81, dn2_82, f2_83, hf_84, rfl⟩
                              · skip
                                refine lv_tableOut (tgt := 246) hx hb dX4_useValue_1 (by have n_0 := lv_neT (k := 0) (a := 0) c_1_1 (by decide); have n_1 := lv_neT (k := 1) (a := 1) c_1_6 (by decide); have n_2 := lv_neT (k := 2) (a := 2) c_1_11 (by decide); have n_3 := lv_neT (k := 3) (a := 3) c_1_16 (by decide); have n_4 := lv_neT (k := 4) (a := 4) c_1_21 (by decide); have n_5 := lv_neT (k := 5) (a := 5) c_1_26 (by decide); have n_6 := lv_neT (k := 6) (a := 6) c_1_33 (by decide); have n_7 := lv_neT (k := 7) (a := 7) c_1_40 (by decide); have n_8 := lv_neT (k := 8) (a := 8) c_1_47 (by decide); have n_9 := lv_neT (k := 9) (a := 9) c_1_53 (by decide); have n_10 := lv_neT (k := 10) (a := 10) c_1_59 (by decide); have n_11 := lv_neT (k := 11) (a := 11) c_1_65 (by decide); have n_12 := lv_neT (k := 12) (a := 12) c_1_70 (by decide); have n_13 := lv_neT (k := 13) (a := 13) c_1_75 (by decide); have n_14 := lv_neT (k := 14) (a := 14) c_1_80 (by decide); omega) (by decide) ?_
                                refine lv_aload_n hx hb dX4_useValue_246 rfl (lv_at hl 0 rfl) ?_
                                refine lv_iconst (v := 2) hx hb dX4_useValue_247 (by decide) ?_
                                refine lv_iload_n hx hb dX4_useValue_248 rfl (lv_at hl 2 rfl) ?_
                                refine kVv (n3 := 2) (As := [.int 2, .int (nI v)]) (rest := []) X hl.1 hE hP hD hS hA [(h0, .inr (4, [.ref hn, .ref hs, .ref hd, .ref hp, .ref hc, .int wy, .int dn])), (hn, .inl (cA, 34, .inl f))] [] [0, 1] [] rfl rfl rfl (by decide +kernel) (by decide +kernel) (by decide +kernel) (c_s_addTo2 l D cA cB h0 hn hs hd hp hc wy dn f v hf (by first | assumption | decide | rfl | omega)) w_146 w_66 w_145 w_147 w_148 0 (ci := 4) (T := TX4) (N := 7) rfl rfl (by decide +kernel) rfl rfl (Nat.le_of_ble_eq_true rfl) ⟨(Nat.le_of_ble_eq_true rfl), (Nat.le_of_ble_eq_true rfl)⟩ ⟨(Nat.le_of_ble_eq_true rfl), (Nat.le_of_ble_eq_true rfl)⟩ dX4_useValue_249 (fun W1 H locs hw hP hD hS => ?_)
                                obtain ⟨wy2_85, dn2_86, f2_87, hf_88, rfl⟩ := hw
                                have hP : va_P D classes [(h0, .inr (4, [.ref hn, .ref hs, .ref hd, .ref hp, .ref hc, .int wy2_85, .int dn2_86])), (hn, .inl (cA, 34, .inl f2_87))] H := hP
                                have hD : va_D A [(h0, .inr (4, [.ref hn, .ref hs, .ref hd, .ref hp, .ref hc, .int wy2_85, .int dn2_86])), (hn, .inl (cA, 34, .inl f2_87))] := hD
                                exact endV X hr hlocks hP hD hS dX4_useValue_252 ⟨wy2_85, dn2_86, f2_87, hf_88, rfl⟩
set_option maxHeartbeats 4000000 in
set_option maxRecDepth 100000 in
theorem c_s_changed (l : Launch) (D : va_G) (cA cB : ClassId) (h0 : Nat) (hn : Nat) (hs : Nat) (hd : Nat) (hp : Nat) (hc : Nat) (wy : Int32) (dn : Int32) (f : Nat → Int32) (o : Nat) (v : Nat) (hf : okN f) (ho : o < 32) (hv : v < 256) : CI l yX4_changed cX4_changed 4 (some .int) 2 44 0 0 D cA cB [.ref h0, .int (nI o), .int (nI v)] [(h0, .inr (4, [.ref hn, .ref hs, .ref hd, .ref hp, .ref hc, .int wy, .int dn])), (hn, .inl (cA, 34, .inl f))] (fun r W1 => ∃ (wy2 : Int32) (dn2 : Int32) (f2 : Nat → Int32) (rk : Nat), r = nI rk ∧ (okN f2) ∧ (rk < 256) ∧ W1 = [(h0, .inr (4, [.ref hn, .ref hs, .ref hd, .ref hp, .ref hc, .int wy2, .int dn2])), (hn, .inl (cA, 34, .inl f2))]) := by
  refine mkI (lv0 := [(0, .ref h0), (1, .int (nI o)), (2, .int (nI v))]) (by decide) (Nat.le_of_ble_eq_true rfl) rfl ?_
  intro p e s m below meth c A ls X hr hlocks hnm hE hA hP hD hS hl
  have hx := X.1
  have hb := X.2.1
  refine lv_iload_n hx hb dX4_changed_0 rfl (lv_at hl 2 rfl) ?_
  refine lv_istore_n (lv' := [(3, .int (nI v)), (0, .ref h0), (1, .int (nI o)), (2, .int (nI v))]) hx hb dX4_changed_1 rfl hl (by decide) rfl (fun ls hl => ?_)
  refine lv_iload_n hx hb dX4_changed_2 rfl (lv_at hl 2 rfl) ?_
  by_cases c_3_1 : (nI o) = 20
  · refine lv_tableIn (tgt := 52) (off := 49) hx hb dX4_changed_3 (by rw [c_3_1]; decide) (by rw [c_3_1]; decide) (by rw [c_3_1]; decide) (by decide) ?_
    refine lv_iload_n hx hb dX4_changed_52 rfl (lv_at hl 3 rfl) ?_
    refine lv_iconst (v := 1) hx hb dX4_changed_53 (by decide) ?_
    refine lv_iadd hx hb dX4_changed_54 ?_
    refine tk (y := nI (v + 1)) (nI_add v 1) ?_
    refine lv_istore_n (lv' := [(3, .int (nI (v + 1))), (0, .ref h0), (1, .int (nI o)), (2, .int (nI v))]) hx hb dX4_changed_55 rfl hl (by decide) rfl (fun ls hl => ?_)
    refine lv_goto (tgt := 181) hx hb dX4_changed_56 (by decide) ?_
    refine lv_aload_n hx hb dX4_changed_181 rfl (lv_at hl 1 rfl) ?_
    refine lv_iload_n hx hb dX4_changed_182 rfl (lv_at hl 2 rfl) ?_
    refine lv_bipush (v := 28) hx hb dX4_changed_183 (by decide) ?_
    refine lv_icmp_ne (tgt := 192) hx hb dX4_changed_185 (by decide) (fun c_185_2 => ?_) (fun c_185_2 => ?_)
    · have nc_185_2 : ¬ o = 28 := fun q => c_185_2 ((nI_eq (a := o) (b := 28) (by omega) (by omega)).mpr q)
      refine lv_iload_n hx hb dX4_changed_192 rfl (lv_at hl 0 rfl) ?_
      refine lv_sipush (v := 255) hx hb dX4_changed_193 (by decide) ?_
      refine lv_iand hx hb dX4_changed_196 ?_
      obtain ⟨k_3, hk_3, ek_3⟩ := pk_andE (nI (v + 1)) (m := 255) 8 (by decide)
      have hk_3 : k_3 < 256 := hk_3
      refine tk (y := nI k_3) ek_3 ?_
      refine kVv (n3 := 1) (As := [.int (nI k_3)]) (rest := []) X hl.1 hE hP hD hS hA [(h0, .inr (4, [.ref hn, .ref hs, .ref hd, .ref hp, .ref hc, .int wy, .int dn])), (hn, .inl (cA, 34, .inl f))] [] [0, 1] [] rfl rfl rfl (by decide +kernel) (by decide +kernel) (by decide +kernel) (c_s_setNz l D cA cB h0 hn hs hd hp hc wy dn f k_3 hf (by first | assumption | decide | rfl | omega)) w_87 w_66 w_86 w_88 w_89 0 (ci := 4) (T := TX4) (N := 7) rfl rfl (by decide +kernel) rfl rfl (Nat.le_of_ble_eq_true rfl) ⟨(Nat.le_of_ble_eq_true rfl), (Nat.le_of_ble_eq_true rfl)⟩ ⟨(Nat.le_of_ble_eq_true rfl), (Nat.le_of_ble_eq_true rfl)⟩ dX4_changed_197 (fun W1 H locs hw hP hD hS => ?_)
      obtain ⟨wy2_4, dn2_5, f2_6, hf_7, rfl⟩ := hw
      have hP : va_P D classes [(h0, .inr (4, [.ref hn, .ref hs, .ref hd, .ref hp, .ref hc, .int wy2_4, .int dn2_5])), (hn, .inl (cA, 34, .inl f2_6))] H := hP
      have hD : va_D A [(h0, .inr (4, [.ref hn, .ref hs, .ref hd, .ref hp, .ref hc, .int wy2_4, .int dn2_5])), (hn, .inl (cA, 34, .inl f2_6))] := hD
      refine lv_iload_n hx hb dX4_changed_200 rfl (lv_at hl 0 rfl) ?_
      refine lv_sipush (v := 255) hx hb dX4_changed_201 (by decide) ?_
      refine lv_iand hx hb dX4_changed_204 ?_
      obtain ⟨k_8, hk_8, ek_8⟩ := pk_andE (nI (v + 1)) (m := 255) 8 (by decide)
      have hk_8 : k_8 < 256 := hk_8
      refine tk (y := nI k_8) ek_8 ?_
      exact endI X hr hlocks hP hD hS dX4_changed_205 ⟨wy2_4, dn2_5, f2_6, k_8, rfl, hf_7, (by omega), rfl⟩
    · have nc_185_2 : o = 28 := (nI_eq (a := o) (b := 28) (by omega) (by omega)).mp c_185_2
      refine lv_iload_n hx hb dX4_changed_188 rfl (lv_at hl 3 rfl) ?_
      refine lv_goto (tgt := 197) hx hb dX4_changed_189 (by decide) ?_
      refine kVv (n3 := 1) (As := [.int (nI v)]) (rest := []) X hl.1 hE hP hD hS hA [(h0, .inr (4, [.ref hn, .ref hs, .ref hd, .ref hp, .ref hc, .int wy, .int dn])), (hn, .inl (cA, 34, .inl f))] [] [0, 1] [] rfl rfl rfl (by decide +kernel) (by decide +kernel) (by decide +kernel) (c_s_setNz l D cA cB h0 hn hs hd hp hc wy dn f v hf (by first | assumption | decide | rfl | omega)) w_87 w_66 w_86 w_88 w_89 0 (ci := 4) (T := TX4) (N := 7) rfl rfl (by decide +kernel) rfl rfl (Nat.le_of_ble_eq_true rfl) ⟨(Nat.le_of_ble_eq_true rfl), (Nat.le_of_ble_eq_true rfl)⟩ ⟨(Nat.le_of_ble_eq_true rfl), (Nat.le_of_ble_eq_true rfl)⟩ dX4_changed_197 (fun W1 H locs hw hP hD hS => ?_)
      obtain ⟨wy2_9, dn2_10, f2_11, hf_12, rfl⟩ := hw
      have hP : va_P D classes [(h0, .inr (4, [.ref hn, .ref hs, .ref hd, .ref hp, .ref hc, .int wy2_9, .int dn2_10])), (hn, .inl (cA, 34, .inl f2_11))] H := hP
      have hD : va_D A [(h0, .inr (4, [.ref hn, .ref hs, .ref hd, .ref hp, .ref hc, .int wy2_9, .int dn2_10])), (hn, .inl (cA, 34, .inl f2_11))] := hD
      refine lv_iload_n hx hb dX4_changed_200 rfl (lv_at hl 0 rfl) ?_
      refine lv_sipush (v := 255) hx hb dX4_changed_201 (by decide) ?_
      refine lv_iand hx hb dX4_changed_204 ?_
      obtain ⟨k_13, hk_13, ek_13⟩ := pk_andE (nI (v + 1)) (m := 255) 8 (by decide)
      have hk_13 : k_13 < 256 := hk_13
      refine tk (y := nI k_13) ek_13 ?_
      exact endI X hr hlocks hP hD hS dX4_changed_205 ⟨wy2_9, dn2_10, f2_11, k_13, rfl, hf_12, (by omega), rfl⟩
  · skip
    by_cases c_3_14 : (nI o) = 21
    · refine lv_tableIn (tgt := 59) (off := 56) hx hb dX4_changed_3 (by rw [c_3_14]; decide) (by rw [c_3_14]; decide) (by rw [c_3_14]; decide) (by decide) ?_
      refine lv_iload_n hx hb dX4_changed_59 rfl (lv_at hl 3 rfl) ?_
      refine lv_iconst (v := 1) hx hb dX4_changed_60 (by decide) ?_
      refine lv_isub hx hb dX4_changed_61 ?_
      refine lv_istore_n (lv' := [(3, .int ((nI v) - 1)), (0, .ref h0), (1, .int (nI o)), (2, .int (nI v))]) hx hb dX4_changed_62 rfl hl (by decide) rfl (fun ls hl => ?_)
      refine lv_goto (tgt := 181) hx hb dX4_changed_63 (by decide) ?_
      refine lv_aload_n hx hb dX4_changed_181 rfl (lv_at hl 1 rfl) ?_
      refine lv_iload_n hx hb dX4_changed_182 rfl (lv_at hl 2 rfl) ?_
      refine lv_bipush (v := 28) hx hb dX4_changed_183 (by decide) ?_
      refine lv_icmp_ne (tgt := 192) hx hb dX4_changed_185 (by decide) (fun c_185_15 => ?_) (fun c_185_15 => ?_)
      · have nc_185_15 : ¬ o = 28 := fun q => c_185_15 ((nI_eq (a := o) (b := 28) (by omega) (by omega)).mpr q)
        refine lv_iload_n hx hb dX4_changed_192 rfl (lv_at hl 0 rfl) ?_
        refine lv_sipush (v := 255) hx hb dX4_changed_193 (by decide) ?_
        refine lv_iand hx hb dX4_changed_196 ?_
        obtain ⟨k_16, hk_16, ek_16⟩ := pk_andE ((nI v) - 1) (m := 255) 8 (by decide)
        have hk_16 : k_16 < 256 := hk_16
        refine tk (y := nI k_16) ek_16 ?_
        refine kVv (n3 := 1) (As := [.int (nI k_16)]) (rest := []) X hl.1 hE hP hD hS hA [(h0, .inr (4, [.ref hn, .ref hs, .ref hd, .ref hp, .ref hc, .int wy, .int dn])), (hn, .inl (cA, 34, .inl f))] [] [0, 1] [] rfl rfl rfl (by decide +kernel) (by decide +kernel) (by decide +kernel) (c_s_setNz l D cA cB h0 hn hs hd hp hc wy dn f k_16 hf (by first | assumption | decide | rfl | omega)) w_87 w_66 w_86 w_88 w_89 0 (ci := 4) (T := TX4) (N := 7) rfl rfl (by decide +kernel) rfl rfl (Nat.le_of_ble_eq_true rfl) ⟨(Nat.le_of_ble_eq_true rfl), (Nat.le_of_ble_eq_true rfl)⟩ ⟨(Nat.le_of_ble_eq_true rfl), (Nat.le_of_ble_eq_true rfl)⟩ dX4_changed_197 (fun W1 H locs hw hP hD hS => ?_)
        obtain ⟨wy2_17, dn2_18, f2_19, hf_20, rfl⟩ := hw
        have hP : va_P D classes [(h0, .inr (4, [.ref hn, .ref hs, .ref hd, .ref hp, .ref hc, .int wy2_17, .int dn2_18])), (hn, .inl (cA, 34, .inl f2_19))] H := hP
        have hD : va_D A [(h0, .inr (4, [.ref hn, .ref hs, .ref hd, .ref hp, .ref hc, .int wy2_17, .int dn2_18])), (hn, .inl (cA, 34, .inl f2_19))] := hD
        refine lv_iload_n hx hb dX4_changed_200 rfl (lv_at hl 0 rfl) ?_
        refine lv_sipush (v := 255) hx hb dX4_changed_201 (by decide) ?_
        refine lv_iand hx hb dX4_changed_204 ?_
        obtain ⟨k_21, hk_21, ek_21⟩ := pk_andE ((nI v) - 1) (m := 255) 8 (by decide)
        have hk_21 : k_21 < 256 := hk_21
        refine tk (y := nI k_21) ek_21 ?_
        exact endI X hr hlocks hP hD hS dX4_changed_205 ⟨wy2_17, dn2_18, f2_19, k_21, rfl, hf_20, (by omega), rfl⟩
      · have nc_185_15 : o = 28 := (nI_eq (a := o) (b := 28) (by omega) (by omega)).mp c_185_15
        refine lv_iload_n hx hb dX4_changed_188 rfl (lv_at hl 3 rfl) ?_
        refine lv_goto (tgt := 197) hx hb dX4_changed_189 (by decide) ?_
        refine kVv (n3 := 1) (As := [.int (nI v)]) (rest := []) X hl.1 hE hP hD hS hA [(h0, .inr (4, [.ref hn, .ref hs, .ref hd, .ref hp, .ref hc, .int wy, .int dn])), (hn, .inl (cA, 34, .inl f))] [] [0, 1] [] rfl rfl rfl (by decide +kernel) (by decide +kernel) (by decide +kernel) (c_s_setNz l D cA cB h0 hn hs hd hp hc wy dn f v hf (by first | assumption | decide | rfl | omega)) w_87 w_66 w_86 w_88 w_89 0 (ci := 4) (T := TX4) (N := 7) rfl rfl (by decide +kernel) rfl rfl (Nat.le_of_ble_eq_true rfl) ⟨(Nat.le_of_ble_eq_true rfl), (Nat.le_of_ble_eq_true rfl)⟩ ⟨(Nat.le_of_ble_eq_true rfl), (Nat.le_of_ble_eq_true rfl)⟩ dX4_changed_197 (fun W1 H locs hw hP hD hS => ?_)
        obtain ⟨wy2_22, dn2_23, f2_24, hf_25, rfl⟩ := hw
        have hP : va_P D classes [(h0, .inr (4, [.ref hn, .ref hs, .ref hd, .ref hp, .ref hc, .int wy2_22, .int dn2_23])), (hn, .inl (cA, 34, .inl f2_24))] H := hP
        have hD : va_D A [(h0, .inr (4, [.ref hn, .ref hs, .ref hd, .ref hp, .ref hc, .int wy2_22, .int dn2_23])), (hn, .inl (cA, 34, .inl f2_24))] := hD
        refine lv_iload_n hx hb dX4_changed_200 rfl (lv_at hl 0 rfl) ?_
        refine lv_sipush (v := 255) hx hb dX4_changed_201 (by decide) ?_
        refine lv_iand hx hb dX4_changed_204 ?_
        obtain ⟨k_26, hk_26, ek_26⟩ := pk_andE ((nI v) - 1) (m := 255) 8 (by decide)
        have hk_26 : k_26 < 256 := hk_26
        refine tk (y := nI k_26) ek_26 ?_
        exact endI X hr hlocks hP hD hS dX4_changed_205 ⟨wy2_22, dn2_23, f2_24, k_26, rfl, hf_25, (by omega), rfl⟩
    · skip
      by_cases c_3_27 : (nI o) = 22
      · refine lv_tableIn (tgt := 66) (off := 63) hx hb dX4_changed_3 (by rw [c_3_27]; decide) (by rw [c_3_27]; decide) (by rw [c_3_27]; decide) (by decide) ?_
        refine lv_aload_n hx hb dX4_changed_66 rfl (lv_at hl 1 rfl) ?_
        refine lv_iload_n hx hb dX4_changed_67 rfl (lv_at hl 3 rfl) ?_
        refine lv_iconst (v := 0) hx hb dX4_changed_68 (by decide) ?_
        refine kVi (n3 := 2) (As := [.int (nI v), .int 0]) (rest := []) X hl.1 hE hP hD hS hA [(h0, .inr (4, [.ref hn, .ref hs, .ref hd, .ref hp, .ref hc, .int wy, .int dn])), (hn, .inl (cA, 34, .inl f))] [] [0, 1] [] rfl rfl rfl (by decide +kernel) (by decide +kernel) (by decide +kernel) (c_s_shiftedLeft l D cA cB h0 hn hs hd hp hc wy dn f v 0 hf (by first | assumption | decide | rfl | omega) (by first | assumption | decide | rfl | omega)) w_150 w_66 w_149 w_151 w_152 0 (ci := 4) (T := TX4) (N := 7) rfl rfl (by decide +kernel) rfl rfl (Nat.le_of_ble_eq_true rfl) ⟨(Nat.le_of_ble_eq_true rfl), (Nat.le_of_ble_eq_true rfl)⟩ ⟨(Nat.le_of_ble_eq_true rfl), (Nat.le_of_ble_eq_true rfl)⟩ dX4_changed_69 (fun r W1 H locs hw hP hD hS => ?_)
        obtain ⟨wy2_28, dn2_29, f2_30, rv_31, er_33, hf_32, rfl⟩ := hw
        have hP : va_P D classes [(h0, .inr (4, [.ref hn, .ref hs, .ref hd, .ref hp, .ref hc, .int wy2_28, .int dn2_29])), (hn, .inl (cA, 34, .inl f2_30))] H := hP
        have hD : va_D A [(h0, .inr (4, [.ref hn, .ref hs, .ref hd, .ref hp, .ref hc, .int wy2_28, .int dn2_29])), (hn, .inl (cA, 34, .inl f2_30))] := hD
        refine tk (y := rv_31) er_33 ?_
        refine lv_istore_n (lv' := [(3, .int rv_31), (0, .ref h0), (1, .int (nI o)), (2, .int (nI v))]) hx hb dX4_changed_72 rfl hl (by decide) rfl (fun ls hl => ?_)
        refine lv_goto (tgt := 181) hx hb dX4_changed_73 (by decide) ?_
        refine lv_aload_n hx hb dX4_changed_181 rfl (lv_at hl 1 rfl) ?_
        refine lv_iload_n hx hb dX4_changed_182 rfl (lv_at hl 2 rfl) ?_
        refine lv_bipush (v := 28) hx hb dX4_changed_183 (by decide) ?_
        refine lv_icmp_ne (tgt := 192) hx hb dX4_changed_185 (by decide) (fun c_185_34 => ?_) (fun c_185_34 => ?_)
        · have nc_185_34 : ¬ o = 28 := fun q => c_185_34 ((nI_eq (a := o) (b := 28) (by omega) (by omega)).mpr q)
          refine lv_iload_n hx hb dX4_changed_192 rfl (lv_at hl 0 rfl) ?_
          refine lv_sipush (v := 255) hx hb dX4_changed_193 (by decide) ?_
          refine lv_iand hx hb dX4_changed_196 ?_
          obtain ⟨k_35, hk_35, ek_35⟩ := pk_andE rv_31 (m := 255) 8 (by decide)
          have hk_35 : k_35 < 256 := hk_35
          refine tk (y := nI k_35) ek_35 ?_
          refine kVv (n3 := 1) (As := [.int (nI k_35)]) (rest := []) X hl.1 hE hP hD hS hA [(h0, .inr (4, [.ref hn, .ref hs, .ref hd, .ref hp, .ref hc, .int wy2_28, .int dn2_29])), (hn, .inl (cA, 34, .inl f2_30))] [] [0, 1] [] rfl rfl rfl (by decide +kernel) (by decide +kernel) (by decide +kernel) (c_s_setNz l D cA cB h0 hn hs hd hp hc wy2_28 dn2_29 f2_30 k_35 hf_32 (by first | assumption | decide | rfl | omega)) w_87 w_66 w_86 w_88 w_89 0 (ci := 4) (T := TX4) (N := 7) rfl rfl (by decide +kernel) rfl rfl (Nat.le_of_ble_eq_true rfl) ⟨(Nat.le_of_ble_eq_true rfl), (Nat.le_of_ble_eq_true rfl)⟩ ⟨(Nat.le_of_ble_eq_true rfl), (Nat.le_of_ble_eq_true rfl)⟩ dX4_changed_197 (fun W1 H locs hw hP hD hS => ?_)
          obtain ⟨wy2_36, dn2_37, f2_38, hf_39, rfl⟩ := hw
          have hP : va_P D classes [(h0, .inr (4, [.ref hn, .ref hs, .ref hd, .ref hp, .ref hc, .int wy2_36, .int dn2_37])), (hn, .inl (cA, 34, .inl f2_38))] H := hP
          have hD : va_D A [(h0, .inr (4, [.ref hn, .ref hs, .ref hd, .ref hp, .ref hc, .int wy2_36, .int dn2_37])), (hn, .inl (cA, 34, .inl f2_38))] := hD
          refine lv_iload_n hx hb dX4_changed_200 rfl (lv_at hl 0 rfl) ?_
          refine lv_sipush (v := 255) hx hb dX4_changed_201 (by decide) ?_
          refine lv_iand hx hb dX4_changed_204 ?_
          obtain ⟨k_40, hk_40, ek_40⟩ := pk_andE rv_31 (m := 255) 8 (by decide)
          have hk_40 : k_40 < 256 := hk_40
          refine tk (y := nI k_40) ek_40 ?_
          exact endI X hr hlocks hP hD hS dX4_changed_205 ⟨wy2_36, dn2_37, f2_38, k_40, rfl, hf_39, (by omega), rfl⟩
        · have nc_185_34 : o = 28 := (nI_eq (a := o) (b := 28) (by omega) (by omega)).mp c_185_34
          refine lv_iload_n hx hb dX4_changed_188 rfl (lv_at hl 3 rfl) ?_
          refine lv_goto (tgt := 197) hx hb dX4_changed_189 (by decide) ?_
          refine kVv (n3 := 1) (As := [.int (nI v)]) (rest := []) X hl.1 hE hP hD hS hA [(h0, .inr (4, [.ref hn, .ref hs, .ref hd, .ref hp, .ref hc, .int wy2_28, .int dn2_29])), (hn, .inl (cA, 34, .inl f2_30))] [] [0, 1] [] rfl rfl rfl (by decide +kernel) (by decide +kernel) (by decide +kernel) (c_s_setNz l D cA cB h0 hn hs hd hp hc wy2_28 dn2_29 f2_30 v hf_32 (by first | assumption | decide | rfl | omega)) w_87 w_66 w_86 w_88 w_89 0 (ci := 4) (T := TX4) (N := 7) rfl rfl (by decide +kernel) rfl rfl (Nat.le_of_ble_eq_true rfl) ⟨(Nat.le_of_ble_eq_true rfl), (Nat.le_of_ble_eq_true rfl)⟩ ⟨(Nat.le_of_ble_eq_true rfl), (Nat.le_of_ble_eq_true rfl)⟩ dX4_changed_197 (fun W1 H locs hw hP hD hS => ?_)
          obtain ⟨wy2_41, dn2_42, f2_43, hf_44, rfl⟩ := hw
          have hP : va_P D classes [(h0, .inr (4, [.ref hn, .ref hs, .ref hd, .ref hp, .ref hc, .int wy2_41, .int dn2_42])), (hn, .inl (cA, 34, .inl f2_43))] H := hP
          have hD : va_D A [(h0, .inr (4, [.ref hn, .ref hs, .ref hd, .ref hp, .ref hc, .int wy2_41, .int dn2_42])), (hn, .inl (cA, 34, .inl f2_43))] := hD
          refine lv_iload_n hx hb dX4_changed_200 rfl (lv_at hl 0 rfl) ?_
          refine lv_sipush (v := 255) hx hb dX4_changed_201 (by decide) ?_
          refine lv_iand hx hb dX4_changed_204 ?_
          obtain ⟨k_45, hk_45, ek_45⟩ := pk_andE rv_31 (m := 255) 8 (by decide)
          have hk_45 : k_45 < 256 := hk_45
          refine tk (y := nI k_45) ek_45 ?_
          exact endI X hr hlocks hP hD hS dX4_changed_205 ⟨wy2_41, dn2_42, f2_43, k_45, rfl, hf_44, (by omega), rfl⟩
      · skip
        by_cases c_3_46 : (nI o) = 23
        · refine lv_tableIn (tgt := 76) (off := 73) hx hb dX4_changed_3 (by rw [c_3_46]; decide) (by rw [c_3_46]; decide) (by rw [c_3_46]; decide) (by decide) ?_
          refine lv_aload_n hx hb dX4_changed_76 rfl (lv_at hl 1 rfl) ?_
          refine lv_iload_n hx hb dX4_changed_77 rfl (lv_at hl 3 rfl) ?_
          refine lv_iconst (v := 0) hx hb dX4_changed_78 (by decide) ?_
          refine kVi (n3 := 2) (As := [.int (nI v), .int 0]) (rest := []) X hl.1 hE hP hD hS hA [(h0, .inr (4, [.ref hn, .ref hs, .ref hd, .ref hp, .ref hc, .int wy, .int dn])), (hn, .inl (cA, 34, .inl f))] [] [0, 1] [] rfl rfl rfl (by decide +kernel) (by decide +kernel) (by decide +kernel) (c_s_shiftedRight l D cA cB h0 hn hs hd hp hc wy dn f v 0 hf (by first | assumption | decide | rfl | omega) (by first | assumption | decide | rfl | omega)) w_154 w_66 w_153 w_155 w_156 0 (ci := 4) (T := TX4) (N := 7) rfl rfl (by decide +kernel) rfl rfl (Nat.le_of_ble_eq_true rfl) ⟨(Nat.le_of_ble_eq_true rfl), (Nat.le_of_ble_eq_true rfl)⟩ ⟨(Nat.le_of_ble_eq_true rfl), (Nat.le_of_ble_eq_true rfl)⟩ dX4_changed_79 (fun r W1 H locs hw hP hD hS => ?_)
          obtain ⟨wy2_47, dn2_48, f2_49, rv_50, er_52, hf_51, rfl⟩ := hw
          have hP : va_P D classes [(h0, .inr (4, [.ref hn, .ref hs, .ref hd, .ref hp, .ref hc, .int wy2_47, .int dn2_48])), (hn, .inl (cA, 34, .inl f2_49))] H := hP
          have hD : va_D A [(h0, .inr (4, [.ref hn, .ref hs, .ref hd, .ref hp, .ref hc, .int wy2_47, .int dn2_48])), (hn, .inl (cA, 34, .inl f2_49))] := hD
          refine tk (y := rv_50) er_52 ?_
          refine lv_istore_n (lv' := [(3, .int rv_50), (0, .ref h0), (1, .int (nI o)), (2, .int (nI v))]) hx hb dX4_changed_82 rfl hl (by decide) rfl (fun ls hl => ?_)
          refine lv_goto (tgt := 181) hx hb dX4_changed_83 (by decide) ?_
          refine lv_aload_n hx hb dX4_changed_181 rfl (lv_at hl 1 rfl) ?_
          refine lv_iload_n hx hb dX4_changed_182 rfl (lv_at hl 2 rfl) ?_
          refine lv_bipush (v := 28) hx hb dX4_changed_183 (by decide) ?_
          refine lv_icmp_ne (tgt := 192) hx hb dX4_changed_185 (by decide) (fun c_185_53 => ?_) (fun c_185_53 => ?_)
          · have nc_185_53 : ¬ o = 28 := fun q => c_185_53 ((nI_eq (a := o) (b := 28) (by omega) (by omega)).mpr q)
            refine lv_iload_n hx hb dX4_changed_192 rfl (lv_at hl 0 rfl) ?_
            refine lv_sipush (v := 255) hx hb dX4_changed_193 (by decide) ?_
            refine lv_iand hx hb dX4_changed_196 ?_
            obtain ⟨k_54, hk_54, ek_54⟩ := pk_andE rv_50 (m := 255) 8 (by decide)
            have hk_54 : k_54 < 256 := hk_54
            refine tk (y := nI k_54) ek_54 ?_
            refine kVv (n3 := 1) (As := [.int (nI k_54)]) (rest := []) X hl.1 hE hP hD hS hA [(h0, .inr (4, [.ref hn, .ref hs, .ref hd, .ref hp, .ref hc, .int wy2_47, .int dn2_48])), (hn, .inl (cA, 34, .inl f2_49))] [] [0, 1] [] rfl rfl rfl (by decide +kernel) (by decide +kernel) (by decide +kernel) (c_s_setNz l D cA cB h0 hn hs hd hp hc wy2_47 dn2_48 f2_49 k_54 hf_51 (by first | assumption | decide | rfl | omega)) w_87 w_66 w_86 w_88 w_89 0 (ci := 4) (T := TX4) (N := 7) rfl rfl (by decide +kernel) rfl rfl (Nat.le_of_ble_eq_true rfl) ⟨(Nat.le_of_ble_eq_true rfl), (Nat.le_of_ble_eq_true rfl)⟩ ⟨(Nat.le_of_ble_eq_true rfl), (Nat.le_of_ble_eq_true rfl)⟩ dX4_changed_197 (fun W1 H locs hw hP hD hS => ?_)
            obtain ⟨wy2_55, dn2_56, f2_57, hf_58, rfl⟩ := hw
            have hP : va_P D classes [(h0, .inr (4, [.ref hn, .ref hs, .ref hd, .ref hp, .ref hc, .int wy2_55, .int dn2_56])), (hn, .inl (cA, 34, .inl f2_57))] H := hP
            have hD : va_D A [(h0, .inr (4, [.ref hn, .ref hs, .ref hd, .ref hp, .ref hc, .int wy2_55, .int dn2_56])), (hn, .inl (cA, 34, .inl f2_57))] := hD
            refine lv_iload_n hx hb dX4_changed_200 rfl (lv_at hl 0 rfl) ?_
            refine lv_sipush (v := 255) hx hb dX4_changed_201 (by decide) ?_
            refine lv_iand hx hb dX4_changed_204 ?_
            obtain ⟨k_59, hk_59, ek_59⟩ := pk_andE rv_50 (m := 255) 8 (by decide)
            have hk_59 : k_59 < 256 := hk_59
            refine tk (y := nI k_59) ek_59 ?_
            exact endI X hr hlocks hP hD hS dX4_changed_205 ⟨wy2_55, dn2_56, f2_57, k_59, rfl, hf_58, (by omega), rfl⟩
          · have nc_185_53 : o = 28 := (nI_eq (a := o) (b := 28) (by omega) (by omega)).mp c_185_53
            refine lv_iload_n hx hb dX4_changed_188 rfl (lv_at hl 3 rfl) ?_
            refine lv_goto (tgt := 197) hx hb dX4_changed_189 (by decide) ?_
            refine kVv (n3 := 1) (As := [.int (nI v)]) (rest := []) X hl.1 hE hP hD hS hA [(h0, .inr (4, [.ref hn, .ref hs, .ref hd, .ref hp, .ref hc, .int wy2_47, .int dn2_48])), (hn, .inl (cA, 34, .inl f2_49))] [] [0, 1] [] rfl rfl rfl (by decide +kernel) (by decide +kernel) (by decide +kernel) (c_s_setNz l D cA cB h0 hn hs hd hp hc wy2_47 dn2_48 f2_49 v hf_51 (by first | assumption | decide | rfl | omega)) w_87 w_66 w_86 w_88 w_89 0 (ci := 4) (T := TX4) (N := 7) rfl rfl (by decide +kernel) rfl rfl (Nat.le_of_ble_eq_true rfl) ⟨(Nat.le_of_ble_eq_true rfl), (Nat.le_of_ble_eq_true rfl)⟩ ⟨(Nat.le_of_ble_eq_true rfl), (Nat.le_of_ble_eq_true rfl)⟩ dX4_changed_197 (fun W1 H locs hw hP hD hS => ?_)
            obtain ⟨wy2_60, dn2_61, f2_62, hf_63, rfl⟩ := hw
            have hP : va_P D classes [(h0, .inr (4, [.ref hn, .ref hs, .ref hd, .ref hp, .ref hc, .int wy2_60, .int dn2_61])), (hn, .inl (cA, 34, .inl f2_62))] H := hP
            have hD : va_D A [(h0, .inr (4, [.ref hn, .ref hs, .ref hd, .ref hp, .ref hc, .int wy2_60, .int dn2_61])), (hn, .inl (cA, 34, .inl f2_62))] := hD
            refine lv_iload_n hx hb dX4_changed_200 rfl (lv_at hl 0 rfl) ?_
            refine lv_sipush (v := 255) hx hb dX4_changed_201 (by decide) ?_
            refine lv_iand hx hb dX4_changed_204 ?_
            obtain ⟨k_64, hk_64, ek_64⟩ := pk_andE rv_50 (m := 255) 8 (by decide)
            have hk_64 : k_64 < 256 := hk_64
            refine tk (y := nI k_64) ek_64 ?_
            exact endI X hr hlocks hP hD hS dX4_changed_205 ⟨wy2_60, dn2_61, f2_62, k_64, rfl, hf_63, (by omega), rfl⟩
        · skip
          by_cases c_3_65 : (nI o) = 24
          · refine lv_tableIn (tgt := 86) (off := 83) hx hb dX4_changed_3 (by rw [c_3_65]; decide) (by rw [c_3_65]; decide) (by rw [c_3_65]; decide) (by decide) ?_
            refine lv_aload_n hx hb dX4_changed_86 rfl (lv_at hl 1 rfl) ?_
            refine lv_iload_n hx hb dX4_changed_87 rfl (lv_at hl 3 rfl) ?_
            refine lv_aload_n hx hb dX4_changed_88 rfl (lv_at hl 1 rfl) ?_
            refine kVi (n3 := 0) (As := []) (rest := [.int (nI v), .ref h0]) X hl.1 hE hP hD hS hA [(h0, .inr (4, [.ref hn, .ref hs, .ref hd, .ref hp, .ref hc, .int wy, .int dn])), (hn, .inl (cA, 34, .inl f))] [] [0, 1] [] rfl rfl rfl (by decide +kernel) (by decide +kernel) (by decide +kernel) (c_s_carry l D cA cB h0 hn hs hd hp hc wy dn f hf) w_91 w_66 w_90 w_92 w_93 0 (ci := 4) (T := TX4) (N := 7) rfl rfl (by decide +kernel) rfl rfl (Nat.le_of_ble_eq_true rfl) ⟨(Nat.le_of_ble_eq_true rfl), (Nat.le_of_ble_eq_true rfl)⟩ ⟨(Nat.le_of_ble_eq_true rfl), (Nat.le_of_ble_eq_true rfl)⟩ dX4_changed_89 (fun r W1 H locs hw hP hD hS => ?_)
            obtain ⟨wy2_66, dn2_67, f2_68, rk_69, rfl, hf_70, hf_71, rfl⟩ := hw
            have hP : va_P D classes [(h0, .inr (4, [.ref hn, .ref hs, .ref hd, .ref hp, .ref hc, .int wy2_66, .int dn2_67])), (hn, .inl (cA, 34, .inl f2_68))] H := hP
            have hD : va_D A [(h0, .inr (4, [.ref hn, .ref hs, .ref hd, .ref hp, .ref hc, .int wy2_66, .int dn2_67])), (hn, .inl (cA, 34, .inl f2_68))] := hD
            refine kVi (n3 := 2) (As := [.int (nI v), .int (nI rk_69)]) (rest := []) X hl.1 hE hP hD hS hA [(h0, .inr (4, [.ref hn, .ref hs, .ref hd, .ref hp, .ref hc, .int wy2_66, .int dn2_67])), (hn, .inl (cA, 34, .inl f2_68))] [] [0, 1] [] rfl rfl rfl (by decide +kernel) (by decide +kernel) (by decide +kernel) (c_s_shiftedLeft l D cA cB h0 hn hs hd hp hc wy2_66 dn2_67 f2_68 v rk_69 hf_70 (by first | assumption | decide | rfl | omega) (by first | assumption | decide | rfl | omega)) w_150 w_66 w_149 w_151 w_152 0 (ci := 4) (T := TX4) (N := 7) rfl rfl (by decide +kernel) rfl rfl (Nat.le_of_ble_eq_true rfl) ⟨(Nat.le_of_ble_eq_true rfl), (Nat.le_of_ble_eq_true rfl)⟩ ⟨(Nat.le_of_ble_eq_true rfl), (Nat.le_of_ble_eq_true rfl)⟩ dX4_changed_92 (fun r W1 H locs hw hP hD hS => ?_)
            obtain ⟨wy2_72, dn2_73, f2_74, rv_75, er_77, hf_76, rfl⟩ := hw
            have hP : va_P D classes [(h0, .inr (4, [.ref hn, .ref hs, .ref hd, .ref hp, .ref hc, .int wy2_72, .int dn2_73])), (hn, .inl (cA, 34, .inl f2_74))] H := hP
            have hD : va_D A [(h0, .inr (4, [.ref hn, .ref hs, .ref hd, .ref hp, .ref hc, .int wy2_72, .int dn2_73])), (hn, .inl (cA, 34, .inl f2_74))] := hD
            refine tk (y := rv_75) er_77 ?_
            refine lv_istore_n (lv' := [(3, .int rv_75), (0, .ref h0), (1, .int (nI o)), (2, .int (nI v))]) hx hb dX4_changed_95 rfl hl (by decide) rfl (fun ls hl => ?_)
            refine lv_goto (tgt := 181) hx hb dX4_changed_96 (by decide) ?_
            refine lv_aload_n hx hb dX4_changed_181 rfl (lv_at hl 1 rfl) ?_
            refine lv_iload_n hx hb dX4_changed_182 rfl (lv_at hl 2 rfl) ?_
            refine lv_bipush (v := 28) hx hb dX4_changed_183 (by decide) ?_
            refine lv_icmp_ne (tgt := 192) hx hb dX4_changed_185 (by decide) (fun c_185_78 => ?_) (fun c_185_78 => ?_)
            · have nc_185_78 : ¬ o = 28 := fun q => c_185_78 ((nI_eq (a := o) (b := 28) (by omega) (by omega)).mpr q)
              refine lv_iload_n hx hb dX4_changed_192 rfl (lv_at hl 0 rfl) ?_
              refine lv_sipush (v := 255) hx hb dX4_changed_193 (by decide) ?_
              refine lv_iand hx hb dX4_changed_196 ?_
              obtain ⟨k_79, hk_79, ek_79⟩ := pk_andE rv_75 (m := 255) 8 (by decide)
              have hk_79 : k_79 < 256 := hk_79
              refine tk (y := nI k_79) ek_79 ?_
              refine kVv (n3 := 1) (As := [.int (nI k_79)]) (rest := []) X hl.1 hE hP hD hS hA [(h0, .inr (4, [.ref hn, .ref hs, .ref hd, .ref hp, .ref hc, .int wy2_72, .int dn2_73])), (hn, .inl (cA, 34, .inl f2_74))] [] [0, 1] [] rfl rfl rfl (by decide +kernel) (by decide +kernel) (by decide +kernel) (c_s_setNz l D cA cB h0 hn hs hd hp hc wy2_72 dn2_73 f2_74 k_79 hf_76 (by first | assumption | decide | rfl | omega)) w_87 w_66 w_86 w_88 w_89 0 (ci := 4) (T := TX4) (N := 7) rfl rfl (by decide +kernel) rfl rfl (Nat.le_of_ble_eq_true rfl) ⟨(Nat.le_of_ble_eq_true rfl), (Nat.le_of_ble_eq_true rfl)⟩ ⟨(Nat.le_of_ble_eq_true rfl), (Nat.le_of_ble_eq_true rfl)⟩ dX4_changed_197 (fun W1 H locs hw hP hD hS => ?_)
              obtain ⟨wy2_80, dn2_81, f2_82, hf_83, rfl⟩ := hw
              have hP : va_P D classes [(h0, .inr (4, [.ref hn, .ref hs, .ref hd, .ref hp, .ref hc, .int wy2_80, .int dn2_81])), (hn, .inl (cA, 34, .inl f2_82))] H := hP
              have hD : va_D A [(h0, .inr (4, [.ref hn, .ref hs, .ref hd, .ref hp, .ref hc, .int wy2_80, .int dn2_81])), (hn, .inl (cA, 34, .inl f2_82))] := hD
              refine lv_iload_n hx hb dX4_changed_200 rfl (lv_at hl 0 rfl) ?_
              refine lv_sipush (v := 255) hx hb dX4_changed_201 (by decide) ?_
              refine lv_iand hx hb dX4_changed_204 ?_
              obtain ⟨k_84, hk_84, ek_84⟩ := pk_andE rv_75 (m := 255) 8 (by decide)
              have hk_84 : k_84 < 256 := hk_84
              refine tk (y := nI k_84) ek_84 ?_
              exact endI X hr hlocks hP hD hS dX4_changed_205 ⟨wy2_80, dn2_81, f2_82, k_84, rfl, hf_83, (by omega), rfl⟩
            · have nc_185_78 : o = 28 := (nI_eq (a := o) (b := 28) (by omega) (by omega)).mp c_185_78
              refine lv_iload_n hx hb dX4_changed_188 rfl (lv_at hl 3 rfl) ?_
              refine lv_goto (tgt := 197) hx hb dX4_changed_189 (by decide) ?_
              refine kVv (n3 := 1) (As := [.int (nI v)]) (rest := []) X hl.1 hE hP hD hS hA [(h0, .inr (4, [.ref hn, .ref hs, .ref hd, .ref hp, .ref hc, .int wy2_72, .int dn2_73])), (hn, .inl (cA, 34, .inl f2_74))] [] [0, 1] [] rfl rfl rfl (by decide +kernel) (by decide +kernel) (by decide +kernel) (c_s_setNz l D cA cB h0 hn hs hd hp hc wy2_72 dn2_73 f2_74 v hf_76 (by first | assumption | decide | rfl | omega)) w_87 w_66 w_86 w_88 w_89 0 (ci := 4) (T := TX4) (N := 7) rfl rfl (by decide +kernel) rfl rfl (Nat.le_of_ble_eq_true rfl) ⟨(Nat.le_of_ble_eq_true rfl), (Nat.le_of_ble_eq_true rfl)⟩ ⟨(Nat.le_of_ble_eq_true rfl), (Nat.le_of_ble_eq_true rfl)⟩ dX4_changed_197 (fun W1 H locs hw hP hD hS => ?_)
              obtain ⟨wy2_85, dn2_86, f2_87, hf_88, rfl⟩ := hw
              have hP : va_P D classes [(h0, .inr (4, [.ref hn, .ref hs, .ref hd, .ref hp, .ref hc, .int wy2_85, .int dn2_86])), (hn, .inl (cA, 34, .inl f2_87))] H := hP
              have hD : va_D A [(h0, .inr (4, [.ref hn, .ref hs, .ref hd, .ref hp, .ref hc, .int wy2_85, .int dn2_86])), (hn, .inl (cA, 34, .inl f2_87))] := hD
              refine lv_iload_n hx hb dX4_changed_200 rfl (lv_at hl 0 rfl) ?_
              refine lv_sipush (v := 255) hx hb dX4_changed_201 (by decide) ?_
              refine lv_iand hx hb dX4_changed_204 ?_
              obtain ⟨k_89, hk_89, ek_89⟩ := pk_andE rv_75 (m := 255) 8 (by decide)
              have hk_89 : k_89 < 256 := hk_89
              refine tk (y := nI k_89) ek_89 ?_
              exact endI X hr hlocks hP hD hS dX4_changed_205 ⟨wy2_85, dn2_86, f2_87, k_89, rfl, hf_88, (by omega), rfl⟩
          · skip
            by_cases c_3_90 : (nI o) = 25
            · refine lv_tableIn (tgt := 99) (off := 96) hx hb dX4_changed_3 (by rw [c_3_90]; decide) (by rw [c_3_90]; decide) (by rw [c_3_90]; decide) (by decide) ?_
              refine lv_aload_n hx hb dX4_changed_99 rfl (lv_at hl 1 rfl) ?_
              refine lv_iload_n hx hb dX4_changed_100 rfl (lv_at hl 3 rfl) ?_
              refine lv_aload_n hx hb dX4_changed_101 rfl (lv_at hl 1 rfl) ?_
              refine kVi (n3 := 0) (As := []) (rest := [.int (nI v), .ref h0]) X hl.1 hE hP hD hS hA [(h0, .inr (4, [.ref hn, .ref hs, .ref hd, .ref hp, .ref hc, .int wy, .int dn])), (hn, .inl (cA, 34, .inl f))] [] [0, 1] [] rfl rfl rfl (by decide +kernel) (by decide +kernel) (by decide +kernel) (c_s_carry l D cA cB h0 hn hs hd hp hc wy dn f hf) w_91 w_66 w_90 w_92 w_93 0 (ci := 4) (T := TX4) (N := 7) rfl rfl (by decide +kernel) rfl rfl (Nat.le_of_ble_eq_true rfl) ⟨(Nat.le_of_ble_eq_true rfl), (Nat.le_of_ble_eq_true rfl)⟩ ⟨(Nat.le_of_ble_eq_true rfl), (Nat.le_of_ble_eq_true rfl)⟩ dX4_changed_102 (fun r W1 H locs hw hP hD hS => ?_)
              obtain ⟨wy2_91, dn2_92, f2_93, rk_94, rfl, hf_95, hf_96, rfl⟩ := hw
              have hP : va_P D classes [(h0, .inr (4, [.ref hn, .ref hs, .ref hd, .ref hp, .ref hc, .int wy2_91, .int dn2_92])), (hn, .inl (cA, 34, .inl f2_93))] H := hP
              have hD : va_D A [(h0, .inr (4, [.ref hn, .ref hs, .ref hd, .ref hp, .ref hc, .int wy2_91, .int dn2_92])), (hn, .inl (cA, 34, .inl f2_93))] := hD
              refine kVi (n3 := 2) (As := [.int (nI v), .int (nI rk_94)]) (rest := []) X hl.1 hE hP hD hS hA [(h0, .inr (4, [.ref hn, .ref hs, .ref hd, .ref hp, .ref hc, .int wy2_91, .int dn2_92])), (hn, .inl (cA, 34, .inl f2_93))] [] [0, 1] [] rfl rfl rfl (by decide +kernel) (by decide +kernel) (by decide +kernel) (c_s_shiftedRight l D cA cB h0 hn hs hd hp hc wy2_91 dn2_92 f2_93 v rk_94 hf_95 (by first | assumption | decide | rfl | omega) (by first | assumption | decide | rfl | omega)) w_154 w_66 w_153 w_155 w_156 0 (ci := 4) (T := TX4) (N := 7) rfl rfl (by decide +kernel) rfl rfl (Nat.le_of_ble_eq_true rfl) ⟨(Nat.le_of_ble_eq_true rfl), (Nat.le_of_ble_eq_true rfl)⟩ ⟨(Nat.le_of_ble_eq_true rfl), (Nat.le_of_ble_eq_true rfl)⟩ dX4_changed_105 (fun r W1 H locs hw hP hD hS => ?_)
              obtain ⟨wy2_97, dn2_98, f2_99, rv_100, er_102, hf_101, rfl⟩ := hw
              have hP : va_P D classes [(h0, .inr (4, [.ref hn, .ref hs, .ref hd, .ref hp, .ref hc, .int wy2_97, .int dn2_98])), (hn, .inl (cA, 34, .inl f2_99))] H := hP
              have hD : va_D A [(h0, .inr (4, [.ref hn, .ref hs, .ref hd, .ref hp, .ref hc, .int wy2_97, .int dn2_98])), (hn, .inl (cA, 34, .inl f2_99))] := hD
              refine tk (y := rv_100) er_102 ?_
              refine lv_istore_n (lv' := [(3, .int rv_100), (0, .ref h0), (1, .int (nI o)), (2, .int (nI v))]) hx hb dX4_changed_108 rfl hl (by decide) rfl (fun ls hl => ?_)
              refine lv_goto (tgt := 181) hx hb dX4_changed_109 (by decide) ?_
              refine lv_aload_n hx hb dX4_changed_181 rfl (lv_at hl 1 rfl) ?_
              refine lv_iload_n hx hb dX4_changed_182 rfl (lv_at hl 2 rfl) ?_
              refine lv_bipush (v := 28) hx hb dX4_changed_183 (by decide) ?_
              refine lv_icmp_ne (tgt := 192) hx hb dX4_changed_185 (by decide) (fun c_185_103 => ?_) (fun c_185_103 => ?_)
              · have nc_185_103 : ¬ o = 28 := fun q => c_185_103 ((nI_eq (a := o) (b := 28) (by omega) (by omega)).mpr q)
                refine lv_iload_n hx hb dX4_changed_192 rfl (lv_at hl 0 rfl) ?_
                refine lv_sipush (v := 255) hx hb dX4_changed_193 (by decide) ?_
                refine lv_iand hx hb dX4_changed_196 ?_
                obtain ⟨k_104, hk_104, ek_104⟩ := pk_andE rv_100 (m := 255) 8 (by decide)
                have hk_104 : k_104 < 256 := hk_104
                refine tk (y := nI k_104) ek_104 ?_
                refine kVv (n3 := 1) (As := [.int (nI k_104)]) (rest := []) X hl.1 hE hP hD hS hA [(h0, .inr (4, [.ref hn, .ref hs, .ref hd, .ref hp, .ref hc, .int wy2_97, .int dn2_98])), (hn, .inl (cA, 34, .inl f2_99))] [] [0, 1] [] rfl rfl rfl (by decide +kernel) (by decide +kernel) (by decide +kernel) (c_s_setNz l D cA cB h0 hn hs hd hp hc wy2_97 dn2_98 f2_99 k_104 hf_101 (by first | assumption | decide | rfl | omega)) w_87 w_66 w_86 w_88 w_89 0 (ci := 4) (T := TX4) (N := 7) rfl rfl (by decide +kernel) rfl rfl (Nat.le_of_ble_eq_true rfl) ⟨(Nat.le_of_ble_eq_true rfl), (Nat.le_of_ble_eq_true rfl)⟩ ⟨(Nat.le_of_ble_eq_true rfl), (Nat.le_of_ble_eq_true rfl)⟩ dX4_changed_197 (fun W1 H locs hw hP hD hS => ?_)
                obtain ⟨wy2_105, dn2_106, f2_107, hf_108, rfl⟩ := hw
                have hP : va_P D classes [(h0, .inr (4, [.ref hn, .ref hs, .ref hd, .ref hp, .ref hc, .int wy2_105, .int dn2_106])), (hn, .inl (cA, 34, .inl f2_107))] H := hP
                have hD : va_D A [(h0, .inr (4, [.ref hn, .ref hs, .ref hd, .ref hp, .ref hc, .int wy2_105, .int dn2_106])), (hn, .inl (cA, 34, .inl f2_107))] := hD
                refine lv_iload_n hx hb dX4_changed_200 rfl (lv_at hl 0 rfl) ?_
                refine lv_sipush (v := 255) hx hb dX4_changed_201 (by decide) ?_
                refine lv_iand hx hb dX4_changed_204 ?_
                obtain ⟨k_109, hk_109, ek_109⟩ := pk_andE rv_100 (m := 255) 8 (by decide)
                have hk_109 : k_109 < 256 := hk_109
                refine tk (y := nI k_109) ek_109 ?_
                exact endI X hr hlocks hP hD hS dX4_changed_205 ⟨wy2_105, dn2_106, f2_107, k_109, rfl, hf_108, (by omega), rfl⟩
              · have nc_185_103 : o = 28 := (nI_eq (a := o) (b := 28) (by omega) (by omega)).mp c_185_103
                refine lv_iload_n hx hb dX4_changed_188 rfl (lv_at hl 3 rfl) ?_
                refine lv_goto (tgt := 197) hx hb dX4_changed_189 (by decide) ?_
                refine kVv (n3 := 1) (As := [.int (nI v)]) (rest := []) X hl.1 hE hP hD hS hA [(h0, .inr (4, [.ref hn, .ref hs, .ref hd, .ref hp, .ref hc, .int wy2_97, .int dn2_98])), (hn, .inl (cA, 34, .inl f2_99))] [] [0, 1] [] rfl rfl rfl (by decide +kernel) (by decide +kernel) (by decide +kernel) (c_s_setNz l D cA cB h0 hn hs hd hp hc wy2_97 dn2_98 f2_99 v hf_101 (by first | assumption | decide | rfl | omega)) w_87 w_66 w_86 w_88 w_89 0 (ci := 4) (T := TX4) (N := 7) rfl rfl (by decide +kernel) rfl rfl (Nat.le_of_ble_eq_true rfl) ⟨(Nat.le_of_ble_eq_true rfl), (Nat.le_of_ble_eq_true rfl)⟩ ⟨(Nat.le_of_ble_eq_true rfl), (Nat.le_of_ble_eq_true rfl)⟩ dX4_changed_197 (fun W1 H locs hw hP hD hS => ?_)
                obtain ⟨wy2_110, dn2_111, f2_112, hf_113, rfl⟩ := hw
                have hP : va_P D classes [(h0, .inr (4, [.ref hn, .ref hs, .ref hd, .ref hp, .ref hc, .int wy2_110, .int dn2_111])), (hn, .inl (cA, 34, .inl f2_112))] H := hP
                have hD : va_D A [(h0, .inr (4, [.ref hn, .ref hs, .ref hd, .ref hp, .ref hc, .int wy2_110, .int dn2_111])), (hn, .inl (cA, 34, .inl f2_112))] := hD
                refine lv_iload_n hx hb dX4_changed_200 rfl (lv_at hl 0 rfl) ?_
                refine lv_sipush (v := 255) hx hb dX4_changed_201 (by decide) ?_
                refine lv_iand hx hb dX4_changed_204 ?_
                obtain ⟨k_114, hk_114, ek_114⟩ := pk_andE rv_100 (m := 255) 8 (by decide)
                have hk_114 : k_114 < 256 := hk_114
                refine tk (y := nI k_114) ek_114 ?_
                exact endI X hr hlocks hP hD hS dX4_changed_205 ⟨wy2_110, dn2_111, f2_112, k_114, rfl, hf_113, (by omega), rfl⟩
            · skip
              by_cases c_3_115 : (nI o) = 26
              · refine lv_tableIn (tgt := 112) (off := 109) hx hb dX4_changed_3 (by rw [c_3_115]; decide) (by rw [c_3_115]; decide) (by rw [c_3_115]; decide) (by decide) ?_
                refine lv_iload_n hx hb dX4_changed_112 rfl (lv_at hl 3 rfl) ?_
                refine lv_aload_n hx hb dX4_changed_113 rfl (lv_at hl 1 rfl) ?_
                refine k_get (C := RX4) (T := TX4) (N := 7) (ci := 4) (v := .ref hn) X hE hP 0 rfl rfl iX4 0 (by decide) w_69 rfl dX4_changed_114 ?_
                refine lv_iconst (v := 0) hx hb dX4_changed_117 (by decide) ?_
                obtain ⟨k_116, hk_116, ek_116⟩ := hf.at 0 256 (by decide) rfl
                refine k_ald (v := nI k_116) X hE hP 1 rfl 0 rfl (by decide) (by decide) ek_116 dX4_changed_118 ?_
                refine lv_ior hx hb dX4_changed_119 ?_
                obtain ⟨k_117, hk_117, ek_117⟩ := sf_or (a := v) (b := k_116) 8 256 rfl (by decide) (by omega) (by omega)
                have hk_117 : k_117 < 256 := hk_117
                refine tk (y := nI k_117) ek_117 ?_
                refine lv_istore_n (lv' := [(3, .int (nI k_117)), (0, .ref h0), (1, .int (nI o)), (2, .int (nI v))]) hx hb dX4_changed_120 rfl hl (by decide) rfl (fun ls hl => ?_)
                refine lv_goto (tgt := 181) hx hb dX4_changed_121 (by decide) ?_
                refine lv_aload_n hx hb dX4_changed_181 rfl (lv_at hl 1 rfl) ?_
                refine lv_iload_n hx hb dX4_changed_182 rfl (lv_at hl 2 rfl) ?_
                refine lv_bipush (v := 28) hx hb dX4_changed_183 (by decide) ?_
                refine lv_icmp_ne (tgt := 192) hx hb dX4_changed_185 (by decide) (fun c_185_118 => ?_) (fun c_185_118 => ?_)
                · have nc_185_118 : ¬ o = 28 := fun q => c_185_118 ((nI_eq (a := o) (b := 28) (by omega) (by omega)).mpr q)
                  refine lv_iload_n hx hb dX4_changed_192 rfl (lv_at hl 0 rfl) ?_
                  refine lv_sipush (v := 255) hx hb dX4_changed_193 (by decide) ?_
                  refine lv_iand hx hb dX4_changed_196 ?_
                  obtain ⟨k_119, hk_119, ek_119⟩ := pk_andE (nI k_117) (m := 255) 8 (by decide)
                  have hk_119 : k_119 < 256 := hk_119
                  refine tk (y := nI k_119) ek_119 ?_
                  refine kVv (n3 := 1) (As := [.int (nI k_119)]) (rest := []) X hl.1 hE hP hD hS hA [(h0, .inr (4, [.ref hn, .ref hs, .ref hd, .ref hp, .ref hc, .int wy, .int dn])), (hn, .inl (cA, 34, .inl f))] [] [0, 1] [] rfl rfl rfl (by decide +kernel) (by decide +kernel) (by decide +kernel) (c_s_setNz l D cA cB h0 hn hs hd hp hc wy dn f k_119 hf (by first | assumption | decide | rfl | omega)) w_87 w_66 w_86 w_88 w_89 0 (ci := 4) (T := TX4) (N := 7) rfl rfl (by decide +kernel) rfl rfl (Nat.le_of_ble_eq_true rfl) ⟨(Nat.le_of_ble_eq_true rfl), (Nat.le_of_ble_eq_true rfl)⟩ ⟨(Nat.le_of_ble_eq_true rfl), (Nat.le_of_ble_eq_true rfl)⟩ dX4_changed_197 (fun W1 H locs hw hP hD hS => ?_)
                  obtain ⟨wy2_120, dn2_121, f2_122, hf_123, rfl⟩ := hw
                  have hP : va_P D classes [(h0, .inr (4, [.ref hn, .ref hs, .ref hd, .ref hp, .ref hc, .int wy2_120, .int dn2_121])), (hn, .inl (cA, 34, .inl f2_122))] H := hP
                  have hD : va_D A [(h0, .inr (4, [.ref hn, .ref hs, .ref hd, .ref hp, .ref hc, .int wy2_120, .int dn2_121])), (hn, .inl (cA, 34, .inl f2_122))] := hD
                  refine lv_iload_n hx hb dX4_changed_200 rfl (lv_at hl 0 rfl) ?_
                  refine lv_sipush (v := 255) hx hb dX4_changed_201 (by decide) ?_
                  refine lv_iand hx hb dX4_changed_204 ?_
                  obtain ⟨k_124, hk_124, ek_124⟩ := pk_andE (nI k_117) (m := 255) 8 (by decide)
                  have hk_124 : k_124 < 256 := hk_124
                  refine tk (y := nI k_124) ek_124 ?_
                  exact endI X hr hlocks hP hD hS dX4_changed_205 ⟨wy2_120, dn2_121, f2_122, k_124, rfl, hf_123, (by omega), rfl⟩
                · have nc_185_118 : o = 28 := (nI_eq (a := o) (b := 28) (by omega) (by omega)).mp c_185_118
                  refine lv_iload_n hx hb dX4_changed_188 rfl (lv_at hl 3 rfl) ?_
                  refine lv_goto (tgt := 197) hx hb dX4_changed_189 (by decide) ?_
                  refine kVv (n3 := 1) (As := [.int (nI v)]) (rest := []) X hl.1 hE hP hD hS hA [(h0, .inr (4, [.ref hn, .ref hs, .ref hd, .ref hp, .ref hc, .int wy, .int dn])), (hn, .inl (cA, 34, .inl f))] [] [0, 1] [] rfl rfl rfl (by decide +kernel) (by decide +kernel) (by decide +kernel) (c_s_setNz l D cA cB h0 hn hs hd hp hc wy dn f v hf (by first | assumption | decide | rfl | omega)) w_87 w_66 w_86 w_88 w_89 0 (ci := 4) (T := TX4) (N := 7) rfl rfl (by decide +kernel) rfl rfl (Nat.le_of_ble_eq_true rfl) ⟨(Nat.le_of_ble_eq_true rfl), (Nat.le_of_ble_eq_true rfl)⟩ ⟨(Nat.le_of_ble_eq_true rfl), (Nat.le_of_ble_eq_true rfl)⟩ dX4_changed_197 (fun W1 H locs hw hP hD hS => ?_)
                  obtain ⟨wy2_125, dn2_126, f2_127, hf_128, rfl⟩ := hw
                  have hP : va_P D classes [(h0, .inr (4, [.ref hn, .ref hs, .ref hd, .ref hp, .ref hc, .int wy2_125, .int dn2_126])), (hn, .inl (cA, 34, .inl f2_127))] H := hP
                  have hD : va_D A [(h0, .inr (4, [.ref hn, .ref hs, .ref hd, .ref hp, .ref hc, .int wy2_125, .int dn2_126])), (hn, .inl (cA, 34, .inl f2_127))] := hD
                  refine lv_iload_n hx hb dX4_changed_200 rfl (lv_at hl 0 rfl) ?_
                  refine lv_sipush (v := 255) hx hb dX4_changed_201 (by decide) ?_
                  refine lv_iand hx hb dX4_changed_204 ?_
                  obtain ⟨k_129, hk_129, ek_129⟩ := pk_andE (nI k_117) (m := 255) 8 (by decide)
                  have hk_129 : k_129 < 256 := hk_129
                  refine tk (y := nI k_129) ek_129 ?_
                  exact endI X hr hlocks hP hD hS dX4_changed_205 ⟨wy2_125, dn2_126, f2_127, k_129, rfl, hf_128, (by omega), rfl⟩
              · skip
                by_cases c_3_130 : (nI o) = 27
                · refine lv_tableIn (tgt := 124) (off := 121) hx hb dX4_changed_3 (by rw [c_3_130]; decide) (by rw [c_3_130]; decide) (by rw [c_3_130]; decide) (by decide) ?_
                  refine lv_iload_n hx hb dX4_changed_124 rfl (lv_at hl 3 rfl) ?_
                  refine lv_aload_n hx hb dX4_changed_125 rfl (lv_at hl 1 rfl) ?_
                  refine k_get (C := RX4) (T := TX4) (N := 7) (ci := 4) (v := .ref hn) X hE hP 0 rfl rfl iX4 0 (by decide) w_69 rfl dX4_changed_126 ?_
                  refine lv_iconst (v := 0) hx hb dX4_changed_129 (by decide) ?_
                  obtain ⟨k_131, hk_131, ek_131⟩ := hf.at 0 256 (by decide) rfl
                  refine k_ald (v := nI k_131) X hE hP 1 rfl 0 rfl (by decide) (by decide) ek_131 dX4_changed_130 ?_
                  refine lv_iconst (v := (-1)) hx hb dX4_changed_131 (by decide) ?_
                  refine lv_ixor hx hb dX4_changed_132 ?_
                  refine lv_iand hx hb dX4_changed_133 ?_
                  obtain ⟨k_132, hk_132, ek_132⟩ := sf_and (a := v) (by omega) ((nI k_131) ^^^ (-1)) (by omega : v < 256)
                  have hk_132 : k_132 < 256 := hk_132
                  refine tk (y := nI k_132) ek_132 ?_
                  refine lv_istore_n (lv' := [(3, .int (nI k_132)), (0, .ref h0), (1, .int (nI o)), (2, .int (nI v))]) hx hb dX4_changed_134 rfl hl (by decide) rfl (fun ls hl => ?_)
                  refine lv_goto (tgt := 181) hx hb dX4_changed_135 (by decide) ?_
                  refine lv_aload_n hx hb dX4_changed_181 rfl (lv_at hl 1 rfl) ?_
                  refine lv_iload_n hx hb dX4_changed_182 rfl (lv_at hl 2 rfl) ?_
                  refine lv_bipush (v := 28) hx hb dX4_changed_183 (by decide) ?_
                  refine lv_icmp_ne (tgt := 192) hx hb dX4_changed_185 (by decide) (fun c_185_133 => ?_) (fun c_185_133 => ?_)
                  · have nc_185_133 : ¬ o = 28 := fun q => c_185_133 ((nI_eq (a := o) (b := 28) (by omega) (by omega)).mpr q)
                    refine lv_iload_n hx hb dX4_changed_192 rfl (lv_at hl 0 rfl) ?_
                    refine lv_sipush (v := 255) hx hb dX4_changed_193 (by decide) ?_
                    refine lv_iand hx hb dX4_changed_196 ?_
                    obtain ⟨k_134, hk_134, ek_134⟩ := pk_andE (nI k_132) (m := 255) 8 (by decide)
                    have hk_134 : k_134 < 256 := hk_134
                    refine tk (y := nI k_134) ek_134 ?_
                    refine kVv (n3 := 1) (As := [.int (nI k_134)]) (rest := []) X hl.1 hE hP hD hS hA [(h0, .inr (4, [.ref hn, .ref hs, .ref hd, .ref hp, .ref hc, .int wy, .int dn])), (hn, .inl (cA, 34, .inl f))] [] [0, 1] [] rfl rfl rfl (by decide +kernel) (by decide +kernel) (by decide +kernel) (c_s_setNz l D cA cB h0 hn hs hd hp hc wy dn f k_134 hf (by first | assumption | decide | rfl | omega)) w_87 w_66 w_86 w_88 w_89 0 (ci := 4) (T := TX4) (N := 7) rfl rfl (by decide +kernel) rfl rfl (Nat.le_of_ble_eq_true rfl) ⟨(Nat.le_of_ble_eq_true rfl), (Nat.le_of_ble_eq_true rfl)⟩ ⟨(Nat.le_of_ble_eq_true rfl), (Nat.le_of_ble_eq_true rfl)⟩ dX4_changed_197 (fun W1 H locs hw hP hD hS => ?_)
                    obtain ⟨wy2_135, dn2_136, f2_137, hf_138, rfl⟩ := hw
                    have hP : va_P D classes [(h0, .inr (4, [.ref hn, .ref hs, .ref hd, .ref hp, .ref hc, .int wy2_135, .int dn2_136])), (hn, .inl (cA, 34, .inl f2_137))] H := hP
                    have hD : va_D A [(h0, .inr (4, [.ref hn, .ref hs, .ref hd, .ref hp, .ref hc, .int wy2_135, .int dn2_136])), (hn, .inl (cA, 34, .inl f2_137))] := hD
                    refine lv_iload_n hx hb dX4_changed_200 rfl (lv_at hl 0 rfl) ?_
                    refine lv_sipush (v := 255) hx hb dX4_changed_201 (by decide) ?_
                    refine lv_iand hx hb dX4_changed_204 ?_
                    obtain ⟨k_139, hk_139, ek_139⟩ := pk_andE (nI k_132) (m := 255) 8 (by decide)
                    have hk_139 : k_139 < 256 := hk_139
                    refine tk (y := nI k_139) ek_139 ?_
                    exact endI X hr hlocks hP hD hS dX4_changed_205 ⟨wy2_135, dn2_136, f2_137, k_139, rfl, hf_138, (by omega), rfl⟩
                  · have nc_185_133 : o = 28 := (nI_eq (a := o) (b := 28) (by omega) (by omega)).mp c_185_133
                    refine lv_iload_n hx hb dX4_changed_188 rfl (lv_at hl 3 rfl) ?_
                    refine lv_goto (tgt := 197) hx hb dX4_changed_189 (by decide) ?_
                    refine kVv (n3 := 1) (As := [.int (nI v)]) (rest := []) X hl.1 hE hP hD hS hA [(h0, .inr (4, [.ref hn, .ref hs, .ref hd, .ref hp, .ref hc, .int wy, .int dn])), (hn, .inl (cA, 34, .inl f))] [] [0, 1] [] rfl rfl rfl (by decide +kernel) (by decide +kernel) (by decide +kernel) (c_s_setNz l D cA cB h0 hn hs hd hp hc wy dn f v hf (by first | assumption | decide | rfl | omega)) w_87 w_66 w_86 w_88 w_89 0 (ci := 4) (T := TX4) (N := 7) rfl rfl (by decide +kernel) rfl rfl (Nat.le_of_ble_eq_true rfl) ⟨(Nat.le_of_ble_eq_true rfl), (Nat.le_of_ble_eq_true rfl)⟩ ⟨(Nat.le_of_ble_eq_true rfl), (Nat.le_of_ble_eq_true rfl)⟩ dX4_changed_197 (fun W1 H locs hw hP hD hS => ?_)
                    obtain ⟨wy2_140, dn2_141, f2_142, hf_143, rfl⟩ := hw
                    have hP : va_P D classes [(h0, .inr (4, [.ref hn, .ref hs, .ref hd, .ref hp, .ref hc, .int wy2_140, .int dn2_141])), (hn, .inl (cA, 34, .inl f2_142))] H := hP
                    have hD : va_D A [(h0, .inr (4, [.ref hn, .ref hs, .ref hd, .ref hp, .ref hc, .int wy2_140, .int dn2_141])), (hn, .inl (cA, 34, .inl f2_142))] := hD
                    refine lv_iload_n hx hb dX4_changed_200 rfl (lv_at hl 0 rfl) ?_
                    refine lv_sipush (v := 255) hx hb dX4_changed_201 (by decide) ?_
                    refine lv_iand hx hb dX4_changed_204 ?_
                    obtain ⟨k_144, hk_144, ek_144⟩ := pk_andE (nI k_132) (m := 255) 8 (by decide)
                    have hk_144 : k_144 < 256 := hk_144
                    refine tk (y := nI k_144) ek_144 ?_
                    exact endI X hr hlocks hP hD hS dX4_changed_205 ⟨wy2_140, dn2_141, f2_142, k_144, rfl, hf_143, (by omega), rfl⟩
                · skip
                  by_cases c_3_145 : (nI o) = 28
                  · refine lv_tableIn (tgt := 138) (off := 135) hx hb dX4_changed_3 (by rw [c_3_145]; decide) (by rw [c_3_145]; decide) (by rw [c_3_145]; decide) (by decide) ?_
                    refine lv_aload_n hx hb dX4_changed_138 rfl (lv_at hl 1 rfl) ?_
                    refine k_get (C := RX4) (T := TX4) (N := 7) (ci := 4) (v := .ref hn) X hE hP 0 rfl rfl iX4 0 (by decide) w_69 rfl dX4_changed_139 ?_
                    refine lv_iconst (v := 0) hx hb dX4_changed_142 (by decide) ?_
                    obtain ⟨k_146, hk_146, ek_146⟩ := hf.at 0 256 (by decide) rfl
                    refine k_ald (v := nI k_146) X hE hP 1 rfl 0 rfl (by decide) (by decide) ek_146 dX4_changed_143 ?_
                    refine lv_istore_n (lv' := [(3, .int (nI k_146)), (0, .ref h0), (1, .int (nI o)), (2, .int (nI v))]) hx hb dX4_changed_144 rfl hl (by decide) rfl (fun ls hl => ?_)
                    refine lv_aload_n hx hb dX4_changed_145 rfl (lv_at hl 1 rfl) ?_
                    refine k_get (C := RX4) (T := TX4) (N := 7) (ci := 4) (v := .ref hn) X hE hP 0 rfl rfl iX4 0 (by decide) w_69 rfl dX4_changed_146 ?_
                    refine lv_iconst (v := 0) hx hb dX4_changed_149 (by decide) ?_
                    refine lv_iload_n hx hb dX4_changed_150 rfl (lv_at hl 3 rfl) ?_
                    refine k_ast X hE hP hD hS 1 rfl 0 rfl (by decide) (by decide) [(h0, .inr (4, [.ref hn, .ref hs, .ref hd, .ref hp, .ref hc, .int wy, .int dn])), (hn, .inl (cA, 34, .inl (upd f 0 (nI v))))] rfl dX4_changed_151 (fun H locs hP hD hS => ?_)
                    obtain ⟨g_147, eg_147⟩ : ∃ z, z = upd f 0 (nI v) := ⟨_, rfl⟩
                    rw [← eg_147] at hP hD
                    have hg_147 := okN_upd hf 0 (nI v) (inR_of (k := v) rfl (by omega))
                    rw [← eg_147] at hg_147
                    have hP : va_P D classes [(h0, .inr (4, [.ref hn, .ref hs, .ref hd, .ref hp, .ref hc, .int wy, .int dn])), (hn, .inl (cA, 34, .inl g_147))] H := hP
                    have hD : va_D A [(h0, .inr (4, [.ref hn, .ref hs, .ref hd, .ref hp, .ref hc, .int wy, .int dn])), (hn, .inl (cA, 34, .inl g_147))] := hD
                    refine lv_goto (tgt := 181) hx hb dX4_changed_152 (by decide) ?_
                    refine lv_aload_n hx hb dX4_changed_181 rfl (lv_at hl 1 rfl) ?_
                    refine lv_iload_n hx hb dX4_changed_182 rfl (lv_at hl 2 rfl) ?_
                    refine lv_bipush (v := 28) hx hb dX4_changed_183 (by decide) ?_
                    refine lv_icmp_ne (tgt := 192) hx hb dX4_changed_185 (by decide) (fun c_185_148 => ?_) (fun c_185_148 => ?_)
                    · have nc_185_148 : ¬ o = 28 := fun q => c_185_148 ((nI_eq (a := o) (b := 28) (by omega) (by omega)).mpr q)
                      refine lv_iload_n hx hb dX4_changed_192 rfl (lv_at hl 0 rfl) ?_
                      refine lv_sipush (v := 255) hx hb dX4_changed_193 (by decide) ?_
                      refine lv_iand hx hb dX4_changed_196 ?_
                      obtain ⟨k_149, hk_149, ek_149⟩ := pk_andE (nI k_146) (m := 255) 8 (by decide)
                      have hk_149 : k_149 < 256 := hk_149
                      refine tk (y := nI k_149) ek_149 ?_
                      refine kVv (n3 := 1) (As := [.int (nI k_149)]) (rest := []) X hl.1 hE hP hD hS hA [(h0, .inr (4, [.ref hn, .ref hs, .ref hd, .ref hp, .ref hc, .int wy, .int dn])), (hn, .inl (cA, 34, .inl g_147))] [] [0, 1] [] rfl rfl rfl (by decide +kernel) (by decide +kernel) (by decide +kernel) (c_s_setNz l D cA cB h0 hn hs hd hp hc wy dn g_147 k_149 hg_147 (by first | assumption | decide | rfl | omega)) w_87 w_66 w_86 w_88 w_89 0 (ci := 4) (T := TX4) (N := 7) rfl rfl (by decide +kernel) rfl rfl (Nat.le_of_ble_eq_true rfl) ⟨(Nat.le_of_ble_eq_true rfl), (Nat.le_of_ble_eq_true rfl)⟩ ⟨(Nat.le_of_ble_eq_true rfl), (Nat.le_of_ble_eq_true rfl)⟩ dX4_changed_197 (fun W1 H locs hw hP hD hS => ?_)
                      obtain ⟨wy2_150, dn2_151, f2_152, hf_153, rfl⟩ := hw
                      have hP : va_P D classes [(h0, .inr (4, [.ref hn, .ref hs, .ref hd, .ref hp, .ref hc, .int wy2_150, .int dn2_151])), (hn, .inl (cA, 34, .inl f2_152))] H := hP
                      have hD : va_D A [(h0, .inr (4, [.ref hn, .ref hs, .ref hd, .ref hp, .ref hc, .int wy2_150, .int dn2_151])), (hn, .inl (cA, 34, .inl f2_152))] := hD
                      refine lv_iload_n hx hb dX4_changed_200 rfl (lv_at hl 0 rfl) ?_
                      refine lv_sipush (v := 255) hx hb dX4_changed_201 (by decide) ?_
                      refine lv_iand hx hb dX4_changed_204 ?_
                      obtain ⟨k_154, hk_154, ek_154⟩ := pk_andE (nI k_146) (m := 255) 8 (by decide)
                      have hk_154 : k_154 < 256 := hk_154
                      refine tk (y := nI k_154) ek_154 ?_
                      exact endI X hr hlocks hP hD hS dX4_changed_205 ⟨wy2_150, dn2_151, f2_152, k_154, rfl, hf_153, (by omega), rfl⟩
                    · have nc_185_148 : o = 28 := (nI_eq (a := o) (b := 28) (by omega) (by omega)).mp c_185_148
                      refine lv_iload_n hx hb dX4_changed_188 rfl (lv_at hl 3 rfl) ?_
                      refine lv_goto (tgt := 197) hx hb dX4_changed_189 (by decide) ?_
                      refine kVv (n3 := 1) (As := [.int (nI v)]) (rest := []) X hl.1 hE hP hD hS hA [(h0, .inr (4, [.ref hn, .ref hs, .ref hd, .ref hp, .ref hc, .int wy, .int dn])), (hn, .inl (cA, 34, .inl g_147))] [] [0, 1] [] rfl rfl rfl (by decide +kernel) (by decide +kernel) (by decide +kernel) (c_s_setNz l D cA cB h0 hn hs hd hp hc wy dn g_147 v hg_147 (by first | assumption | decide | rfl | omega)) w_87 w_66 w_86 w_88 w_89 0 (ci := 4) (T := TX4) (N := 7) rfl rfl (by decide +kernel) rfl rfl (Nat.le_of_ble_eq_true rfl) ⟨(Nat.le_of_ble_eq_true rfl), (Nat.le_of_ble_eq_true rfl)⟩ ⟨(Nat.le_of_ble_eq_true rfl), (Nat.le_of_ble_eq_true rfl)⟩ dX4_changed_197 (fun W1 H locs hw hP hD hS => ?_)
                      obtain ⟨wy2_155, dn2_156, f2_157, hf_158, rfl⟩ := hw
                      have hP : va_P D classes [(h0, .inr (4, [.ref hn, .ref hs, .ref hd, .ref hp, .ref hc, .int wy2_155, .int dn2_156])), (hn, .inl (cA, 34, .inl f2_157))] H := hP
                      have hD : va_D A [(h0, .inr (4, [.ref hn, .ref hs, .ref hd, .ref hp, .ref hc, .int wy2_155, .int dn2_156])), (hn, .inl (cA, 34, .inl f2_157))] := hD
                      refine lv_iload_n hx hb dX4_changed_200 rfl (lv_at hl 0 rfl) ?_
                      refine lv_sipush (v := 255) hx hb dX4_changed_201 (by decide) ?_
                      refine lv_iand hx hb dX4_changed_204 ?_
                      obtain ⟨k_159, hk_159, ek_159⟩ := pk_andE (nI k_146) (m := 255) 8 (by decide)
                      have hk_159 : k_159 < 256 := hk_159
                      refine tk (y := nI k_159) ek_159 ?_
                      exact endI X hr hlocks hP hD hS dX4_changed_205 ⟨wy2_155, dn2_156, f2_157, k_159, rfl, hf_158, (by omega), rfl⟩
                  · skip
                    refine lv_tableOut (tgt := 155) hx hb dX4_changed_3 (by have n_0 := lv_neT (k := 20) (a := 20) c_3_1 (by decide); have n_1 := lv_neT (k := 21) (a := 21) c_3_14 (by decide); have n_2 := lv_neT (k := 22) (a := 22) c_3_27 (by decide); have n_3 := lv_neT (k := 23) (a := 23) c_3_46 (by decide); have n_4 := lv_neT (k := 24) (a := 24) c_3_65 (by decide); have n_5 := lv_neT (k := 25) (a := 25) c_3_90 (by decide); have n_6 := lv_neT (k := 26) (a := 26) c_3_115 (by decide); have n_7 := lv_neT (k := 27) (a := 27) c_3_130 (by decide); have n_8 := lv_neT (k := 28) (a := 28) c_3_145 (by decide); omega) (by decide) ?_
                    refine lv_iload_n hx hb dX4_changed_155 rfl (lv_at hl 3 rfl) ?_
                    refine lv_aload_n hx hb dX4_changed_156 rfl (lv_at hl 1 rfl) ?_
                    refine k_get (C := RX4) (T := TX4) (N := 7) (ci := 4) (v := .ref hn) X hE hP 0 rfl rfl iX4 0 (by decide) w_69 rfl dX4_changed_157 ?_
                    refine lv_iconst (v := 0) hx hb dX4_changed_160 (by decide) ?_
                    obtain ⟨k_160, hk_160, ek_160⟩ := hf.at 0 256 (by decide) rfl
                    refine k_ald (v := nI k_160) X hE hP 1 rfl 0 rfl (by decide) (by decide) ek_160 dX4_changed_161 ?_
                    refine lv_iadd hx hb dX4_changed_162 ?_
                    refine tk (y := nI (v + k_160)) (nI_add v k_160) ?_
                    refine lv_istore_n (lv' := [(3, .int (nI (v + k_160))), (0, .ref h0), (1, .int (nI o)), (2, .int (nI v))]) hx hb dX4_changed_163 rfl hl (by decide) rfl (fun ls hl => ?_)
                    refine lv_aload_n hx hb dX4_changed_164 rfl (lv_at hl 1 rfl) ?_
                    refine lv_iconst (v := 1) hx hb dX4_changed_165 (by decide) ?_
                    refine lv_iload_n hx hb dX4_changed_166 rfl (lv_at hl 0 rfl) ?_
                    refine lv_sipush (v := 255) hx hb dX4_changed_167 (by decide) ?_
                    refine lv_icmp_le (tgt := 177) hx hb dX4_changed_170 (by decide) (fun c_170_161 => ?_) (fun c_170_161 => ?_)
                    · have nc_170_161 : (v + k_160) ≤ 255 := (nI_leI (a := v + k_160) (b := 255) (by omega) (by omega)).mp c_170_161
                      refine lv_iconst (v := 0) hx hb dX4_changed_177 (by decide) ?_
                      refine kVv (n3 := 2) (As := [.int 1, .int 0]) (rest := []) X hl.1 hE hP hD hS hA [(h0, .inr (4, [.ref hn, .ref hs, .ref hd, .ref hp, .ref hc, .int wy, .int dn])), (hn, .inl (cA, 34, .inl f))] [] [0, 1] [] rfl rfl rfl (by decide +kernel) (by decide +kernel) (by decide +kernel) (c_s_setFlag l D cA cB h0 hn hs hd hp hc wy dn f 1 0 hf (by first | assumption | decide | rfl | omega) (by first | assumption | decide | rfl | omega)) w_95 w_66 w_94 w_96 w_97 0 (ci := 4) (T := TX4) (N := 7) rfl rfl (by decide +kernel) rfl rfl (Nat.le_of_ble_eq_true rfl) ⟨(Nat.le_of_ble_eq_true rfl), (Nat.le_of_ble_eq_true rfl)⟩ ⟨(Nat.le_of_ble_eq_true rfl), (Nat.le_of_ble_eq_true rfl)⟩ dX4_changed_178 (fun W1 H locs hw hP hD hS => ?_)
                      obtain ⟨wy2_162, dn2_163, f2_164, hf_165, rfl⟩ := hw
                      have hP : va_P D classes [(h0, .inr (4, [.ref hn, .ref hs, .ref hd, .ref hp, .ref hc, .int wy2_162, .int dn2_163])), (hn, .inl (cA, 34, .inl f2_164))] H := hP
                      have hD : va_D A [(h0, .inr (4, [.ref hn, .ref hs, .ref hd, .ref hp, .ref hc, .int wy2_162, .int dn2_163])), (hn, .inl (cA, 34, .inl f2_164))] := hD
                      refine lv_aload_n hx hb dX4_changed_181 rfl (lv_at hl 1 rfl) ?_
                      refine lv_iload_n hx hb dX4_changed_182 rfl (lv_at hl 2 rfl) ?_
                      refine lv_bipush (v := 28) hx hb dX4_changed_183 (by decide) ?_
                      refine lv_icmp_ne (tgt := 192) hx hb dX4_changed_185 (by decide) (fun c_185_166 => ?_) (fun c_185_166 => ?_)
                      · have nc_185_166 : ¬ o = 28 := fun q => c_185_166 ((nI_eq (a := o) (b := 28) (by omega) (by omega)).mpr q)
                        refine lv_iload_n hx hb dX4_changed_192 rfl (lv_at hl 0 rfl) ?_
                        refine lv_sipush (v := 255) hx hb dX4_changed_193 (by decide) ?_
                        refine lv_iand hx hb dX4_changed_196 ?_
                        obtain ⟨k_167, hk_167, ek_167⟩ := pk_andE (nI (v + k_160)) (m := 255) 8 (by decide)
                        have hk_167 : k_167 < 256 := hk_167
                        refine tk (y := nI k_167) ek_167 ?_
                        refine kVv (n3 := 1) (As := [.int (nI k_167)]) (rest := []) X hl.1 hE hP hD hS hA [(h0, .inr (4, [.ref hn, .ref hs, .ref hd, .ref hp, .ref hc, .int wy2_162, .int dn2_163])), (hn, .inl (cA, 34, .inl f2_164))] [] [0, 1] [] rfl rfl rfl (by decide +kernel) (by decide +kernel) (by decide +kernel) (c_s_setNz l D cA cB h0 hn hs hd hp hc wy2_162 dn2_163 f2_164 k_167 hf_165 (by first | assumption | decide | rfl | omega)) w_87 w_66 w_86 w_88 w_89 0 (ci := 4) (T := TX4) (N := 7) rfl rfl (by decide +kernel) rfl rfl (Nat.le_of_ble_eq_true rfl) ⟨(Nat.le_of_ble_eq_true rfl), (Nat.le_of_ble_eq_true rfl)⟩ ⟨(Nat.le_of_ble_eq_true rfl), (Nat.le_of_ble_eq_true rfl)⟩ dX4_changed_197 (fun W1 H locs hw hP hD hS => ?_)
                        obtain ⟨wy2_168, dn2_169, f2_170, hf_171, rfl⟩ := hw
                        have hP : va_P D classes [(h0, .inr (4, [.ref hn, .ref hs, .ref hd, .ref hp, .ref hc, .int wy2_168, .int dn2_169])), (hn, .inl (cA, 34, .inl f2_170))] H := hP
                        have hD : va_D A [(h0, .inr (4, [.ref hn, .ref hs, .ref hd, .ref hp, .ref hc, .int wy2_168, .int dn2_169])), (hn, .inl (cA, 34, .inl f2_170))] := hD
                        refine lv_iload_n hx hb dX4_changed_200 rfl (lv_at hl 0 rfl) ?_
                        refine lv_sipush (v := 255) hx hb dX4_changed_201 (by decide) ?_
                        refine lv_iand hx hb dX4_changed_204 ?_
                        obtain ⟨k_172, hk_172, ek_172⟩ := pk_andE (nI (v + k_160)) (m := 255) 8 (by decide)
                        have hk_172 : k_172 < 256 := hk_172
                        refine tk (y := nI k_172) ek_172 ?_
                        exact endI X hr hlocks hP hD hS dX4_changed_205 ⟨wy2_168, dn2_169, f2_170, k_172, rfl, hf_171, (by omega), rfl⟩
                      · have nc_185_166 : o = 28 := (nI_eq (a := o) (b := 28) (by omega) (by omega)).mp c_185_166
                        refine lv_iload_n hx hb dX4_changed_188 rfl (lv_at hl 3 rfl) ?_
                        refine lv_goto (tgt := 197) hx hb dX4_changed_189 (by decide) ?_
                        refine kVv (n3 := 1) (As := [.int (nI v)]) (rest := []) X hl.1 hE hP hD hS hA [(h0, .inr (4, [.ref hn, .ref hs, .ref hd, .ref hp, .ref hc, .int wy2_162, .int dn2_163])), (hn, .inl (cA, 34, .inl f2_164))] [] [0, 1] [] rfl rfl rfl (by decide +kernel) (by decide +kernel) (by decide +kernel) (c_s_setNz l D cA cB h0 hn hs hd hp hc wy2_162 dn2_163 f2_164 v hf_165 (by first | assumption | decide | rfl | omega)) w_87 w_66 w_86 w_88 w_89 0 (ci := 4) (T := TX4) (N := 7) rfl rfl (by decide +kernel) rfl rfl (Nat.le_of_ble_eq_true rfl) ⟨(Nat.le_of_ble_eq_true rfl), (Nat.le_of_ble_eq_true rfl)⟩ ⟨(Nat.le_of_ble_eq_true rfl), (Nat.le_of_ble_eq_true rfl)⟩ dX4_changed_197 (fun W1 H locs hw hP hD hS => ?_)
                        obtain ⟨wy2_173, dn2_174, f2_175, hf_176, rfl⟩ := hw
                        have hP : va_P D classes [(h0, .inr (4, [.ref hn, .ref hs, .ref hd, .ref hp, .ref hc, .int wy2_173, .int dn2_174])), (hn, .inl (cA, 34, .inl f2_175))] H := hP
                        have hD : va_D A [(h0, .inr (4, [.ref hn, .ref hs, .ref hd, .ref hp, .ref hc, .int wy2_173, .int dn2_174])), (hn, .inl (cA, 34, .inl f2_175))] := hD
                        refine lv_iload_n hx hb dX4_changed_200 rfl (lv_at hl 0 rfl) ?_
                        refine lv_sipush (v := 255) hx hb dX4_changed_201 (by decide) ?_
                        refine lv_iand hx hb dX4_changed_204 ?_
                        obtain ⟨k_177, hk_177, ek_177⟩ := pk_andE (nI (v + k_160)) (m := 255) 8 (by decide)
                        have hk_177 : k_177 < 256 := hk_177
                        refine tk (y := nI k_177) ek_177 ?_
                        exact endI X hr hlocks hP hD hS dX4_changed_205 ⟨wy2_173, dn2_174, f2_175, k_177, rfl, hf_176, (by omega), rfl⟩
                    · have nc_170_161 : 255 < (v + k_160) := Nat.not_le.mp (fun q => c_170_161 ((nI_leI (a := v + k_160) (b := 255) (by omega) (by omega)).mpr q))
                      refine lv_iconst (v := 1) hx hb dX4_changed_173 (by decide) ?_
                      refine lv_goto (tgt := 178) hx hb dX4_changed_174 (by decide) ?_
                      refine kVv (n3 := 2) (As := [.int 1, .int 1]) (rest := []) X hl.1 hE hP hD hS hA [(h0, .inr (4, [.ref hn, .ref hs, .ref hd, .ref hp, .ref hc, .int wy, .int dn])), (hn, .inl (cA, 34, .inl f))] [] [0, 1] [] rfl rfl rfl (by decide +kernel) (by decide +kernel) (by decide +kernel) (c_s_setFlag l D cA cB h0 hn hs hd hp hc wy dn f 1 1 hf (by first | assumption | decide | rfl | omega) (by first | assumption | decide | rfl | omega)) w_95 w_66 w_94 w_96 w_97 0 (ci := 4) (T := TX4) (N := 7) rfl rfl (by decide +kernel) rfl rfl (Nat.le_of_ble_eq_true rfl) ⟨(Nat.le_of_ble_eq_true rfl), (Nat.le_of_ble_eq_true rfl)⟩ ⟨(Nat.le_of_ble_eq_true rfl), (Nat.le_of_ble_eq_true rfl)⟩ dX4_changed_178 (fun W1 H locs hw hP hD hS => ?_)
                      obtain ⟨wy2_178, dn2_179, f2_180, hf_181, rfl⟩ := hw
                      have hP : va_P D classes [(h0, .inr (4, [.ref hn, .ref hs, .ref hd, .ref hp, .ref hc, .int wy2_178, .int dn2_179])), (hn, .inl (cA, 34, .inl f2_180))] H := hP
                      have hD : va_D A [(h0, .inr (4, [.ref hn, .ref hs, .ref hd, .ref hp, .ref hc, .int wy2_178, .int dn2_179])), (hn, .inl (cA, 34, .inl f2_180))] := hD
                      refine lv_aload_n hx hb dX4_changed_181 rfl (lv_at hl 1 rfl) ?_
                      refine lv_iload_n hx hb dX4_changed_182 rfl (lv_at hl 2 rfl) ?_
                      refine lv_bipush (v := 28) hx hb dX4_changed_183 (by decide) ?_
                      refine lv_icmp_ne (tgt := 192) hx hb dX4_changed_185 (by decide) (fun c_185_182 => ?_) (fun c_185_182 => ?_)
                      · have nc_185_182 : ¬ o = 28 := fun q => c_185_182 ((nI_eq (a := o) (b := 28) (by omega) (by omega)).mpr q)
                        refine lv_iload_n hx hb dX4_changed_192 rfl (lv_at hl 0 rfl) ?_
                        refine lv_sipush (v := 255) hx hb dX4_changed_193 (by decide) ?_
                        refine lv_iand hx hb dX4_changed_196 ?_
                        obtain ⟨k_183, hk_183, ek_183⟩ := pk_andE (nI (v + k_160)) (m := 255) 8 (by decide)
                        have hk_183 : k_183 < 256 := hk_183
                        refine tk (y := nI k_183) ek_183 ?_
                        refine kVv (n3 := 1) (As := [.int (nI k_183)]) (rest := []) X hl.1 hE hP hD hS hA [(h0, .inr (4, [.ref hn, .ref hs, .ref hd, .ref hp, .ref hc, .int wy2_178, .int dn2_179])), (hn, .inl (cA, 34, .inl f2_180))] [] [0, 1] [] rfl rfl rfl (by decide +kernel) (by decide +kernel) (by decide +kernel) (c_s_setNz l D cA cB h0 hn hs hd hp hc wy2_178 dn2_179 f2_180 k_183 hf_181 (by first | assumption | decide | rfl | omega)) w_87 w_66 w_86 w_88 w_89 0 (ci := 4) (T := TX4) (N := 7) rfl rfl (by decide +kernel) rfl rfl (Nat.le_of_ble_eq_true rfl) ⟨(Nat.le_of_ble_eq_true rfl), (Nat.le_of_ble_eq_true rfl)⟩ ⟨(Nat.le_of_ble_eq_true rfl), (Nat.le_of_ble_eq_true rfl)⟩ dX4_changed_197 (fun W1 H locs hw hP hD hS => ?_)
                        obtain ⟨wy2_184, dn2_185, f2_186, hf_187, rfl⟩ := hw
                        have hP : va_P D classes [(h0, .inr (4, [.ref hn, .ref hs, .ref hd, .ref hp, .ref hc, .int wy2_184, .int dn2_185])), (hn, .inl (cA, 34, .inl f2_186))] H := hP
                        have hD : va_D A [(h0, .inr (4, [.ref hn, .ref hs, .ref hd, .ref hp, .ref hc, .int wy2_184, .int dn2_185])), (hn, .inl (cA, 34, .inl f2_186))] := hD
                        refine lv_iload_n hx hb dX4_changed_200 rfl (lv_at hl 0 rfl) ?_
                        refine lv_sipush (v := 255) hx hb dX4_changed_201 (by decide) ?_
                        refine lv_iand hx hb dX4_changed_204 ?_
                        obtain ⟨k_188, hk_188, ek_188⟩ := pk_andE (nI (v + k_160)) (m := 255) 8 (by decide)
                        have hk_188 : k_188 < 256 := hk_188
                        refine tk (y := nI k_188) ek_188 ?_
                        exact endI X hr hlocks hP hD hS dX4_changed_205 ⟨wy2_184, dn2_185, f2_186, k_188, rfl, hf_187, (by omega), rfl⟩
                      · have nc_185_182 : o = 28 := (nI_eq (a := o) (b := 28) (by omega) (by omega)).mp c_185_182
                        refine lv_iload_n hx hb dX4_changed_188 rfl (lv_at hl 3 rfl) ?_
                        refine lv_goto (tgt := 197) hx hb dX4_changed_189 (by decide) ?_
                        refine kVv (n3 := 1) (As := [.int (nI v)]) (rest := []) X hl.1 hE hP hD hS hA [(h0, .inr (4, [.ref hn, .ref hs, .ref hd, .ref hp, .ref hc, .int wy2_178, .int dn2_179])), (hn, .inl (cA, 34, .inl f2_180))] [] [0, 1] [] rfl rfl rfl (by decide +kernel) (by decide +kernel) (by decide +kernel) (c_s_setNz l D cA cB h0 hn hs hd hp hc wy2_178 dn2_179 f2_180 v hf_181 (by first | assumption | decide | rfl | omega)) w_87 w_66 w_86 w_88 w_89 0 (ci := 4) (T := TX4) (N := 7) rfl rfl (by decide +kernel) rfl rfl (Nat.le_of_ble_eq_true rfl) ⟨(Nat.le_of_ble_eq_true rfl), (Nat.le_of_ble_eq_true rfl)⟩ ⟨(Nat.le_of_ble_eq_true rfl), (Nat.le_of_ble_eq_true rfl)⟩ dX4_changed_197 (fun W1 H locs hw hP hD hS => ?_)
                        obtain ⟨wy2_189, dn2_190, f2_191, hf_192, rfl⟩ := hw
                        have hP : va_P D classes [(h0, .inr (4, [.ref hn, .ref hs, .ref hd, .ref hp, .ref hc, .int wy2_189, .int dn2_190])), (hn, .inl (cA, 34, .inl f2_191))] H := hP
                        have hD : va_D A [(h0, .inr (4, [.ref hn, .ref hs, .ref hd, .ref hp, .ref hc, .int wy2_189, .int dn2_190])), (hn, .inl (cA, 34, .inl f2_191))] := hD
                        refine lv_iload_n hx hb dX4_changed_200 rfl (lv_at hl 0 rfl) ?_
                        refine lv_sipush (v := 255) hx hb dX4_changed_201 (by decide) ?_
                        refine lv_iand hx hb dX4_changed_204 ?_
                        obtain ⟨k_193, hk_193, ek_193⟩ := pk_andE (nI (v + k_160)) (m := 255) 8 (by decide)
                        have hk_193 : k_193 < 256 := hk_193
                        refine tk (y := nI k_193) ek_193 ?_
                        exact endI X hr hlocks hP hD hS dX4_changed_205 ⟨wy2_189, dn2_190, f2_191, k_193, rfl, hf_192, (by omega), rfl⟩
set_option maxHeartbeats 4000000 in
set_option maxRecDepth 100000 in
theorem c_s_doEnding (l : Launch) (D : va_G) (cA cB : ClassId) (h0 : Nat) (hn : Nat) (hs : Nat) (hd : Nat) (hp : Nat) (hc : Nat) (wy : Int32) (dn : Int32) (f : Nat → Int32) (st : Nat → Int32) (o : Nat) (hf : okN f) (hst : ∀ j, j < 4096 → ∃ k : Nat, k < 256 ∧ st j = nI k) (ho : o < 4) : CI l yX4_doEnding cX4_doEnding 2 (some .int) 2 41 0 0 D cA cB [.ref h0, .int (nI o)] [(h0, .inr (4, [.ref hn, .ref hs, .ref hd, .ref hp, .ref hc, .int wy, .int dn])), (hn, .inl (cA, 34, .inl f)), (hs, .inl (cA, 4096, .inl st))] (fun r W1 => ∃ (wy2 : Int32) (dn2 : Int32) (f2 : Nat → Int32) (st2 : Nat → Int32) (rk : Nat), r = nI rk ∧ (okN f2) ∧ (∀ j, j < 4096 → ∃ k : Nat, k < 256 ∧ st2 j = nI k) ∧ (rk < 1000) ∧ W1 = [(h0, .inr (4, [.ref hn, .ref hs, .ref hd, .ref hp, .ref hc, .int wy2, .int dn2])), (hn, .inl (cA, 34, .inl f2)), (hs, .inl (cA, 4096, .inl st2))]) := by
  refine mkI (lv0 := [(0, .ref h0), (1, .int (nI o))]) (by decide) (Nat.le_of_ble_eq_true rfl) rfl ?_
  intro p e s m below meth c A ls X hr hlocks hnm hE hA hP hD hS hl
  have hx := X.1
  have hb := X.2.1
  refine lv_iload_n hx hb dX4_doEnding_0 rfl (lv_at hl 1 rfl) ?_
  refine lv_if_ne (tgt := 6) hx hb dX4_doEnding_1 (by decide) (fun c_1_1 => ?_) (fun c_1_1 => ?_)
  · have nc_1_1 : ¬ o = 0 := fun q => c_1_1 ((nI_eq (a := o) (b := 0) (by omega) (by omega)).mpr q)
    refine lv_iload_n hx hb dX4_doEnding_6 rfl (lv_at hl 1 rfl) ?_
    refine lv_iconst (v := 3) hx hb dX4_doEnding_7 (by decide) ?_
    refine lv_icmp_ne (tgt := 21) hx hb dX4_doEnding_8 (by decide) (fun c_8_2 => ?_) (fun c_8_2 => ?_)
    · have nc_8_2 : ¬ o = 3 := fun q => c_8_2 ((nI_eq (a := o) (b := 3) (by omega) (by omega)).mpr q)
      refine lv_iload_n hx hb dX4_doEnding_21 rfl (lv_at hl 1 rfl) ?_
      refine lv_iconst (v := 2) hx hb dX4_doEnding_22 (by decide) ?_
      refine lv_icmp_ne (tgt := 40) hx hb dX4_doEnding_23 (by decide) (fun c_23_3 => ?_) (fun c_23_3 => ?_)
      · have nc_23_3 : ¬ o = 2 := fun q => c_23_3 ((nI_eq (a := o) (b := 2) (by omega) (by omega)).mpr q)
        refine lv_aload_n hx hb dX4_doEnding_40 rfl (lv_at hl 0 rfl) ?_
        refine kVv (n3 := 0) (As := []) (rest := []) X hl.1 hE hP hD hS hA [(h0, .inr (4, [.ref hn, .ref hs, .ref hd, .ref hp, .ref hc, .int wy, .int dn])), (hn, .inl (cA, 34, .inl f)), (hs, .inl (cA, 4096, .inl st))] [] [0, 1, 2] [] rfl rfl rfl (by decide +kernel) (by decide +kernel) (by decide +kernel) (c_s_pullPlace l D cA cB h0 hn hs hd hp hc wy dn f st hf hst) w_158 w_66 w_157 w_159 w_160 0 (ci := 4) (T := TX4) (N := 7) rfl rfl (by decide +kernel) rfl rfl (Nat.le_of_ble_eq_true rfl) ⟨(Nat.le_of_ble_eq_true rfl), (Nat.le_of_ble_eq_true rfl)⟩ ⟨(Nat.le_of_ble_eq_true rfl), (Nat.le_of_ble_eq_true rfl)⟩ dX4_doEnding_41 (fun W1 H locs hw hP hD hS => ?_)
        obtain ⟨wy2_4, dn2_5, f2_6, st2_7, hf_8, hf_9, rfl⟩ := hw
        have hP : va_P D classes [(h0, .inr (4, [.ref hn, .ref hs, .ref hd, .ref hp, .ref hc, .int wy2_4, .int dn2_5])), (hn, .inl (cA, 34, .inl f2_6)), (hs, .inl (cA, 4096, .inl st2_7))] H := hP
        have hD : va_D A [(h0, .inr (4, [.ref hn, .ref hs, .ref hd, .ref hp, .ref hc, .int wy2_4, .int dn2_5])), (hn, .inl (cA, 34, .inl f2_6)), (hs, .inl (cA, 4096, .inl st2_7))] := hD
        refine lv_bipush (v := 6) hx hb dX4_doEnding_44 (by decide) ?_
        exact endI X hr hlocks hP hD hS dX4_doEnding_46 ⟨wy2_4, dn2_5, f2_6, st2_7, 6, rfl, hf_8, hf_9, (by omega), rfl⟩
      · have nc_23_3 : o = 2 := (nI_eq (a := o) (b := 2) (by omega) (by omega)).mp c_23_3
        refine lv_aload_n hx hb dX4_doEnding_26 rfl (lv_at hl 0 rfl) ?_
        refine k_get (C := RX4) (T := TX4) (N := 7) (ci := 4) (v := .ref hn) X hE hP 0 rfl rfl iX4 0 (by decide) w_69 rfl dX4_doEnding_27 ?_
        refine lv_iconst (v := 5) hx hb dX4_doEnding_30 (by decide) ?_
        refine lv_aload_n hx hb dX4_doEnding_31 rfl (lv_at hl 0 rfl) ?_
        refine kVi (n3 := 0) (As := []) (rest := [.int 5, .ref hn]) X hl.1 hE hP hD hS hA [(h0, .inr (4, [.ref hn, .ref hs, .ref hd, .ref hp, .ref hc, .int wy, .int dn])), (hn, .inl (cA, 34, .inl f)), (hs, .inl (cA, 4096, .inl st))] [] [0, 1, 2] [] rfl rfl rfl (by decide +kernel) (by decide +kernel) (by decide +kernel) (c_s_pull l D cA cB h0 hn hs hd hp hc wy dn f st hf hst) w_122 w_66 w_121 w_123 w_124 0 (ci := 4) (T := TX4) (N := 7) rfl rfl (by decide +kernel) rfl rfl (Nat.le_of_ble_eq_true rfl) ⟨(Nat.le_of_ble_eq_true rfl), (Nat.le_of_ble_eq_true rfl)⟩ ⟨(Nat.le_of_ble_eq_true rfl), (Nat.le_of_ble_eq_true rfl)⟩ dX4_doEnding_32 (fun r W1 H locs hw hP hD hS => ?_)
        obtain ⟨wy2_10, dn2_11, f2_12, st2_13, rk_14, rfl, hf_15, hf_16, hf_17, rfl⟩ := hw
        have hP : va_P D classes [(h0, .inr (4, [.ref hn, .ref hs, .ref hd, .ref hp, .ref hc, .int wy2_10, .int dn2_11])), (hn, .inl (cA, 34, .inl f2_12)), (hs, .inl (cA, 4096, .inl st2_13))] H := hP
        have hD : va_D A [(h0, .inr (4, [.ref hn, .ref hs, .ref hd, .ref hp, .ref hc, .int wy2_10, .int dn2_11])), (hn, .inl (cA, 34, .inl f2_12)), (hs, .inl (cA, 4096, .inl st2_13))] := hD
        refine lv_sipush (v := 199) hx hb dX4_doEnding_35 (by decide) ?_
        refine lv_iand hx hb dX4_doEnding_38 ?_
        obtain ⟨k_18, hk_18, ek_18⟩ := sf_and (a := rk_14) (by omega) 199 (by omega : rk_14 < 256)
        have hk_18 : k_18 < 256 := hk_18
        refine tk (y := nI k_18) ek_18 ?_
        refine k_ast X hE hP hD hS 1 rfl 5 rfl (by decide) (by decide) [(h0, .inr (4, [.ref hn, .ref hs, .ref hd, .ref hp, .ref hc, .int wy2_10, .int dn2_11])), (hn, .inl (cA, 34, .inl (upd f2_12 5 (nI k_18)))), (hs, .inl (cA, 4096, .inl st2_13))] rfl dX4_doEnding_39 (fun H locs hP hD hS => ?_)
        obtain ⟨g_19, eg_19⟩ : ∃ z, z = upd f2_12 5 (nI k_18) := ⟨_, rfl⟩
        rw [← eg_19] at hP hD
        have hg_19 := okN_upd hf_15 5 (nI k_18) (inR_of (k := k_18) rfl (by omega))
        rw [← eg_19] at hg_19
        have hP : va_P D classes [(h0, .inr (4, [.ref hn, .ref hs, .ref hd, .ref hp, .ref hc, .int wy2_10, .int dn2_11])), (hn, .inl (cA, 34, .inl g_19)), (hs, .inl (cA, 4096, .inl st2_13))] H := hP
        have hD : va_D A [(h0, .inr (4, [.ref hn, .ref hs, .ref hd, .ref hp, .ref hc, .int wy2_10, .int dn2_11])), (hn, .inl (cA, 34, .inl g_19)), (hs, .inl (cA, 4096, .inl st2_13))] := hD
        refine lv_aload_n hx hb dX4_doEnding_40 rfl (lv_at hl 0 rfl) ?_
        refine kVv (n3 := 0) (As := []) (rest := []) X hl.1 hE hP hD hS hA [(h0, .inr (4, [.ref hn, .ref hs, .ref hd, .ref hp, .ref hc, .int wy2_10, .int dn2_11])), (hn, .inl (cA, 34, .inl g_19)), (hs, .inl (cA, 4096, .inl st2_13))] [] [0, 1, 2] [] rfl rfl rfl (by decide +kernel) (by decide +kernel) (by decide +kernel) (c_s_pullPlace l D cA cB h0 hn hs hd hp hc wy2_10 dn2_11 g_19 st2_13 hg_19 hf_16) w_158 w_66 w_157 w_159 w_160 0 (ci := 4) (T := TX4) (N := 7) rfl rfl (by decide +kernel) rfl rfl (Nat.le_of_ble_eq_true rfl) ⟨(Nat.le_of_ble_eq_true rfl), (Nat.le_of_ble_eq_true rfl)⟩ ⟨(Nat.le_of_ble_eq_true rfl), (Nat.le_of_ble_eq_true rfl)⟩ dX4_doEnding_41 (fun W1 H locs hw hP hD hS => ?_)
        obtain ⟨wy2_20, dn2_21, f2_22, st2_23, hf_24, hf_25, rfl⟩ := hw
        have hP : va_P D classes [(h0, .inr (4, [.ref hn, .ref hs, .ref hd, .ref hp, .ref hc, .int wy2_20, .int dn2_21])), (hn, .inl (cA, 34, .inl f2_22)), (hs, .inl (cA, 4096, .inl st2_23))] H := hP
        have hD : va_D A [(h0, .inr (4, [.ref hn, .ref hs, .ref hd, .ref hp, .ref hc, .int wy2_20, .int dn2_21])), (hn, .inl (cA, 34, .inl f2_22)), (hs, .inl (cA, 4096, .inl st2_23))] := hD
        refine lv_bipush (v := 6) hx hb dX4_doEnding_44 (by decide) ?_
        exact endI X hr hlocks hP hD hS dX4_doEnding_46 ⟨wy2_20, dn2_21, f2_22, st2_23, 6, rfl, hf_24, hf_25, (by omega), rfl⟩
    · have nc_8_2 : o = 3 := (nI_eq (a := o) (b := 3) (by omega) (by omega)).mp c_8_2
      refine lv_aload_n hx hb dX4_doEnding_11 rfl (lv_at hl 0 rfl) ?_
      refine k_get (C := RX4) (T := TX4) (N := 7) (ci := 4) (v := .ref hn) X hE hP 0 rfl rfl iX4 0 (by decide) w_69 rfl dX4_doEnding_12 ?_
      refine lv_bipush (v := 6) hx hb dX4_doEnding_15 (by decide) ?_
      refine lv_iconst (v := 1) hx hb dX4_doEnding_17 (by decide) ?_
      refine k_ast X hE hP hD hS 1 rfl 6 rfl (by decide) (by decide) [(h0, .inr (4, [.ref hn, .ref hs, .ref hd, .ref hp, .ref hc, .int wy, .int dn])), (hn, .inl (cA, 34, .inl (upd f 6 1))), (hs, .inl (cA, 4096, .inl st))] rfl dX4_doEnding_18 (fun H locs hP hD hS => ?_)
      obtain ⟨g_26, eg_26⟩ : ∃ z, z = upd f 6 1 := ⟨_, rfl⟩
      rw [← eg_26] at hP hD
      have hg_26 := okN_upd hf 6 1 (inR_any rfl)
      rw [← eg_26] at hg_26
      have hP : va_P D classes [(h0, .inr (4, [.ref hn, .ref hs, .ref hd, .ref hp, .ref hc, .int wy, .int dn])), (hn, .inl (cA, 34, .inl g_26)), (hs, .inl (cA, 4096, .inl st))] H := hP
      have hD : va_D A [(h0, .inr (4, [.ref hn, .ref hs, .ref hd, .ref hp, .ref hc, .int wy, .int dn])), (hn, .inl (cA, 34, .inl g_26)), (hs, .inl (cA, 4096, .inl st))] := hD
      refine lv_iconst (v := 2) hx hb dX4_doEnding_19 (by decide) ?_
      exact endI X hr hlocks hP hD hS dX4_doEnding_20 ⟨wy, dn, g_26, st, 2, rfl, hg_26, hst, (by omega), rfl⟩
  · have nc_1_1 : o = 0 := (nI_eq (a := o) (b := 0) (by omega) (by omega)).mp c_1_1
    refine lv_iconst (v := 2) hx hb dX4_doEnding_4 (by decide) ?_
    exact endI X hr hlocks hP hD hS dX4_doEnding_5 ⟨wy, dn, f, st, 2, rfl, hf, hst, (by omega), rfl⟩
