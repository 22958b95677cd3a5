set_option maxRecDepth 100000 in
theorem w_1 : (Cond.methodLink "BelfryBox$Stops" 3 ⟨"java/lang/Object", "<init>", "()V"⟩ : Cond) ∈ gw := List.mem_filter.mpr ⟨List.mem_append_right _ (tb1 (List.mem_of_getElem? (i := 106) rfl)), rfl⟩
set_option maxRecDepth 100000 in
theorem w_2 : (Cond.instanceMethod ⟨"java/lang/Object", "<init>", "()V"⟩ : Cond) ∈ gw := List.mem_filter.mpr ⟨List.mem_append_right _ (tb1 (List.mem_of_getElem? (i := 25) rfl)), rfl⟩
set_option maxRecDepth 100000 in
theorem w_3 : (Cond.code ⟨"java/lang/Object", "<init>", "()V"⟩ object_method_1_code 1 (Option.none : Option Jvm.ClassFile.FieldType) : Cond) ∈ gw := List.mem_filter.mpr ⟨List.mem_append_right _ (tb1 (List.mem_of_getElem? (i := 26) rfl)), rfl⟩
set_option maxRecDepth 100000 in
theorem w_4 : (Cond.arrayClass Jvm.ClassFile.FieldType.int : Cond) ∈ gw := List.mem_filter.mpr ⟨List.mem_append_right _ (tb1 (List.mem_of_getElem? (i := 52) rfl)), rfl⟩
set_option maxRecDepth 100000 in
theorem w_5 : (Cond.fieldLink "BelfryBox$Stops" 11 "BelfryBox$Stops" "places" "[I" : Cond) ∈ gw := List.mem_filter.mpr ⟨List.mem_append_right _ (tb1 (List.mem_of_getElem? (i := 107) rfl)), rfl⟩
set_option maxRecDepth 100000 in
theorem w_6 : (Cond.methodLink "BelfryBox$Past" 5 ⟨"java/lang/Object", "<init>", "()V"⟩ : Cond) ∈ gw := List.mem_filter.mpr ⟨List.mem_append_right _ (tb1 (List.mem_of_getElem? (i := 58) rfl)), rfl⟩
set_option maxRecDepth 100000 in
theorem w_7 : (Cond.fieldLink "BelfryBox$Past" 11 "BelfryBox$Past" "entries" "[I" : Cond) ∈ gw := List.mem_filter.mpr ⟨List.mem_append_right _ (tb1 (List.mem_of_getElem? (i := 59) rfl)), rfl⟩
set_option maxRecDepth 100000 in
theorem w_8 : (Cond.methodLink "BelfryBox$Reader" 3 ⟨"java/lang/Object", "<init>", "()V"⟩ : Cond) ∈ gw := List.mem_filter.mpr ⟨List.mem_append_right _ (tb2 (List.mem_of_getElem? (i := 13) rfl)), rfl⟩
set_option maxRecDepth 100000 in
theorem w_9 : (Cond.fieldLink "BelfryBox$Reader" 11 "BelfryBox$Reader" "letters" "[I" : Cond) ∈ gw := List.mem_filter.mpr ⟨List.mem_append_right _ (tb2 (List.mem_of_getElem? (i := 14) rfl)), rfl⟩
set_option maxRecDepth 100000 in
theorem w_10 : (Cond.methodLink "BelfryBox$Tape" 3 ⟨"java/lang/Object", "<init>", "()V"⟩ : Cond) ∈ gw := List.mem_filter.mpr ⟨List.mem_append_right _ (tb1 (List.mem_of_getElem? (i := 120) rfl)), rfl⟩
set_option maxRecDepth 100000 in
theorem w_11 : (Cond.fieldLink "BelfryBox$Tape" 11 "BelfryBox$Tape" "bytes" "[I" : Cond) ∈ gw := List.mem_filter.mpr ⟨List.mem_append_right _ (tb1 (List.mem_of_getElem? (i := 121) rfl)), rfl⟩
set_option maxRecDepth 100000 in
theorem w_12 : (Cond.methodLink "BelfryBox$Names" 3 ⟨"java/lang/Object", "<init>", "()V"⟩ : Cond) ∈ gw := List.mem_filter.mpr ⟨List.mem_append_right _ (tb1 (List.mem_of_getElem? (i := 170) rfl)), rfl⟩
set_option maxRecDepth 100000 in
theorem w_13 : (Cond.fieldLink "BelfryBox$Names" 11 "BelfryBox$Names" "places" "[I" : Cond) ∈ gw := List.mem_filter.mpr ⟨List.mem_append_right _ (tb1 (List.mem_of_getElem? (i := 171) rfl)), rfl⟩
set_option maxRecDepth 100000 in
theorem w_14 : (Cond.fieldLink "BelfryBox$Names" 15 "BelfryBox$Names" "letters" "[I" : Cond) ∈ gw := List.mem_filter.mpr ⟨List.mem_append_right _ (tb1 (List.mem_of_getElem? (i := 172) rfl)), rfl⟩
set_option maxRecDepth 100000 in
theorem w_15 : (Cond.fieldLink "BelfryBox$Names" 18 "BelfryBox$Names" "values" "[I" : Cond) ∈ gw := List.mem_filter.mpr ⟨List.mem_append_right _ (tb1 (List.mem_of_getElem? (i := 173) rfl)), rfl⟩
set_option maxRecDepth 100000 in
theorem w_16 : (Cond.fieldLink "BelfryBox$Names" 21 "BelfryBox$Names" "equations" "[I" : Cond) ∈ gw := List.mem_filter.mpr ⟨List.mem_append_right _ (tb1 (List.mem_of_getElem? (i := 174) rfl)), rfl⟩
set_option maxRecDepth 100000 in
theorem w_17 : (Cond.methodLink "BelfryBox$Devices" 3 ⟨"java/lang/Object", "<init>", "()V"⟩ : Cond) ∈ gw := List.mem_filter.mpr ⟨List.mem_append_right _ (tb1 (List.mem_of_getElem? (i := 32) rfl)), rfl⟩
set_option maxRecDepth 100000 in
theorem w_18 : (Cond.fieldLink "BelfryBox$Devices" 9 "BelfryBox$Devices" "pins" "[I" : Cond) ∈ gw := List.mem_filter.mpr ⟨List.mem_append_right _ (tb1 (List.mem_of_getElem? (i := 34) rfl)), rfl⟩
set_option maxRecDepth 100000 in
theorem w_19 : (Cond.fieldLink "BelfryBox$Devices" 15 "BelfryBox$Devices" "waiting" "[I" : Cond) ∈ gw := List.mem_filter.mpr ⟨List.mem_append_right _ (tb1 (List.mem_of_getElem? (i := 36) rfl)), rfl⟩
set_option maxRecDepth 100000 in
theorem w_20 : (Cond.fieldLink "BelfryBox$Devices" 18 "BelfryBox$Devices" "rings" "[I" : Cond) ∈ gw := List.mem_filter.mpr ⟨List.mem_append_right _ (tb1 (List.mem_of_getElem? (i := 37) rfl)), rfl⟩
set_option maxRecDepth 100000 in
theorem w_21 : (Cond.fieldLink "BelfryBox$Devices" 21 "BelfryBox$Devices" "paper" "[I" : Cond) ∈ gw := List.mem_filter.mpr ⟨List.mem_append_right _ (tb1 (List.mem_of_getElem? (i := 39) rfl)), rfl⟩
set_option maxRecDepth 100000 in
theorem w_22 : (Cond.fieldLink "BelfryBox$Devices" 24 "BelfryBox$Devices" "now" "[I" : Cond) ∈ gw := List.mem_filter.mpr ⟨List.mem_append_right _ (tb1 (List.mem_of_getElem? (i := 33) rfl)), rfl⟩
set_option maxRecDepth 100000 in
theorem w_23 : (Cond.methodLink "BelfryBox$Processor" 3 ⟨"java/lang/Object", "<init>", "()V"⟩ : Cond) ∈ gw := List.mem_filter.mpr ⟨List.mem_append_right _ (tb1 (List.mem_of_getElem? (i := 75) rfl)), rfl⟩
set_option maxRecDepth 100000 in
theorem w_24 : (Cond.fieldLink "BelfryBox$Processor" 9 "BelfryBox$Processor" "counts" "[I" : Cond) ∈ gw := List.mem_filter.mpr ⟨List.mem_append_right _ (tb1 (List.mem_of_getElem? (i := 80) rfl)), rfl⟩
set_option maxRecDepth 100000 in
theorem w_25 : (Cond.fieldLink "BelfryBox$Processor" 15 "BelfryBox$Processor" "now" "[I" : Cond) ∈ gw := List.mem_filter.mpr ⟨List.mem_append_right _ (tb1 (List.mem_of_getElem? (i := 76) rfl)), rfl⟩
set_option maxRecDepth 100000 in
theorem w_26 : (Cond.fieldLink "BelfryBox$Processor" 18 "BelfryBox$Processor" "store" "[I" : Cond) ∈ gw := List.mem_filter.mpr ⟨List.mem_append_right _ (tb1 (List.mem_of_getElem? (i := 77) rfl)), rfl⟩
set_option maxRecDepth 100000 in
theorem w_27 : (Cond.fieldLink "BelfryBox$Processor" 21 "BelfryBox$Processor" "devices" "LBelfryBox$Devices;" : Cond) ∈ gw := List.mem_filter.mpr ⟨List.mem_append_right _ (tb1 (List.mem_of_getElem? (i := 78) rfl)), rfl⟩
set_option maxRecDepth 100000 in
theorem w_28 : (Cond.fieldLink "BelfryBox$Processor" 25 "BelfryBox$Processor" "past" "LBelfryBox$Past;" : Cond) ∈ gw := List.mem_filter.mpr ⟨List.mem_append_right _ (tb1 (List.mem_of_getElem? (i := 79) rfl)), rfl⟩
set_option maxRecDepth 100000 in
theorem w_29 : (Cond.methodLink "BelfryBox$Assembler" 3 ⟨"java/lang/Object", "<init>", "()V"⟩ : Cond) ∈ gw := List.mem_filter.mpr ⟨List.mem_append_right _ (tb1 (List.mem_of_getElem? (i := 164) rfl)), rfl⟩
set_option maxRecDepth 100000 in
theorem w_30 : (Cond.fieldLink "BelfryBox$Assembler" 9 "BelfryBox$Assembler" "image" "[I" : Cond) ∈ gw := List.mem_filter.mpr ⟨List.mem_append_right _ (tb1 (List.mem_of_getElem? (i := 190) rfl)), rfl⟩
set_option maxRecDepth 100000 in
theorem w_31 : (Cond.classLink "BelfryBox$Assembler" 15 "BelfryBox$Names" : Cond) ∈ gw := List.mem_filter.mpr ⟨List.mem_append_right _ (tb1 (List.mem_of_getElem? (i := 165) rfl)), rfl⟩
set_option maxRecDepth 100000 in
theorem w_32 : (Cond.instantiable "BelfryBox$Names" 5 : Cond) ∈ gw := List.mem_filter.mpr ⟨List.mem_append_right _ (tb1 (List.mem_of_getElem? (i := 166) rfl)), rfl⟩
set_option maxRecDepth 100000 in
theorem w_33 : (Cond.initialized "BelfryBox$Names" : Cond) ∈ gw := List.mem_filter.mpr ⟨List.mem_append_right _ (tb1 (List.mem_of_getElem? (i := 8) rfl)), rfl⟩
set_option maxRecDepth 100000 in
theorem w_34 : (Cond.code yX2_init prog_4_method_1_code 1 (Option.none : Option Jvm.ClassFile.FieldType) : Cond) ∈ gw := List.mem_filter.mpr ⟨List.mem_append_right _ (tb1 (List.mem_of_getElem? (i := 169) rfl)), rfl⟩
set_option maxRecDepth 100000 in
theorem w_35 : (Cond.instanceMethod yX2_init : Cond) ∈ gw := List.mem_filter.mpr ⟨List.mem_append_right _ (tb1 (List.mem_of_getElem? (i := 168) rfl)), rfl⟩
set_option maxRecDepth 100000 in
theorem w_36 : (Cond.fieldLink "BelfryBox$Assembler" 18 "BelfryBox$Assembler" "told" "LBelfryBox$Names;" : Cond) ∈ gw := List.mem_filter.mpr ⟨List.mem_append_right _ (tb1 (List.mem_of_getElem? (i := 191) rfl)), rfl⟩
set_option maxRecDepth 100000 in
theorem w_37 : (Cond.fieldLink "BelfryBox$Assembler" 22 "BelfryBox$Assembler" "settled" "LBelfryBox$Names;" : Cond) ∈ gw := List.mem_filter.mpr ⟨List.mem_append_right _ (tb1 (List.mem_of_getElem? (i := 192) rfl)), rfl⟩
set_option maxRecDepth 100000 in
theorem w_38 : (Cond.fieldLink "BelfryBox$Assembler" 25 "BelfryBox$Assembler" "faultKind" "I" : Cond) ∈ gw := List.mem_filter.mpr ⟨List.mem_append_right _ (tb1 (List.mem_of_getElem? (i := 194) rfl)), rfl⟩
set_option maxRecDepth 100000 in
theorem w_39 : (Cond.fieldLink "BelfryBox$Assembler" 29 "BelfryBox$Assembler" "faultPlace" "I" : Cond) ∈ gw := List.mem_filter.mpr ⟨List.mem_append_right _ (tb1 (List.mem_of_getElem? (i := 196) rfl)), rfl⟩
set_option maxRecDepth 100000 in
theorem w_40 : (Cond.fieldLink "BelfryBox$Assembler" 32 "BelfryBox$Assembler" "tape" "LBelfryBox$Tape;" : Cond) ∈ gw := List.mem_filter.mpr ⟨List.mem_append_right _ (tb1 (List.mem_of_getElem? (i := 189) rfl)), rfl⟩
set_option maxRecDepth 100000 in
theorem w_41 : (Cond.fieldLink "BelfryBox$Past" 15 "BelfryBox$Past" "kept" "I" : Cond) ∈ gw := List.mem_filter.mpr ⟨List.mem_append_right _ (tb1 (List.mem_of_getElem? (i := 61) rfl)), rfl⟩
set_option maxRecDepth 100000 in
theorem w_42 : (Cond.methodLink "BelfryBox$Processor" 66 yX4_byteAt : Cond) ∈ gw := List.mem_filter.mpr ⟨List.mem_append_right _ (tb2 (List.mem_of_getElem? (i := 38) rfl)), rfl⟩
set_option maxRecDepth 100000 in
theorem w_43 : (Cond.code yX4_byteAt prog_6_method_12_code 2 (Option.some Jvm.ClassFile.FieldType.int) : Cond) ∈ gw := List.mem_filter.mpr ⟨List.mem_append_right _ (tb2 (List.mem_of_getElem? (i := 41) rfl)), rfl⟩
set_option maxRecDepth 100000 in
theorem w_44 : (Cond.initialized "BelfryBox$Processor" : Cond) ∈ gw := List.mem_filter.mpr ⟨List.mem_append_right _ (tb1 (List.mem_of_getElem? (i := 4) rfl)), rfl⟩
set_option maxRecDepth 100000 in
theorem w_45 : (Cond.instanceMethod yX4_byteAt : Cond) ∈ gw := List.mem_filter.mpr ⟨List.mem_append_right _ (tb2 (List.mem_of_getElem? (i := 40) rfl)), rfl⟩
set_option maxRecDepth 100000 in
theorem w_46 : (Cond.selects "BelfryBox$Processor" yX4_byteAt yX4_byteAt : Cond) ∈ gw := List.mem_filter.mpr ⟨List.mem_append_left _ (List.mem_map.mpr ⟨(⟨"BelfryBox$Processor", "byteAt", "(I)I"⟩, 7), sl1 (List.mem_of_getElem? (i := 2) rfl), rfl⟩), rfl⟩
set_option maxRecDepth 100000 in
theorem w_47 : (Cond.methodLink "BelfryBox$Processor" 43 yX4_placeAt : Cond) ∈ gw := List.mem_filter.mpr ⟨List.mem_append_right _ (tb2 (List.mem_of_getElem? (i := 34) rfl)), rfl⟩
set_option maxRecDepth 100000 in
theorem w_48 : (Cond.code yX4_placeAt prog_6_method_17_code 2 (Option.some Jvm.ClassFile.FieldType.int) : Cond) ∈ gw := List.mem_filter.mpr ⟨List.mem_append_right _ (tb2 (List.mem_of_getElem? (i := 37) rfl)), rfl⟩
set_option maxRecDepth 100000 in
theorem w_49 : (Cond.instanceMethod yX4_placeAt : Cond) ∈ gw := List.mem_filter.mpr ⟨List.mem_append_right _ (tb2 (List.mem_of_getElem? (i := 36) rfl)), rfl⟩
set_option maxRecDepth 100000 in
theorem w_50 : (Cond.selects "BelfryBox$Processor" yX4_placeAt yX4_placeAt : Cond) ∈ gw := List.mem_filter.mpr ⟨List.mem_append_left _ (List.mem_map.mpr ⟨(⟨"BelfryBox$Processor", "placeAt", "(I)I"⟩, 7), sl1 (List.mem_of_getElem? (i := 1) rfl), rfl⟩), rfl⟩
set_option maxRecDepth 100000 in
theorem w_51 : (Cond.methodLink "BelfryBox$Processor" 29 yJ7_fill_53178 : Cond) ∈ gw := List.mem_filter.mpr ⟨List.mem_append_right _ (tb2 (List.mem_of_getElem? (i := 27) rfl)), rfl⟩
set_option maxRecDepth 100000 in
theorem w_52 : (Cond.code yJ7_fill_53178 prog_18_method_103_code 4 (Option.none : Option Jvm.ClassFile.FieldType) : Cond) ∈ gw := List.mem_filter.mpr ⟨List.mem_append_right _ (tb2 (List.mem_of_getElem? (i := 29) rfl)), rfl⟩
set_option maxRecDepth 100000 in
theorem w_53 : (Cond.initialized "java/util/Arrays" : Cond) ∈ gw := List.mem_filter.mpr ⟨List.mem_append_right _ (tb1 (List.mem_of_getElem? (i := 10) rfl)), rfl⟩
set_option maxRecDepth 100000 in
theorem w_54 : (Cond.static yJ7_fill_53178 : Cond) ∈ gw := List.mem_filter.mpr ⟨List.mem_append_right _ (tb2 (List.mem_of_getElem? (i := 28) rfl)), rfl⟩
set_option maxRecDepth 100000 in
theorem w_55 : (Cond.methodLink "BelfryBox$Processor" 35 yX4_start : Cond) ∈ gw := List.mem_filter.mpr ⟨List.mem_append_right _ (tb2 (List.mem_of_getElem? (i := 30) rfl)), rfl⟩
set_option maxRecDepth 100000 in
theorem w_56 : (Cond.code yX4_start prog_6_method_3_code 1 (Option.none : Option Jvm.ClassFile.FieldType) : Cond) ∈ gw := List.mem_filter.mpr ⟨List.mem_append_right _ (tb2 (List.mem_of_getElem? (i := 33) rfl)), rfl⟩
set_option maxRecDepth 100000 in
theorem w_57 : (Cond.instanceMethod yX4_start : Cond) ∈ gw := List.mem_filter.mpr ⟨List.mem_append_right _ (tb2 (List.mem_of_getElem? (i := 32) rfl)), rfl⟩
set_option maxRecDepth 100000 in
theorem w_58 : (Cond.selects "BelfryBox$Processor" yX4_start yX4_start : Cond) ∈ gw := List.mem_filter.mpr ⟨List.mem_append_left _ (List.mem_map.mpr ⟨(⟨"BelfryBox$Processor", "start", "()V"⟩, 7), sl1 (List.mem_of_getElem? (i := 0) rfl), rfl⟩), rfl⟩
set_option maxRecDepth 100000 in
theorem w_59 : (Cond.methodLink "BelfryBox$Processor" 38 yX3_forget : Cond) ∈ gw := List.mem_filter.mpr ⟨List.mem_append_right _ (tb2 (List.mem_of_getElem? (i := 42) rfl)), rfl⟩
set_option maxRecDepth 100000 in
theorem w_60 : (Cond.code yX3_forget prog_5_method_2_code 1 (Option.none : Option Jvm.ClassFile.FieldType) : Cond) ∈ gw := List.mem_filter.mpr ⟨List.mem_append_right _ (tb2 (List.mem_of_getElem? (i := 45) rfl)), rfl⟩
set_option maxRecDepth 100000 in
theorem w_61 : (Cond.initialized "BelfryBox$Past" : Cond) ∈ gw := List.mem_filter.mpr ⟨List.mem_append_right _ (tb1 (List.mem_of_getElem? (i := 3) rfl)), rfl⟩
set_option maxRecDepth 100000 in
theorem w_62 : (Cond.instanceMethod yX3_forget : Cond) ∈ gw := List.mem_filter.mpr ⟨List.mem_append_right _ (tb2 (List.mem_of_getElem? (i := 43) rfl)), rfl⟩
set_option maxRecDepth 100000 in
theorem w_63 : (Cond.selects "BelfryBox$Past" yX3_forget yX3_forget : Cond) ∈ gw := List.mem_filter.mpr ⟨List.mem_append_right _ (tb2 (List.mem_of_getElem? (i := 44) rfl)), rfl⟩
set_option maxRecDepth 100000 in
theorem w_64 : (Cond.methodLink "BelfryBox" 1 ⟨"java/lang/Object", "<init>", "()V"⟩ : Cond) ∈ gw := List.mem_filter.mpr ⟨List.mem_append_right _ (tb1 (List.mem_of_getElem? (i := 24) rfl)), rfl⟩
set_option maxRecDepth 100000 in
theorem w_65 : (Cond.fieldLink "BelfryBox" 9 "BelfryBox" "now" "[I" : Cond) ∈ gw := List.mem_filter.mpr ⟨List.mem_append_right _ (tb2 (List.mem_of_getElem? (i := 46) rfl)), rfl⟩
set_option maxRecDepth 100000 in
theorem w_66 : (Cond.fieldLink "BelfryBox" 13 "BelfryBox" "store" "[I" : Cond) ∈ gw := List.mem_filter.mpr ⟨List.mem_append_right _ (tb2 (List.mem_of_getElem? (i := 47) rfl)), rfl⟩
set_option maxRecDepth 100000 in
theorem w_67 : (Cond.classLink "BelfryBox" 16 "BelfryBox$Devices" : Cond) ∈ gw := List.mem_filter.mpr ⟨List.mem_append_right _ (tb1 (List.mem_of_getElem? (i := 27) rfl)), rfl⟩
set_option maxRecDepth 100000 in
theorem w_68 : (Cond.instantiable "BelfryBox$Devices" 5 : Cond) ∈ gw := List.mem_filter.mpr ⟨List.mem_append_right _ (tb1 (List.mem_of_getElem? (i := 28) rfl)), rfl⟩
set_option maxRecDepth 100000 in
theorem w_69 : (Cond.initialized "BelfryBox$Devices" : Cond) ∈ gw := List.mem_filter.mpr ⟨List.mem_append_right _ (tb1 (List.mem_of_getElem? (i := 2) rfl)), rfl⟩
set_option maxRecDepth 100000 in
theorem w_70 : (Cond.methodLink "BelfryBox" 18 yX1_init : Cond) ∈ gw := List.mem_filter.mpr ⟨List.mem_append_right _ (tb1 (List.mem_of_getElem? (i := 29) rfl)), rfl⟩
set_option maxRecDepth 100000 in
theorem w_71 : (Cond.code yX1_init prog_3_method_1_code 2 (Option.none : Option Jvm.ClassFile.FieldType) : Cond) ∈ gw := List.mem_filter.mpr ⟨List.mem_append_right _ (tb1 (List.mem_of_getElem? (i := 31) rfl)), rfl⟩
set_option maxRecDepth 100000 in
theorem w_72 : (Cond.instanceMethod yX1_init : Cond) ∈ gw := List.mem_filter.mpr ⟨List.mem_append_right _ (tb1 (List.mem_of_getElem? (i := 30) rfl)), rfl⟩
set_option maxRecDepth 100000 in
theorem w_73 : (Cond.fieldLink "BelfryBox" 21 "BelfryBox" "devices" "LBelfryBox$Devices;" : Cond) ∈ gw := List.mem_filter.mpr ⟨List.mem_append_right _ (tb2 (List.mem_of_getElem? (i := 48) rfl)), rfl⟩
set_option maxRecDepth 100000 in
theorem w_74 : (Cond.classLink "BelfryBox" 25 "BelfryBox$Past" : Cond) ∈ gw := List.mem_filter.mpr ⟨List.mem_append_right _ (tb1 (List.mem_of_getElem? (i := 53) rfl)), rfl⟩
set_option maxRecDepth 100000 in
theorem w_75 : (Cond.instantiable "BelfryBox$Past" 3 : Cond) ∈ gw := List.mem_filter.mpr ⟨List.mem_append_right _ (tb1 (List.mem_of_getElem? (i := 54) rfl)), rfl⟩
set_option maxRecDepth 100000 in
theorem w_76 : (Cond.code yX3_init prog_5_method_1_code 1 (Option.none : Option Jvm.ClassFile.FieldType) : Cond) ∈ gw := List.mem_filter.mpr ⟨List.mem_append_right _ (tb1 (List.mem_of_getElem? (i := 57) rfl)), rfl⟩
set_option maxRecDepth 100000 in
theorem w_77 : (Cond.instanceMethod yX3_init : Cond) ∈ gw := List.mem_filter.mpr ⟨List.mem_append_right _ (tb1 (List.mem_of_getElem? (i := 56) rfl)), rfl⟩
set_option maxRecDepth 100000 in
theorem w_78 : (Cond.fieldLink "BelfryBox" 28 "BelfryBox" "past" "LBelfryBox$Past;" : Cond) ∈ gw := List.mem_filter.mpr ⟨List.mem_append_right _ (tb2 (List.mem_of_getElem? (i := 49) rfl)), rfl⟩
set_option maxRecDepth 100000 in
theorem w_79 : (Cond.classLink "BelfryBox" 32 "BelfryBox$Processor" : Cond) ∈ gw := List.mem_filter.mpr ⟨List.mem_append_right _ (tb1 (List.mem_of_getElem? (i := 70) rfl)), rfl⟩
set_option maxRecDepth 100000 in
theorem w_80 : (Cond.instantiable "BelfryBox$Processor" 7 : Cond) ∈ gw := List.mem_filter.mpr ⟨List.mem_append_right _ (tb1 (List.mem_of_getElem? (i := 71) rfl)), rfl⟩
set_option maxRecDepth 100000 in
theorem w_81 : (Cond.methodLink "BelfryBox" 34 yX4_init : Cond) ∈ gw := List.mem_filter.mpr ⟨List.mem_append_right _ (tb1 (List.mem_of_getElem? (i := 72) rfl)), rfl⟩
set_option maxRecDepth 100000 in
theorem w_82 : (Cond.code yX4_init prog_6_method_1_code 5 (Option.none : Option Jvm.ClassFile.FieldType) : Cond) ∈ gw := List.mem_filter.mpr ⟨List.mem_append_right _ (tb1 (List.mem_of_getElem? (i := 74) rfl)), rfl⟩
set_option maxRecDepth 100000 in
theorem w_83 : (Cond.instanceMethod yX4_init : Cond) ∈ gw := List.mem_filter.mpr ⟨List.mem_append_right _ (tb1 (List.mem_of_getElem? (i := 73) rfl)), rfl⟩
set_option maxRecDepth 100000 in
theorem w_84 : (Cond.fieldLink "BelfryBox" 37 "BelfryBox" "processor" "LBelfryBox$Processor;" : Cond) ∈ gw := List.mem_filter.mpr ⟨List.mem_append_right _ (tb2 (List.mem_of_getElem? (i := 50) rfl)), rfl⟩
set_option maxRecDepth 100000 in
theorem w_85 : (Cond.classLink "BelfryBox" 41 "BelfryBox$Stops" : Cond) ∈ gw := List.mem_filter.mpr ⟨List.mem_append_right _ (tb1 (List.mem_of_getElem? (i := 101) rfl)), rfl⟩
set_option maxRecDepth 100000 in
theorem w_86 : (Cond.instantiable "BelfryBox$Stops" 2 : Cond) ∈ gw := List.mem_filter.mpr ⟨List.mem_append_right _ (tb1 (List.mem_of_getElem? (i := 102) rfl)), rfl⟩
set_option maxRecDepth 100000 in
theorem w_87 : (Cond.initialized "BelfryBox$Stops" : Cond) ∈ gw := List.mem_filter.mpr ⟨List.mem_append_right _ (tb1 (List.mem_of_getElem? (i := 5) rfl)), rfl⟩
set_option maxRecDepth 100000 in
theorem w_88 : (Cond.code yX6_init prog_8_method_1_code 1 (Option.none : Option Jvm.ClassFile.FieldType) : Cond) ∈ gw := List.mem_filter.mpr ⟨List.mem_append_right _ (tb1 (List.mem_of_getElem? (i := 105) rfl)), rfl⟩
set_option maxRecDepth 100000 in
theorem w_89 : (Cond.instanceMethod yX6_init : Cond) ∈ gw := List.mem_filter.mpr ⟨List.mem_append_right _ (tb1 (List.mem_of_getElem? (i := 104) rfl)), rfl⟩
set_option maxRecDepth 100000 in
theorem w_90 : (Cond.fieldLink "BelfryBox" 44 "BelfryBox" "stops" "LBelfryBox$Stops;" : Cond) ∈ gw := List.mem_filter.mpr ⟨List.mem_append_right _ (tb2 (List.mem_of_getElem? (i := 51) rfl)), rfl⟩
set_option maxRecDepth 100000 in
theorem w_91 : (Cond.classLink "BelfryBox" 48 "BelfryBox$Tape" : Cond) ∈ gw := List.mem_filter.mpr ⟨List.mem_append_right _ (tb1 (List.mem_of_getElem? (i := 115) rfl)), rfl⟩
set_option maxRecDepth 100000 in
theorem w_92 : (Cond.instantiable "BelfryBox$Tape" 9 : Cond) ∈ gw := List.mem_filter.mpr ⟨List.mem_append_right _ (tb1 (List.mem_of_getElem? (i := 116) rfl)), rfl⟩
set_option maxRecDepth 100000 in
theorem w_93 : (Cond.initialized "BelfryBox$Tape" : Cond) ∈ gw := List.mem_filter.mpr ⟨List.mem_append_right _ (tb1 (List.mem_of_getElem? (i := 6) rfl)), rfl⟩
set_option maxRecDepth 100000 in
theorem w_94 : (Cond.code yX7_init prog_9_method_1_code 1 (Option.none : Option Jvm.ClassFile.FieldType) : Cond) ∈ gw := List.mem_filter.mpr ⟨List.mem_append_right _ (tb1 (List.mem_of_getElem? (i := 119) rfl)), rfl⟩
set_option maxRecDepth 100000 in
theorem w_95 : (Cond.instanceMethod yX7_init : Cond) ∈ gw := List.mem_filter.mpr ⟨List.mem_append_right _ (tb1 (List.mem_of_getElem? (i := 118) rfl)), rfl⟩
set_option maxRecDepth 100000 in
theorem w_96 : (Cond.fieldLink "BelfryBox" 51 "BelfryBox" "tape" "LBelfryBox$Tape;" : Cond) ∈ gw := List.mem_filter.mpr ⟨List.mem_append_right _ (tb2 (List.mem_of_getElem? (i := 52) rfl)), rfl⟩
set_option maxRecDepth 100000 in
theorem w_97 : (Cond.classLink "BelfryBox" 55 "BelfryBox$Assembler" : Cond) ∈ gw := List.mem_filter.mpr ⟨List.mem_append_right _ (tb1 (List.mem_of_getElem? (i := 159) rfl)), rfl⟩
set_option maxRecDepth 100000 in
theorem w_98 : (Cond.instantiable "BelfryBox$Assembler" 18 : Cond) ∈ gw := List.mem_filter.mpr ⟨List.mem_append_right _ (tb1 (List.mem_of_getElem? (i := 160) rfl)), rfl⟩
set_option maxRecDepth 100000 in
theorem w_99 : (Cond.initialized "BelfryBox$Assembler" : Cond) ∈ gw := List.mem_filter.mpr ⟨List.mem_append_right _ (tb1 (List.mem_of_getElem? (i := 7) rfl)), rfl⟩
set_option maxRecDepth 100000 in
theorem w_100 : (Cond.methodLink "BelfryBox" 57 yX0_init : Cond) ∈ gw := List.mem_filter.mpr ⟨List.mem_append_right _ (tb1 (List.mem_of_getElem? (i := 161) rfl)), rfl⟩
set_option maxRecDepth 100000 in
theorem w_101 : (Cond.code yX0_init prog_2_method_1_code 2 (Option.none : Option Jvm.ClassFile.FieldType) : Cond) ∈ gw := List.mem_filter.mpr ⟨List.mem_append_right _ (tb1 (List.mem_of_getElem? (i := 163) rfl)), rfl⟩
set_option maxRecDepth 100000 in
theorem w_102 : (Cond.instanceMethod yX0_init : Cond) ∈ gw := List.mem_filter.mpr ⟨List.mem_append_right _ (tb1 (List.mem_of_getElem? (i := 162) rfl)), rfl⟩
set_option maxRecDepth 100000 in
theorem w_103 : (Cond.fieldLink "BelfryBox" 60 "BelfryBox" "assembler" "LBelfryBox$Assembler;" : Cond) ∈ gw := List.mem_filter.mpr ⟨List.mem_append_right _ (tb2 (List.mem_of_getElem? (i := 53) rfl)), rfl⟩
set_option maxRecDepth 100000 in
theorem w_104 : (Cond.classLink "BelfryBox" 64 "BelfryBox$Reader" : Cond) ∈ gw := List.mem_filter.mpr ⟨List.mem_append_right _ (tb2 (List.mem_of_getElem? (i := 8) rfl)), rfl⟩
set_option maxRecDepth 100000 in
theorem w_105 : (Cond.instantiable "BelfryBox$Reader" 2 : Cond) ∈ gw := List.mem_filter.mpr ⟨List.mem_append_right _ (tb2 (List.mem_of_getElem? (i := 9) rfl)), rfl⟩
set_option maxRecDepth 100000 in
theorem w_106 : (Cond.initialized "BelfryBox$Reader" : Cond) ∈ gw := List.mem_filter.mpr ⟨List.mem_append_right _ (tb1 (List.mem_of_getElem? (i := 9) rfl)), rfl⟩
set_option maxRecDepth 100000 in
theorem w_107 : (Cond.code yX5_init prog_7_method_1_code 1 (Option.none : Option Jvm.ClassFile.FieldType) : Cond) ∈ gw := List.mem_filter.mpr ⟨List.mem_append_right _ (tb2 (List.mem_of_getElem? (i := 12) rfl)), rfl⟩
set_option maxRecDepth 100000 in
theorem w_108 : (Cond.instanceMethod yX5_init : Cond) ∈ gw := List.mem_filter.mpr ⟨List.mem_append_right _ (tb2 (List.mem_of_getElem? (i := 11) rfl)), rfl⟩
set_option maxRecDepth 100000 in
theorem w_109 : (Cond.fieldLink "BelfryBox" 67 "BelfryBox" "reader" "LBelfryBox$Reader;" : Cond) ∈ gw := List.mem_filter.mpr ⟨List.mem_append_right _ (tb2 (List.mem_of_getElem? (i := 54) rfl)), rfl⟩
set_option maxRecDepth 100000 in
theorem w_110 : (Cond.methodLink "BelfryBox" 71 yX4_beginAnew : Cond) ∈ gw := List.mem_filter.mpr ⟨List.mem_append_right _ (tb2 (List.mem_of_getElem? (i := 23) rfl)), rfl⟩
set_option maxRecDepth 100000 in
theorem w_111 : (Cond.code yX4_beginAnew prog_6_method_2_code 1 (Option.none : Option Jvm.ClassFile.FieldType) : Cond) ∈ gw := List.mem_filter.mpr ⟨List.mem_append_right _ (tb2 (List.mem_of_getElem? (i := 26) rfl)), rfl⟩
set_option maxRecDepth 100000 in
theorem w_112 : (Cond.instanceMethod yX4_beginAnew : Cond) ∈ gw := List.mem_filter.mpr ⟨List.mem_append_right _ (tb2 (List.mem_of_getElem? (i := 24) rfl)), rfl⟩
set_option maxRecDepth 100000 in
theorem w_113 : (Cond.selects "BelfryBox$Processor" yX4_beginAnew yX4_beginAnew : Cond) ∈ gw := List.mem_filter.mpr ⟨List.mem_append_right _ (tb2 (List.mem_of_getElem? (i := 25) rfl)), rfl⟩
set_option maxRecDepth 100000 in
theorem w_114 : (Cond.methodLink "BelfryBox" 115 yX8_isAddress : Cond) ∈ gw := List.mem_filter.mpr ⟨List.mem_append_right _ (tb3 (List.mem_of_getElem? (i := 129) rfl)), rfl⟩
set_option maxRecDepth 100000 in
theorem w_115 : (Cond.code yX8_isAddress prog_1_method_23_code 1 (Option.some Jvm.ClassFile.FieldType.boolean) : Cond) ∈ gw := List.mem_filter.mpr ⟨List.mem_append_right _ (tb3 (List.mem_of_getElem? (i := 131) rfl)), rfl⟩
set_option maxRecDepth 100000 in
theorem w_116 : (Cond.initialized "BelfryBox" : Cond) ∈ gw := List.mem_filter.mpr ⟨List.mem_append_right _ (tb1 (List.mem_of_getElem? (i := 1) rfl)), rfl⟩
set_option maxRecDepth 100000 in
theorem w_117 : (Cond.static yX8_isAddress : Cond) ∈ gw := List.mem_filter.mpr ⟨List.mem_append_right _ (tb3 (List.mem_of_getElem? (i := 130) rfl)), rfl⟩
set_option maxRecDepth 100000 in
theorem w_118 : (Cond.methodLink "BelfryBox" 118 yX8_isByte : Cond) ∈ gw := List.mem_filter.mpr ⟨List.mem_append_right _ (tb3 (List.mem_of_getElem? (i := 136) rfl)), rfl⟩
set_option maxRecDepth 100000 in
theorem w_119 : (Cond.code yX8_isByte prog_1_method_24_code 1 (Option.some Jvm.ClassFile.FieldType.boolean) : Cond) ∈ gw := List.mem_filter.mpr ⟨List.mem_append_right _ (tb3 (List.mem_of_getElem? (i := 138) rfl)), rfl⟩
set_option maxRecDepth 100000 in
theorem w_120 : (Cond.static yX8_isByte : Cond) ∈ gw := List.mem_filter.mpr ⟨List.mem_append_right _ (tb3 (List.mem_of_getElem? (i := 137) rfl)), rfl⟩
set_option maxRecDepth 100000 in
theorem w_121 : (Cond.methodLink "BelfryBox" 121 yX3_forget : Cond) ∈ gw := List.mem_filter.mpr ⟨List.mem_append_right _ (tb3 (List.mem_of_getElem? (i := 139) rfl)), rfl⟩
set_option maxRecDepth 100000 in
theorem w_122 : (Cond.methodLink "BelfryBox" 124 yX1_addKey : Cond) ∈ gw := List.mem_filter.mpr ⟨List.mem_append_right _ (tb3 (List.mem_of_getElem? (i := 144) rfl)), rfl⟩
set_option maxRecDepth 100000 in
theorem w_123 : (Cond.code yX1_addKey prog_3_method_4_code 2 (Option.none : Option Jvm.ClassFile.FieldType) : Cond) ∈ gw := List.mem_filter.mpr ⟨List.mem_append_right _ (tb3 (List.mem_of_getElem? (i := 147) rfl)), rfl⟩
set_option maxRecDepth 100000 in
theorem w_124 : (Cond.instanceMethod yX1_addKey : Cond) ∈ gw := List.mem_filter.mpr ⟨List.mem_append_right _ (tb3 (List.mem_of_getElem? (i := 145) rfl)), rfl⟩
set_option maxRecDepth 100000 in
theorem w_125 : (Cond.selects "BelfryBox$Devices" yX1_addKey yX1_addKey : Cond) ∈ gw := List.mem_filter.mpr ⟨List.mem_append_right _ (tb3 (List.mem_of_getElem? (i := 146) rfl)), rfl⟩
set_option maxRecDepth 100000 in
theorem w_126 : (Cond.fieldLink "BelfryBox$Stops" 19 "BelfryBox$Stops" "count" "I" : Cond) ∈ gw := List.mem_filter.mpr ⟨List.mem_append_right _ (tb1 (List.mem_of_getElem? (i := 108) rfl)), rfl⟩
set_option maxRecDepth 100000 in
theorem w_127 : (Cond.methodLink "BelfryBox$Stops" 15 yX6_find : Cond) ∈ gw := List.mem_filter.mpr ⟨List.mem_append_right _ (tb3 (List.mem_of_getElem? (i := 160) rfl)), rfl⟩
set_option maxRecDepth 100000 in
theorem w_128 : (Cond.code yX6_find prog_8_method_4_code 3 (Option.some Jvm.ClassFile.FieldType.int) : Cond) ∈ gw := List.mem_filter.mpr ⟨List.mem_append_right _ (tb3 (List.mem_of_getElem? (i := 163) rfl)), rfl⟩
set_option maxRecDepth 100000 in
theorem w_129 : (Cond.instanceMethod yX6_find : Cond) ∈ gw := List.mem_filter.mpr ⟨List.mem_append_right _ (tb3 (List.mem_of_getElem? (i := 161) rfl)), rfl⟩
set_option maxRecDepth 100000 in
theorem w_130 : (Cond.selects "BelfryBox$Stops" yX6_find yX6_find : Cond) ∈ gw := List.mem_filter.mpr ⟨List.mem_append_right _ (tb3 (List.mem_of_getElem? (i := 162) rfl)), rfl⟩
set_option maxRecDepth 100000 in
theorem w_131 : (Cond.methodLink "BelfryBox" 134 yX6_lift : Cond) ∈ gw := List.mem_filter.mpr ⟨List.mem_append_right _ (tb3 (List.mem_of_getElem? (i := 164) rfl)), rfl⟩
set_option maxRecDepth 100000 in
theorem w_132 : (Cond.code yX6_lift prog_8_method_3_code 3 (Option.some Jvm.ClassFile.FieldType.int) : Cond) ∈ gw := List.mem_filter.mpr ⟨List.mem_append_right _ (tb3 (List.mem_of_getElem? (i := 167) rfl)), rfl⟩
set_option maxRecDepth 100000 in
theorem w_133 : (Cond.instanceMethod yX6_lift : Cond) ∈ gw := List.mem_filter.mpr ⟨List.mem_append_right _ (tb3 (List.mem_of_getElem? (i := 165) rfl)), rfl⟩
set_option maxRecDepth 100000 in
theorem w_134 : (Cond.selects "BelfryBox$Stops" yX6_lift yX6_lift : Cond) ∈ gw := List.mem_filter.mpr ⟨List.mem_append_right _ (tb3 (List.mem_of_getElem? (i := 166) rfl)), rfl⟩
set_option maxRecDepth 100000 in
theorem w_135 : (Cond.methodLink "BelfryBox" 130 yX6_set : Cond) ∈ gw := List.mem_filter.mpr ⟨List.mem_append_right _ (tb3 (List.mem_of_getElem? (i := 156) rfl)), rfl⟩
set_option maxRecDepth 100000 in
theorem w_136 : (Cond.code yX6_set prog_8_method_2_code 2 (Option.some Jvm.ClassFile.FieldType.int) : Cond) ∈ gw := List.mem_filter.mpr ⟨List.mem_append_right _ (tb3 (List.mem_of_getElem? (i := 159) rfl)), rfl⟩
set_option maxRecDepth 100000 in
theorem w_137 : (Cond.instanceMethod yX6_set : Cond) ∈ gw := List.mem_filter.mpr ⟨List.mem_append_right _ (tb3 (List.mem_of_getElem? (i := 157) rfl)), rfl⟩
set_option maxRecDepth 100000 in
theorem w_138 : (Cond.selects "BelfryBox$Stops" yX6_set yX6_set : Cond) ∈ gw := List.mem_filter.mpr ⟨List.mem_append_right _ (tb3 (List.mem_of_getElem? (i := 158) rfl)), rfl⟩
set_option maxRecDepth 100000 in
theorem w_139 : (Cond.fieldLink "BelfryBox$Names" 24 "BelfryBox$Names" "count" "I" : Cond) ∈ gw := List.mem_filter.mpr ⟨List.mem_append_right _ (tb1 (List.mem_of_getElem? (i := 175) rfl)), rfl⟩
set_option maxRecDepth 100000 in
theorem w_140 : (Cond.methodLink "BelfryBox" 109 yX2_tell : Cond) ∈ gw := List.mem_filter.mpr ⟨List.mem_append_right _ (tb3 (List.mem_of_getElem? (i := 120) rfl)), rfl⟩
set_option maxRecDepth 100000 in
theorem w_141 : (Cond.code yX2_tell prog_4_method_5_code 3 (Option.some Jvm.ClassFile.FieldType.int) : Cond) ∈ gw := List.mem_filter.mpr ⟨List.mem_append_right _ (tb3 (List.mem_of_getElem? (i := 48) rfl)), rfl⟩
set_option maxRecDepth 100000 in
theorem w_142 : (Cond.instanceMethod yX2_tell : Cond) ∈ gw := List.mem_filter.mpr ⟨List.mem_append_right _ (tb3 (List.mem_of_getElem? (i := 46) rfl)), rfl⟩
set_option maxRecDepth 100000 in
theorem w_143 : (Cond.selects "BelfryBox$Names" yX2_tell yX2_tell : Cond) ∈ gw := List.mem_filter.mpr ⟨List.mem_append_right _ (tb3 (List.mem_of_getElem? (i := 47) rfl)), rfl⟩
set_option maxRecDepth 100000 in
theorem w_144 : (Cond.fieldLink "BelfryBox$Tape" 15 "BelfryBox$Tape" "length" "I" : Cond) ∈ gw := List.mem_filter.mpr ⟨List.mem_append_right _ (tb1 (List.mem_of_getElem? (i := 123) rfl)), rfl⟩
set_option maxRecDepth 100000 in
theorem w_145 : (Cond.methodLink "BelfryBox" 74 yX7_hasRoom : Cond) ∈ gw := List.mem_filter.mpr ⟨List.mem_append_right _ (tb2 (List.mem_of_getElem? (i := 78) rfl)), rfl⟩
set_option maxRecDepth 100000 in
theorem w_146 : (Cond.code yX7_hasRoom prog_9_method_2_code 2 (Option.some Jvm.ClassFile.FieldType.boolean) : Cond) ∈ gw := List.mem_filter.mpr ⟨List.mem_append_right _ (tb2 (List.mem_of_getElem? (i := 81) rfl)), rfl⟩
set_option maxRecDepth 100000 in
theorem w_147 : (Cond.instanceMethod yX7_hasRoom : Cond) ∈ gw := List.mem_filter.mpr ⟨List.mem_append_right _ (tb2 (List.mem_of_getElem? (i := 79) rfl)), rfl⟩
set_option maxRecDepth 100000 in
theorem w_148 : (Cond.selects "BelfryBox$Tape" yX7_hasRoom yX7_hasRoom : Cond) ∈ gw := List.mem_filter.mpr ⟨List.mem_append_right _ (tb2 (List.mem_of_getElem? (i := 80) rfl)), rfl⟩
set_option maxRecDepth 100000 in
theorem w_149 : (Cond.methodLink "BelfryBox" 78 yX7_add : Cond) ∈ gw := List.mem_filter.mpr ⟨List.mem_append_right _ (tb2 (List.mem_of_getElem? (i := 82) rfl)), rfl⟩
set_option maxRecDepth 100000 in
theorem w_150 : (Cond.code yX7_add prog_9_method_3_code 3 (Option.none : Option Jvm.ClassFile.FieldType) : Cond) ∈ gw := List.mem_filter.mpr ⟨List.mem_append_right _ (tb2 (List.mem_of_getElem? (i := 85) rfl)), rfl⟩
set_option maxRecDepth 100000 in
theorem w_151 : (Cond.instanceMethod yX7_add : Cond) ∈ gw := List.mem_filter.mpr ⟨List.mem_append_right _ (tb2 (List.mem_of_getElem? (i := 83) rfl)), rfl⟩
set_option maxRecDepth 100000 in
theorem w_152 : (Cond.selects "BelfryBox$Tape" yX7_add yX7_add : Cond) ∈ gw := List.mem_filter.mpr ⟨List.mem_append_right _ (tb2 (List.mem_of_getElem? (i := 84) rfl)), rfl⟩
set_option maxRecDepth 100000 in
theorem w_153 : (Cond.methodLink "BelfryBox" 155 yX1_keyAt : Cond) ∈ gw := List.mem_filter.mpr ⟨List.mem_append_right _ (tb4 (List.mem_of_getElem? (i := 213) rfl)), rfl⟩
set_option maxRecDepth 100000 in
theorem w_154 : (Cond.code yX1_keyAt prog_3_method_5_code 2 (Option.some Jvm.ClassFile.FieldType.int) : Cond) ∈ gw := List.mem_filter.mpr ⟨List.mem_append_right _ (tb4 (List.mem_of_getElem? (i := 216) rfl)), rfl⟩
set_option maxRecDepth 100000 in
theorem w_155 : (Cond.instanceMethod yX1_keyAt : Cond) ∈ gw := List.mem_filter.mpr ⟨List.mem_append_right _ (tb4 (List.mem_of_getElem? (i := 214) rfl)), rfl⟩
set_option maxRecDepth 100000 in
theorem w_156 : (Cond.selects "BelfryBox$Devices" yX1_keyAt yX1_keyAt : Cond) ∈ gw := List.mem_filter.mpr ⟨List.mem_append_right _ (tb4 (List.mem_of_getElem? (i := 215) rfl)), rfl⟩
set_option maxRecDepth 100000 in
theorem w_157 : (Cond.methodLink "BelfryBox" 151 yX1_pinsOfRow : Cond) ∈ gw := List.mem_filter.mpr ⟨List.mem_append_right _ (tb4 (List.mem_of_getElem? (i := 212) rfl)), rfl⟩
set_option maxRecDepth 100000 in
theorem w_158 : (Cond.code yX1_pinsOfRow prog_3_method_3_code 1 (Option.some Jvm.ClassFile.FieldType.int) : Cond) ∈ gw := List.mem_filter.mpr ⟨List.mem_append_right _ (tb4 (List.mem_of_getElem? (i := 88) rfl)), rfl⟩
set_option maxRecDepth 100000 in
theorem w_159 : (Cond.instanceMethod yX1_pinsOfRow : Cond) ∈ gw := List.mem_filter.mpr ⟨List.mem_append_right _ (tb4 (List.mem_of_getElem? (i := 86) rfl)), rfl⟩
set_option maxRecDepth 100000 in
theorem w_160 : (Cond.selects "BelfryBox$Devices" yX1_pinsOfRow yX1_pinsOfRow : Cond) ∈ gw := List.mem_filter.mpr ⟨List.mem_append_right _ (tb4 (List.mem_of_getElem? (i := 87) rfl)), rfl⟩
def nests : List Cond := [Cond.fieldLinkNest "BelfryBox" 127 "BelfryBox$Devices" "pins" "[I" "BelfryBox", Cond.fieldLinkNest "BelfryBox" 168 "BelfryBox$Devices" "rings" "[I" "BelfryBox", Cond.fieldLinkNest "BelfryBox" 171 "BelfryBox$Devices" "paper" "[I" "BelfryBox", Cond.methodLinkNest "BelfryBox" 27 ⟨"BelfryBox$Past", "<init>", "()V"⟩ "BelfryBox", Cond.fieldLinkNest "BelfryBox" 141 "BelfryBox$Past" "kept" "I" "BelfryBox", Cond.fieldLinkNest "BelfryBox" 144 "BelfryBox$Processor" "counts" "[I" "BelfryBox", Cond.fieldLinkNest "BelfryBox" 158 "BelfryBox$Processor" "why" "I" "BelfryBox", Cond.fieldLinkNest "BelfryBox" 161 "BelfryBox$Processor" "done" "I" "BelfryBox", Cond.methodLinkNest "BelfryBox" 43 ⟨"BelfryBox$Stops", "<init>", "()V"⟩ "BelfryBox", Cond.fieldLinkNest "BelfryBox" 167 "BelfryBox$Stops" "count" "I" "BelfryBox", Cond.methodLinkNest "BelfryBox" 50 ⟨"BelfryBox$Tape", "<init>", "()V"⟩ "BelfryBox", Cond.fieldLinkNest "BelfryBox$Assembler" 166 "BelfryBox$Tape" "bytes" "[I" "BelfryBox", Cond.fieldLinkNest "BelfryBox" 82 "BelfryBox$Tape" "length" "I" "BelfryBox", Cond.fieldLinkNest "BelfryBox$Assembler" 60 "BelfryBox$Tape" "length" "I" "BelfryBox", Cond.fieldLinkNest "BelfryBox$Assembler" 92 "BelfryBox$Tape" "lineEnd" "I" "BelfryBox", Cond.fieldLinkNest "BelfryBox$Assembler" 163 "BelfryBox$Tape" "at" "I" "BelfryBox", Cond.fieldLinkNest "BelfryBox$Assembler" 118 "BelfryBox$Tape" "kind" "I" "BelfryBox", Cond.fieldLinkNest "BelfryBox$Assembler" 111 "BelfryBox$Tape" "place" "I" "BelfryBox", Cond.fieldLinkNest "BelfryBox$Assembler" 121 "BelfryBox$Tape" "letters" "I" "BelfryBox", Cond.fieldLinkNest "BelfryBox$Assembler" 133 "BelfryBox$Tape" "value" "I" "BelfryBox", Cond.fieldLinkNest "BelfryBox$Assembler" 172 "BelfryBox$Tape" "missing" "I" "BelfryBox", Cond.methodLinkNest "BelfryBox$Assembler" 17 ⟨"BelfryBox$Names", "<init>", "()V"⟩ "BelfryBox", Cond.fieldLinkNest "BelfryBox$Assembler" 36 "BelfryBox$Names" "count" "I" "BelfryBox", Cond.fieldLinkNest "BelfryBox" 164 "BelfryBox$Names" "count" "I" "BelfryBox", Cond.fieldLinkNest "BelfryBox" 105 "BelfryBox$Assembler" "settled" "LBelfryBox$Names;" "BelfryBox", Cond.fieldLinkNest "BelfryBox" 99 "BelfryBox$Assembler" "faultKind" "I" "BelfryBox", Cond.fieldLinkNest "BelfryBox" 102 "BelfryBox$Assembler" "faultPlace" "I" "BelfryBox", Cond.fieldLinkNest "BelfryBox" 96 "BelfryBox$Assembler" "address" "I" "BelfryBox", Cond.methodLinkNest "BelfryBox" 66 ⟨"BelfryBox$Reader", "<init>", "()V"⟩ "BelfryBox", Cond.fieldLinkNest "BelfryBox" 178 "BelfryBox$Reader" "letters" "[I" "BelfryBox", Cond.fieldLinkNest "BelfryBox" 177 "BelfryBox$Reader" "length" "I" "BelfryBox", Cond.methodLinkNest "BelfryBox$Assembler" 160 ⟨"BelfryBox", "takesValue", "(I)Z"⟩ "BelfryBox", Cond.methodLinkNest "BelfryBox$Processor" 109 ⟨"BelfryBox", "isShort", "(I)Z"⟩ "BelfryBox", Cond.methodLinkNest "BelfryBox$Processor" 208 ⟨"BelfryBox", "signed", "(I)I"⟩ "BelfryBox", Cond.methodLinkNest "BelfryBox$Reader" 19 ⟨"BelfryBox", "isShort", "(I)Z"⟩ "BelfryBox", Cond.methodLinkNest "BelfryBox$Reader" 50 ⟨"BelfryBox", "takesValue", "(I)Z"⟩ "BelfryBox", Cond.methodLinkNest "BelfryBox$Reader" 53 ⟨"BelfryBox", "signed", "(I)I"⟩ "BelfryBox"]
theorem nw_21 : (Cond.methodLinkNest "BelfryBox$Assembler" 17 yX2_init "BelfryBox" : Cond) ∈ nests := List.mem_of_getElem? (i := 21) rfl
theorem nw_3 : (Cond.methodLinkNest "BelfryBox" 27 yX3_init "BelfryBox" : Cond) ∈ nests := List.mem_of_getElem? (i := 3) rfl
theorem nw_8 : (Cond.methodLinkNest "BelfryBox" 43 yX6_init "BelfryBox" : Cond) ∈ nests := List.mem_of_getElem? (i := 8) rfl
theorem nw_10 : (Cond.methodLinkNest "BelfryBox" 50 yX7_init "BelfryBox" : Cond) ∈ nests := List.mem_of_getElem? (i := 10) rfl
theorem nw_28 : (Cond.methodLinkNest "BelfryBox" 66 yX5_init "BelfryBox" : Cond) ∈ nests := List.mem_of_getElem? (i := 28) rfl
theorem nw_0 : (Cond.fieldLinkNest "BelfryBox" 127 "BelfryBox$Devices" "pins" "[I" "BelfryBox" : Cond) ∈ nests := List.mem_of_getElem? (i := 0) rfl
theorem nw_12 : (Cond.fieldLinkNest "BelfryBox" 82 "BelfryBox$Tape" "length" "I" "BelfryBox" : Cond) ∈ nests := List.mem_of_getElem? (i := 12) rfl
theorem nw_25 : (Cond.fieldLinkNest "BelfryBox" 99 "BelfryBox$Assembler" "faultKind" "I" "BelfryBox" : Cond) ∈ nests := List.mem_of_getElem? (i := 25) rfl
theorem nw_26 : (Cond.fieldLinkNest "BelfryBox" 102 "BelfryBox$Assembler" "faultPlace" "I" "BelfryBox" : Cond) ∈ nests := List.mem_of_getElem? (i := 26) rfl
theorem nw_24 : (Cond.fieldLinkNest "BelfryBox" 105 "BelfryBox$Assembler" "settled" "LBelfryBox$Names;" "BelfryBox" : Cond) ∈ nests := List.mem_of_getElem? (i := 24) rfl
theorem nw_6 : (Cond.fieldLinkNest "BelfryBox" 158 "BelfryBox$Processor" "why" "I" "BelfryBox" : Cond) ∈ nests := List.mem_of_getElem? (i := 6) rfl
theorem nw_7 : (Cond.fieldLinkNest "BelfryBox" 161 "BelfryBox$Processor" "done" "I" "BelfryBox" : Cond) ∈ nests := List.mem_of_getElem? (i := 7) rfl
theorem nw_4 : (Cond.fieldLinkNest "BelfryBox" 141 "BelfryBox$Past" "kept" "I" "BelfryBox" : Cond) ∈ nests := List.mem_of_getElem? (i := 4) rfl
theorem nw_23 : (Cond.fieldLinkNest "BelfryBox" 164 "BelfryBox$Names" "count" "I" "BelfryBox" : Cond) ∈ nests := List.mem_of_getElem? (i := 23) rfl
theorem nw_9 : (Cond.fieldLinkNest "BelfryBox" 167 "BelfryBox$Stops" "count" "I" "BelfryBox" : Cond) ∈ nests := List.mem_of_getElem? (i := 9) rfl
theorem nw_5 : (Cond.fieldLinkNest "BelfryBox" 144 "BelfryBox$Processor" "counts" "[I" "BelfryBox" : Cond) ∈ nests := List.mem_of_getElem? (i := 5) rfl
theorem nw_30 : (Cond.fieldLinkNest "BelfryBox" 177 "BelfryBox$Reader" "length" "I" "BelfryBox" : Cond) ∈ nests := List.mem_of_getElem? (i := 30) rfl
theorem nests_in : ∀ w ∈ nests, w ∈ tables_1 := by decide +kernel
theorem iX6 : ∀ w ∈ u_ws RX6 TX6 2, w ∈ gw := by decide +kernel
theorem iX3 : ∀ w ∈ u_ws RX3 TX3 3, w ∈ gw := by decide +kernel
theorem iX5 : ∀ w ∈ u_ws RX5 TX5 2, w ∈ gw := by decide +kernel
theorem iX7 : ∀ w ∈ u_ws RX7 TX7 9, w ∈ gw := by decide +kernel
theorem iX2 : ∀ w ∈ u_ws RX2 TX2 5, w ∈ gw := by decide +kernel
theorem iX1 : ∀ w ∈ u_ws RX1 TX1 5, w ∈ gw := by decide +kernel
theorem iX4 : ∀ w ∈ u_ws RX4 TX4 7, w ∈ gw := by decide +kernel
theorem iX0 : ∀ w ∈ u_ws RX0 TX0 18, w ∈ gw := by decide +kernel
theorem iX8 : ∀ w ∈ u_ws RX8 TX8 9, w ∈ gw := by decide +kernel
