abbrev cX9_isIllegal : ByteArray := prog_11_method_40_code
def yX9_isIllegal : MethodName := ⟨RX9, "isIllegal", "()Z"⟩
abbrev cX9_behind : ByteArray := prog_11_method_19_code
def yX9_behind : MethodName := ⟨RX9, "behind", "()I"⟩
abbrev cX9_keep : ByteArray := prog_11_method_38_code
def yX9_keep : MethodName := ⟨RX9, "keep", "()V"⟩
abbrev cX9_code : ByteArray := prog_11_method_41_code
def yX9_code : MethodName := ⟨RX9, "code", "()I"⟩
abbrev cX9_valued : ByteArray := prog_11_method_31_code
def yX9_valued : MethodName := ⟨RX9, "valued", "(II)I"⟩
abbrev cX9_signed : ByteArray := prog_11_method_22_code
def yX9_signed : MethodName := ⟨RX9, "signed", "(I)I"⟩
abbrev cX9_pass : ByteArray := prog_11_method_14_code
def yX9_pass : MethodName := ⟨RX9, "pass", "()Z"⟩
abbrev cX9_step : ByteArray := prog_11_method_42_code
def yX9_step : MethodName := ⟨RX9, "step", "()Z"⟩
set_option maxRecDepth 100000 in
theorem w_497 : (Cond.fieldLink "BelfryBoxModel" 270 "BelfryBoxModel" "keptAt" "I" : Cond) ∈ gw := List.mem_filter.mpr ⟨List.mem_append_right _ (tb5 (List.mem_of_getElem? (i := 104) rfl)), rfl⟩
set_option maxRecDepth 100000 in
theorem w_498 : (Cond.fieldLink "BelfryBoxModel" 207 "BelfryBoxModel" "at" "I" : Cond) ∈ gw := List.mem_filter.mpr ⟨List.mem_append_right _ (tb5 (List.mem_of_getElem? (i := 106) rfl)), rfl⟩
set_option maxRecDepth 100000 in
theorem w_499 : (Cond.fieldLink "BelfryBoxModel" 210 "BelfryBoxModel" "writes" "I" : Cond) ∈ gw := List.mem_filter.mpr ⟨List.mem_append_right _ (tb5 (List.mem_of_getElem? (i := 107) rfl)), rfl⟩
set_option maxRecDepth 100000 in
theorem w_500 : (Cond.methodLink "BelfryBoxModel" 220 yX9_behind : Cond) ∈ gw := List.mem_filter.mpr ⟨List.mem_append_right _ (tb6 (List.mem_of_getElem? (i := 116) rfl)), rfl⟩
set_option maxRecDepth 100000 in
theorem w_501 : (Cond.code yX9_behind prog_11_method_19_code 2 (Option.some Jvm.ClassFile.FieldType.int) : Cond) ∈ gw := List.mem_filter.mpr ⟨List.mem_append_right _ (tb6 (List.mem_of_getElem? (i := 119) rfl)), rfl⟩
set_option maxRecDepth 100000 in
theorem w_502 : (Cond.instanceMethod yX9_behind : Cond) ∈ gw := List.mem_filter.mpr ⟨List.mem_append_right _ (tb6 (List.mem_of_getElem? (i := 118) rfl)), rfl⟩
set_option maxRecDepth 100000 in
theorem w_503 : (Cond.selects "BelfryBoxModel" yX9_behind yX9_behind : Cond) ∈ gw := List.mem_filter.mpr ⟨List.mem_append_left _ (List.mem_map.mpr ⟨(⟨"BelfryBoxModel", "behind", "()I"⟩, 79), sl7 (List.mem_of_getElem? (i := 0) rfl), rfl⟩), rfl⟩
set_option maxRecDepth 100000 in
theorem w_504 : (Cond.methodLink "BelfryBoxModel" 229 yX9_signed : Cond) ∈ gw := List.mem_filter.mpr ⟨List.mem_append_right _ (tb6 (List.mem_of_getElem? (i := 148) rfl)), rfl⟩
set_option maxRecDepth 100000 in
theorem w_505 : (Cond.code yX9_signed prog_11_method_22_code 3 (Option.some Jvm.ClassFile.FieldType.int) : Cond) ∈ gw := List.mem_filter.mpr ⟨List.mem_append_right _ (tb6 (List.mem_of_getElem? (i := 151) rfl)), rfl⟩
set_option maxRecDepth 100000 in
theorem w_506 : (Cond.instanceMethod yX9_signed : Cond) ∈ gw := List.mem_filter.mpr ⟨List.mem_append_right _ (tb6 (List.mem_of_getElem? (i := 150) rfl)), rfl⟩
set_option maxRecDepth 100000 in
theorem w_507 : (Cond.selects "BelfryBoxModel" yX9_signed yX9_signed : Cond) ∈ gw := List.mem_filter.mpr ⟨List.mem_append_left _ (List.mem_map.mpr ⟨(⟨"BelfryBoxModel", "signed", "(I)I"⟩, 79), sl7 (List.mem_of_getElem? (i := 7) rfl), rfl⟩), rfl⟩
set_option maxRecDepth 100000 in
theorem w_508 : (Cond.methodLink "BelfryBoxModel" 279 yX9_valued : Cond) ∈ gw := List.mem_filter.mpr ⟨List.mem_append_right _ (tb6 (List.mem_of_getElem? (i := 144) rfl)), rfl⟩
set_option maxRecDepth 100000 in
theorem w_509 : (Cond.code yX9_valued prog_11_method_31_code 3 (Option.some Jvm.ClassFile.FieldType.int) : Cond) ∈ gw := List.mem_filter.mpr ⟨List.mem_append_right _ (tb6 (List.mem_of_getElem? (i := 147) rfl)), rfl⟩
set_option maxRecDepth 100000 in
theorem w_510 : (Cond.instanceMethod yX9_valued : Cond) ∈ gw := List.mem_filter.mpr ⟨List.mem_append_right _ (tb6 (List.mem_of_getElem? (i := 146) rfl)), rfl⟩
set_option maxRecDepth 100000 in
theorem w_511 : (Cond.selects "BelfryBoxModel" yX9_valued yX9_valued : Cond) ∈ gw := List.mem_filter.mpr ⟨List.mem_append_left _ (List.mem_map.mpr ⟨(⟨"BelfryBoxModel", "valued", "(II)I"⟩, 79), sl7 (List.mem_of_getElem? (i := 6) rfl), rfl⟩), rfl⟩
set_option maxRecDepth 100000 in
theorem w_512 : (Cond.methodLink "BelfryBoxModel" 291 yX9_isIllegal : Cond) ∈ gw := List.mem_filter.mpr ⟨List.mem_append_right _ (tb6 (List.mem_of_getElem? (i := 76) rfl)), rfl⟩
set_option maxRecDepth 100000 in
theorem w_513 : (Cond.code yX9_isIllegal prog_11_method_40_code 1 (Option.some Jvm.ClassFile.FieldType.boolean) : Cond) ∈ gw := List.mem_filter.mpr ⟨List.mem_append_right _ (tb6 (List.mem_of_getElem? (i := 79) rfl)), rfl⟩
set_option maxRecDepth 100000 in
theorem w_514 : (Cond.instanceMethod yX9_isIllegal : Cond) ∈ gw := List.mem_filter.mpr ⟨List.mem_append_right _ (tb6 (List.mem_of_getElem? (i := 78) rfl)), rfl⟩
set_option maxRecDepth 100000 in
theorem w_515 : (Cond.selects "BelfryBoxModel" yX9_isIllegal yX9_isIllegal : Cond) ∈ gw := List.mem_filter.mpr ⟨List.mem_append_left _ (List.mem_map.mpr ⟨(⟨"BelfryBoxModel", "isIllegal", "()Z"⟩, 79), sl6 (List.mem_of_getElem? (i := 7) rfl), rfl⟩), rfl⟩
set_option maxRecDepth 100000 in
theorem w_516 : (Cond.methodLink "BelfryBoxModel" 295 yX9_keep : Cond) ∈ gw := List.mem_filter.mpr ⟨List.mem_append_right _ (tb6 (List.mem_of_getElem? (i := 80) rfl)), rfl⟩
set_option maxRecDepth 100000 in
theorem w_517 : (Cond.code yX9_keep prog_11_method_38_code 3 (Option.none : Option Jvm.ClassFile.FieldType) : Cond) ∈ gw := List.mem_filter.mpr ⟨List.mem_append_right _ (tb6 (List.mem_of_getElem? (i := 83) rfl)), rfl⟩
set_option maxRecDepth 100000 in
theorem w_518 : (Cond.instanceMethod yX9_keep : Cond) ∈ gw := List.mem_filter.mpr ⟨List.mem_append_right _ (tb6 (List.mem_of_getElem? (i := 82) rfl)), rfl⟩
set_option maxRecDepth 100000 in
theorem w_519 : (Cond.selects "BelfryBoxModel" yX9_keep yX9_keep : Cond) ∈ gw := List.mem_filter.mpr ⟨List.mem_append_left _ (List.mem_map.mpr ⟨(⟨"BelfryBoxModel", "keep", "()V"⟩, 79), sl6 (List.mem_of_getElem? (i := 8) rfl), rfl⟩), rfl⟩
set_option maxRecDepth 100000 in
theorem w_520 : (Cond.methodLink "BelfryBoxModel" 298 yX9_code : Cond) ∈ gw := List.mem_filter.mpr ⟨List.mem_append_right _ (tb6 (List.mem_of_getElem? (i := 112) rfl)), rfl⟩
set_option maxRecDepth 100000 in
theorem w_521 : (Cond.code yX9_code prog_11_method_41_code 5 (Option.some Jvm.ClassFile.FieldType.int) : Cond) ∈ gw := List.mem_filter.mpr ⟨List.mem_append_right _ (tb6 (List.mem_of_getElem? (i := 115) rfl)), rfl⟩
set_option maxRecDepth 100000 in
theorem w_522 : (Cond.instanceMethod yX9_code : Cond) ∈ gw := List.mem_filter.mpr ⟨List.mem_append_right _ (tb6 (List.mem_of_getElem? (i := 114) rfl)), rfl⟩
set_option maxRecDepth 100000 in
theorem w_523 : (Cond.selects "BelfryBoxModel" yX9_code yX9_code : Cond) ∈ gw := List.mem_filter.mpr ⟨List.mem_append_left _ (List.mem_map.mpr ⟨(⟨"BelfryBoxModel", "code", "()I"⟩, 79), sl6 (List.mem_of_getElem? (i := 15) rfl), rfl⟩), rfl⟩
set_option maxRecDepth 100000 in
theorem w_524 : (Cond.methodLink "BelfryBoxModel" 301 yX9_pass : Cond) ∈ gw := List.mem_filter.mpr ⟨List.mem_append_right _ (tb6 (List.mem_of_getElem? (i := 204) rfl)), rfl⟩
set_option maxRecDepth 100000 in
theorem w_525 : (Cond.code yX9_pass prog_11_method_14_code 2 (Option.some Jvm.ClassFile.FieldType.boolean) : Cond) ∈ gw := List.mem_filter.mpr ⟨List.mem_append_right _ (tb6 (List.mem_of_getElem? (i := 207) rfl)), rfl⟩
set_option maxRecDepth 100000 in
theorem w_526 : (Cond.instanceMethod yX9_pass : Cond) ∈ gw := List.mem_filter.mpr ⟨List.mem_append_right _ (tb6 (List.mem_of_getElem? (i := 206) rfl)), rfl⟩
set_option maxRecDepth 100000 in
theorem w_527 : (Cond.selects "BelfryBoxModel" yX9_pass yX9_pass : Cond) ∈ gw := List.mem_filter.mpr ⟨List.mem_append_left _ (List.mem_map.mpr ⟨(⟨"BelfryBoxModel", "pass", "()Z"⟩, 79), sl8 (List.mem_of_getElem? (i := 5) rfl), rfl⟩), rfl⟩
theorem dX9_isIllegal_0 : decode cX9_isIllegal 0 = .ok (.aload_n 0, 1) := by decide +kernel
theorem dX9_isIllegal_1 : decode cX9_isIllegal 1 = .ok (.getfield 17, 3) := by decide +kernel
theorem dX9_isIllegal_4 : decode cX9_isIllegal 4 = .ok (.aload_n 0, 1) := by decide +kernel
theorem dX9_isIllegal_5 : decode cX9_isIllegal 5 = .ok (.getfield 120, 3) := by decide +kernel
theorem dX9_isIllegal_8 : decode cX9_isIllegal 8 = .ok (.iaload, 1) := by decide +kernel
theorem dX9_isIllegal_9 : decode cX9_isIllegal 9 = .ok (.sipush 216, 3) := by decide +kernel
theorem dX9_isIllegal_12 : decode cX9_isIllegal 12 = .ok (.if_icmp .ne 27, 3) := by decide +kernel
theorem dX9_isIllegal_39 : decode cX9_isIllegal 39 = .ok (.iconst 0, 1) := by decide +kernel
theorem dX9_isIllegal_40 : decode cX9_isIllegal 40 = .ok (.ireturn, 1) := by decide +kernel
theorem dX9_behind_0 : decode cX9_behind 0 = .ok (.aload_n 0, 1) := by decide +kernel
theorem dX9_behind_1 : decode cX9_behind 1 = .ok (.getfield 17, 3) := by decide +kernel
theorem dX9_behind_4 : decode cX9_behind 4 = .ok (.aload_n 0, 1) := by decide +kernel
theorem dX9_behind_5 : decode cX9_behind 5 = .ok (.getfield 120, 3) := by decide +kernel
theorem dX9_behind_8 : decode cX9_behind 8 = .ok (.iaload, 1) := by decide +kernel
theorem dX9_behind_9 : decode cX9_behind 9 = .ok (.istore_n 1, 1) := by decide +kernel
theorem dX9_behind_10 : decode cX9_behind 10 = .ok (.aload_n 0, 1) := by decide +kernel
theorem dX9_behind_11 : decode cX9_behind 11 = .ok (.aload_n 0, 1) := by decide +kernel
theorem dX9_behind_12 : decode cX9_behind 12 = .ok (.getfield 120, 3) := by decide +kernel
theorem dX9_behind_15 : decode cX9_behind 15 = .ok (.iconst 1, 1) := by decide +kernel
theorem dX9_behind_16 : decode cX9_behind 16 = .ok (.iadd, 1) := by decide +kernel
theorem dX9_behind_17 : decode cX9_behind 17 = .ok (.sipush 4095, 3) := by decide +kernel
theorem dX9_behind_20 : decode cX9_behind 20 = .ok (.iand, 1) := by decide +kernel
theorem dX9_behind_21 : decode cX9_behind 21 = .ok (.putfield 120, 3) := by decide +kernel
theorem dX9_behind_24 : decode cX9_behind 24 = .ok (.iload_n 1, 1) := by decide +kernel
theorem dX9_behind_25 : decode cX9_behind 25 = .ok (.ireturn, 1) := by decide +kernel
theorem dX9_keep_0 : decode cX9_keep 0 = .ok (.aload_n 0, 1) := by decide +kernel
theorem dX9_keep_1 : decode cX9_keep 1 = .ok (.bipush 60, 2) := by decide +kernel
theorem dX9_keep_3 : decode cX9_keep 3 = .ok (.aload_n 0, 1) := by decide +kernel
theorem dX9_keep_4 : decode cX9_keep 4 = .ok (.getfield 270, 3) := by decide +kernel
theorem dX9_keep_7 : decode cX9_keep 7 = .ok (.imul, 1) := by decide +kernel
theorem dX9_keep_8 : decode cX9_keep 8 = .ok (.putfield 207, 3) := by decide +kernel
theorem dX9_keep_11 : decode cX9_keep 11 = .ok (.aload_n 0, 1) := by decide +kernel
theorem dX9_keep_12 : decode cX9_keep 12 = .ok (.iconst 0, 1) := by decide +kernel
theorem dX9_keep_13 : decode cX9_keep 13 = .ok (.putfield 210, 3) := by decide +kernel
theorem dX9_keep_16 : decode cX9_keep 16 = .ok (.aload_n 0, 1) := by decide +kernel
theorem dX9_keep_17 : decode cX9_keep 17 = .ok (.getfield 42, 3) := by decide +kernel
theorem dX9_keep_20 : decode cX9_keep 20 = .ok (.astore_n 1, 1) := by decide +kernel
theorem dX9_keep_21 : decode cX9_keep 21 = .ok (.aload_n 1, 1) := by decide +kernel
theorem dX9_keep_22 : decode cX9_keep 22 = .ok (.aload_n 0, 1) := by decide +kernel
theorem dX9_keep_23 : decode cX9_keep 23 = .ok (.getfield 207, 3) := by decide +kernel
theorem dX9_keep_26 : decode cX9_keep 26 = .ok (.aload_n 0, 1) := by decide +kernel
theorem dX9_keep_27 : decode cX9_keep 27 = .ok (.getfield 89, 3) := by decide +kernel
theorem dX9_keep_30 : decode cX9_keep 30 = .ok (.iastore, 1) := by decide +kernel
theorem dX9_keep_31 : decode cX9_keep 31 = .ok (.aload_n 1, 1) := by decide +kernel
theorem dX9_keep_32 : decode cX9_keep 32 = .ok (.aload_n 0, 1) := by decide +kernel
theorem dX9_keep_33 : decode cX9_keep 33 = .ok (.getfield 207, 3) := by decide +kernel
theorem dX9_keep_36 : decode cX9_keep 36 = .ok (.iconst 1, 1) := by decide +kernel
theorem dX9_keep_37 : decode cX9_keep 37 = .ok (.iadd, 1) := by decide +kernel
theorem dX9_keep_38 : decode cX9_keep 38 = .ok (.aload_n 0, 1) := by decide +kernel
theorem dX9_keep_39 : decode cX9_keep 39 = .ok (.getfield 92, 3) := by decide +kernel
theorem dX9_keep_42 : decode cX9_keep 42 = .ok (.iastore, 1) := by decide +kernel
theorem dX9_keep_43 : decode cX9_keep 43 = .ok (.aload_n 1, 1) := by decide +kernel
theorem dX9_keep_44 : decode cX9_keep 44 = .ok (.aload_n 0, 1) := by decide +kernel
theorem dX9_keep_45 : decode cX9_keep 45 = .ok (.getfield 207, 3) := by decide +kernel
theorem dX9_keep_48 : decode cX9_keep 48 = .ok (.iconst 2, 1) := by decide +kernel
theorem dX9_keep_49 : decode cX9_keep 49 = .ok (.iadd, 1) := by decide +kernel
theorem dX9_keep_50 : decode cX9_keep 50 = .ok (.aload_n 0, 1) := by decide +kernel
theorem dX9_keep_51 : decode cX9_keep 51 = .ok (.getfield 95, 3) := by decide +kernel
theorem dX9_keep_54 : decode cX9_keep 54 = .ok (.iastore, 1) := by decide +kernel
theorem dX9_keep_55 : decode cX9_keep 55 = .ok (.aload_n 1, 1) := by decide +kernel
theorem dX9_keep_56 : decode cX9_keep 56 = .ok (.aload_n 0, 1) := by decide +kernel
theorem dX9_keep_57 : decode cX9_keep 57 = .ok (.getfield 207, 3) := by decide +kernel
theorem dX9_keep_60 : decode cX9_keep 60 = .ok (.iconst 3, 1) := by decide +kernel
theorem dX9_keep_61 : decode cX9_keep 61 = .ok (.iadd, 1) := by decide +kernel
theorem dX9_keep_62 : decode cX9_keep 62 = .ok (.aload_n 0, 1) := by decide +kernel
theorem dX9_keep_63 : decode cX9_keep 63 = .ok (.getfield 98, 3) := by decide +kernel
theorem dX9_keep_66 : decode cX9_keep 66 = .ok (.iastore, 1) := by decide +kernel
theorem dX9_keep_67 : decode cX9_keep 67 = .ok (.aload_n 1, 1) := by decide +kernel
theorem dX9_keep_68 : decode cX9_keep 68 = .ok (.aload_n 0, 1) := by decide +kernel
theorem dX9_keep_69 : decode cX9_keep 69 = .ok (.getfield 207, 3) := by decide +kernel
theorem dX9_keep_72 : decode cX9_keep 72 = .ok (.iconst 4, 1) := by decide +kernel
theorem dX9_keep_73 : decode cX9_keep 73 = .ok (.iadd, 1) := by decide +kernel
theorem dX9_keep_74 : decode cX9_keep 74 = .ok (.aload_n 0, 1) := by decide +kernel
theorem dX9_keep_75 : decode cX9_keep 75 = .ok (.getfield 120, 3) := by decide +kernel
theorem dX9_keep_78 : decode cX9_keep 78 = .ok (.iastore, 1) := by decide +kernel
theorem dX9_keep_79 : decode cX9_keep 79 = .ok (.aload_n 1, 1) := by decide +kernel
theorem dX9_keep_80 : decode cX9_keep 80 = .ok (.aload_n 0, 1) := by decide +kernel
theorem dX9_keep_81 : decode cX9_keep 81 = .ok (.getfield 207, 3) := by decide +kernel
theorem dX9_keep_84 : decode cX9_keep 84 = .ok (.iconst 5, 1) := by decide +kernel
theorem dX9_keep_85 : decode cX9_keep 85 = .ok (.iadd, 1) := by decide +kernel
theorem dX9_keep_86 : decode cX9_keep 86 = .ok (.aload_n 0, 1) := by decide +kernel
theorem dX9_keep_87 : decode cX9_keep 87 = .ok (.invokevirtual 255, 3) := by decide +kernel
theorem dX9_keep_90 : decode cX9_keep 90 = .ok (.iastore, 1) := by decide +kernel
theorem dX9_keep_91 : decode cX9_keep 91 = .ok (.aload_n 1, 1) := by decide +kernel
theorem dX9_keep_92 : decode cX9_keep 92 = .ok (.aload_n 0, 1) := by decide +kernel
theorem dX9_keep_93 : decode cX9_keep 93 = .ok (.getfield 207, 3) := by decide +kernel
theorem dX9_keep_96 : decode cX9_keep 96 = .ok (.bipush 6, 2) := by decide +kernel
theorem dX9_keep_98 : decode cX9_keep 98 = .ok (.iadd, 1) := by decide +kernel
theorem dX9_keep_99 : decode cX9_keep 99 = .ok (.aload_n 0, 1) := by decide +kernel
theorem dX9_keep_100 : decode cX9_keep 100 = .ok (.getfield 123, 3) := by decide +kernel
theorem dX9_keep_103 : decode cX9_keep 103 = .ok (.invokestatic 216, 3) := by decide +kernel
theorem dX9_keep_106 : decode cX9_keep 106 = .ok (.iastore, 1) := by decide +kernel
theorem dX9_keep_107 : decode cX9_keep 107 = .ok (.aload_n 1, 1) := by decide +kernel
theorem dX9_keep_108 : decode cX9_keep 108 = .ok (.aload_n 0, 1) := by decide +kernel
theorem dX9_keep_109 : decode cX9_keep 109 = .ok (.getfield 207, 3) := by decide +kernel
theorem dX9_keep_112 : decode cX9_keep 112 = .ok (.bipush 7, 2) := by decide +kernel
theorem dX9_keep_114 : decode cX9_keep 114 = .ok (.iadd, 1) := by decide +kernel
theorem dX9_keep_115 : decode cX9_keep 115 = .ok (.aload_n 0, 1) := by decide +kernel
theorem dX9_keep_116 : decode cX9_keep 116 = .ok (.getfield 181, 3) := by decide +kernel
theorem dX9_keep_119 : decode cX9_keep 119 = .ok (.iastore, 1) := by decide +kernel
theorem dX9_keep_120 : decode cX9_keep 120 = .ok (.aload_n 1, 1) := by decide +kernel
theorem dX9_keep_121 : decode cX9_keep 121 = .ok (.aload_n 0, 1) := by decide +kernel
theorem dX9_keep_122 : decode cX9_keep 122 = .ok (.getfield 207, 3) := by decide +kernel
theorem dX9_keep_125 : decode cX9_keep 125 = .ok (.bipush 8, 2) := by decide +kernel
theorem dX9_keep_127 : decode cX9_keep 127 = .ok (.iadd, 1) := by decide +kernel
theorem dX9_keep_128 : decode cX9_keep 128 = .ok (.aload_n 0, 1) := by decide +kernel
theorem dX9_keep_129 : decode cX9_keep 129 = .ok (.getfield 130, 3) := by decide +kernel
theorem dX9_keep_132 : decode cX9_keep 132 = .ok (.iastore, 1) := by decide +kernel
theorem dX9_keep_133 : decode cX9_keep 133 = .ok (.aload_n 1, 1) := by decide +kernel
theorem dX9_keep_134 : decode cX9_keep 134 = .ok (.aload_n 0, 1) := by decide +kernel
theorem dX9_keep_135 : decode cX9_keep 135 = .ok (.getfield 207, 3) := by decide +kernel
theorem dX9_keep_138 : decode cX9_keep 138 = .ok (.bipush 9, 2) := by decide +kernel
theorem dX9_keep_140 : decode cX9_keep 140 = .ok (.iadd, 1) := by decide +kernel
theorem dX9_keep_141 : decode cX9_keep 141 = .ok (.aload_n 0, 1) := by decide +kernel
theorem dX9_keep_142 : decode cX9_keep 142 = .ok (.getfield 133, 3) := by decide +kernel
theorem dX9_keep_145 : decode cX9_keep 145 = .ok (.iastore, 1) := by decide +kernel
theorem dX9_keep_146 : decode cX9_keep 146 = .ok (.aload_n 1, 1) := by decide +kernel
theorem dX9_keep_147 : decode cX9_keep 147 = .ok (.aload_n 0, 1) := by decide +kernel
theorem dX9_keep_148 : decode cX9_keep 148 = .ok (.getfield 207, 3) := by decide +kernel
theorem dX9_keep_151 : decode cX9_keep 151 = .ok (.bipush 10, 2) := by decide +kernel
theorem dX9_keep_153 : decode cX9_keep 153 = .ok (.iadd, 1) := by decide +kernel
theorem dX9_keep_154 : decode cX9_keep 154 = .ok (.aload_n 0, 1) := by decide +kernel
theorem dX9_keep_155 : decode cX9_keep 155 = .ok (.getfield 136, 3) := by decide +kernel
theorem dX9_keep_158 : decode cX9_keep 158 = .ok (.iastore, 1) := by decide +kernel
theorem dX9_keep_159 : decode cX9_keep 159 = .ok (.aload_n 1, 1) := by decide +kernel
theorem dX9_keep_160 : decode cX9_keep 160 = .ok (.aload_n 0, 1) := by decide +kernel
theorem dX9_keep_161 : decode cX9_keep 161 = .ok (.getfield 207, 3) := by decide +kernel
theorem dX9_keep_164 : decode cX9_keep 164 = .ok (.bipush 11, 2) := by decide +kernel
theorem dX9_keep_166 : decode cX9_keep 166 = .ok (.iadd, 1) := by decide +kernel
theorem dX9_keep_167 : decode cX9_keep 167 = .ok (.aload_n 0, 1) := by decide +kernel
theorem dX9_keep_168 : decode cX9_keep 168 = .ok (.getfield 139, 3) := by decide +kernel
theorem dX9_keep_171 : decode cX9_keep 171 = .ok (.iastore, 1) := by decide +kernel
theorem dX9_keep_172 : decode cX9_keep 172 = .ok (.aload_n 1, 1) := by decide +kernel
theorem dX9_keep_173 : decode cX9_keep 173 = .ok (.aload_n 0, 1) := by decide +kernel
theorem dX9_keep_174 : decode cX9_keep 174 = .ok (.getfield 207, 3) := by decide +kernel
theorem dX9_keep_177 : decode cX9_keep 177 = .ok (.bipush 12, 2) := by decide +kernel
theorem dX9_keep_179 : decode cX9_keep 179 = .ok (.iadd, 1) := by decide +kernel
theorem dX9_keep_180 : decode cX9_keep 180 = .ok (.aload_n 0, 1) := by decide +kernel
theorem dX9_keep_181 : decode cX9_keep 181 = .ok (.getfield 142, 3) := by decide +kernel
theorem dX9_keep_184 : decode cX9_keep 184 = .ok (.iastore, 1) := by decide +kernel
theorem dX9_keep_185 : decode cX9_keep 185 = .ok (.aload_n 1, 1) := by decide +kernel
theorem dX9_keep_186 : decode cX9_keep 186 = .ok (.aload_n 0, 1) := by decide +kernel
theorem dX9_keep_187 : decode cX9_keep 187 = .ok (.getfield 207, 3) := by decide +kernel
theorem dX9_keep_190 : decode cX9_keep 190 = .ok (.bipush 13, 2) := by decide +kernel
theorem dX9_keep_192 : decode cX9_keep 192 = .ok (.iadd, 1) := by decide +kernel
theorem dX9_keep_193 : decode cX9_keep 193 = .ok (.aload_n 0, 1) := by decide +kernel
theorem dX9_keep_194 : decode cX9_keep 194 = .ok (.getfield 145, 3) := by decide +kernel
theorem dX9_keep_197 : decode cX9_keep 197 = .ok (.iastore, 1) := by decide +kernel
theorem dX9_keep_198 : decode cX9_keep 198 = .ok (.aload_n 1, 1) := by decide +kernel
theorem dX9_keep_199 : decode cX9_keep 199 = .ok (.aload_n 0, 1) := by decide +kernel
theorem dX9_keep_200 : decode cX9_keep 200 = .ok (.getfield 207, 3) := by decide +kernel
theorem dX9_keep_203 : decode cX9_keep 203 = .ok (.bipush 14, 2) := by decide +kernel
theorem dX9_keep_205 : decode cX9_keep 205 = .ok (.iadd, 1) := by decide +kernel
theorem dX9_keep_206 : decode cX9_keep 206 = .ok (.aload_n 0, 1) := by decide +kernel
theorem dX9_keep_207 : decode cX9_keep 207 = .ok (.getfield 148, 3) := by decide +kernel
theorem dX9_keep_210 : decode cX9_keep 210 = .ok (.iastore, 1) := by decide +kernel
theorem dX9_keep_211 : decode cX9_keep 211 = .ok (.aload_n 1, 1) := by decide +kernel
theorem dX9_keep_212 : decode cX9_keep 212 = .ok (.aload_n 0, 1) := by decide +kernel
theorem dX9_keep_213 : decode cX9_keep 213 = .ok (.getfield 207, 3) := by decide +kernel
theorem dX9_keep_216 : decode cX9_keep 216 = .ok (.bipush 15, 2) := by decide +kernel
theorem dX9_keep_218 : decode cX9_keep 218 = .ok (.iadd, 1) := by decide +kernel
theorem dX9_keep_219 : decode cX9_keep 219 = .ok (.aload_n 0, 1) := by decide +kernel
theorem dX9_keep_220 : decode cX9_keep 220 = .ok (.getfield 151, 3) := by decide +kernel
theorem dX9_keep_223 : decode cX9_keep 223 = .ok (.iastore, 1) := by decide +kernel
theorem dX9_keep_224 : decode cX9_keep 224 = .ok (.aload_n 1, 1) := by decide +kernel
theorem dX9_keep_225 : decode cX9_keep 225 = .ok (.aload_n 0, 1) := by decide +kernel
theorem dX9_keep_226 : decode cX9_keep 226 = .ok (.getfield 207, 3) := by decide +kernel
theorem dX9_keep_229 : decode cX9_keep 229 = .ok (.bipush 16, 2) := by decide +kernel
theorem dX9_keep_231 : decode cX9_keep 231 = .ok (.iadd, 1) := by decide +kernel
theorem dX9_keep_232 : decode cX9_keep 232 = .ok (.aload_n 0, 1) := by decide +kernel
theorem dX9_keep_233 : decode cX9_keep 233 = .ok (.getfield 154, 3) := by decide +kernel
theorem dX9_keep_236 : decode cX9_keep 236 = .ok (.iastore, 1) := by decide +kernel
theorem dX9_keep_237 : decode cX9_keep 237 = .ok (.aload_n 1, 1) := by decide +kernel
theorem dX9_keep_238 : decode cX9_keep 238 = .ok (.aload_n 0, 1) := by decide +kernel
theorem dX9_keep_239 : decode cX9_keep 239 = .ok (.getfield 207, 3) := by decide +kernel
theorem dX9_keep_242 : decode cX9_keep 242 = .ok (.bipush 17, 2) := by decide +kernel
theorem dX9_keep_244 : decode cX9_keep 244 = .ok (.iadd, 1) := by decide +kernel
theorem dX9_keep_245 : decode cX9_keep 245 = .ok (.aload_n 0, 1) := by decide +kernel
theorem dX9_keep_246 : decode cX9_keep 246 = .ok (.getfield 157, 3) := by decide +kernel
theorem dX9_keep_249 : decode cX9_keep 249 = .ok (.iastore, 1) := by decide +kernel
theorem dX9_keep_250 : decode cX9_keep 250 = .ok (.aload_n 1, 1) := by decide +kernel
theorem dX9_keep_251 : decode cX9_keep 251 = .ok (.aload_n 0, 1) := by decide +kernel
theorem dX9_keep_252 : decode cX9_keep 252 = .ok (.getfield 207, 3) := by decide +kernel
theorem dX9_keep_255 : decode cX9_keep 255 = .ok (.bipush 18, 2) := by decide +kernel
theorem dX9_keep_257 : decode cX9_keep 257 = .ok (.iadd, 1) := by decide +kernel
theorem dX9_keep_258 : decode cX9_keep 258 = .ok (.aload_n 0, 1) := by decide +kernel
theorem dX9_keep_259 : decode cX9_keep 259 = .ok (.getfield 160, 3) := by decide +kernel
theorem dX9_keep_262 : decode cX9_keep 262 = .ok (.iastore, 1) := by decide +kernel
theorem dX9_keep_263 : decode cX9_keep 263 = .ok (.aload_n 1, 1) := by decide +kernel
theorem dX9_keep_264 : decode cX9_keep 264 = .ok (.aload_n 0, 1) := by decide +kernel
theorem dX9_keep_265 : decode cX9_keep 265 = .ok (.getfield 207, 3) := by decide +kernel
theorem dX9_keep_268 : decode cX9_keep 268 = .ok (.bipush 19, 2) := by decide +kernel
theorem dX9_keep_270 : decode cX9_keep 270 = .ok (.iadd, 1) := by decide +kernel
theorem dX9_keep_271 : decode cX9_keep 271 = .ok (.aload_n 0, 1) := by decide +kernel
theorem dX9_keep_272 : decode cX9_keep 272 = .ok (.getfield 163, 3) := by decide +kernel
theorem dX9_keep_275 : decode cX9_keep 275 = .ok (.iastore, 1) := by decide +kernel
theorem dX9_keep_276 : decode cX9_keep 276 = .ok (.iconst 0, 1) := by decide +kernel
theorem dX9_keep_277 : decode cX9_keep 277 = .ok (.istore_n 2, 1) := by decide +kernel
theorem dX9_keep_278 : decode cX9_keep 278 = .ok (.iload_n 2, 1) := by decide +kernel
theorem dX9_keep_279 : decode cX9_keep 279 = .ok (.bipush 16, 2) := by decide +kernel
theorem dX9_keep_281 : decode cX9_keep 281 = .ok (.if_icmp .ge 26, 3) := by decide +kernel
theorem dX9_keep_284 : decode cX9_keep 284 = .ok (.aload_n 1, 1) := by decide +kernel
theorem dX9_keep_285 : decode cX9_keep 285 = .ok (.aload_n 0, 1) := by decide +kernel
theorem dX9_keep_286 : decode cX9_keep 286 = .ok (.getfield 207, 3) := by decide +kernel
theorem dX9_keep_289 : decode cX9_keep 289 = .ok (.bipush 20, 2) := by decide +kernel
theorem dX9_keep_291 : decode cX9_keep 291 = .ok (.iadd, 1) := by decide +kernel
theorem dX9_keep_292 : decode cX9_keep 292 = .ok (.iload_n 2, 1) := by decide +kernel
theorem dX9_keep_293 : decode cX9_keep 293 = .ok (.iadd, 1) := by decide +kernel
theorem dX9_keep_294 : decode cX9_keep 294 = .ok (.aload_n 0, 1) := by decide +kernel
theorem dX9_keep_295 : decode cX9_keep 295 = .ok (.getfield 20, 3) := by decide +kernel
theorem dX9_keep_298 : decode cX9_keep 298 = .ok (.iload_n 2, 1) := by decide +kernel
theorem dX9_keep_299 : decode cX9_keep 299 = .ok (.iaload, 1) := by decide +kernel
theorem dX9_keep_300 : decode cX9_keep 300 = .ok (.iastore, 1) := by decide +kernel
theorem dX9_keep_301 : decode cX9_keep 301 = .ok (.iinc 2 1, 3) := by decide +kernel
theorem dX9_keep_304 : decode cX9_keep 304 = .ok (.goto (-26), 3) := by decide +kernel
theorem dX9_keep_307 : decode cX9_keep 307 = .ok (.iconst 0, 1) := by decide +kernel
theorem dX9_keep_308 : decode cX9_keep 308 = .ok (.istore_n 2, 1) := by decide +kernel
theorem dX9_keep_309 : decode cX9_keep 309 = .ok (.iload_n 2, 1) := by decide +kernel
theorem dX9_keep_310 : decode cX9_keep 310 = .ok (.bipush 8, 2) := by decide +kernel
theorem dX9_keep_312 : decode cX9_keep 312 = .ok (.if_icmp .ge 26, 3) := by decide +kernel
theorem dX9_keep_315 : decode cX9_keep 315 = .ok (.aload_n 1, 1) := by decide +kernel
theorem dX9_keep_316 : decode cX9_keep 316 = .ok (.aload_n 0, 1) := by decide +kernel
theorem dX9_keep_317 : decode cX9_keep 317 = .ok (.getfield 207, 3) := by decide +kernel
theorem dX9_keep_320 : decode cX9_keep 320 = .ok (.bipush 36, 2) := by decide +kernel
theorem dX9_keep_322 : decode cX9_keep 322 = .ok (.iadd, 1) := by decide +kernel
theorem dX9_keep_323 : decode cX9_keep 323 = .ok (.iload_n 2, 1) := by decide +kernel
theorem dX9_keep_324 : decode cX9_keep 324 = .ok (.iadd, 1) := by decide +kernel
theorem dX9_keep_325 : decode cX9_keep 325 = .ok (.aload_n 0, 1) := by decide +kernel
theorem dX9_keep_326 : decode cX9_keep 326 = .ok (.getfield 23, 3) := by decide +kernel
theorem dX9_keep_329 : decode cX9_keep 329 = .ok (.iload_n 2, 1) := by decide +kernel
theorem dX9_keep_330 : decode cX9_keep 330 = .ok (.iaload, 1) := by decide +kernel
theorem dX9_keep_331 : decode cX9_keep 331 = .ok (.iastore, 1) := by decide +kernel
theorem dX9_keep_332 : decode cX9_keep 332 = .ok (.iinc 2 1, 3) := by decide +kernel
theorem dX9_keep_335 : decode cX9_keep 335 = .ok (.goto (-26), 3) := by decide +kernel
theorem dX9_keep_338 : decode cX9_keep 338 = .ok (.aload_n 1, 1) := by decide +kernel
theorem dX9_keep_339 : decode cX9_keep 339 = .ok (.aload_n 0, 1) := by decide +kernel
theorem dX9_keep_340 : decode cX9_keep 340 = .ok (.getfield 207, 3) := by decide +kernel
theorem dX9_keep_343 : decode cX9_keep 343 = .ok (.bipush 44, 2) := by decide +kernel
theorem dX9_keep_345 : decode cX9_keep 345 = .ok (.iadd, 1) := by decide +kernel
theorem dX9_keep_346 : decode cX9_keep 346 = .ok (.aload_n 0, 1) := by decide +kernel
theorem dX9_keep_347 : decode cX9_keep 347 = .ok (.getfield 166, 3) := by decide +kernel
theorem dX9_keep_350 : decode cX9_keep 350 = .ok (.iastore, 1) := by decide +kernel
theorem dX9_keep_351 : decode cX9_keep 351 = .ok (.aload_n 1, 1) := by decide +kernel
theorem dX9_keep_352 : decode cX9_keep 352 = .ok (.aload_n 0, 1) := by decide +kernel
theorem dX9_keep_353 : decode cX9_keep 353 = .ok (.getfield 207, 3) := by decide +kernel
theorem dX9_keep_356 : decode cX9_keep 356 = .ok (.bipush 45, 2) := by decide +kernel
theorem dX9_keep_358 : decode cX9_keep 358 = .ok (.iadd, 1) := by decide +kernel
theorem dX9_keep_359 : decode cX9_keep 359 = .ok (.aload_n 0, 1) := by decide +kernel
theorem dX9_keep_360 : decode cX9_keep 360 = .ok (.getfield 169, 3) := by decide +kernel
theorem dX9_keep_363 : decode cX9_keep 363 = .ok (.iastore, 1) := by decide +kernel
theorem dX9_keep_364 : decode cX9_keep 364 = .ok (.aload_n 1, 1) := by decide +kernel
theorem dX9_keep_365 : decode cX9_keep 365 = .ok (.aload_n 0, 1) := by decide +kernel
theorem dX9_keep_366 : decode cX9_keep 366 = .ok (.getfield 207, 3) := by decide +kernel
theorem dX9_keep_369 : decode cX9_keep 369 = .ok (.bipush 46, 2) := by decide +kernel
theorem dX9_keep_371 : decode cX9_keep 371 = .ok (.iadd, 1) := by decide +kernel
theorem dX9_keep_372 : decode cX9_keep 372 = .ok (.aload_n 0, 1) := by decide +kernel
theorem dX9_keep_373 : decode cX9_keep 373 = .ok (.getfield 172, 3) := by decide +kernel
theorem dX9_keep_376 : decode cX9_keep 376 = .ok (.iastore, 1) := by decide +kernel
theorem dX9_keep_377 : decode cX9_keep 377 = .ok (.aload_n 1, 1) := by decide +kernel
theorem dX9_keep_378 : decode cX9_keep 378 = .ok (.aload_n 0, 1) := by decide +kernel
theorem dX9_keep_379 : decode cX9_keep 379 = .ok (.getfield 207, 3) := by decide +kernel
theorem dX9_keep_382 : decode cX9_keep 382 = .ok (.bipush 47, 2) := by decide +kernel
theorem dX9_keep_384 : decode cX9_keep 384 = .ok (.iadd, 1) := by decide +kernel
theorem dX9_keep_385 : decode cX9_keep 385 = .ok (.aload_n 0, 1) := by decide +kernel
theorem dX9_keep_386 : decode cX9_keep 386 = .ok (.getfield 175, 3) := by decide +kernel
theorem dX9_keep_389 : decode cX9_keep 389 = .ok (.iastore, 1) := by decide +kernel
theorem dX9_keep_390 : decode cX9_keep 390 = .ok (.aload_n 1, 1) := by decide +kernel
theorem dX9_keep_391 : decode cX9_keep 391 = .ok (.aload_n 0, 1) := by decide +kernel
theorem dX9_keep_392 : decode cX9_keep 392 = .ok (.getfield 207, 3) := by decide +kernel
theorem dX9_keep_395 : decode cX9_keep 395 = .ok (.bipush 48, 2) := by decide +kernel
theorem dX9_keep_397 : decode cX9_keep 397 = .ok (.iadd, 1) := by decide +kernel
theorem dX9_keep_398 : decode cX9_keep 398 = .ok (.aload_n 0, 1) := by decide +kernel
theorem dX9_keep_399 : decode cX9_keep 399 = .ok (.getfield 178, 3) := by decide +kernel
theorem dX9_keep_402 : decode cX9_keep 402 = .ok (.iastore, 1) := by decide +kernel
theorem dX9_keep_403 : decode cX9_keep 403 = .ok (.return_, 1) := by decide +kernel
theorem dX9_code_0 : decode cX9_code 0 = .ok (.aload_n 0, 1) := by decide +kernel
theorem dX9_code_1 : decode cX9_code 1 = .ok (.invokevirtual 220, 3) := by decide +kernel
theorem dX9_code_4 : decode cX9_code 4 = .ok (.istore_n 1, 1) := by decide +kernel
theorem dX9_code_5 : decode cX9_code 5 = .ok (.iload_n 1, 1) := by decide +kernel
theorem dX9_code_6 : decode cX9_code 6 = .ok (.iconst 3, 1) := by decide +kernel
theorem dX9_code_7 : decode cX9_code 7 = .ok (.ishr, 1) := by decide +kernel
theorem dX9_code_8 : decode cX9_code 8 = .ok (.istore_n 2, 1) := by decide +kernel
theorem dX9_code_9 : decode cX9_code 9 = .ok (.iload_n 1, 1) := by decide +kernel
theorem dX9_code_10 : decode cX9_code 10 = .ok (.bipush 7, 2) := by decide +kernel
theorem dX9_code_12 : decode cX9_code 12 = .ok (.iand, 1) := by decide +kernel
theorem dX9_code_13 : decode cX9_code 13 = .ok (.istore_n 3, 1) := by decide +kernel
theorem dX9_code_14 : decode cX9_code 14 = .ok (.iload_n 3, 1) := by decide +kernel
theorem dX9_code_15 : decode cX9_code 15 = .ok (.ifCond .le 43, 3) := by decide +kernel
theorem dX9_code_58 : decode cX9_code 58 = .ok (.aload_n 0, 1) := by decide +kernel
theorem dX9_code_59 : decode cX9_code 59 = .ok (.invokevirtual 220, 3) := by decide +kernel
theorem dX9_code_62 : decode cX9_code 62 = .ok (.istore 4, 2) := by decide +kernel
theorem dX9_code_64 : decode cX9_code 64 = .ok (.iload_n 2, 1) := by decide +kernel
theorem dX9_code_65 : decode cX9_code 65 = .ok (.bipush 16, 2) := by decide +kernel
theorem dX9_code_67 : decode cX9_code 67 = .ok (.if_icmp .ge 13, 3) := by decide +kernel
theorem dX9_code_70 : decode cX9_code 70 = .ok (.iconst 2, 1) := by decide +kernel
theorem dX9_code_71 : decode cX9_code 71 = .ok (.aload_n 0, 1) := by decide +kernel
theorem dX9_code_72 : decode cX9_code 72 = .ok (.iload_n 2, 1) := by decide +kernel
theorem dX9_code_73 : decode cX9_code 73 = .ok (.iload 4, 2) := by decide +kernel
theorem dX9_code_75 : decode cX9_code 75 = .ok (.invokevirtual 279, 3) := by decide +kernel
theorem dX9_valued_0 : decode cX9_valued 0 = .ok (.iload_n 1, 1) := by decide +kernel
theorem dX9_valued_1 : decode cX9_valued 1 = .ok (.tableswitch 336 0 14 #[75, 86, 97, 108, 123, 142, 158, 174, 190, 201, 212, 223, 264, 313, 321], 75) := by decide +kernel
theorem dX9_valued_76 : decode cX9_valued 76 = .ok (.aload_n 0, 1) := by decide +kernel
theorem dX9_valued_77 : decode cX9_valued 77 = .ok (.aload_n 0, 1) := by decide +kernel
theorem dX9_valued_78 : decode cX9_valued 78 = .ok (.iload_n 2, 1) := by decide +kernel
theorem dX9_valued_79 : decode cX9_valued 79 = .ok (.invokevirtual 229, 3) := by decide +kernel
theorem dX9_signed_0 : decode cX9_signed 0 = .ok (.iload_n 1, 1) := by decide +kernel
theorem dX9_signed_1 : decode cX9_signed 1 = .ok (.sipush 255, 3) := by decide +kernel
theorem dX9_signed_4 : decode cX9_signed 4 = .ok (.iand, 1) := by decide +kernel
theorem dX9_signed_5 : decode cX9_signed 5 = .ok (.istore_n 2, 1) := by decide +kernel
theorem dX9_signed_6 : decode cX9_signed 6 = .ok (.aload_n 0, 1) := by decide +kernel
theorem dX9_signed_7 : decode cX9_signed 7 = .ok (.iload_n 2, 1) := by decide +kernel
theorem dX9_signed_8 : decode cX9_signed 8 = .ok (.bipush 7, 2) := by decide +kernel
theorem dX9_signed_10 : decode cX9_signed 10 = .ok (.ishr, 1) := by decide +kernel
theorem dX9_signed_11 : decode cX9_signed 11 = .ok (.putfield 101, 3) := by decide +kernel
theorem dX9_signed_14 : decode cX9_signed 14 = .ok (.aload_n 0, 1) := by decide +kernel
theorem dX9_signed_15 : decode cX9_signed 15 = .ok (.iload_n 2, 1) := by decide +kernel
theorem dX9_signed_16 : decode cX9_signed 16 = .ok (.ifCond .ne 7, 3) := by decide +kernel
theorem dX9_signed_19 : decode cX9_signed 19 = .ok (.iconst 1, 1) := by decide +kernel
theorem dX9_signed_20 : decode cX9_signed 20 = .ok (.goto 4, 3) := by decide +kernel
theorem dX9_signed_24 : decode cX9_signed 24 = .ok (.invokestatic 216, 3) := by decide +kernel
theorem dX9_signed_27 : decode cX9_signed 27 = .ok (.putfield 110, 3) := by decide +kernel
theorem dX9_signed_30 : decode cX9_signed 30 = .ok (.iload_n 2, 1) := by decide +kernel
theorem dX9_signed_31 : decode cX9_signed 31 = .ok (.ireturn, 1) := by decide +kernel
theorem dX9_valued_82 : decode cX9_valued 82 = .ok (.putfield 89, 3) := by decide +kernel
theorem dX9_valued_85 : decode cX9_valued 85 = .ok (.iconst 0, 1) := by decide +kernel
theorem dX9_valued_86 : decode cX9_valued 86 = .ok (.ireturn, 1) := by decide +kernel
theorem dX9_code_78 : decode cX9_code 78 = .ok (.iadd, 1) := by decide +kernel
theorem dX9_code_79 : decode cX9_code 79 = .ok (.ireturn, 1) := by decide +kernel
theorem dX9_pass_0 : decode cX9_pass 0 = .ok (.aload_n 0, 1) := by decide +kernel
theorem dX9_pass_1 : decode cX9_pass 1 = .ok (.dup, 1) := by decide +kernel
theorem dX9_pass_2 : decode cX9_pass 2 = .ok (.getfield 181, 3) := by decide +kernel
theorem dX9_pass_5 : decode cX9_pass 5 = .ok (.iconst 1, 1) := by decide +kernel
theorem dX9_pass_6 : decode cX9_pass 6 = .ok (.iadd, 1) := by decide +kernel
theorem dX9_pass_7 : decode cX9_pass 7 = .ok (.putfield 181, 3) := by decide +kernel
theorem dX9_pass_10 : decode cX9_pass 10 = .ok (.aload_n 0, 1) := by decide +kernel
theorem dX9_pass_11 : decode cX9_pass 11 = .ok (.getfield 136, 3) := by decide +kernel
theorem dX9_pass_14 : decode cX9_pass 14 = .ok (.iconst 1, 1) := by decide +kernel
theorem dX9_pass_15 : decode cX9_pass 15 = .ok (.if_icmp .ne 48, 3) := by decide +kernel
theorem dX9_pass_63 : decode cX9_pass 63 = .ok (.aload_n 0, 1) := by decide +kernel
theorem dX9_pass_64 : decode cX9_pass 64 = .ok (.getfield 139, 3) := by decide +kernel
theorem dX9_pass_67 : decode cX9_pass 67 = .ok (.iconst 1, 1) := by decide +kernel
theorem dX9_pass_68 : decode cX9_pass 68 = .ok (.if_icmp .ne 13, 3) := by decide +kernel
theorem dX9_pass_81 : decode cX9_pass 81 = .ok (.aload_n 0, 1) := by decide +kernel
theorem dX9_pass_82 : decode cX9_pass 82 = .ok (.getfield 139, 3) := by decide +kernel
theorem dX9_pass_85 : decode cX9_pass 85 = .ok (.iconst 1, 1) := by decide +kernel
theorem dX9_pass_86 : decode cX9_pass 86 = .ok (.if_icmp .ne 63, 3) := by decide +kernel
theorem dX9_pass_149 : decode cX9_pass 149 = .ok (.iconst 0, 1) := by decide +kernel
theorem dX9_pass_150 : decode cX9_pass 150 = .ok (.istore_n 1, 1) := by decide +kernel
theorem dX9_pass_151 : decode cX9_pass 151 = .ok (.iload_n 1, 1) := by decide +kernel
theorem dX9_pass_152 : decode cX9_pass 152 = .ok (.bipush 8, 2) := by decide +kernel
theorem dX9_pass_154 : decode cX9_pass 154 = .ok (.if_icmp .ge 56, 3) := by decide +kernel
theorem dX9_pass_157 : decode cX9_pass 157 = .ok (.aload_n 0, 1) := by decide +kernel
theorem dX9_pass_158 : decode cX9_pass 158 = .ok (.dup, 1) := by decide +kernel
theorem dX9_pass_159 : decode cX9_pass 159 = .ok (.getfield 151, 3) := by decide +kernel
theorem dX9_pass_162 : decode cX9_pass 162 = .ok (.aload_n 0, 1) := by decide +kernel
theorem dX9_pass_163 : decode cX9_pass 163 = .ok (.getfield 23, 3) := by decide +kernel
theorem dX9_pass_166 : decode cX9_pass 166 = .ok (.iload_n 1, 1) := by decide +kernel
theorem dX9_pass_167 : decode cX9_pass 167 = .ok (.iaload, 1) := by decide +kernel
theorem dX9_pass_168 : decode cX9_pass 168 = .ok (.iconst 1, 1) := by decide +kernel
theorem dX9_pass_169 : decode cX9_pass 169 = .ok (.if_icmp .ne 7, 3) := by decide +kernel
theorem dX9_pass_176 : decode cX9_pass 176 = .ok (.iconst 0, 1) := by decide +kernel
theorem dX9_pass_177 : decode cX9_pass 177 = .ok (.ior, 1) := by decide +kernel
theorem dX9_pass_178 : decode cX9_pass 178 = .ok (.putfield 151, 3) := by decide +kernel
theorem dX9_pass_181 : decode cX9_pass 181 = .ok (.aload_n 0, 1) := by decide +kernel
theorem dX9_pass_182 : decode cX9_pass 182 = .ok (.getfield 23, 3) := by decide +kernel
theorem dX9_pass_185 : decode cX9_pass 185 = .ok (.iload_n 1, 1) := by decide +kernel
theorem dX9_pass_186 : decode cX9_pass 186 = .ok (.dup2, 1) := by decide +kernel
theorem dX9_pass_187 : decode cX9_pass 187 = .ok (.iaload, 1) := by decide +kernel
theorem dX9_pass_188 : decode cX9_pass 188 = .ok (.aload_n 0, 1) := by decide +kernel
theorem dX9_pass_189 : decode cX9_pass 189 = .ok (.getfield 23, 3) := by decide +kernel
theorem dX9_pass_192 : decode cX9_pass 192 = .ok (.iload_n 1, 1) := by decide +kernel
theorem dX9_pass_193 : decode cX9_pass 193 = .ok (.iaload, 1) := by decide +kernel
theorem dX9_pass_194 : decode cX9_pass 194 = .ok (.ifCond .le 7, 3) := by decide +kernel
theorem dX9_pass_201 : decode cX9_pass 201 = .ok (.iconst 0, 1) := by decide +kernel
theorem dX9_pass_202 : decode cX9_pass 202 = .ok (.isub, 1) := by decide +kernel
theorem dX9_pass_203 : decode cX9_pass 203 = .ok (.iastore, 1) := by decide +kernel
theorem dX9_pass_204 : decode cX9_pass 204 = .ok (.iinc 1 1, 3) := by decide +kernel
theorem dX9_pass_207 : decode cX9_pass 207 = .ok (.goto (-56), 3) := by decide +kernel
theorem dX9_pass_210 : decode cX9_pass 210 = .ok (.aload_n 0, 1) := by decide +kernel
theorem dX9_pass_211 : decode cX9_pass 211 = .ok (.dup, 1) := by decide +kernel
theorem dX9_pass_212 : decode cX9_pass 212 = .ok (.getfield 157, 3) := by decide +kernel
theorem dX9_pass_215 : decode cX9_pass 215 = .ok (.aload_n 0, 1) := by decide +kernel
theorem dX9_pass_216 : decode cX9_pass 216 = .ok (.getfield 157, 3) := by decide +kernel
theorem dX9_pass_219 : decode cX9_pass 219 = .ok (.ifCond .le 7, 3) := by decide +kernel
theorem dX9_pass_226 : decode cX9_pass 226 = .ok (.iconst 0, 1) := by decide +kernel
theorem dX9_pass_227 : decode cX9_pass 227 = .ok (.isub, 1) := by decide +kernel
theorem dX9_pass_228 : decode cX9_pass 228 = .ok (.putfield 157, 3) := by decide +kernel
theorem dX9_pass_231 : decode cX9_pass 231 = .ok (.aload_n 0, 1) := by decide +kernel
theorem dX9_pass_232 : decode cX9_pass 232 = .ok (.getfield 157, 3) := by decide +kernel
theorem dX9_pass_235 : decode cX9_pass 235 = .ok (.ifCond .ne 7, 3) := by decide +kernel
theorem dX9_pass_238 : decode cX9_pass 238 = .ok (.iconst 1, 1) := by decide +kernel
theorem dX9_pass_239 : decode cX9_pass 239 = .ok (.goto 4, 3) := by decide +kernel
theorem dX9_pass_243 : decode cX9_pass 243 = .ok (.ireturn, 1) := by decide +kernel
theorem dX9_step_0 : decode cX9_step 0 = .ok (.aload_n 0, 1) := by decide +kernel
theorem dX9_step_1 : decode cX9_step 1 = .ok (.getfield 107, 3) := by decide +kernel
theorem dX9_step_4 : decode cX9_step 4 = .ok (.ifCond .ne 19, 3) := by decide +kernel
theorem dX9_step_23 : decode cX9_step 23 = .ok (.iconst 0, 1) := by decide +kernel
theorem dX9_step_24 : decode cX9_step 24 = .ok (.istore_n 1, 1) := by decide +kernel
theorem dX9_step_25 : decode cX9_step 25 = .ok (.iload_n 1, 1) := by decide +kernel
theorem dX9_step_26 : decode cX9_step 26 = .ok (.ifCond .ne 12, 3) := by decide +kernel
theorem dX9_step_29 : decode cX9_step 29 = .ok (.aload_n 0, 1) := by decide +kernel
theorem dX9_step_30 : decode cX9_step 30 = .ok (.invokevirtual 291, 3) := by decide +kernel
theorem dX9_step_33 : decode cX9_step 33 = .ok (.ifCond .eq 5, 3) := by decide +kernel
theorem dX9_step_38 : decode cX9_step 38 = .ok (.aload_n 0, 1) := by decide +kernel
theorem dX9_step_39 : decode cX9_step 39 = .ok (.invokevirtual 295, 3) := by decide +kernel
theorem dX9_step_42 : decode cX9_step 42 = .ok (.sipush 256, 3) := by decide +kernel
theorem dX9_step_45 : decode cX9_step 45 = .ok (.istore_n 2, 1) := by decide +kernel
theorem dX9_step_46 : decode cX9_step 46 = .ok (.bipush 7, 2) := by decide +kernel
theorem dX9_step_48 : decode cX9_step 48 = .ok (.istore_n 3, 1) := by decide +kernel
theorem dX9_step_49 : decode cX9_step 49 = .ok (.iload_n 1, 1) := by decide +kernel
theorem dX9_step_50 : decode cX9_step 50 = .ok (.ifCond .eq 38, 3) := by decide +kernel
theorem dX9_step_88 : decode cX9_step 88 = .ok (.aload_n 0, 1) := by decide +kernel
theorem dX9_step_89 : decode cX9_step 89 = .ok (.getfield 17, 3) := by decide +kernel
theorem dX9_step_92 : decode cX9_step 92 = .ok (.aload_n 0, 1) := by decide +kernel
theorem dX9_step_93 : decode cX9_step 93 = .ok (.getfield 120, 3) := by decide +kernel
theorem dX9_step_96 : decode cX9_step 96 = .ok (.iaload, 1) := by decide +kernel
theorem dX9_step_97 : decode cX9_step 97 = .ok (.istore_n 2, 1) := by decide +kernel
theorem dX9_step_98 : decode cX9_step 98 = .ok (.aload_n 0, 1) := by decide +kernel
theorem dX9_step_99 : decode cX9_step 99 = .ok (.invokevirtual 298, 3) := by decide +kernel
theorem dX9_step_102 : decode cX9_step 102 = .ok (.istore_n 3, 1) := by decide +kernel
theorem dX9_step_103 : decode cX9_step 103 = .ok (.iconst 0, 1) := by decide +kernel
theorem dX9_step_104 : decode cX9_step 104 = .ok (.istore 4, 2) := by decide +kernel
theorem dX9_step_106 : decode cX9_step 106 = .ok (.iconst 0, 1) := by decide +kernel
theorem dX9_step_107 : decode cX9_step 107 = .ok (.istore 5, 2) := by decide +kernel
theorem dX9_step_109 : decode cX9_step 109 = .ok (.iload 5, 2) := by decide +kernel
theorem dX9_step_111 : decode cX9_step 111 = .ok (.iload_n 3, 1) := by decide +kernel
theorem dX9_step_112 : decode cX9_step 112 = .ok (.if_icmp .ge 51, 3) := by decide +kernel
theorem dX9_step_115 : decode cX9_step 115 = .ok (.aload_n 0, 1) := by decide +kernel
theorem dX9_step_116 : decode cX9_step 116 = .ok (.getfield 157, 3) := by decide +kernel
theorem dX9_step_119 : decode cX9_step 119 = .ok (.ifCond .le 7, 3) := by decide +kernel
theorem dX9_step_126 : decode cX9_step 126 = .ok (.iconst 0, 1) := by decide +kernel
theorem dX9_step_127 : decode cX9_step 127 = .ok (.istore 6, 2) := by decide +kernel
theorem dX9_step_129 : decode cX9_step 129 = .ok (.aload_n 0, 1) := by decide +kernel
theorem dX9_step_130 : decode cX9_step 130 = .ok (.invokevirtual 301, 3) := by decide +kernel
theorem dX9_step_133 : decode cX9_step 133 = .ok (.istore 7, 2) := by decide +kernel
theorem dX9_step_135 : decode cX9_step 135 = .ok (.iload 4, 2) := by decide +kernel
theorem dX9_step_137 : decode cX9_step 137 = .ok (.ifCond .ne 13, 3) := by decide +kernel
theorem dX9_step_140 : decode cX9_step 140 = .ok (.iload 6, 2) := by decide +kernel
theorem dX9_step_142 : decode cX9_step 142 = .ok (.ifCond .eq 12, 3) := by decide +kernel
theorem dX9_step_154 : decode cX9_step 154 = .ok (.iconst 0, 1) := by decide +kernel
theorem dX9_step_155 : decode cX9_step 155 = .ok (.istore 4, 2) := by decide +kernel
theorem dX9_step_157 : decode cX9_step 157 = .ok (.iinc 5 1, 3) := by decide +kernel
theorem dX9_step_160 : decode cX9_step 160 = .ok (.goto (-51), 3) := by decide +kernel
theorem dX9_step_163 : decode cX9_step 163 = .ok (.iload 4, 2) := by decide +kernel
theorem dX9_step_165 : decode cX9_step 165 = .ok (.ifCond .eq 37, 3) := by decide +kernel
theorem dX9_step_202 : decode cX9_step 202 = .ok (.aload_n 0, 1) := by decide +kernel
theorem dX9_step_203 : decode cX9_step 203 = .ok (.getfield 39, 3) := by decide +kernel
theorem dX9_step_206 : decode cX9_step 206 = .ok (.iload_n 2, 1) := by decide +kernel
theorem dX9_step_207 : decode cX9_step 207 = .ok (.dup2, 1) := by decide +kernel
theorem dX9_step_208 : decode cX9_step 208 = .ok (.iaload, 1) := by decide +kernel
theorem dX9_step_209 : decode cX9_step 209 = .ok (.iconst 1, 1) := by decide +kernel
theorem dX9_step_210 : decode cX9_step 210 = .ok (.iadd, 1) := by decide +kernel
theorem dX9_step_211 : decode cX9_step 211 = .ok (.iastore, 1) := by decide +kernel
theorem dX9_step_212 : decode cX9_step 212 = .ok (.aload_n 0, 1) := by decide +kernel
theorem dX9_step_213 : decode cX9_step 213 = .ok (.getfield 42, 3) := by decide +kernel
theorem dX9_step_216 : decode cX9_step 216 = .ok (.aload_n 0, 1) := by decide +kernel
theorem dX9_step_217 : decode cX9_step 217 = .ok (.getfield 207, 3) := by decide +kernel
theorem dX9_step_220 : decode cX9_step 220 = .ok (.bipush 49, 2) := by decide +kernel
theorem dX9_step_222 : decode cX9_step 222 = .ok (.iadd, 1) := by decide +kernel
theorem dX9_step_223 : decode cX9_step 223 = .ok (.iload_n 2, 1) := by decide +kernel
theorem dX9_step_224 : decode cX9_step 224 = .ok (.iastore, 1) := by decide +kernel
theorem dX9_step_225 : decode cX9_step 225 = .ok (.aload_n 0, 1) := by decide +kernel
theorem dX9_step_226 : decode cX9_step 226 = .ok (.getfield 42, 3) := by decide +kernel
theorem dX9_step_229 : decode cX9_step 229 = .ok (.aload_n 0, 1) := by decide +kernel
theorem dX9_step_230 : decode cX9_step 230 = .ok (.getfield 207, 3) := by decide +kernel
theorem dX9_step_233 : decode cX9_step 233 = .ok (.bipush 50, 2) := by decide +kernel
theorem dX9_step_235 : decode cX9_step 235 = .ok (.iadd, 1) := by decide +kernel
theorem dX9_step_236 : decode cX9_step 236 = .ok (.aload_n 0, 1) := by decide +kernel
theorem dX9_step_237 : decode cX9_step 237 = .ok (.getfield 210, 3) := by decide +kernel
theorem dX9_step_240 : decode cX9_step 240 = .ok (.iastore, 1) := by decide +kernel
theorem dX9_step_241 : decode cX9_step 241 = .ok (.aload_n 0, 1) := by decide +kernel
theorem dX9_step_242 : decode cX9_step 242 = .ok (.aload_n 0, 1) := by decide +kernel
theorem dX9_step_243 : decode cX9_step 243 = .ok (.getfield 270, 3) := by decide +kernel
theorem dX9_step_246 : decode cX9_step 246 = .ok (.iconst 1, 1) := by decide +kernel
theorem dX9_step_247 : decode cX9_step 247 = .ok (.iadd, 1) := by decide +kernel
theorem dX9_step_248 : decode cX9_step 248 = .ok (.sipush 255, 3) := by decide +kernel
theorem dX9_step_251 : decode cX9_step 251 = .ok (.iand, 1) := by decide +kernel
theorem dX9_step_252 : decode cX9_step 252 = .ok (.putfield 270, 3) := by decide +kernel
theorem dX9_step_255 : decode cX9_step 255 = .ok (.aload_n 0, 1) := by decide +kernel
theorem dX9_step_256 : decode cX9_step 256 = .ok (.dup, 1) := by decide +kernel
theorem dX9_step_257 : decode cX9_step 257 = .ok (.getfield 184, 3) := by decide +kernel
theorem dX9_step_260 : decode cX9_step 260 = .ok (.aload_n 0, 1) := by decide +kernel
theorem dX9_step_261 : decode cX9_step 261 = .ok (.getfield 184, 3) := by decide +kernel
theorem dX9_step_264 : decode cX9_step 264 = .ok (.sipush 256, 3) := by decide +kernel
theorem dX9_step_267 : decode cX9_step 267 = .ok (.if_icmp .ge 7, 3) := by decide +kernel
theorem dX9_step_274 : decode cX9_step 274 = .ok (.iconst 0, 1) := by decide +kernel
theorem dX9_step_275 : decode cX9_step 275 = .ok (.iadd, 1) := by decide +kernel
theorem dX9_step_276 : decode cX9_step 276 = .ok (.putfield 184, 3) := by decide +kernel
theorem dX9_step_279 : decode cX9_step 279 = .ok (.iconst 1, 1) := by decide +kernel
theorem dX9_step_280 : decode cX9_step 280 = .ok (.ireturn, 1) := by decide +kernel
theorem dX9_step_270 : decode cX9_step 270 = .ok (.iconst 1, 1) := by decide +kernel
theorem dX9_step_271 : decode cX9_step 271 = .ok (.goto 4, 3) := by decide +kernel
set_option maxHeartbeats 4000000 in
set_option maxRecDepth 100000 in
theorem c_m_isIllegal (l : Launch) (D : va_G) (cA cB : ClassId) (h0 : Nat) (mwords : Nat) (mstore : Nat) (mkeys : Nat) (mrests : Nat) (mring : Nat) (mstrip : Nat) (mpins : Nat) (mstops : Nat) (mdone : Nat) (mkept : Nat) (mtape : Nat) (mnameValue : Nat) (mnamePlace : Nat) (mnameEquals : Nat) (mout : Nat) (mtellFrom : Nat) (mtellEnd : Nat) (mtellValue : Nat) (mtellEquals : Nat) (mlaid : Nat) (pp : Nat) (ka : Nat) (km : Nat) (zz : Int32) (cy : Int32) (aa : Int32) (wr : Int32) (es : Int32) (hpp : pp < 4096) : CI l yX9_isIllegal cX9_isIllegal 1 (some .boolean) 0 0 0 0 D cA cB [.ref h0] [(h0, .inr (9, [.ref mwords, .ref mstore, .int 0, .int 0, .int 0, .int 255, .int (nI pp), .int 0, .int 0, .int 1, .int zz, .int 0, .int cy, .int 0, .int 0, .int 0, .int 0, .int 0, .int 0, .int 0, .int 0, .int 0, .int 0, .int 0, .int 1, .int 0, .ref mkeys, .ref mrests, .int 0, .int 0, .int 0, .int 0, .int 0, .ref mring, .ref mstrip, .ref mpins, .ref mstops, .int 0, .int 0, .int es, .ref mdone, .ref mkept, .int (nI ka), .int (nI km), .int aa, .int wr, .ref mtape, .int 0, .int (-1), .int (-1), .ref mnameValue, .ref mnamePlace, .ref mnameEquals, .int 0, .ref mout, .int 0, .int 0, .int 0, .int 0, .int 0, .int 0, .int 0, .int 0, .int 0, .int 0, .int 0, .int 0, .int 0, .int 0, .int 0, .ref mtellFrom, .ref mtellEnd, .ref mtellValue, .ref mtellEquals, .ref mlaid, .int 0, .int 0, .int 0, .int 0])), (mstore, .inl (cA, 4096, .inl (fun _ => 0)))] (fun r W1 => r = 0 ∧ W1 = [(h0, .inr (9, [.ref mwords, .ref mstore, .int 0, .int 0, .int 0, .int 255, .int (nI pp), .int 0, .int 0, .int 1, .int zz, .int 0, .int cy, .int 0, .int 0, .int 0, .int 0, .int 0, .int 0, .int 0, .int 0, .int 0, .int 0, .int 0, .int 1, .int 0, .ref mkeys, .ref mrests, .int 0, .int 0, .int 0, .int 0, .int 0, .ref mring, .ref mstrip, .ref mpins, .ref mstops, .int 0, .int 0, .int es, .ref mdone, .ref mkept, .int (nI ka), .int (nI km), .int aa, .int wr, .ref mtape, .int 0, .int (-1), .int (-1), .ref mnameValue, .ref mnamePlace, .ref mnameEquals, .int 0, .ref mout, .int 0, .int 0, .int 0, .int 0, .int 0, .int 0, .int 0, .int 0, .int 0, .int 0, .int 0, .int 0, .int 0, .int 0, .int 0, .ref mtellFrom, .ref mtellEnd, .ref mtellValue, .ref mtellEquals, .ref mlaid, .int 0, .int 0, .int 0, .int 0])), (mstore, .inl (cA, 4096, .inl (fun _ => 0)))]) := by
  refine mkI (lv0 := [(0, .ref h0)]) (by decide) (Nat.le_of_ble_eq_true rfl) rfl ?_
  intro p e s m below meth c A ls X hr hlocks hnm hE hA hP hD hS hl
  have hx := X.1
  have hb := X.2.1
  refine lv_aload_n hx hb dX9_isIllegal_0 rfl (lv_at hl 0 rfl) ?_
  refine k_get (C := RX9) (T := TX9) (N := 79) (ci := 9) (v := .ref mstore) X hE hP 0 rfl rfl iX9 1 (by decide) w_354 rfl dX9_isIllegal_1 ?_
  refine lv_aload_n hx hb dX9_isIllegal_4 rfl (lv_at hl 0 rfl) ?_
  refine k_get (C := RX9) (T := TX9) (N := 79) (ci := 9) (v := .int (nI pp)) X hE hP 0 rfl rfl iX9 6 (by decide) w_390 rfl dX9_isIllegal_5 ?_
  refine k_ald (v := 0) X hE hP 1 rfl pp rfl hpp (by decide) rfl dX9_isIllegal_8 ?_
  refine lv_sipush (v := 216) hx hb dX9_isIllegal_9 (by decide) ?_
  refine lv_icmp_ne (tgt := 39) hx hb dX9_isIllegal_12 (by decide) (fun c_12 => ?_) (fun c_12 => absurd c_12 (by decide))
  refine lv_iconst (v := 0) hx hb dX9_isIllegal_39 (by decide) ?_
  exact endZ X hr rfl hlocks hP hD hS dX9_isIllegal_40 ⟨rfl, rfl⟩
set_option maxHeartbeats 4000000 in
set_option maxRecDepth 100000 in
theorem c_m_behind (l : Launch) (D : va_G) (cA cB : ClassId) (h0 : Nat) (mwords : Nat) (mstore : Nat) (mkeys : Nat) (mrests : Nat) (mring : Nat) (mstrip : Nat) (mpins : Nat) (mstops : Nat) (mdone : Nat) (mkept : Nat) (mtape : Nat) (mnameValue : Nat) (mnamePlace : Nat) (mnameEquals : Nat) (mout : Nat) (mtellFrom : Nat) (mtellEnd : Nat) (mtellValue : Nat) (mtellEquals : Nat) (mlaid : Nat) (pp : Nat) (ka : Nat) (km : Nat) (zz : Int32) (cy : Int32) (aa : Int32) (wr : Int32) (es : Int32) (hpp : pp < 4096) : CI l yX9_behind cX9_behind 2 (some .int) 0 0 0 0 D cA cB [.ref h0] [(h0, .inr (9, [.ref mwords, .ref mstore, .int 0, .int 0, .int 0, .int 255, .int (nI pp), .int 0, .int 0, .int 1, .int zz, .int 0, .int cy, .int 0, .int 0, .int 0, .int 0, .int 0, .int 0, .int 0, .int 0, .int 0, .int 0, .int 0, .int 1, .int 0, .ref mkeys, .ref mrests, .int 0, .int 0, .int 0, .int 0, .int 0, .ref mring, .ref mstrip, .ref mpins, .ref mstops, .int 0, .int 0, .int es, .ref mdone, .ref mkept, .int (nI ka), .int (nI km), .int aa, .int wr, .ref mtape, .int 0, .int (-1), .int (-1), .ref mnameValue, .ref mnamePlace, .ref mnameEquals, .int 0, .ref mout, .int 0, .int 0, .int 0, .int 0, .int 0, .int 0, .int 0, .int 0, .int 0, .int 0, .int 0, .int 0, .int 0, .int 0, .int 0, .ref mtellFrom, .ref mtellEnd, .ref mtellValue, .ref mtellEquals, .ref mlaid, .int 0, .int 0, .int 0, .int 0])), (mstore, .inl (cA, 4096, .inl (fun _ => 0)))] (fun r W1 => ∃ (pp2 : Nat), r = 0 ∧ (pp2 < 4096) ∧ W1 = [(h0, .inr (9, [.ref mwords, .ref mstore, .int 0, .int 0, .int 0, .int 255, .int (nI pp2), .int 0, .int 0, .int 1, .int zz, .int 0, .int cy, .int 0, .int 0, .int 0, .int 0, .int 0, .int 0, .int 0, .int 0, .int 0, .int 0, .int 0, .int 1, .int 0, .ref mkeys, .ref mrests, .int 0, .int 0, .int 0, .int 0, .int 0, .ref mring, .ref mstrip, .ref mpins, .ref mstops, .int 0, .int 0, .int es, .ref mdone, .ref mkept, .int (nI ka), .int (nI km), .int aa, .int wr, .ref mtape, .int 0, .int (-1), .int (-1), .ref mnameValue, .ref mnamePlace, .ref mnameEquals, .int 0, .ref mout, .int 0, .int 0, .int 0, .int 0, .int 0, .int 0, .int 0, .int 0, .int 0, .int 0, .int 0, .int 0, .int 0, .int 0, .int 0, .ref mtellFrom, .ref mtellEnd, .ref mtellValue, .ref mtellEquals, .ref mlaid, .int 0, .int 0, .int 0, .int 0])), (mstore, .inl (cA, 4096, .inl (fun _ => 0)))]) := by
  refine mkI (lv0 := [(0, .ref h0)]) (by decide) (Nat.le_of_ble_eq_true rfl) rfl ?_
  intro p e s m below meth c A ls X hr hlocks hnm hE hA hP hD hS hl
  have hx := X.1
  have hb := X.2.1
  refine lv_aload_n hx hb dX9_behind_0 rfl (lv_at hl 0 rfl) ?_
  refine k_get (C := RX9) (T := TX9) (N := 79) (ci := 9) (v := .ref mstore) X hE hP 0 rfl rfl iX9 1 (by decide) w_354 rfl dX9_behind_1 ?_
  refine lv_aload_n hx hb dX9_behind_4 rfl (lv_at hl 0 rfl) ?_
  refine k_get (C := RX9) (T := TX9) (N := 79) (ci := 9) (v := .int (nI pp)) X hE hP 0 rfl rfl iX9 6 (by decide) w_390 rfl dX9_behind_5 ?_
  refine k_ald (v := 0) X hE hP 1 rfl pp rfl hpp (by decide) rfl dX9_behind_8 ?_
  refine lv_istore_n (lv' := [(1, .int 0), (0, .ref h0)]) hx hb dX9_behind_9 rfl hl (by decide) rfl (fun ls hl => ?_)
  refine lv_aload_n hx hb dX9_behind_10 rfl (lv_at hl 1 rfl) ?_
  refine lv_aload_n hx hb dX9_behind_11 rfl (lv_at hl 1 rfl) ?_
  refine k_get (C := RX9) (T := TX9) (N := 79) (ci := 9) (v := .int (nI pp)) X hE hP 0 rfl rfl iX9 6 (by decide) w_390 rfl dX9_behind_12 ?_
  refine lv_iconst (v := 1) hx hb dX9_behind_15 (by decide) ?_
  refine lv_iadd hx hb dX9_behind_16 ?_
  refine tk (y := nI (pp + 1)) (nI_add _ 1) ?_
  refine lv_sipush (v := 4095) hx hb dX9_behind_17 (by decide) ?_
  refine lv_iand hx hb dX9_behind_20 ?_
  refine tk (y := nI ((pp + 1) % 4096)) (pk_andN (by omega) 12 (by decide)) ?_
  refine k_put (C := RX9) (T := TX9) (N := 79) (ci := 9) (v := .int (nI ((pp + 1) % 4096))) (ty := .int) X hE hP hD hS 0 rfl rfl iX9 tyX9 tyX9_ok nmX9 6 (by decide) w_390 rfl (by decide +kernel) rfl rfl (Nat.le_of_ble_eq_true rfl) [(h0, .inr (9, [.ref mwords, .ref mstore, .int 0, .int 0, .int 0, .int 255, .int (nI ((pp + 1) % 4096)), .int 0, .int 0, .int 1, .int zz, .int 0, .int cy, .int 0, .int 0, .int 0, .int 0, .int 0, .int 0, .int 0, .int 0, .int 0, .int 0, .int 0, .int 1, .int 0, .ref mkeys, .ref mrests, .int 0, .int 0, .int 0, .int 0, .int 0, .ref mring, .ref mstrip, .ref mpins, .ref mstops, .int 0, .int 0, .int es, .ref mdone, .ref mkept, .int (nI ka), .int (nI km), .int aa, .int wr, .ref mtape, .int 0, .int (-1), .int (-1), .ref mnameValue, .ref mnamePlace, .ref mnameEquals, .int 0, .ref mout, .int 0, .int 0, .int 0, .int 0, .int 0, .int 0, .int 0, .int 0, .int 0, .int 0, .int 0, .int 0, .int 0, .int 0, .int 0, .ref mtellFrom, .ref mtellEnd, .ref mtellValue, .ref mtellEquals, .ref mlaid, .int 0, .int 0, .int 0, .int 0])), (mstore, .inl (cA, 4096, .inl (fun _ => 0)))] rfl dX9_behind_21 (fun H locs hP hD hS => ?_)
  refine lv_iload_n hx hb dX9_behind_24 rfl (lv_at hl 0 rfl) ?_
  exact endI X hr hlocks hP hD hS dX9_behind_25 ⟨((pp + 1) % 4096), rfl, (Nat.mod_lt _ (by decide)), rfl⟩
set_option maxHeartbeats 4000000 in
set_option maxRecDepth 100000 in
theorem c_X9_flags_a73 (l : Launch) (D : va_G) (cA cB : ClassId) (h0 : Nat) (h1 : Nat) (h2 : Nat) (x1 : Int32) (x2 : Int32) (x3 : Int32) (h3 : Nat) (h4 : Nat) (h5 : Nat) (h6 : Nat) (h7 : Nat) (h8 : Nat) (x4 : Int32) (h9 : Nat) (h10 : Nat) (x5 : Int32) (x6 : Int32) (x7 : Int32) (h11 : Nat) (h12 : Nat) (h13 : Nat) (h14 : Nat) (h15 : Nat) (h16 : Nat) (h17 : Nat) (h18 : Nat) (h19 : Nat) (h20 : Nat) (f8 : Nat → Int32) (f9 : Nat → Int32) (f10 : Nat → Int32) (z8 : ∀ j, j < 16 → f8 j = 0) (z9 : ∀ j, j < 8 → f9 j = 0) : CI l yX9_flags cX9_flags 1 (some .int) 0 0 0 0 D cA cB [.ref h0] [(h0, .inr (9, [.ref h1, .ref h2, .int 0, .int 0, .int 0, .int 255, .int x1, .int 0, .int 0, .int 1, .int x2, .int 0, .int x3, .int 0, .int 0, .int 0, .int 0, .int 0, .int 0, .int 0, .int 0, .int 0, .int 0, .int 0, .int 1, .int 0, .ref h3, .ref h4, .int 0, .int 0, .int 0, .int 0, .int 0, .ref h5, .ref h6, .ref h7, .ref h8, .int 0, .int 0, .int x4, .ref h9, .ref h10, .int x5, .int x6, .int x7, .int 0, .ref h11, .int 0, .int (-1), .int (-1), .ref h12, .ref h13, .ref h14, .int 0, .ref h15, .int 0, .int 0, .int 0, .int 0, .int 0, .int 0, .int 0, .int 0, .int 0, .int 0, .int 0, .int 0, .int 0, .int 0, .int 0, .ref h16, .ref h17, .ref h18, .ref h19, .ref h20, .int 0, .int 0, .int 0, .int 0])), (h3, .inl (cA, 16, .inl f8)), (h4, .inl (cA, 8, .inl f9)), (h10, .inl (cA, 15360, .inl f10))] (fun r W1 => r = (4 + (2 * x2)) + 0 ∧ W1 = [(h0, .inr (9, [.ref h1, .ref h2, .int 0, .int 0, .int 0, .int 255, .int x1, .int 0, .int 0, .int 1, .int x2, .int 0, .int x3, .int 0, .int 0, .int 0, .int 0, .int 0, .int 0, .int 0, .int 0, .int 0, .int 0, .int 0, .int 1, .int 0, .ref h3, .ref h4, .int 0, .int 0, .int 0, .int 0, .int 0, .ref h5, .ref h6, .ref h7, .ref h8, .int 0, .int 0, .int x4, .ref h9, .ref h10, .int x5, .int x6, .int x7, .int 0, .ref h11, .int 0, .int (-1), .int (-1), .ref h12, .ref h13, .ref h14, .int 0, .ref h15, .int 0, .int 0, .int 0, .int 0, .int 0, .int 0, .int 0, .int 0, .int 0, .int 0, .int 0, .int 0, .int 0, .int 0, .int 0, .ref h16, .ref h17, .ref h18, .ref h19, .ref h20, .int 0, .int 0, .int 0, .int 0])), (h3, .inl (cA, 16, .inl f8)), (h4, .inl (cA, 8, .inl f9)), (h10, .inl (cA, 15360, .inl f10))]) := by
  refine mkI (lv0 := [(0, .ref h0)]) (by decide) (Nat.le_of_ble_eq_true rfl) rfl ?_
  intro p e s m below meth c A ls X hr hlocks hnm hE hA hP hD hS hl
  have hx := X.1
  have hb := X.2.1
  refine lv_sipush (v := 128) hx hb dX9_flags_0 (by decide) ?_
  refine lv_aload_n hx hb dX9_flags_3 rfl (lv_at hl 0 rfl) ?_
  refine k_get (C := RX9) (T := TX9) (N := 79) (ci := 9) (v := .int 0) X hE hP 0 rfl rfl iX9 7 (by decide) w_380 rfl dX9_flags_4 ?_
  refine lv_imul hx hb dX9_flags_7 ?_
  refine tk (y := 0) (by decide) ?_
  refine lv_bipush (v := 64) hx hb dX9_flags_8 (by decide) ?_
  refine lv_aload_n hx hb dX9_flags_10 rfl (lv_at hl 0 rfl) ?_
  refine k_get (C := RX9) (T := TX9) (N := 79) (ci := 9) (v := .int 0) X hE hP 0 rfl rfl iX9 8 (by decide) w_381 rfl dX9_flags_11 ?_
  refine lv_imul hx hb dX9_flags_14 ?_
  refine tk (y := 0) (by decide) ?_
  refine lv_iadd hx hb dX9_flags_15 ?_
  refine tk (y := 0) (by decide) ?_
  refine lv_iconst (v := 4) hx hb dX9_flags_16 (by decide) ?_
  refine lv_aload_n hx hb dX9_flags_17 rfl (lv_at hl 0 rfl) ?_
  refine k_get (C := RX9) (T := TX9) (N := 79) (ci := 9) (v := .int 1) X hE hP 0 rfl rfl iX9 9 (by decide) w_382 rfl dX9_flags_18 ?_
  refine lv_imul hx hb dX9_flags_21 ?_
  refine tk (y := 4) (by decide) ?_
  refine lv_iadd hx hb dX9_flags_22 ?_
  refine tk (y := 4) (by decide) ?_
  refine lv_iconst (v := 2) hx hb dX9_flags_23 (by decide) ?_
  refine lv_aload_n hx hb dX9_flags_24 rfl (lv_at hl 0 rfl) ?_
  refine k_get (C := RX9) (T := TX9) (N := 79) (ci := 9) (v := .int x2) X hE hP 0 rfl rfl iX9 10 (by decide) w_383 rfl dX9_flags_25 ?_
  refine lv_imul hx hb dX9_flags_28 ?_
  refine lv_iadd hx hb dX9_flags_29 ?_
  refine lv_aload_n hx hb dX9_flags_30 rfl (lv_at hl 0 rfl) ?_
  refine k_get (C := RX9) (T := TX9) (N := 79) (ci := 9) (v := .int 0) X hE hP 0 rfl rfl iX9 11 (by decide) w_384 rfl dX9_flags_31 ?_
  refine lv_iadd hx hb dX9_flags_34 ?_
  exact endI X hr hlocks hP hD hS dX9_flags_35 ⟨rfl, rfl⟩
set_option maxHeartbeats 4000000 in
set_option maxRecDepth 100000 in
theorem c_m_keep (l : Launch) (D : va_G) (cA cB : ClassId) (h0 : Nat) (mwords : Nat) (mstore : Nat) (mkeys : Nat) (mrests : Nat) (mring : Nat) (mstrip : Nat) (mpins : Nat) (mstops : Nat) (mdone : Nat) (mkept : Nat) (mtape : Nat) (mnameValue : Nat) (mnamePlace : Nat) (mnameEquals : Nat) (mout : Nat) (mtellFrom : Nat) (mtellEnd : Nat) (mtellValue : Nat) (mtellEquals : Nat) (mlaid : Nat) (pp : Nat) (ka : Nat) (km : Nat) (zz : Int32) (cy : Int32) (aa : Int32) (wr : Int32) (es : Int32) (gk : Nat → Int32) (gkeys : Nat → Int32) (gr : Nat → Int32) (hka : ka < 256) (zkeys : ∀ j, j < 16 → gkeys j = 0) (zr : ∀ j, j < 8 → gr j = 0) : CV l yX9_keep cX9_keep 3 none 1 20 0 0 D cA cB [.ref h0] [(h0, .inr (9, [.ref mwords, .ref mstore, .int 0, .int 0, .int 0, .int 255, .int (nI pp), .int 0, .int 0, .int 1, .int zz, .int 0, .int cy, .int 0, .int 0, .int 0, .int 0, .int 0, .int 0, .int 0, .int 0, .int 0, .int 0, .int 0, .int 1, .int 0, .ref mkeys, .ref mrests, .int 0, .int 0, .int 0, .int 0, .int 0, .ref mring, .ref mstrip, .ref mpins, .ref mstops, .int 0, .int 0, .int es, .ref mdone, .ref mkept, .int (nI ka), .int (nI km), .int aa, .int wr, .ref mtape, .int 0, .int (-1), .int (-1), .ref mnameValue, .ref mnamePlace, .ref mnameEquals, .int 0, .ref mout, .int 0, .int 0, .int 0, .int 0, .int 0, .int 0, .int 0, .int 0, .int 0, .int 0, .int 0, .int 0, .int 0, .int 0, .int 0, .ref mtellFrom, .ref mtellEnd, .ref mtellValue, .ref mtellEquals, .ref mlaid, .int 0, .int 0, .int 0, .int 0])), (mkept, .inl (cA, 15360, .inl gk)), (mkeys, .inl (cA, 16, .inl gkeys)), (mrests, .inl (cA, 8, .inl gr))] (fun W1 => ∃ (gk2 : Nat → Int32), W1 = [(h0, .inr (9, [.ref mwords, .ref mstore, .int 0, .int 0, .int 0, .int 255, .int (nI pp), .int 0, .int 0, .int 1, .int zz, .int 0, .int cy, .int 0, .int 0, .int 0, .int 0, .int 0, .int 0, .int 0, .int 0, .int 0, .int 0, .int 0, .int 1, .int 0, .ref mkeys, .ref mrests, .int 0, .int 0, .int 0, .int 0, .int 0, .ref mring, .ref mstrip, .ref mpins, .ref mstops, .int 0, .int 0, .int es, .ref mdone, .ref mkept, .int (nI ka), .int (nI km), .int (nI (60 * ka)), .int 0, .ref mtape, .int 0, .int (-1), .int (-1), .ref mnameValue, .ref mnamePlace, .ref mnameEquals, .int 0, .ref mout, .int 0, .int 0, .int 0, .int 0, .int 0, .int 0, .int 0, .int 0, .int 0, .int 0, .int 0, .int 0, .int 0, .int 0, .int 0, .ref mtellFrom, .ref mtellEnd, .ref mtellValue, .ref mtellEquals, .ref mlaid, .int 0, .int 0, .int 0, .int 0])), (mkept, .inl (cA, 15360, .inl gk2)), (mkeys, .inl (cA, 16, .inl gkeys)), (mrests, .inl (cA, 8, .inl gr))]) := by
  refine mkV (lv0 := [(0, .ref h0)]) (by decide) (Nat.le_of_ble_eq_true rfl) rfl ?_
  intro p e s m below meth c A ls X hr hlocks hnm hE hA hP hD hS hl
  have hx := X.1
  have hb := X.2.1
  refine lv_aload_n hx hb dX9_keep_0 rfl (lv_at hl 0 rfl) ?_
  refine lv_bipush (v := 60) hx hb dX9_keep_1 (by decide) ?_
  refine lv_aload_n hx hb dX9_keep_3 rfl (lv_at hl 0 rfl) ?_
  refine k_get (C := RX9) (T := TX9) (N := 79) (ci := 9) (v := .int (nI ka)) X hE hP 0 rfl rfl iX9 42 (by decide) w_497 rfl dX9_keep_4 ?_
  refine lv_imul hx hb dX9_keep_7 ?_
  refine tk (y := nI (60 * ka)) (pk_mul 60 ka) ?_
  refine k_put (C := RX9) (T := TX9) (N := 79) (ci := 9) (v := .int (nI (60 * ka))) (ty := .int) X hE hP hD hS 0 rfl rfl iX9 tyX9 tyX9_ok nmX9 44 (by decide) w_498 rfl (by decide +kernel) rfl rfl (Nat.le_of_ble_eq_true rfl) [(h0, .inr (9, [.ref mwords, .ref mstore, .int 0, .int 0, .int 0, .int 255, .int (nI pp), .int 0, .int 0, .int 1, .int zz, .int 0, .int cy, .int 0, .int 0, .int 0, .int 0, .int 0, .int 0, .int 0, .int 0, .int 0, .int 0, .int 0, .int 1, .int 0, .ref mkeys, .ref mrests, .int 0, .int 0, .int 0, .int 0, .int 0, .ref mring, .ref mstrip, .ref mpins, .ref mstops, .int 0, .int 0, .int es, .ref mdone, .ref mkept, .int (nI ka), .int (nI km), .int (nI (60 * ka)), .int wr, .ref mtape, .int 0, .int (-1), .int (-1), .ref mnameValue, .ref mnamePlace, .ref mnameEquals, .int 0, .ref mout, .int 0, .int 0, .int 0, .int 0, .int 0, .int 0, .int 0, .int 0, .int 0, .int 0, .int 0, .int 0, .int 0, .int 0, .int 0, .ref mtellFrom, .ref mtellEnd, .ref mtellValue, .ref mtellEquals, .ref mlaid, .int 0, .int 0, .int 0, .int 0])), (mkept, .inl (cA, 15360, .inl gk)), (mkeys, .inl (cA, 16, .inl gkeys)), (mrests, .inl (cA, 8, .inl gr))] rfl dX9_keep_8 (fun H locs hP hD hS => ?_)
  refine lv_aload_n hx hb dX9_keep_11 rfl (lv_at hl 0 rfl) ?_
  refine lv_iconst (v := 0) hx hb dX9_keep_12 (by decide) ?_
  refine k_put (C := RX9) (T := TX9) (N := 79) (ci := 9) (v := .int 0) (ty := .int) X hE hP hD hS 0 rfl rfl iX9 tyX9 tyX9_ok nmX9 45 (by decide) w_499 rfl (by decide +kernel) rfl rfl (Nat.le_of_ble_eq_true rfl) [(h0, .inr (9, [.ref mwords, .ref mstore, .int 0, .int 0, .int 0, .int 255, .int (nI pp), .int 0, .int 0, .int 1, .int zz, .int 0, .int cy, .int 0, .int 0, .int 0, .int 0, .int 0, .int 0, .int 0, .int 0, .int 0, .int 0, .int 0, .int 1, .int 0, .ref mkeys, .ref mrests, .int 0, .int 0, .int 0, .int 0, .int 0, .ref mring, .ref mstrip, .ref mpins, .ref mstops, .int 0, .int 0, .int es, .ref mdone, .ref mkept, .int (nI ka), .int (nI km), .int (nI (60 * ka)), .int 0, .ref mtape, .int 0, .int (-1), .int (-1), .ref mnameValue, .ref mnamePlace, .ref mnameEquals, .int 0, .ref mout, .int 0, .int 0, .int 0, .int 0, .int 0, .int 0, .int 0, .int 0, .int 0, .int 0, .int 0, .int 0, .int 0, .int 0, .int 0, .ref mtellFrom, .ref mtellEnd, .ref mtellValue, .ref mtellEquals, .ref mlaid, .int 0, .int 0, .int 0, .int 0])), (mkept, .inl (cA, 15360, .inl gk)), (mkeys, .inl (cA, 16, .inl gkeys)), (mrests, .inl (cA, 8, .inl gr))] rfl dX9_keep_13 (fun H locs hP hD hS => ?_)
  refine lv_aload_n hx hb dX9_keep_16 rfl (lv_at hl 0 rfl) ?_
  refine k_get (C := RX9) (T := TX9) (N := 79) (ci := 9) (v := .ref mkept) X hE hP 0 rfl rfl iX9 41 (by decide) w_363 rfl dX9_keep_17 ?_
  refine lv_astore_n (lv' := [(1, .ref mkept), (0, .ref h0)]) hx hb dX9_keep_20 rfl hl (by decide) rfl (fun ls hl => ?_)
  refine lv_aload_n hx hb dX9_keep_21 rfl (lv_at hl 0 rfl) ?_
  refine lv_aload_n hx hb dX9_keep_22 rfl (lv_at hl 1 rfl) ?_
  refine k_get (C := RX9) (T := TX9) (N := 79) (ci := 9) (v := .int (nI (60 * ka))) X hE hP 0 rfl rfl iX9 44 (by decide) w_498 rfl dX9_keep_23 ?_
  refine lv_aload_n hx hb dX9_keep_26 rfl (lv_at hl 1 rfl) ?_
  refine k_get (C := RX9) (T := TX9) (N := 79) (ci := 9) (v := .int 0) X hE hP 0 rfl rfl iX9 2 (by decide) w_376 rfl dX9_keep_27 ?_
  refine k_ast X hE hP hD hS 1 rfl (60 * ka) rfl (by omega) (by decide) [(h0, .inr (9, [.ref mwords, .ref mstore, .int 0, .int 0, .int 0, .int 255, .int (nI pp), .int 0, .int 0, .int 1, .int zz, .int 0, .int cy, .int 0, .int 0, .int 0, .int 0, .int 0, .int 0, .int 0, .int 0, .int 0, .int 0, .int 0, .int 1, .int 0, .ref mkeys, .ref mrests, .int 0, .int 0, .int 0, .int 0, .int 0, .ref mring, .ref mstrip, .ref mpins, .ref mstops, .int 0, .int 0, .int es, .ref mdone, .ref mkept, .int (nI ka), .int (nI km), .int (nI (60 * ka)), .int 0, .ref mtape, .int 0, .int (-1), .int (-1), .ref mnameValue, .ref mnamePlace, .ref mnameEquals, .int 0, .ref mout, .int 0, .int 0, .int 0, .int 0, .int 0, .int 0, .int 0, .int 0, .int 0, .int 0, .int 0, .int 0, .int 0, .int 0, .int 0, .ref mtellFrom, .ref mtellEnd, .ref mtellValue, .ref mtellEquals, .ref mlaid, .int 0, .int 0, .int 0, .int 0])), (mkept, .inl (cA, 15360, .inl (upd gk (60 * ka) 0))), (mkeys, .inl (cA, 16, .inl gkeys)), (mrests, .inl (cA, 8, .inl gr))] rfl dX9_keep_30 (fun H locs hP hD hS => ?_)
  refine lv_aload_n hx hb dX9_keep_31 rfl (lv_at hl 0 rfl) ?_
  refine lv_aload_n hx hb dX9_keep_32 rfl (lv_at hl 1 rfl) ?_
  refine k_get (C := RX9) (T := TX9) (N := 79) (ci := 9) (v := .int (nI (60 * ka))) X hE hP 0 rfl rfl iX9 44 (by decide) w_498 rfl dX9_keep_33 ?_
  refine lv_iconst (v := 1) hx hb dX9_keep_36 (by decide) ?_
  refine lv_iadd hx hb dX9_keep_37 ?_
  refine tk (y := nI ((60 * ka) + 1)) (nI_add _ 1) ?_
  refine lv_aload_n hx hb dX9_keep_38 rfl (lv_at hl 1 rfl) ?_
  refine k_get (C := RX9) (T := TX9) (N := 79) (ci := 9) (v := .int 0) X hE hP 0 rfl rfl iX9 3 (by decide) w_377 rfl dX9_keep_39 ?_
  refine k_ast X hE hP hD hS 1 rfl ((60 * ka) + 1) rfl (by omega) (by decide) [(h0, .inr (9, [.ref mwords, .ref mstore, .int 0, .int 0, .int 0, .int 255, .int (nI pp), .int 0, .int 0, .int 1, .int zz, .int 0, .int cy, .int 0, .int 0, .int 0, .int 0, .int 0, .int 0, .int 0, .int 0, .int 0, .int 0, .int 0, .int 1, .int 0, .ref mkeys, .ref mrests, .int 0, .int 0, .int 0, .int 0, .int 0, .ref mring, .ref mstrip, .ref mpins, .ref mstops, .int 0, .int 0, .int es, .ref mdone, .ref mkept, .int (nI ka), .int (nI km), .int (nI (60 * ka)), .int 0, .ref mtape, .int 0, .int (-1), .int (-1), .ref mnameValue, .ref mnamePlace, .ref mnameEquals, .int 0, .ref mout, .int 0, .int 0, .int 0, .int 0, .int 0, .int 0, .int 0, .int 0, .int 0, .int 0, .int 0, .int 0, .int 0, .int 0, .int 0, .ref mtellFrom, .ref mtellEnd, .ref mtellValue, .ref mtellEquals, .ref mlaid, .int 0, .int 0, .int 0, .int 0])), (mkept, .inl (cA, 15360, .inl (upd (upd gk (60 * ka) 0) ((60 * ka) + 1) 0))), (mkeys, .inl (cA, 16, .inl gkeys)), (mrests, .inl (cA, 8, .inl gr))] rfl dX9_keep_42 (fun H locs hP hD hS => ?_)
  refine lv_aload_n hx hb dX9_keep_43 rfl (lv_at hl 0 rfl) ?_
  refine lv_aload_n hx hb dX9_keep_44 rfl (lv_at hl 1 rfl) ?_
  refine k_get (C := RX9) (T := TX9) (N := 79) (ci := 9) (v := .int (nI (60 * ka))) X hE hP 0 rfl rfl iX9 44 (by decide) w_498 rfl dX9_keep_45 ?_
  refine lv_iconst (v := 2) hx hb dX9_keep_48 (by decide) ?_
  refine lv_iadd hx hb dX9_keep_49 ?_
  refine tk (y := nI ((60 * ka) + 2)) (nI_add _ 2) ?_
  refine lv_aload_n hx hb dX9_keep_50 rfl (lv_at hl 1 rfl) ?_
  refine k_get (C := RX9) (T := TX9) (N := 79) (ci := 9) (v := .int 0) X hE hP 0 rfl rfl iX9 4 (by decide) w_378 rfl dX9_keep_51 ?_
  refine k_ast X hE hP hD hS 1 rfl ((60 * ka) + 2) rfl (by omega) (by decide) [(h0, .inr (9, [.ref mwords, .ref mstore, .int 0, .int 0, .int 0, .int 255, .int (nI pp), .int 0, .int 0, .int 1, .int zz, .int 0, .int cy, .int 0, .int 0, .int 0, .int 0, .int 0, .int 0, .int 0, .int 0, .int 0, .int 0, .int 0, .int 1, .int 0, .ref mkeys, .ref mrests, .int 0, .int 0, .int 0, .int 0, .int 0, .ref mring, .ref mstrip, .ref mpins, .ref mstops, .int 0, .int 0, .int es, .ref mdone, .ref mkept, .int (nI ka), .int (nI km), .int (nI (60 * ka)), .int 0, .ref mtape, .int 0, .int (-1), .int (-1), .ref mnameValue, .ref mnamePlace, .ref mnameEquals, .int 0, .ref mout, .int 0, .int 0, .int 0, .int 0, .int 0, .int 0, .int 0, .int 0, .int 0, .int 0, .int 0, .int 0, .int 0, .int 0, .int 0, .ref mtellFrom, .ref mtellEnd, .ref mtellValue, .ref mtellEquals, .ref mlaid, .int 0, .int 0, .int 0, .int 0])), (mkept, .inl (cA, 15360, .inl (upd (upd (upd gk (60 * ka) 0) ((60 * ka) + 1) 0) ((60 * ka) + 2) 0))), (mkeys, .inl (cA, 16, .inl gkeys)), (mrests, .inl (cA, 8, .inl gr))] rfl dX9_keep_54 (fun H locs hP hD hS => ?_)
  refine lv_aload_n hx hb dX9_keep_55 rfl (lv_at hl 0 rfl) ?_
  refine lv_aload_n hx hb dX9_keep_56 rfl (lv_at hl 1 rfl) ?_
  refine k_get (C := RX9) (T := TX9) (N := 79) (ci := 9) (v := .int (nI (60 * ka))) X hE hP 0 rfl rfl iX9 44 (by decide) w_498 rfl dX9_keep_57 ?_
  refine lv_iconst (v := 3) hx hb dX9_keep_60 (by decide) ?_
  refine lv_iadd hx hb dX9_keep_61 ?_
  refine tk (y := nI ((60 * ka) + 3)) (nI_add _ 3) ?_
  refine lv_aload_n hx hb dX9_keep_62 rfl (lv_at hl 1 rfl) ?_
  refine k_get (C := RX9) (T := TX9) (N := 79) (ci := 9) (v := .int 255) X hE hP 0 rfl rfl iX9 5 (by decide) w_379 rfl dX9_keep_63 ?_
  refine k_ast X hE hP hD hS 1 rfl ((60 * ka) + 3) rfl (by omega) (by decide) [(h0, .inr (9, [.ref mwords, .ref mstore, .int 0, .int 0, .int 0, .int 255, .int (nI pp), .int 0, .int 0, .int 1, .int zz, .int 0, .int cy, .int 0, .int 0, .int 0, .int 0, .int 0, .int 0, .int 0, .int 0, .int 0, .int 0, .int 0, .int 1, .int 0, .ref mkeys, .ref mrests, .int 0, .int 0, .int 0, .int 0, .int 0, .ref mring, .ref mstrip, .ref mpins, .ref mstops, .int 0, .int 0, .int es, .ref mdone, .ref mkept, .int (nI ka), .int (nI km), .int (nI (60 * ka)), .int 0, .ref mtape, .int 0, .int (-1), .int (-1), .ref mnameValue, .ref mnamePlace, .ref mnameEquals, .int 0, .ref mout, .int 0, .int 0, .int 0, .int 0, .int 0, .int 0, .int 0, .int 0, .int 0, .int 0, .int 0, .int 0, .int 0, .int 0, .int 0, .ref mtellFrom, .ref mtellEnd, .ref mtellValue, .ref mtellEquals, .ref mlaid, .int 0, .int 0, .int 0, .int 0])), (mkept, .inl (cA, 15360, .inl (upd (upd (upd (upd gk (60 * ka) 0) ((60 * ka) + 1) 0) ((60 * ka) + 2) 0) ((60 * ka) + 3) 255))), (mkeys, .inl (cA, 16, .inl gkeys)), (mrests, .inl (cA, 8, .inl gr))] rfl dX9_keep_66 (fun H locs hP hD hS => ?_)
  refine lv_aload_n hx hb dX9_keep_67 rfl (lv_at hl 0 rfl) ?_
  refine lv_aload_n hx hb dX9_keep_68 rfl (lv_at hl 1 rfl) ?_
  refine k_get (C := RX9) (T := TX9) (N := 79) (ci := 9) (v := .int (nI (60 * ka))) X hE hP 0 rfl rfl iX9 44 (by decide) w_498 rfl dX9_keep_69 ?_
  refine lv_iconst (v := 4) hx hb dX9_keep_72 (by decide) ?_
  refine lv_iadd hx hb dX9_keep_73 ?_
  refine tk (y := nI ((60 * ka) + 4)) (nI_add _ 4) ?_
  refine lv_aload_n hx hb dX9_keep_74 rfl (lv_at hl 1 rfl) ?_
  refine k_get (C := RX9) (T := TX9) (N := 79) (ci := 9) (v := .int (nI pp)) X hE hP 0 rfl rfl iX9 6 (by decide) w_390 rfl dX9_keep_75 ?_
  refine k_ast X hE hP hD hS 1 rfl ((60 * ka) + 4) rfl (by omega) (by decide) [(h0, .inr (9, [.ref mwords, .ref mstore, .int 0, .int 0, .int 0, .int 255, .int (nI pp), .int 0, .int 0, .int 1, .int zz, .int 0, .int cy, .int 0, .int 0, .int 0, .int 0, .int 0, .int 0, .int 0, .int 0, .int 0, .int 0, .int 0, .int 1, .int 0, .ref mkeys, .ref mrests, .int 0, .int 0, .int 0, .int 0, .int 0, .ref mring, .ref mstrip, .ref mpins, .ref mstops, .int 0, .int 0, .int es, .ref mdone, .ref mkept, .int (nI ka), .int (nI km), .int (nI (60 * ka)), .int 0, .ref mtape, .int 0, .int (-1), .int (-1), .ref mnameValue, .ref mnamePlace, .ref mnameEquals, .int 0, .ref mout, .int 0, .int 0, .int 0, .int 0, .int 0, .int 0, .int 0, .int 0, .int 0, .int 0, .int 0, .int 0, .int 0, .int 0, .int 0, .ref mtellFrom, .ref mtellEnd, .ref mtellValue, .ref mtellEquals, .ref mlaid, .int 0, .int 0, .int 0, .int 0])), (mkept, .inl (cA, 15360, .inl (upd (upd (upd (upd (upd gk (60 * ka) 0) ((60 * ka) + 1) 0) ((60 * ka) + 2) 0) ((60 * ka) + 3) 255) ((60 * ka) + 4) (nI pp)))), (mkeys, .inl (cA, 16, .inl gkeys)), (mrests, .inl (cA, 8, .inl gr))] rfl dX9_keep_78 (fun H locs hP hD hS => ?_)
  refine lv_aload_n hx hb dX9_keep_79 rfl (lv_at hl 0 rfl) ?_
  refine lv_aload_n hx hb dX9_keep_80 rfl (lv_at hl 1 rfl) ?_
  refine k_get (C := RX9) (T := TX9) (N := 79) (ci := 9) (v := .int (nI (60 * ka))) X hE hP 0 rfl rfl iX9 44 (by decide) w_498 rfl dX9_keep_81 ?_
  refine lv_iconst (v := 5) hx hb dX9_keep_84 (by decide) ?_
  refine lv_iadd hx hb dX9_keep_85 ?_
  refine tk (y := nI ((60 * ka) + 5)) (nI_add _ 5) ?_
  refine lv_aload_n hx hb dX9_keep_86 rfl (lv_at hl 1 rfl) ?_
  refine kVi (n3 := 0) (As := []) (rest := [.int (nI ((60 * ka) + 5)), .ref mkept]) X hl.1 hE hP hD hS hA [(h0, .inr (9, [.ref mwords, .ref mstore, .int 0, .int 0, .int 0, .int 255, .int (nI pp), .int 0, .int 0, .int 1, .int zz, .int 0, .int cy, .int 0, .int 0, .int 0, .int 0, .int 0, .int 0, .int 0, .int 0, .int 0, .int 0, .int 0, .int 1, .int 0, .ref mkeys, .ref mrests, .int 0, .int 0, .int 0, .int 0, .int 0, .ref mring, .ref mstrip, .ref mpins, .ref mstops, .int 0, .int 0, .int es, .ref mdone, .ref mkept, .int (nI ka), .int (nI km), .int (nI (60 * ka)), .int 0, .ref mtape, .int 0, .int (-1), .int (-1), .ref mnameValue, .ref mnamePlace, .ref mnameEquals, .int 0, .ref mout, .int 0, .int 0, .int 0, .int 0, .int 0, .int 0, .int 0, .int 0, .int 0, .int 0, .int 0, .int 0, .int 0, .int 0, .int 0, .ref mtellFrom, .ref mtellEnd, .ref mtellValue, .ref mtellEquals, .ref mlaid, .int 0, .int 0, .int 0, .int 0])), (mkeys, .inl (cA, 16, .inl gkeys)), (mrests, .inl (cA, 8, .inl gr)), (mkept, .inl (cA, 15360, .inl (upd (upd (upd (upd (upd gk (60 * ka) 0) ((60 * ka) + 1) 0) ((60 * ka) + 2) 0) ((60 * ka) + 3) 255) ((60 * ka) + 4) (nI pp))))] [] [0, 2, 3, 1] [] rfl rfl rfl (by decide) (by decide) (by decide) (c_X9_flags_a73 l D cA cB h0 mwords mstore (nI pp) zz cy mkeys mrests mring mstrip mpins mstops es mdone mkept (nI ka) (nI km) (nI (60 * ka)) mtape mnameValue mnamePlace mnameEquals mout mtellFrom mtellEnd mtellValue mtellEquals mlaid gkeys gr (upd (upd (upd (upd (upd gk (60 * ka) 0) ((60 * ka) + 1) 0) ((60 * ka) + 2) 0) ((60 * ka) + 3) 255) ((60 * ka) + 4) (nI pp)) zkeys zr) w_432 w_387 w_431 w_433 w_434 0 (ci := 9) (T := TX9) (N := 79) rfl rfl (by decide +kernel) rfl rfl (Nat.le_of_ble_eq_true rfl) ⟨(Nat.le_of_ble_eq_true rfl), (Nat.le_of_ble_eq_true rfl)⟩ ⟨(Nat.le_of_ble_eq_true rfl), (Nat.le_of_ble_eq_true rfl)⟩ dX9_keep_87 (fun r W1 H locs hw hP hD hS => ?_)
  obtain ⟨rfl, rfl⟩ := hw
  have hP : va_P D classes [(h0, .inr (9, [.ref mwords, .ref mstore, .int 0, .int 0, .int 0, .int 255, .int ((nI pp)), .int 0, .int 0, .int 1, .int zz, .int 0, .int cy, .int 0, .int 0, .int 0, .int 0, .int 0, .int 0, .int 0, .int 0, .int 0, .int 0, .int 0, .int 1, .int 0, .ref mkeys, .ref mrests, .int 0, .int 0, .int 0, .int 0, .int 0, .ref mring, .ref mstrip, .ref mpins, .ref mstops, .int 0, .int 0, .int es, .ref mdone, .ref mkept, .int ((nI ka)), .int ((nI km)), .int ((nI (60 * ka))), .int 0, .ref mtape, .int 0, .int (-1), .int (-1), .ref mnameValue, .ref mnamePlace, .ref mnameEquals, .int 0, .ref mout, .int 0, .int 0, .int 0, .int 0, .int 0, .int 0, .int 0, .int 0, .int 0, .int 0, .int 0, .int 0, .int 0, .int 0, .int 0, .ref mtellFrom, .ref mtellEnd, .ref mtellValue, .ref mtellEquals, .ref mlaid, .int 0, .int 0, .int 0, .int 0])), (mkeys, .inl (cA, 16, .inl gkeys)), (mrests, .inl (cA, 8, .inl gr)), (mkept, .inl (cA, 15360, .inl (upd (upd (upd (upd (upd gk (60 * ka) 0) ((60 * ka) + 1) 0) ((60 * ka) + 2) 0) ((60 * ka) + 3) 255) ((60 * ka) + 4) (nI pp))))] H := hP
  have hD : va_D A [(h0, .inr (9, [.ref mwords, .ref mstore, .int 0, .int 0, .int 0, .int 255, .int ((nI pp)), .int 0, .int 0, .int 1, .int zz, .int 0, .int cy, .int 0, .int 0, .int 0, .int 0, .int 0, .int 0, .int 0, .int 0, .int 0, .int 0, .int 0, .int 1, .int 0, .ref mkeys, .ref mrests, .int 0, .int 0, .int 0, .int 0, .int 0, .ref mring, .ref mstrip, .ref mpins, .ref mstops, .int 0, .int 0, .int es, .ref mdone, .ref mkept, .int ((nI ka)), .int ((nI km)), .int ((nI (60 * ka))), .int 0, .ref mtape, .int 0, .int (-1), .int (-1), .ref mnameValue, .ref mnamePlace, .ref mnameEquals, .int 0, .ref mout, .int 0, .int 0, .int 0, .int 0, .int 0, .int 0, .int 0, .int 0, .int 0, .int 0, .int 0, .int 0, .int 0, .int 0, .int 0, .ref mtellFrom, .ref mtellEnd, .ref mtellValue, .ref mtellEquals, .ref mlaid, .int 0, .int 0, .int 0, .int 0])), (mkeys, .inl (cA, 16, .inl gkeys)), (mrests, .inl (cA, 8, .inl gr)), (mkept, .inl (cA, 15360, .inl (upd (upd (upd (upd (upd gk (60 * ka) 0) ((60 * ka) + 1) 0) ((60 * ka) + 2) 0) ((60 * ka) + 3) 255) ((60 * ka) + 4) (nI pp))))] := hD
  refine k_ast X hE hP hD hS 3 rfl ((60 * ka) + 5) rfl (by omega) (by decide) [(h0, .inr (9, [.ref mwords, .ref mstore, .int 0, .int 0, .int 0, .int 255, .int ((nI pp)), .int 0, .int 0, .int 1, .int zz, .int 0, .int cy, .int 0, .int 0, .int 0, .int 0, .int 0, .int 0, .int 0, .int 0, .int 0, .int 0, .int 0, .int 1, .int 0, .ref mkeys, .ref mrests, .int 0, .int 0, .int 0, .int 0, .int 0, .ref mring, .ref mstrip, .ref mpins, .ref mstops, .int 0, .int 0, .int es, .ref mdone, .ref mkept, .int ((nI ka)), .int ((nI km)), .int ((nI (60 * ka))), .int 0, .ref mtape, .int 0, .int (-1), .int (-1), .ref mnameValue, .ref mnamePlace, .ref mnameEquals, .int 0, .ref mout, .int 0, .int 0, .int 0, .int 0, .int 0, .int 0, .int 0, .int 0, .int 0, .int 0, .int 0, .int 0, .int 0, .int 0, .int 0, .ref mtellFrom, .ref mtellEnd, .ref mtellValue, .ref mtellEquals, .ref mlaid, .int 0, .int 0, .int 0, .int 0])), (mkeys, .inl (cA, 16, .inl gkeys)), (mrests, .inl (cA, 8, .inl gr)), (mkept, .inl (cA, 15360, .inl (upd (upd (upd (upd (upd (upd gk (60 * ka) 0) ((60 * ka) + 1) 0) ((60 * ka) + 2) 0) ((60 * ka) + 3) 255) ((60 * ka) + 4) (nI pp)) ((60 * ka) + 5) ((4 + (2 * zz)) + 0))))] rfl dX9_keep_90 (fun H locs hP hD hS => ?_)
  refine lv_aload_n hx hb dX9_keep_91 rfl (lv_at hl 0 rfl) ?_
  refine lv_aload_n hx hb dX9_keep_92 rfl (lv_at hl 1 rfl) ?_
  refine k_get (C := RX9) (T := TX9) (N := 79) (ci := 9) (v := .int ((nI (60 * ka)))) X hE hP 0 rfl rfl iX9 44 (by decide) w_498 rfl dX9_keep_93 ?_
  refine lv_bipush (v := 6) hx hb dX9_keep_96 (by decide) ?_
  refine lv_iadd hx hb dX9_keep_98 ?_
  refine tk (y := nI ((60 * ka) + 6)) (nI_add _ 6) ?_
  refine lv_aload_n hx hb dX9_keep_99 rfl (lv_at hl 1 rfl) ?_
  refine k_get (C := RX9) (T := TX9) (N := 79) (ci := 9) (v := .int 0) X hE hP 0 rfl rfl iX9 13 (by decide) w_391 rfl dX9_keep_100 ?_
  refine kSi (n3 := 1) (As := [.int 0]) (rest := [.int (nI ((60 * ka) + 6)), .ref mkept]) X hl.1 hE hP hD hS hA [] [(h0, .inr (9, [.ref mwords, .ref mstore, .int 0, .int 0, .int 0, .int 255, .int ((nI pp)), .int 0, .int 0, .int 1, .int zz, .int 0, .int cy, .int 0, .int 0, .int 0, .int 0, .int 0, .int 0, .int 0, .int 0, .int 0, .int 0, .int 0, .int 1, .int 0, .ref mkeys, .ref mrests, .int 0, .int 0, .int 0, .int 0, .int 0, .ref mring, .ref mstrip, .ref mpins, .ref mstops, .int 0, .int 0, .int es, .ref mdone, .ref mkept, .int ((nI ka)), .int ((nI km)), .int ((nI (60 * ka))), .int 0, .ref mtape, .int 0, .int (-1), .int (-1), .ref mnameValue, .ref mnamePlace, .ref mnameEquals, .int 0, .ref mout, .int 0, .int 0, .int 0, .int 0, .int 0, .int 0, .int 0, .int 0, .int 0, .int 0, .int 0, .int 0, .int 0, .int 0, .int 0, .ref mtellFrom, .ref mtellEnd, .ref mtellValue, .ref mtellEquals, .ref mlaid, .int 0, .int 0, .int 0, .int 0])), (mkeys, .inl (cA, 16, .inl gkeys)), (mrests, .inl (cA, 8, .inl gr)), (mkept, .inl (cA, 15360, .inl (upd (upd (upd (upd (upd (upd gk (60 * ka) 0) ((60 * ka) + 1) 0) ((60 * ka) + 2) 0) ((60 * ka) + 3) 255) ((60 * ka) + 4) (nI pp)) ((60 * ka) + 5) ((4 + (2 * zz)) + 0))))] [] [0, 1, 2, 3] rfl rfl rfl (by decide) (by decide) (by decide) (c_X9_flag_a43 l D cA cB  ) w_436 w_387 w_435 w_437 (by decide +kernel) rfl rfl (Nat.le_of_ble_eq_true rfl) ⟨(Nat.le_of_ble_eq_true rfl), (Nat.le_of_ble_eq_true rfl)⟩ ⟨(Nat.le_of_ble_eq_true rfl), (Nat.le_of_ble_eq_true rfl)⟩ dX9_keep_103 (fun r W1 H locs hw hP hD hS => ?_)
  obtain ⟨rfl, rfl⟩ := hw
  have hP : va_P D classes [(h0, .inr (9, [.ref mwords, .ref mstore, .int 0, .int 0, .int 0, .int 255, .int ((nI pp)), .int 0, .int 0, .int 1, .int zz, .int 0, .int cy, .int 0, .int 0, .int 0, .int 0, .int 0, .int 0, .int 0, .int 0, .int 0, .int 0, .int 0, .int 1, .int 0, .ref mkeys, .ref mrests, .int 0, .int 0, .int 0, .int 0, .int 0, .ref mring, .ref mstrip, .ref mpins, .ref mstops, .int 0, .int 0, .int es, .ref mdone, .ref mkept, .int ((nI ka)), .int ((nI km)), .int ((nI (60 * ka))), .int 0, .ref mtape, .int 0, .int (-1), .int (-1), .ref mnameValue, .ref mnamePlace, .ref mnameEquals, .int 0, .ref mout, .int 0, .int 0, .int 0, .int 0, .int 0, .int 0, .int 0, .int 0, .int 0, .int 0, .int 0, .int 0, .int 0, .int 0, .int 0, .ref mtellFrom, .ref mtellEnd, .ref mtellValue, .ref mtellEquals, .ref mlaid, .int 0, .int 0, .int 0, .int 0])), (mkeys, .inl (cA, 16, .inl gkeys)), (mrests, .inl (cA, 8, .inl gr)), (mkept, .inl (cA, 15360, .inl (upd (upd (upd (upd (upd (upd gk (60 * ka) 0) ((60 * ka) + 1) 0) ((60 * ka) + 2) 0) ((60 * ka) + 3) 255) ((60 * ka) + 4) (nI pp)) ((60 * ka) + 5) ((4 + (2 * zz)) + 0))))] H := hP
  have hD : va_D A [(h0, .inr (9, [.ref mwords, .ref mstore, .int 0, .int 0, .int 0, .int 255, .int ((nI pp)), .int 0, .int 0, .int 1, .int zz, .int 0, .int cy, .int 0, .int 0, .int 0, .int 0, .int 0, .int 0, .int 0, .int 0, .int 0, .int 0, .int 0, .int 1, .int 0, .ref mkeys, .ref mrests, .int 0, .int 0, .int 0, .int 0, .int 0, .ref mring, .ref mstrip, .ref mpins, .ref mstops, .int 0, .int 0, .int es, .ref mdone, .ref mkept, .int ((nI ka)), .int ((nI km)), .int ((nI (60 * ka))), .int 0, .ref mtape, .int 0, .int (-1), .int (-1), .ref mnameValue, .ref mnamePlace, .ref mnameEquals, .int 0, .ref mout, .int 0, .int 0, .int 0, .int 0, .int 0, .int 0, .int 0, .int 0, .int 0, .int 0, .int 0, .int 0, .int 0, .int 0, .int 0, .ref mtellFrom, .ref mtellEnd, .ref mtellValue, .ref mtellEquals, .ref mlaid, .int 0, .int 0, .int 0, .int 0])), (mkeys, .inl (cA, 16, .inl gkeys)), (mrests, .inl (cA, 8, .inl gr)), (mkept, .inl (cA, 15360, .inl (upd (upd (upd (upd (upd (upd gk (60 * ka) 0) ((60 * ka) + 1) 0) ((60 * ka) + 2) 0) ((60 * ka) + 3) 255) ((60 * ka) + 4) (nI pp)) ((60 * ka) + 5) ((4 + (2 * zz)) + 0))))] := hD
  refine k_ast X hE hP hD hS 3 rfl ((60 * ka) + 6) rfl (by omega) (by decide) [(h0, .inr (9, [.ref mwords, .ref mstore, .int 0, .int 0, .int 0, .int 255, .int ((nI pp)), .int 0, .int 0, .int 1, .int zz, .int 0, .int cy, .int 0, .int 0, .int 0, .int 0, .int 0, .int 0, .int 0, .int 0, .int 0, .int 0, .int 0, .int 1, .int 0, .ref mkeys, .ref mrests, .int 0, .int 0, .int 0, .int 0, .int 0, .ref mring, .ref mstrip, .ref mpins, .ref mstops, .int 0, .int 0, .int es, .ref mdone, .ref mkept, .int ((nI ka)), .int ((nI km)), .int ((nI (60 * ka))), .int 0, .ref mtape, .int 0, .int (-1), .int (-1), .ref mnameValue, .ref mnamePlace, .ref mnameEquals, .int 0, .ref mout, .int 0, .int 0, .int 0, .int 0, .int 0, .int 0, .int 0, .int 0, .int 0, .int 0, .int 0, .int 0, .int 0, .int 0, .int 0, .ref mtellFrom, .ref mtellEnd, .ref mtellValue, .ref mtellEquals, .ref mlaid, .int 0, .int 0, .int 0, .int 0])), (mkeys, .inl (cA, 16, .inl gkeys)), (mrests, .inl (cA, 8, .inl gr)), (mkept, .inl (cA, 15360, .inl (upd (upd (upd (upd (upd (upd (upd gk (60 * ka) 0) ((60 * ka) + 1) 0) ((60 * ka) + 2) 0) ((60 * ka) + 3) 255) ((60 * ka) + 4) (nI pp)) ((60 * ka) + 5) ((4 + (2 * zz)) + 0)) ((60 * ka) + 6) 0)))] rfl dX9_keep_106 (fun H locs hP hD hS => ?_)
  refine lv_aload_n hx hb dX9_keep_107 rfl (lv_at hl 0 rfl) ?_
  refine lv_aload_n hx hb dX9_keep_108 rfl (lv_at hl 1 rfl) ?_
  refine k_get (C := RX9) (T := TX9) (N := 79) (ci := 9) (v := .int ((nI (60 * ka)))) X hE hP 0 rfl rfl iX9 44 (by decide) w_498 rfl dX9_keep_109 ?_
  refine lv_bipush (v := 7) hx hb dX9_keep_112 (by decide) ?_
  refine lv_iadd hx hb dX9_keep_114 ?_
  refine tk (y := nI ((60 * ka) + 7)) (nI_add _ 7) ?_
  refine lv_aload_n hx hb dX9_keep_115 rfl (lv_at hl 1 rfl) ?_
  refine k_get (C := RX9) (T := TX9) (N := 79) (ci := 9) (v := .int cy) X hE hP 0 rfl rfl iX9 12 (by decide) w_413 rfl dX9_keep_116 ?_
  refine k_ast X hE hP hD hS 3 rfl ((60 * ka) + 7) rfl (by omega) (by decide) [(h0, .inr (9, [.ref mwords, .ref mstore, .int 0, .int 0, .int 0, .int 255, .int ((nI pp)), .int 0, .int 0, .int 1, .int zz, .int 0, .int cy, .int 0, .int 0, .int 0, .int 0, .int 0, .int 0, .int 0, .int 0, .int 0, .int 0, .int 0, .int 1, .int 0, .ref mkeys, .ref mrests, .int 0, .int 0, .int 0, .int 0, .int 0, .ref mring, .ref mstrip, .ref mpins, .ref mstops, .int 0, .int 0, .int es, .ref mdone, .ref mkept, .int ((nI ka)), .int ((nI km)), .int ((nI (60 * ka))), .int 0, .ref mtape, .int 0, .int (-1), .int (-1), .ref mnameValue, .ref mnamePlace, .ref mnameEquals, .int 0, .ref mout, .int 0, .int 0, .int 0, .int 0, .int 0, .int 0, .int 0, .int 0, .int 0, .int 0, .int 0, .int 0, .int 0, .int 0, .int 0, .ref mtellFrom, .ref mtellEnd, .ref mtellValue, .ref mtellEquals, .ref mlaid, .int 0, .int 0, .int 0, .int 0])), (mkeys, .inl (cA, 16, .inl gkeys)), (mrests, .inl (cA, 8, .inl gr)), (mkept, .inl (cA, 15360, .inl (upd (upd (upd (upd (upd (upd (upd (upd gk (60 * ka) 0) ((60 * ka) + 1) 0) ((60 * ka) + 2) 0) ((60 * ka) + 3) 255) ((60 * ka) + 4) (nI pp)) ((60 * ka) + 5) ((4 + (2 * zz)) + 0)) ((60 * ka) + 6) 0) ((60 * ka) + 7) cy)))] rfl dX9_keep_119 (fun H locs hP hD hS => ?_)
  refine lv_aload_n hx hb dX9_keep_120 rfl (lv_at hl 0 rfl) ?_
  refine lv_aload_n hx hb dX9_keep_121 rfl (lv_at hl 1 rfl) ?_
  refine k_get (C := RX9) (T := TX9) (N := 79) (ci := 9) (v := .int ((nI (60 * ka)))) X hE hP 0 rfl rfl iX9 44 (by decide) w_498 rfl dX9_keep_122 ?_
  refine lv_bipush (v := 8) hx hb dX9_keep_125 (by decide) ?_
  refine lv_iadd hx hb dX9_keep_127 ?_
  refine tk (y := nI ((60 * ka) + 8)) (nI_add _ 8) ?_
  refine lv_aload_n hx hb dX9_keep_128 rfl (lv_at hl 1 rfl) ?_
  refine k_get (C := RX9) (T := TX9) (N := 79) (ci := 9) (v := .int 0) X hE hP 0 rfl rfl iX9 14 (by decide) w_396 rfl dX9_keep_129 ?_
  refine k_ast X hE hP hD hS 3 rfl ((60 * ka) + 8) rfl (by omega) (by decide) [(h0, .inr (9, [.ref mwords, .ref mstore, .int 0, .int 0, .int 0, .int 255, .int ((nI pp)), .int 0, .int 0, .int 1, .int zz, .int 0, .int cy, .int 0, .int 0, .int 0, .int 0, .int 0, .int 0, .int 0, .int 0, .int 0, .int 0, .int 0, .int 1, .int 0, .ref mkeys, .ref mrests, .int 0, .int 0, .int 0, .int 0, .int 0, .ref mring, .ref mstrip, .ref mpins, .ref mstops, .int 0, .int 0, .int es, .ref mdone, .ref mkept, .int ((nI ka)), .int ((nI km)), .int ((nI (60 * ka))), .int 0, .ref mtape, .int 0, .int (-1), .int (-1), .ref mnameValue, .ref mnamePlace, .ref mnameEquals, .int 0, .ref mout, .int 0, .int 0, .int 0, .int 0, .int 0, .int 0, .int 0, .int 0, .int 0, .int 0, .int 0, .int 0, .int 0, .int 0, .int 0, .ref mtellFrom, .ref mtellEnd, .ref mtellValue, .ref mtellEquals, .ref mlaid, .int 0, .int 0, .int 0, .int 0])), (mkeys, .inl (cA, 16, .inl gkeys)), (mrests, .inl (cA, 8, .inl gr)), (mkept, .inl (cA, 15360, .inl (upd (upd (upd (upd (upd (upd (upd (upd (upd gk (60 * ka) 0) ((60 * ka) + 1) 0) ((60 * ka) + 2) 0) ((60 * ka) + 3) 255) ((60 * ka) + 4) (nI pp)) ((60 * ka) + 5) ((4 + (2 * zz)) + 0)) ((60 * ka) + 6) 0) ((60 * ka) + 7) cy) ((60 * ka) + 8) 0)))] rfl dX9_keep_132 (fun H locs hP hD hS => ?_)
  refine lv_aload_n hx hb dX9_keep_133 rfl (lv_at hl 0 rfl) ?_
  refine lv_aload_n hx hb dX9_keep_134 rfl (lv_at hl 1 rfl) ?_
  refine k_get (C := RX9) (T := TX9) (N := 79) (ci := 9) (v := .int ((nI (60 * ka)))) X hE hP 0 rfl rfl iX9 44 (by decide) w_498 rfl dX9_keep_135 ?_
  refine lv_bipush (v := 9) hx hb dX9_keep_138 (by decide) ?_
  refine lv_iadd hx hb dX9_keep_140 ?_
  refine tk (y := nI ((60 * ka) + 9)) (nI_add _ 9) ?_
  refine lv_aload_n hx hb dX9_keep_141 rfl (lv_at hl 1 rfl) ?_
  refine k_get (C := RX9) (T := TX9) (N := 79) (ci := 9) (v := .int 0) X hE hP 0 rfl rfl iX9 15 (by decide) w_397 rfl dX9_keep_142 ?_
  refine k_ast X hE hP hD hS 3 rfl ((60 * ka) + 9) rfl (by omega) (by decide) [(h0, .inr (9, [.ref mwords, .ref mstore, .int 0, .int 0, .int 0, .int 255, .int ((nI pp)), .int 0, .int 0, .int 1, .int zz, .int 0, .int cy, .int 0, .int 0, .int 0, .int 0, .int 0, .int 0, .int 0, .int 0, .int 0, .int 0, .int 0, .int 1, .int 0, .ref mkeys, .ref mrests, .int 0, .int 0, .int 0, .int 0, .int 0, .ref mring, .ref mstrip, .ref mpins, .ref mstops, .int 0, .int 0, .int es, .ref mdone, .ref mkept, .int ((nI ka)), .int ((nI km)), .int ((nI (60 * ka))), .int 0, .ref mtape, .int 0, .int (-1), .int (-1), .ref mnameValue, .ref mnamePlace, .ref mnameEquals, .int 0, .ref mout, .int 0, .int 0, .int 0, .int 0, .int 0, .int 0, .int 0, .int 0, .int 0, .int 0, .int 0, .int 0, .int 0, .int 0, .int 0, .ref mtellFrom, .ref mtellEnd, .ref mtellValue, .ref mtellEquals, .ref mlaid, .int 0, .int 0, .int 0, .int 0])), (mkeys, .inl (cA, 16, .inl gkeys)), (mrests, .inl (cA, 8, .inl gr)), (mkept, .inl (cA, 15360, .inl (upd (upd (upd (upd (upd (upd (upd (upd (upd (upd gk (60 * ka) 0) ((60 * ka) + 1) 0) ((60 * ka) + 2) 0) ((60 * ka) + 3) 255) ((60 * ka) + 4) (nI pp)) ((60 * ka) + 5) ((4 + (2 * zz)) + 0)) ((60 * ka) + 6) 0) ((60 * ka) + 7) cy) ((60 * ka) + 8) 0) ((60 * ka) + 9) 0)))] rfl dX9_keep_145 (fun H locs hP hD hS => ?_)
  refine lv_aload_n hx hb dX9_keep_146 rfl (lv_at hl 0 rfl) ?_
  refine lv_aload_n hx hb dX9_keep_147 rfl (lv_at hl 1 rfl) ?_
  refine k_get (C := RX9) (T := TX9) (N := 79) (ci := 9) (v := .int ((nI (60 * ka)))) X hE hP 0 rfl rfl iX9 44 (by decide) w_498 rfl dX9_keep_148 ?_
  refine lv_bipush (v := 10) hx hb dX9_keep_151 (by decide) ?_
  refine lv_iadd hx hb dX9_keep_153 ?_
  refine tk (y := nI ((60 * ka) + 10)) (nI_add _ 10) ?_
  refine lv_aload_n hx hb dX9_keep_154 rfl (lv_at hl 1 rfl) ?_
  refine k_get (C := RX9) (T := TX9) (N := 79) (ci := 9) (v := .int 0) X hE hP 0 rfl rfl iX9 16 (by decide) w_398 rfl dX9_keep_155 ?_
  refine k_ast X hE hP hD hS 3 rfl ((60 * ka) + 10) rfl (by omega) (by decide) [(h0, .inr (9, [.ref mwords, .ref mstore, .int 0, .int 0, .int 0, .int 255, .int ((nI pp)), .int 0, .int 0, .int 1, .int zz, .int 0, .int cy, .int 0, .int 0, .int 0, .int 0, .int 0, .int 0, .int 0, .int 0, .int 0, .int 0, .int 0, .int 1, .int 0, .ref mkeys, .ref mrests, .int 0, .int 0, .int 0, .int 0, .int 0, .ref mring, .ref mstrip, .ref mpins, .ref mstops, .int 0, .int 0, .int es, .ref mdone, .ref mkept, .int ((nI ka)), .int ((nI km)), .int ((nI (60 * ka))), .int 0, .ref mtape, .int 0, .int (-1), .int (-1), .ref mnameValue, .ref mnamePlace, .ref mnameEquals, .int 0, .ref mout, .int 0, .int 0, .int 0, .int 0, .int 0, .int 0, .int 0, .int 0, .int 0, .int 0, .int 0, .int 0, .int 0, .int 0, .int 0, .ref mtellFrom, .ref mtellEnd, .ref mtellValue, .ref mtellEquals, .ref mlaid, .int 0, .int 0, .int 0, .int 0])), (mkeys, .inl (cA, 16, .inl gkeys)), (mrests, .inl (cA, 8, .inl gr)), (mkept, .inl (cA, 15360, .inl (upd (upd (upd (upd (upd (upd (upd (upd (upd (upd (upd gk (60 * ka) 0) ((60 * ka) + 1) 0) ((60 * ka) + 2) 0) ((60 * ka) + 3) 255) ((60 * ka) + 4) (nI pp)) ((60 * ka) + 5) ((4 + (2 * zz)) + 0)) ((60 * ka) + 6) 0) ((60 * ka) + 7) cy) ((60 * ka) + 8) 0) ((60 * ka) + 9) 0) ((60 * ka) + 10) 0)))] rfl dX9_keep_158 (fun H locs hP hD hS => ?_)
  refine lv_aload_n hx hb dX9_keep_159 rfl (lv_at hl 0 rfl) ?_
  refine lv_aload_n hx hb dX9_keep_160 rfl (lv_at hl 1 rfl) ?_
  refine k_get (C := RX9) (T := TX9) (N := 79) (ci := 9) (v := .int ((nI (60 * ka)))) X hE hP 0 rfl rfl iX9 44 (by decide) w_498 rfl dX9_keep_161 ?_
  refine lv_bipush (v := 11) hx hb dX9_keep_164 (by decide) ?_
  refine lv_iadd hx hb dX9_keep_166 ?_
  refine tk (y := nI ((60 * ka) + 11)) (nI_add _ 11) ?_
  refine lv_aload_n hx hb dX9_keep_167 rfl (lv_at hl 1 rfl) ?_
  refine k_get (C := RX9) (T := TX9) (N := 79) (ci := 9) (v := .int 0) X hE hP 0 rfl rfl iX9 17 (by decide) w_399 rfl dX9_keep_168 ?_
  refine k_ast X hE hP hD hS 3 rfl ((60 * ka) + 11) rfl (by omega) (by decide) [(h0, .inr (9, [.ref mwords, .ref mstore, .int 0, .int 0, .int 0, .int 255, .int ((nI pp)), .int 0, .int 0, .int 1, .int zz, .int 0, .int cy, .int 0, .int 0, .int 0, .int 0, .int 0, .int 0, .int 0, .int 0, .int 0, .int 0, .int 0, .int 1, .int 0, .ref mkeys, .ref mrests, .int 0, .int 0, .int 0, .int 0, .int 0, .ref mring, .ref mstrip, .ref mpins, .ref mstops, .int 0, .int 0, .int es, .ref mdone, .ref mkept, .int ((nI ka)), .int ((nI km)), .int ((nI (60 * ka))), .int 0, .ref mtape, .int 0, .int (-1), .int (-1), .ref mnameValue, .ref mnamePlace, .ref mnameEquals, .int 0, .ref mout, .int 0, .int 0, .int 0, .int 0, .int 0, .int 0, .int 0, .int 0, .int 0, .int 0, .int 0, .int 0, .int 0, .int 0, .int 0, .ref mtellFrom, .ref mtellEnd, .ref mtellValue, .ref mtellEquals, .ref mlaid, .int 0, .int 0, .int 0, .int 0])), (mkeys, .inl (cA, 16, .inl gkeys)), (mrests, .inl (cA, 8, .inl gr)), (mkept, .inl (cA, 15360, .inl (upd (upd (upd (upd (upd (upd (upd (upd (upd (upd (upd (upd gk (60 * ka) 0) ((60 * ka) + 1) 0) ((60 * ka) + 2) 0) ((60 * ka) + 3) 255) ((60 * ka) + 4) (nI pp)) ((60 * ka) + 5) ((4 + (2 * zz)) + 0)) ((60 * ka) + 6) 0) ((60 * ka) + 7) cy) ((60 * ka) + 8) 0) ((60 * ka) + 9) 0) ((60 * ka) + 10) 0) ((60 * ka) + 11) 0)))] rfl dX9_keep_171 (fun H locs hP hD hS => ?_)
  refine lv_aload_n hx hb dX9_keep_172 rfl (lv_at hl 0 rfl) ?_
  refine lv_aload_n hx hb dX9_keep_173 rfl (lv_at hl 1 rfl) ?_
  refine k_get (C := RX9) (T := TX9) (N := 79) (ci := 9) (v := .int ((nI (60 * ka)))) X hE hP 0 rfl rfl iX9 44 (by decide) w_498 rfl dX9_keep_174 ?_
  refine lv_bipush (v := 12) hx hb dX9_keep_177 (by decide) ?_
  refine lv_iadd hx hb dX9_keep_179 ?_
  refine tk (y := nI ((60 * ka) + 12)) (nI_add _ 12) ?_
  refine lv_aload_n hx hb dX9_keep_180 rfl (lv_at hl 1 rfl) ?_
  refine k_get (C := RX9) (T := TX9) (N := 79) (ci := 9) (v := .int 0) X hE hP 0 rfl rfl iX9 18 (by decide) w_400 rfl dX9_keep_181 ?_
  refine k_ast X hE hP hD hS 3 rfl ((60 * ka) + 12) rfl (by omega) (by decide) [(h0, .inr (9, [.ref mwords, .ref mstore, .int 0, .int 0, .int 0, .int 255, .int ((nI pp)), .int 0, .int 0, .int 1, .int zz, .int 0, .int cy, .int 0, .int 0, .int 0, .int 0, .int 0, .int 0, .int 0, .int 0, .int 0, .int 0, .int 0, .int 1, .int 0, .ref mkeys, .ref mrests, .int 0, .int 0, .int 0, .int 0, .int 0, .ref mring, .ref mstrip, .ref mpins, .ref mstops, .int 0, .int 0, .int es, .ref mdone, .ref mkept, .int ((nI ka)), .int ((nI km)), .int ((nI (60 * ka))), .int 0, .ref mtape, .int 0, .int (-1), .int (-1), .ref mnameValue, .ref mnamePlace, .ref mnameEquals, .int 0, .ref mout, .int 0, .int 0, .int 0, .int 0, .int 0, .int 0, .int 0, .int 0, .int 0, .int 0, .int 0, .int 0, .int 0, .int 0, .int 0, .ref mtellFrom, .ref mtellEnd, .ref mtellValue, .ref mtellEquals, .ref mlaid, .int 0, .int 0, .int 0, .int 0])), (mkeys, .inl (cA, 16, .inl gkeys)), (mrests, .inl (cA, 8, .inl gr)), (mkept, .inl (cA, 15360, .inl (upd (upd (upd (upd (upd (upd (upd (upd (upd (upd (upd (upd (upd gk (60 * ka) 0) ((60 * ka) + 1) 0) ((60 * ka) + 2) 0) ((60 * ka) + 3) 255) ((60 * ka) + 4) (nI pp)) ((60 * ka) + 5) ((4 + (2 * zz)) + 0)) ((60 * ka) + 6) 0) ((60 * ka) + 7) cy) ((60 * ka) + 8) 0) ((60 * ka) + 9) 0) ((60 * ka) + 10) 0) ((60 * ka) + 11) 0) ((60 * ka) + 12) 0)))] rfl dX9_keep_184 (fun H locs hP hD hS => ?_)
  refine lv_aload_n hx hb dX9_keep_185 rfl (lv_at hl 0 rfl) ?_
  refine lv_aload_n hx hb dX9_keep_186 rfl (lv_at hl 1 rfl) ?_
  refine k_get (C := RX9) (T := TX9) (N := 79) (ci := 9) (v := .int ((nI (60 * ka)))) X hE hP 0 rfl rfl iX9 44 (by decide) w_498 rfl dX9_keep_187 ?_
  refine lv_bipush (v := 13) hx hb dX9_keep_190 (by decide) ?_
  refine lv_iadd hx hb dX9_keep_192 ?_
  refine tk (y := nI ((60 * ka) + 13)) (nI_add _ 13) ?_
  refine lv_aload_n hx hb dX9_keep_193 rfl (lv_at hl 1 rfl) ?_
  refine k_get (C := RX9) (T := TX9) (N := 79) (ci := 9) (v := .int 0) X hE hP 0 rfl rfl iX9 19 (by decide) w_401 rfl dX9_keep_194 ?_
  refine k_ast X hE hP hD hS 3 rfl ((60 * ka) + 13) rfl (by omega) (by decide) [(h0, .inr (9, [.ref mwords, .ref mstore, .int 0, .int 0, .int 0, .int 255, .int ((nI pp)), .int 0, .int 0, .int 1, .int zz, .int 0, .int cy, .int 0, .int 0, .int 0, .int 0, .int 0, .int 0, .int 0, .int 0, .int 0, .int 0, .int 0, .int 1, .int 0, .ref mkeys, .ref mrests, .int 0, .int 0, .int 0, .int 0, .int 0, .ref mring, .ref mstrip, .ref mpins, .ref mstops, .int 0, .int 0, .int es, .ref mdone, .ref mkept, .int ((nI ka)), .int ((nI km)), .int ((nI (60 * ka))), .int 0, .ref mtape, .int 0, .int (-1), .int (-1), .ref mnameValue, .ref mnamePlace, .ref mnameEquals, .int 0, .ref mout, .int 0, .int 0, .int 0, .int 0, .int 0, .int 0, .int 0, .int 0, .int 0, .int 0, .int 0, .int 0, .int 0, .int 0, .int 0, .ref mtellFrom, .ref mtellEnd, .ref mtellValue, .ref mtellEquals, .ref mlaid, .int 0, .int 0, .int 0, .int 0])), (mkeys, .inl (cA, 16, .inl gkeys)), (mrests, .inl (cA, 8, .inl gr)), (mkept, .inl (cA, 15360, .inl (upd (upd (upd (upd (upd (upd (upd (upd (upd (upd (upd (upd (upd (upd gk (60 * ka) 0) ((60 * ka) + 1) 0) ((60 * ka) + 2) 0) ((60 * ka) + 3) 255) ((60 * ka) + 4) (nI pp)) ((60 * ka) + 5) ((4 + (2 * zz)) + 0)) ((60 * ka) + 6) 0) ((60 * ka) + 7) cy) ((60 * ka) + 8) 0) ((60 * ka) + 9) 0) ((60 * ka) + 10) 0) ((60 * ka) + 11) 0) ((60 * ka) + 12) 0) ((60 * ka) + 13) 0)))] rfl dX9_keep_197 (fun H locs hP hD hS => ?_)
  refine lv_aload_n hx hb dX9_keep_198 rfl (lv_at hl 0 rfl) ?_
  refine lv_aload_n hx hb dX9_keep_199 rfl (lv_at hl 1 rfl) ?_
  refine k_get (C := RX9) (T := TX9) (N := 79) (ci := 9) (v := .int ((nI (60 * ka)))) X hE hP 0 rfl rfl iX9 44 (by decide) w_498 rfl dX9_keep_200 ?_
  refine lv_bipush (v := 14) hx hb dX9_keep_203 (by decide) ?_
  refine lv_iadd hx hb dX9_keep_205 ?_
  refine tk (y := nI ((60 * ka) + 14)) (nI_add _ 14) ?_
  refine lv_aload_n hx hb dX9_keep_206 rfl (lv_at hl 1 rfl) ?_
  refine k_get (C := RX9) (T := TX9) (N := 79) (ci := 9) (v := .int 0) X hE hP 0 rfl rfl iX9 20 (by decide) w_402 rfl dX9_keep_207 ?_
  refine k_ast X hE hP hD hS 3 rfl ((60 * ka) + 14) rfl (by omega) (by decide) [(h0, .inr (9, [.ref mwords, .ref mstore, .int 0, .int 0, .int 0, .int 255, .int ((nI pp)), .int 0, .int 0, .int 1, .int zz, .int 0, .int cy, .int 0, .int 0, .int 0, .int 0, .int 0, .int 0, .int 0, .int 0, .int 0, .int 0, .int 0, .int 1, .int 0, .ref mkeys, .ref mrests, .int 0, .int 0, .int 0, .int 0, .int 0, .ref mring, .ref mstrip, .ref mpins, .ref mstops, .int 0, .int 0, .int es, .ref mdone, .ref mkept, .int ((nI ka)), .int ((nI km)), .int ((nI (60 * ka))), .int 0, .ref mtape, .int 0, .int (-1), .int (-1), .ref mnameValue, .ref mnamePlace, .ref mnameEquals, .int 0, .ref mout, .int 0, .int 0, .int 0, .int 0, .int 0, .int 0, .int 0, .int 0, .int 0, .int 0, .int 0, .int 0, .int 0, .int 0, .int 0, .ref mtellFrom, .ref mtellEnd, .ref mtellValue, .ref mtellEquals, .ref mlaid, .int 0, .int 0, .int 0, .int 0])), (mkeys, .inl (cA, 16, .inl gkeys)), (mrests, .inl (cA, 8, .inl gr)), (mkept, .inl (cA, 15360, .inl (upd (upd (upd (upd (upd (upd (upd (upd (upd (upd (upd (upd (upd (upd (upd gk (60 * ka) 0) ((60 * ka) + 1) 0) ((60 * ka) + 2) 0) ((60 * ka) + 3) 255) ((60 * ka) + 4) (nI pp)) ((60 * ka) + 5) ((4 + (2 * zz)) + 0)) ((60 * ka) + 6) 0) ((60 * ka) + 7) cy) ((60 * ka) + 8) 0) ((60 * ka) + 9) 0) ((60 * ka) + 10) 0) ((60 * ka) + 11) 0) ((60 * ka) + 12) 0) ((60 * ka) + 13) 0) ((60 * ka) + 14) 0)))] rfl dX9_keep_210 (fun H locs hP hD hS => ?_)
  refine lv_aload_n hx hb dX9_keep_211 rfl (lv_at hl 0 rfl) ?_
  refine lv_aload_n hx hb dX9_keep_212 rfl (lv_at hl 1 rfl) ?_
  refine k_get (C := RX9) (T := TX9) (N := 79) (ci := 9) (v := .int ((nI (60 * ka)))) X hE hP 0 rfl rfl iX9 44 (by decide) w_498 rfl dX9_keep_213 ?_
  refine lv_bipush (v := 15) hx hb dX9_keep_216 (by decide) ?_
  refine lv_iadd hx hb dX9_keep_218 ?_
  refine tk (y := nI ((60 * ka) + 15)) (nI_add _ 15) ?_
  refine lv_aload_n hx hb dX9_keep_219 rfl (lv_at hl 1 rfl) ?_
  refine k_get (C := RX9) (T := TX9) (N := 79) (ci := 9) (v := .int 0) X hE hP 0 rfl rfl iX9 21 (by decide) w_403 rfl dX9_keep_220 ?_
  refine k_ast X hE hP hD hS 3 rfl ((60 * ka) + 15) rfl (by omega) (by decide) [(h0, .inr (9, [.ref mwords, .ref mstore, .int 0, .int 0, .int 0, .int 255, .int ((nI pp)), .int 0, .int 0, .int 1, .int zz, .int 0, .int cy, .int 0, .int 0, .int 0, .int 0, .int 0, .int 0, .int 0, .int 0, .int 0, .int 0, .int 0, .int 1, .int 0, .ref mkeys, .ref mrests, .int 0, .int 0, .int 0, .int 0, .int 0, .ref mring, .ref mstrip, .ref mpins, .ref mstops, .int 0, .int 0, .int es, .ref mdone, .ref mkept, .int ((nI ka)), .int ((nI km)), .int ((nI (60 * ka))), .int 0, .ref mtape, .int 0, .int (-1), .int (-1), .ref mnameValue, .ref mnamePlace, .ref mnameEquals, .int 0, .ref mout, .int 0, .int 0, .int 0, .int 0, .int 0, .int 0, .int 0, .int 0, .int 0, .int 0, .int 0, .int 0, .int 0, .int 0, .int 0, .ref mtellFrom, .ref mtellEnd, .ref mtellValue, .ref mtellEquals, .ref mlaid, .int 0, .int 0, .int 0, .int 0])), (mkeys, .inl (cA, 16, .inl gkeys)), (mrests, .inl (cA, 8, .inl gr)), (mkept, .inl (cA, 15360, .inl (upd (upd (upd (upd (upd (upd (upd (upd (upd (upd (upd (upd (upd (upd (upd (upd gk (60 * ka) 0) ((60 * ka) + 1) 0) ((60 * ka) + 2) 0) ((60 * ka) + 3) 255) ((60 * ka) + 4) (nI pp)) ((60 * ka) + 5) ((4 + (2 * zz)) + 0)) ((60 * ka) + 6) 0) ((60 * ka) + 7) cy) ((60 * ka) + 8) 0) ((60 * ka) + 9) 0) ((60 * ka) + 10) 0) ((60 * ka) + 11) 0) ((60 * ka) + 12) 0) ((60 * ka) + 13) 0) ((60 * ka) + 14) 0) ((60 * ka) + 15) 0)))] rfl dX9_keep_223 (fun H locs hP hD hS => ?_)
  refine lv_aload_n hx hb dX9_keep_224 rfl (lv_at hl 0 rfl) ?_
  refine lv_aload_n hx hb dX9_keep_225 rfl (lv_at hl 1 rfl) ?_
  refine k_get (C := RX9) (T := TX9) (N := 79) (ci := 9) (v := .int ((nI (60 * ka)))) X hE hP 0 rfl rfl iX9 44 (by decide) w_498 rfl dX9_keep_226 ?_
  refine lv_bipush (v := 16) hx hb dX9_keep_229 (by decide) ?_
  refine lv_iadd hx hb dX9_keep_231 ?_
  refine tk (y := nI ((60 * ka) + 16)) (nI_add _ 16) ?_
  refine lv_aload_n hx hb dX9_keep_232 rfl (lv_at hl 1 rfl) ?_
  refine k_get (C := RX9) (T := TX9) (N := 79) (ci := 9) (v := .int 0) X hE hP 0 rfl rfl iX9 22 (by decide) w_404 rfl dX9_keep_233 ?_
  refine k_ast X hE hP hD hS 3 rfl ((60 * ka) + 16) rfl (by omega) (by decide) [(h0, .inr (9, [.ref mwords, .ref mstore, .int 0, .int 0, .int 0, .int 255, .int ((nI pp)), .int 0, .int 0, .int 1, .int zz, .int 0, .int cy, .int 0, .int 0, .int 0, .int 0, .int 0, .int 0, .int 0, .int 0, .int 0, .int 0, .int 0, .int 1, .int 0, .ref mkeys, .ref mrests, .int 0, .int 0, .int 0, .int 0, .int 0, .ref mring, .ref mstrip, .ref mpins, .ref mstops, .int 0, .int 0, .int es, .ref mdone, .ref mkept, .int ((nI ka)), .int ((nI km)), .int ((nI (60 * ka))), .int 0, .ref mtape, .int 0, .int (-1), .int (-1), .ref mnameValue, .ref mnamePlace, .ref mnameEquals, .int 0, .ref mout, .int 0, .int 0, .int 0, .int 0, .int 0, .int 0, .int 0, .int 0, .int 0, .int 0, .int 0, .int 0, .int 0, .int 0, .int 0, .ref mtellFrom, .ref mtellEnd, .ref mtellValue, .ref mtellEquals, .ref mlaid, .int 0, .int 0, .int 0, .int 0])), (mkeys, .inl (cA, 16, .inl gkeys)), (mrests, .inl (cA, 8, .inl gr)), (mkept, .inl (cA, 15360, .inl (upd (upd (upd (upd (upd (upd (upd (upd (upd (upd (upd (upd (upd (upd (upd (upd (upd gk (60 * ka) 0) ((60 * ka) + 1) 0) ((60 * ka) + 2) 0) ((60 * ka) + 3) 255) ((60 * ka) + 4) (nI pp)) ((60 * ka) + 5) ((4 + (2 * zz)) + 0)) ((60 * ka) + 6) 0) ((60 * ka) + 7) cy) ((60 * ka) + 8) 0) ((60 * ka) + 9) 0) ((60 * ka) + 10) 0) ((60 * ka) + 11) 0) ((60 * ka) + 12) 0) ((60 * ka) + 13) 0) ((60 * ka) + 14) 0) ((60 * ka) + 15) 0) ((60 * ka) + 16) 0)))] rfl dX9_keep_236 (fun H locs hP hD hS => ?_)
  refine lv_aload_n hx hb dX9_keep_237 rfl (lv_at hl 0 rfl) ?_
  refine lv_aload_n hx hb dX9_keep_238 rfl (lv_at hl 1 rfl) ?_
  refine k_get (C := RX9) (T := TX9) (N := 79) (ci := 9) (v := .int ((nI (60 * ka)))) X hE hP 0 rfl rfl iX9 44 (by decide) w_498 rfl dX9_keep_239 ?_
  refine lv_bipush (v := 17) hx hb dX9_keep_242 (by decide) ?_
  refine lv_iadd hx hb dX9_keep_244 ?_
  refine tk (y := nI ((60 * ka) + 17)) (nI_add _ 17) ?_
  refine lv_aload_n hx hb dX9_keep_245 rfl (lv_at hl 1 rfl) ?_
  refine k_get (C := RX9) (T := TX9) (N := 79) (ci := 9) (v := .int 0) X hE hP 0 rfl rfl iX9 23 (by decide) w_405 rfl dX9_keep_246 ?_
  refine k_ast X hE hP hD hS 3 rfl ((60 * ka) + 17) rfl (by omega) (by decide) [(h0, .inr (9, [.ref mwords, .ref mstore, .int 0, .int 0, .int 0, .int 255, .int ((nI pp)), .int 0, .int 0, .int 1, .int zz, .int 0, .int cy, .int 0, .int 0, .int 0, .int 0, .int 0, .int 0, .int 0, .int 0, .int 0, .int 0, .int 0, .int 1, .int 0, .ref mkeys, .ref mrests, .int 0, .int 0, .int 0, .int 0, .int 0, .ref mring, .ref mstrip, .ref mpins, .ref mstops, .int 0, .int 0, .int es, .ref mdone, .ref mkept, .int ((nI ka)), .int ((nI km)), .int ((nI (60 * ka))), .int 0, .ref mtape, .int 0, .int (-1), .int (-1), .ref mnameValue, .ref mnamePlace, .ref mnameEquals, .int 0, .ref mout, .int 0, .int 0, .int 0, .int 0, .int 0, .int 0, .int 0, .int 0, .int 0, .int 0, .int 0, .int 0, .int 0, .int 0, .int 0, .ref mtellFrom, .ref mtellEnd, .ref mtellValue, .ref mtellEquals, .ref mlaid, .int 0, .int 0, .int 0, .int 0])), (mkeys, .inl (cA, 16, .inl gkeys)), (mrests, .inl (cA, 8, .inl gr)), (mkept, .inl (cA, 15360, .inl (upd (upd (upd (upd (upd (upd (upd (upd (upd (upd (upd (upd (upd (upd (upd (upd (upd (upd gk (60 * ka) 0) ((60 * ka) + 1) 0) ((60 * ka) + 2) 0) ((60 * ka) + 3) 255) ((60 * ka) + 4) (nI pp)) ((60 * ka) + 5) ((4 + (2 * zz)) + 0)) ((60 * ka) + 6) 0) ((60 * ka) + 7) cy) ((60 * ka) + 8) 0) ((60 * ka) + 9) 0) ((60 * ka) + 10) 0) ((60 * ka) + 11) 0) ((60 * ka) + 12) 0) ((60 * ka) + 13) 0) ((60 * ka) + 14) 0) ((60 * ka) + 15) 0) ((60 * ka) + 16) 0) ((60 * ka) + 17) 0)))] rfl dX9_keep_249 (fun H locs hP hD hS => ?_)
  refine lv_aload_n hx hb dX9_keep_250 rfl (lv_at hl 0 rfl) ?_
  refine lv_aload_n hx hb dX9_keep_251 rfl (lv_at hl 1 rfl) ?_
  refine k_get (C := RX9) (T := TX9) (N := 79) (ci := 9) (v := .int ((nI (60 * ka)))) X hE hP 0 rfl rfl iX9 44 (by decide) w_498 rfl dX9_keep_252 ?_
  refine lv_bipush (v := 18) hx hb dX9_keep_255 (by decide) ?_
  refine lv_iadd hx hb dX9_keep_257 ?_
  refine tk (y := nI ((60 * ka) + 18)) (nI_add _ 18) ?_
  refine lv_aload_n hx hb dX9_keep_258 rfl (lv_at hl 1 rfl) ?_
  refine k_get (C := RX9) (T := TX9) (N := 79) (ci := 9) (v := .int 1) X hE hP 0 rfl rfl iX9 24 (by decide) w_406 rfl dX9_keep_259 ?_
  refine k_ast X hE hP hD hS 3 rfl ((60 * ka) + 18) rfl (by omega) (by decide) [(h0, .inr (9, [.ref mwords, .ref mstore, .int 0, .int 0, .int 0, .int 255, .int ((nI pp)), .int 0, .int 0, .int 1, .int zz, .int 0, .int cy, .int 0, .int 0, .int 0, .int 0, .int 0, .int 0, .int 0, .int 0, .int 0, .int 0, .int 0, .int 1, .int 0, .ref mkeys, .ref mrests, .int 0, .int 0, .int 0, .int 0, .int 0, .ref mring, .ref mstrip, .ref mpins, .ref mstops, .int 0, .int 0, .int es, .ref mdone, .ref mkept, .int ((nI ka)), .int ((nI km)), .int ((nI (60 * ka))), .int 0, .ref mtape, .int 0, .int (-1), .int (-1), .ref mnameValue, .ref mnamePlace, .ref mnameEquals, .int 0, .ref mout, .int 0, .int 0, .int 0, .int 0, .int 0, .int 0, .int 0, .int 0, .int 0, .int 0, .int 0, .int 0, .int 0, .int 0, .int 0, .ref mtellFrom, .ref mtellEnd, .ref mtellValue, .ref mtellEquals, .ref mlaid, .int 0, .int 0, .int 0, .int 0])), (mkeys, .inl (cA, 16, .inl gkeys)), (mrests, .inl (cA, 8, .inl gr)), (mkept, .inl (cA, 15360, .inl (upd (upd (upd (upd (upd (upd (upd (upd (upd (upd (upd (upd (upd (upd (upd (upd (upd (upd (upd gk (60 * ka) 0) ((60 * ka) + 1) 0) ((60 * ka) + 2) 0) ((60 * ka) + 3) 255) ((60 * ka) + 4) (nI pp)) ((60 * ka) + 5) ((4 + (2 * zz)) + 0)) ((60 * ka) + 6) 0) ((60 * ka) + 7) cy) ((60 * ka) + 8) 0) ((60 * ka) + 9) 0) ((60 * ka) + 10) 0) ((60 * ka) + 11) 0) ((60 * ka) + 12) 0) ((60 * ka) + 13) 0) ((60 * ka) + 14) 0) ((60 * ka) + 15) 0) ((60 * ka) + 16) 0) ((60 * ka) + 17) 0) ((60 * ka) + 18) 1)))] rfl dX9_keep_262 (fun H locs hP hD hS => ?_)
  refine lv_aload_n hx hb dX9_keep_263 rfl (lv_at hl 0 rfl) ?_
  refine lv_aload_n hx hb dX9_keep_264 rfl (lv_at hl 1 rfl) ?_
  refine k_get (C := RX9) (T := TX9) (N := 79) (ci := 9) (v := .int ((nI (60 * ka)))) X hE hP 0 rfl rfl iX9 44 (by decide) w_498 rfl dX9_keep_265 ?_
  refine lv_bipush (v := 19) hx hb dX9_keep_268 (by decide) ?_
  refine lv_iadd hx hb dX9_keep_270 ?_
  refine tk (y := nI ((60 * ka) + 19)) (nI_add _ 19) ?_
  refine lv_aload_n hx hb dX9_keep_271 rfl (lv_at hl 1 rfl) ?_
  refine k_get (C := RX9) (T := TX9) (N := 79) (ci := 9) (v := .int 0) X hE hP 0 rfl rfl iX9 25 (by decide) w_407 rfl dX9_keep_272 ?_
  refine k_ast X hE hP hD hS 3 rfl ((60 * ka) + 19) rfl (by omega) (by decide) [(h0, .inr (9, [.ref mwords, .ref mstore, .int 0, .int 0, .int 0, .int 255, .int ((nI pp)), .int 0, .int 0, .int 1, .int zz, .int 0, .int cy, .int 0, .int 0, .int 0, .int 0, .int 0, .int 0, .int 0, .int 0, .int 0, .int 0, .int 0, .int 1, .int 0, .ref mkeys, .ref mrests, .int 0, .int 0, .int 0, .int 0, .int 0, .ref mring, .ref mstrip, .ref mpins, .ref mstops, .int 0, .int 0, .int es, .ref mdone, .ref mkept, .int ((nI ka)), .int ((nI km)), .int ((nI (60 * ka))), .int 0, .ref mtape, .int 0, .int (-1), .int (-1), .ref mnameValue, .ref mnamePlace, .ref mnameEquals, .int 0, .ref mout, .int 0, .int 0, .int 0, .int 0, .int 0, .int 0, .int 0, .int 0, .int 0, .int 0, .int 0, .int 0, .int 0, .int 0, .int 0, .ref mtellFrom, .ref mtellEnd, .ref mtellValue, .ref mtellEquals, .ref mlaid, .int 0, .int 0, .int 0, .int 0])), (mkeys, .inl (cA, 16, .inl gkeys)), (mrests, .inl (cA, 8, .inl gr)), (mkept, .inl (cA, 15360, .inl (upd (upd (upd (upd (upd (upd (upd (upd (upd (upd (upd (upd (upd (upd (upd (upd (upd (upd (upd (upd gk (60 * ka) 0) ((60 * ka) + 1) 0) ((60 * ka) + 2) 0) ((60 * ka) + 3) 255) ((60 * ka) + 4) (nI pp)) ((60 * ka) + 5) ((4 + (2 * zz)) + 0)) ((60 * ka) + 6) 0) ((60 * ka) + 7) cy) ((60 * ka) + 8) 0) ((60 * ka) + 9) 0) ((60 * ka) + 10) 0) ((60 * ka) + 11) 0) ((60 * ka) + 12) 0) ((60 * ka) + 13) 0) ((60 * ka) + 14) 0) ((60 * ka) + 15) 0) ((60 * ka) + 16) 0) ((60 * ka) + 17) 0) ((60 * ka) + 18) 1) ((60 * ka) + 19) 0)))] rfl dX9_keep_275 (fun H locs hP hD hS => ?_)
  refine lv_iconst (v := 0) hx hb dX9_keep_276 (by decide) ?_
  refine lv_istore_n (lv' := [(2, .int 0), (1, .ref mkept), (0, .ref h0)]) hx hb dX9_keep_277 rfl hl (by decide) rfl (fun ls hl => ?_)
  refine lv_iload_n hx hb dX9_keep_278 rfl (lv_at hl 0 rfl) ?_
  refine lv_bipush (v := 16) hx hb dX9_keep_279 (by decide) ?_
  refine lv_icmp_ge (tgt := 307) hx hb dX9_keep_281 (by decide) (fun c_281 => absurd c_281 (by decide)) (fun c_281 => ?_)
  refine lv_aload_n hx hb dX9_keep_284 rfl (lv_at hl 1 rfl) ?_
  refine lv_aload_n hx hb dX9_keep_285 rfl (lv_at hl 2 rfl) ?_
  refine k_get (C := RX9) (T := TX9) (N := 79) (ci := 9) (v := .int ((nI (60 * ka)))) X hE hP 0 rfl rfl iX9 44 (by decide) w_498 rfl dX9_keep_286 ?_
  refine lv_bipush (v := 20) hx hb dX9_keep_289 (by decide) ?_
  refine lv_iadd hx hb dX9_keep_291 ?_
  refine tk (y := nI ((60 * ka) + 20)) (nI_add _ 20) ?_
  refine lv_iload_n hx hb dX9_keep_292 rfl (lv_at hl 0 rfl) ?_
  refine lv_iadd hx hb dX9_keep_293 ?_
  refine tk (y := nI (((60 * ka) + 20) + 0)) (nI_add _ 0) ?_
  refine lv_aload_n hx hb dX9_keep_294 rfl (lv_at hl 2 rfl) ?_
  refine k_get (C := RX9) (T := TX9) (N := 79) (ci := 9) (v := .ref mkeys) X hE hP 0 rfl rfl iX9 26 (by decide) w_355 rfl dX9_keep_295 ?_
  refine lv_iload_n hx hb dX9_keep_298 rfl (lv_at hl 0 rfl) ?_
  refine k_ald (v := 0) X hE hP 1 rfl 0 rfl (by decide) (by decide) (zkeys 0 (by decide)) dX9_keep_299 ?_
  refine k_ast X hE hP hD hS 3 rfl (((60 * ka) + 20) + 0) rfl (by omega) (by decide) [(h0, .inr (9, [.ref mwords, .ref mstore, .int 0, .int 0, .int 0, .int 255, .int ((nI pp)), .int 0, .int 0, .int 1, .int zz, .int 0, .int cy, .int 0, .int 0, .int 0, .int 0, .int 0, .int 0, .int 0, .int 0, .int 0, .int 0, .int 0, .int 1, .int 0, .ref mkeys, .ref mrests, .int 0, .int 0, .int 0, .int 0, .int 0, .ref mring, .ref mstrip, .ref mpins, .ref mstops, .int 0, .int 0, .int es, .ref mdone, .ref mkept, .int ((nI ka)), .int ((nI km)), .int ((nI (60 * ka))), .int 0, .ref mtape, .int 0, .int (-1), .int (-1), .ref mnameValue, .ref mnamePlace, .ref mnameEquals, .int 0, .ref mout, .int 0, .int 0, .int 0, .int 0, .int 0, .int 0, .int 0, .int 0, .int 0, .int 0, .int 0, .int 0, .int 0, .int 0, .int 0, .ref mtellFrom, .ref mtellEnd, .ref mtellValue, .ref mtellEquals, .ref mlaid, .int 0, .int 0, .int 0, .int 0])), (mkeys, .inl (cA, 16, .inl gkeys)), (mrests, .inl (cA, 8, .inl gr)), (mkept, .inl (cA, 15360, .inl (upd (upd (upd (upd (upd (upd (upd (upd (upd (upd (upd (upd (upd (upd (upd (upd (upd (upd (upd (upd (upd gk (60 * ka) 0) ((60 * ka) + 1) 0) ((60 * ka) + 2) 0) ((60 * ka) + 3) 255) ((60 * ka) + 4) (nI pp)) ((60 * ka) + 5) ((4 + (2 * zz)) + 0)) ((60 * ka) + 6) 0) ((60 * ka) + 7) cy) ((60 * ka) + 8) 0) ((60 * ka) + 9) 0) ((60 * ka) + 10) 0) ((60 * ka) + 11) 0) ((60 * ka) + 12) 0) ((60 * ka) + 13) 0) ((60 * ka) + 14) 0) ((60 * ka) + 15) 0) ((60 * ka) + 16) 0) ((60 * ka) + 17) 0) ((60 * ka) + 18) 1) ((60 * ka) + 19) 0) (((60 * ka) + 20) + 0) 0)))] rfl dX9_keep_300 (fun H locs hP hD hS => ?_)
  refine lv_iinc (v := 1) (lv' := [(2, .int 1), (1, .ref mkept), (0, .ref h0)]) hx hb dX9_keep_301 hl (k := 0) rfl (by decide) (by decide) rfl (fun ls hl => ?_)
  refine lv_goto (tgt := 278) hx hb dX9_keep_304 (by decide) ?_
  refine lv_iload_n hx hb dX9_keep_278 rfl (lv_at hl 0 rfl) ?_
  refine lv_bipush (v := 16) hx hb dX9_keep_279 (by decide) ?_
  refine lv_icmp_ge (tgt := 307) hx hb dX9_keep_281 (by decide) (fun c_281_1 => absurd c_281_1 (by decide)) (fun c_281_1 => ?_)
  refine lv_aload_n hx hb dX9_keep_284 rfl (lv_at hl 1 rfl) ?_
  refine lv_aload_n hx hb dX9_keep_285 rfl (lv_at hl 2 rfl) ?_
  refine k_get (C := RX9) (T := TX9) (N := 79) (ci := 9) (v := .int ((nI (60 * ka)))) X hE hP 0 rfl rfl iX9 44 (by decide) w_498 rfl dX9_keep_286 ?_
  refine lv_bipush (v := 20) hx hb dX9_keep_289 (by decide) ?_
  refine lv_iadd hx hb dX9_keep_291 ?_
  refine tk (y := nI ((60 * ka) + 20)) (nI_add _ 20) ?_
  refine lv_iload_n hx hb dX9_keep_292 rfl (lv_at hl 0 rfl) ?_
  refine lv_iadd hx hb dX9_keep_293 ?_
  refine tk (y := nI (((60 * ka) + 20) + 1)) (nI_add _ 1) ?_
  refine lv_aload_n hx hb dX9_keep_294 rfl (lv_at hl 2 rfl) ?_
  refine k_get (C := RX9) (T := TX9) (N := 79) (ci := 9) (v := .ref mkeys) X hE hP 0 rfl rfl iX9 26 (by decide) w_355 rfl dX9_keep_295 ?_
  refine lv_iload_n hx hb dX9_keep_298 rfl (lv_at hl 0 rfl) ?_
  refine k_ald (v := 0) X hE hP 1 rfl 1 rfl (by decide) (by decide) (zkeys 1 (by decide)) dX9_keep_299 ?_
  refine k_ast X hE hP hD hS 3 rfl (((60 * ka) + 20) + 1) rfl (by omega) (by decide) [(h0, .inr (9, [.ref mwords, .ref mstore, .int 0, .int 0, .int 0, .int 255, .int ((nI pp)), .int 0, .int 0, .int 1, .int zz, .int 0, .int cy, .int 0, .int 0, .int 0, .int 0, .int 0, .int 0, .int 0, .int 0, .int 0, .int 0, .int 0, .int 1, .int 0, .ref mkeys, .ref mrests, .int 0, .int 0, .int 0, .int 0, .int 0, .ref mring, .ref mstrip, .ref mpins, .ref mstops, .int 0, .int 0, .int es, .ref mdone, .ref mkept, .int ((nI ka)), .int ((nI km)), .int ((nI (60 * ka))), .int 0, .ref mtape, .int 0, .int (-1), .int (-1), .ref mnameValue, .ref mnamePlace, .ref mnameEquals, .int 0, .ref mout, .int 0, .int 0, .int 0, .int 0, .int 0, .int 0, .int 0, .int 0, .int 0, .int 0, .int 0, .int 0, .int 0, .int 0, .int 0, .ref mtellFrom, .ref mtellEnd, .ref mtellValue, .ref mtellEquals, .ref mlaid, .int 0, .int 0, .int 0, .int 0])), (mkeys, .inl (cA, 16, .inl gkeys)), (mrests, .inl (cA, 8, .inl gr)), (mkept, .inl (cA, 15360, .inl (upd (upd (upd (upd (upd (upd (upd (upd (upd (upd (upd (upd (upd (upd (upd (upd (upd (upd (upd (upd (upd (upd gk (60 * ka) 0) ((60 * ka) + 1) 0) ((60 * ka) + 2) 0) ((60 * ka) + 3) 255) ((60 * ka) + 4) (nI pp)) ((60 * ka) + 5) ((4 + (2 * zz)) + 0)) ((60 * ka) + 6) 0) ((60 * ka) + 7) cy) ((60 * ka) + 8) 0) ((60 * ka) + 9) 0) ((60 * ka) + 10) 0) ((60 * ka) + 11) 0) ((60 * ka) + 12) 0) ((60 * ka) + 13) 0) ((60 * ka) + 14) 0) ((60 * ka) + 15) 0) ((60 * ka) + 16) 0) ((60 * ka) + 17) 0) ((60 * ka) + 18) 1) ((60 * ka) + 19) 0) (((60 * ka) + 20) + 0) 0) (((60 * ka) + 20) + 1) 0)))] rfl dX9_keep_300 (fun H locs hP hD hS => ?_)
  refine lv_iinc (v := 2) (lv' := [(2, .int 2), (1, .ref mkept), (0, .ref h0)]) hx hb dX9_keep_301 hl (k := 0) rfl (by decide) (by decide) rfl (fun ls hl => ?_)
  refine lv_goto (tgt := 278) hx hb dX9_keep_304 (by decide) ?_
  refine lv_iload_n hx hb dX9_keep_278 rfl (lv_at hl 0 rfl) ?_
  refine lv_bipush (v := 16) hx hb dX9_keep_279 (by decide) ?_
  refine lv_icmp_ge (tgt := 307) hx hb dX9_keep_281 (by decide) (fun c_281_2 => absurd c_281_2 (by decide)) (fun c_281_2 => ?_)
  refine lv_aload_n hx hb dX9_keep_284 rfl (lv_at hl 1 rfl) ?_
  refine lv_aload_n hx hb dX9_keep_285 rfl (lv_at hl 2 rfl) ?_
  refine k_get (C := RX9) (T := TX9) (N := 79) (ci := 9) (v := .int ((nI (60 * ka)))) X hE hP 0 rfl rfl iX9 44 (by decide) w_498 rfl dX9_keep_286 ?_
  refine lv_bipush (v := 20) hx hb dX9_keep_289 (by decide) ?_
  refine lv_iadd hx hb dX9_keep_291 ?_
  refine tk (y := nI ((60 * ka) + 20)) (nI_add _ 20) ?_
  refine lv_iload_n hx hb dX9_keep_292 rfl (lv_at hl 0 rfl) ?_
  refine lv_iadd hx hb dX9_keep_293 ?_
  refine tk (y := nI (((60 * ka) + 20) + 2)) (nI_add _ 2) ?_
  refine lv_aload_n hx hb dX9_keep_294 rfl (lv_at hl 2 rfl) ?_
  refine k_get (C := RX9) (T := TX9) (N := 79) (ci := 9) (v := .ref mkeys) X hE hP 0 rfl rfl iX9 26 (by decide) w_355 rfl dX9_keep_295 ?_
  refine lv_iload_n hx hb dX9_keep_298 rfl (lv_at hl 0 rfl) ?_
  refine k_ald (v := 0) X hE hP 1 rfl 2 rfl (by decide) (by decide) (zkeys 2 (by decide)) dX9_keep_299 ?_
  refine k_ast X hE hP hD hS 3 rfl (((60 * ka) + 20) + 2) rfl (by omega) (by decide) [(h0, .inr (9, [.ref mwords, .ref mstore, .int 0, .int 0, .int 0, .int 255, .int ((nI pp)), .int 0, .int 0, .int 1, .int zz, .int 0, .int cy, .int 0, .int 0, .int 0, .int 0, .int 0, .int 0, .int 0, .int 0, .int 0, .int 0, .int 0, .int 1, .int 0, .ref mkeys, .ref mrests, .int 0, .int 0, .int 0, .int 0, .int 0, .ref mring, .ref mstrip, .ref mpins, .ref mstops, .int 0, .int 0, .int es, .ref mdone, .ref mkept, .int ((nI ka)), .int ((nI km)), .int ((nI (60 * ka))), .int 0, .ref mtape, .int 0, .int (-1), .int (-1), .ref mnameValue, .ref mnamePlace, .ref mnameEquals, .int 0, .ref mout, .int 0, .int 0, .int 0, .int 0, .int 0, .int 0, .int 0, .int 0, .int 0, .int 0, .int 0, .int 0, .int 0, .int 0, .int 0, .ref mtellFrom, .ref mtellEnd, .ref mtellValue, .ref mtellEquals, .ref mlaid, .int 0, .int 0, .int 0, .int 0])), (mkeys, .inl (cA, 16, .inl gkeys)), (mrests, .inl (cA, 8, .inl gr)), (mkept, .inl (cA, 15360, .inl (upd (upd (upd (upd (upd (upd (upd (upd (upd (upd (upd (upd (upd (upd (upd (upd (upd (upd (upd (upd (upd (upd (upd gk (60 * ka) 0) ((60 * ka) + 1) 0) ((60 * ka) + 2) 0) ((60 * ka) + 3) 255) ((60 * ka) + 4) (nI pp)) ((60 * ka) + 5) ((4 + (2 * zz)) + 0)) ((60 * ka) + 6) 0) ((60 * ka) + 7) cy) ((60 * ka) + 8) 0) ((60 * ka) + 9) 0) ((60 * ka) + 10) 0) ((60 * ka) + 11) 0) ((60 * ka) + 12) 0) ((60 * ka) + 13) 0) ((60 * ka) + 14) 0) ((60 * ka) + 15) 0) ((60 * ka) + 16) 0) ((60 * ka) + 17) 0) ((60 * ka) + 18) 1) ((60 * ka) + 19) 0) (((60 * ka) + 20) + 0) 0) (((60 * ka) + 20) + 1) 0) (((60 * ka) + 20) + 2) 0)))] rfl dX9_keep_300 (fun H locs hP hD hS => ?_)
  refine lv_iinc (v := 3) (lv' := [(2, .int 3), (1, .ref mkept), (0, .ref h0)]) hx hb dX9_keep_301 hl (k := 0) rfl (by decide) (by decide) rfl (fun ls hl => ?_)
  refine lv_goto (tgt := 278) hx hb dX9_keep_304 (by decide) ?_
  refine lv_iload_n hx hb dX9_keep_278 rfl (lv_at hl 0 rfl) ?_
  refine lv_bipush (v := 16) hx hb dX9_keep_279 (by decide) ?_
  refine lv_icmp_ge (tgt := 307) hx hb dX9_keep_281 (by decide) (fun c_281_3 => absurd c_281_3 (by decide)) (fun c_281_3 => ?_)
  refine lv_aload_n hx hb dX9_keep_284 rfl (lv_at hl 1 rfl) ?_
  refine lv_aload_n hx hb dX9_keep_285 rfl (lv_at hl 2 rfl) ?_
  refine k_get (C := RX9) (T := TX9) (N := 79) (ci := 9) (v := .int ((nI (60 * ka)))) X hE hP 0 rfl rfl iX9 44 (by decide) w_498 rfl dX9_keep_286 ?_
  refine lv_bipush (v := 20) hx hb dX9_keep_289 (by decide) ?_
  refine lv_iadd hx hb dX9_keep_291 ?_
  refine tk (y := nI ((60 * ka) + 20)) (nI_add _ 20) ?_
  refine lv_iload_n hx hb dX9_keep_292 rfl (lv_at hl 0 rfl) ?_
  refine lv_iadd hx hb dX9_keep_293 ?_
  refine tk (y := nI (((60 * ka) + 20) + 3)) (nI_add _ 3) ?_
  refine lv_aload_n hx hb dX9_keep_294 rfl (lv_at hl 2 rfl) ?_
  refine k_get (C := RX9) (T := TX9) (N := 79) (ci := 9) (v := .ref mkeys) X hE hP 0 rfl rfl iX9 26 (by decide) w_355 rfl dX9_keep_295 ?_
  refine lv_iload_n hx hb dX9_keep_298 rfl (lv_at hl 0 rfl) ?_
  refine k_ald (v := 0) X hE hP 1 rfl 3 rfl (by decide) (by decide) (zkeys 3 (by decide)) dX9_keep_299 ?_
  refine k_ast X hE hP hD hS 3 rfl (((60 * ka) + 20) + 3) rfl (by omega) (by decide) [(h0, .inr (9, [.ref mwords, .ref mstore, .int 0, .int 0, .int 0, .int 255, .int ((nI pp)), .int 0, .int 0, .int 1, .int zz, .int 0, .int cy, .int 0, .int 0, .int 0, .int 0, .int 0, .int 0, .int 0, .int 0, .int 0, .int 0, .int 0, .int 1, .int 0, .ref mkeys, .ref mrests, .int 0, .int 0, .int 0, .int 0, .int 0, .ref mring, .ref mstrip, .ref mpins, .ref mstops, .int 0, .int 0, .int es, .ref mdone, .ref mkept, .int ((nI ka)), .int ((nI km)), .int ((nI (60 * ka))), .int 0, .ref mtape, .int 0, .int (-1), .int (-1), .ref mnameValue, .ref mnamePlace, .ref mnameEquals, .int 0, .ref mout, .int 0, .int 0, .int 0, .int 0, .int 0, .int 0, .int 0, .int 0, .int 0, .int 0, .int 0, .int 0, .int 0, .int 0, .int 0, .ref mtellFrom, .ref mtellEnd, .ref mtellValue, .ref mtellEquals, .ref mlaid, .int 0, .int 0, .int 0, .int 0])), (mkeys, .inl (cA, 16, .inl gkeys)), (mrests, .inl (cA, 8, .inl gr)), (mkept, .inl (cA, 15360, .inl (upd (upd (upd (upd (upd (upd (upd (upd (upd (upd (upd (upd (upd (upd (upd (upd (upd (upd (upd (upd (upd (upd (upd (upd gk (60 * ka) 0) ((60 * ka) + 1) 0) ((60 * ka) + 2) 0) ((60 * ka) + 3) 255) ((60 * ka) + 4) (nI pp)) ((60 * ka) + 5) ((4 + (2 * zz)) + 0)) ((60 * ka) + 6) 0) ((60 * ka) + 7) cy) ((60 * ka) + 8) 0) ((60 * ka) + 9) 0) ((60 * ka) + 10) 0) ((60 * ka) + 11) 0) ((60 * ka) + 12) 0) ((60 * ka) + 13) 0) ((60 * ka) + 14) 0) ((60 * ka) + 15) 0) ((60 * ka) + 16) 0) ((60 * ka) + 17) 0) ((60 * ka) + 18) 1) ((60 * ka) + 19) 0) (((60 * ka) + 20) + 0) 0) (((60 * ka) + 20) + 1) 0) (((60 * ka) + 20) + 2) 0) (((60 * ka) + 20) + 3) 0)))] rfl dX9_keep_300 (fun H locs hP hD hS => ?_)
  refine lv_iinc (v := 4) (lv' := [(2, .int 4), (1, .ref mkept), (0, .ref h0)]) hx hb dX9_keep_301 hl (k := 0) rfl (by decide) (by decide) rfl (fun ls hl => ?_)
  refine lv_goto (tgt := 278) hx hb dX9_keep_304 (by decide) ?_
  refine lv_iload_n hx hb dX9_keep_278 rfl (lv_at hl 0 rfl) ?_
  refine lv_bipush (v := 16) hx hb dX9_keep_279 (by decide) ?_
  refine lv_icmp_ge (tgt := 307) hx hb dX9_keep_281 (by decide) (fun c_281_4 => absurd c_281_4 (by decide)) (fun c_281_4 => ?_)
  refine lv_aload_n hx hb dX9_keep_284 rfl (lv_at hl 1 rfl) ?_
  refine lv_aload_n hx hb dX9_keep_285 rfl (lv_at hl 2 rfl) ?_
  refine k_get (C := RX9) (T := TX9) (N := 79) (ci := 9) (v := .int ((nI (60 * ka)))) X hE hP 0 rfl rfl iX9 44 (by decide) w_498 rfl dX9_keep_286 ?_
  refine lv_bipush (v := 20) hx hb dX9_keep_289 (by decide) ?_
  refine lv_iadd hx hb dX9_keep_291 ?_
  refine tk (y := nI ((60 * ka) + 20)) (nI_add _ 20) ?_
  refine lv_iload_n hx hb dX9_keep_292 rfl (lv_at hl 0 rfl) ?_
  refine lv_iadd hx hb dX9_keep_293 ?_
  refine tk (y := nI (((60 * ka) + 20) + 4)) (nI_add _ 4) ?_
  refine lv_aload_n hx hb dX9_keep_294 rfl (lv_at hl 2 rfl) ?_
  refine k_get (C := RX9) (T := TX9) (N := 79) (ci := 9) (v := .ref mkeys) X hE hP 0 rfl rfl iX9 26 (by decide) w_355 rfl dX9_keep_295 ?_
  refine lv_iload_n hx hb dX9_keep_298 rfl (lv_at hl 0 rfl) ?_
  refine k_ald (v := 0) X hE hP 1 rfl 4 rfl (by decide) (by decide) (zkeys 4 (by decide)) dX9_keep_299 ?_
  refine k_ast X hE hP hD hS 3 rfl (((60 * ka) + 20) + 4) rfl (by omega) (by decide) [(h0, .inr (9, [.ref mwords, .ref mstore, .int 0, .int 0, .int 0, .int 255, .int ((nI pp)), .int 0, .int 0, .int 1, .int zz, .int 0, .int cy, .int 0, .int 0, .int 0, .int 0, .int 0, .int 0, .int 0, .int 0, .int 0, .int 0, .int 0, .int 1, .int 0, .ref mkeys, .ref mrests, .int 0, .int 0, .int 0, .int 0, .int 0, .ref mring, .ref mstrip, .ref mpins, .ref mstops, .int 0, .int 0, .int es, .ref mdone, .ref mkept, .int ((nI ka)), .int ((nI km)), .int ((nI (60 * ka))), .int 0, .ref mtape, .int 0, .int (-1), .int (-1), .ref mnameValue, .ref mnamePlace, .ref mnameEquals, .int 0, .ref mout, .int 0, .int 0, .int 0, .int 0, .int 0, .int 0, .int 0, .int 0, .int 0, .int 0, .int 0, .int 0, .int 0, .int 0, .int 0, .ref mtellFrom, .ref mtellEnd, .ref mtellValue, .ref mtellEquals, .ref mlaid, .int 0, .int 0, .int 0, .int 0])), (mkeys, .inl (cA, 16, .inl gkeys)), (mrests, .inl (cA, 8, .inl gr)), (mkept, .inl (cA, 15360, .inl (upd (upd (upd (upd (upd (upd (upd (upd (upd (upd (upd (upd (upd (upd (upd (upd (upd (upd (upd (upd (upd (upd (upd (upd (upd gk (60 * ka) 0) ((60 * ka) + 1) 0) ((60 * ka) + 2) 0) ((60 * ka) + 3) 255) ((60 * ka) + 4) (nI pp)) ((60 * ka) + 5) ((4 + (2 * zz)) + 0)) ((60 * ka) + 6) 0) ((60 * ka) + 7) cy) ((60 * ka) + 8) 0) ((60 * ka) + 9) 0) ((60 * ka) + 10) 0) ((60 * ka) + 11) 0) ((60 * ka) + 12) 0) ((60 * ka) + 13) 0) ((60 * ka) + 14) 0) ((60 * ka) + 15) 0) ((60 * ka) + 16) 0) ((60 * ka) + 17) 0) ((60 * ka) + 18) 1) ((60 * ka) + 19) 0) (((60 * ka) + 20) + 0) 0) (((60 * ka) + 20) + 1) 0) (((60 * ka) + 20) + 2) 0) (((60 * ka) + 20) + 3) 0) (((60 * ka) + 20) + 4) 0)))] rfl dX9_keep_300 (fun H locs hP hD hS => ?_)
  refine lv_iinc (v := 5) (lv' := [(2, .int 5), (1, .ref mkept), (0, .ref h0)]) hx hb dX9_keep_301 hl (k := 0) rfl (by decide) (by decide) rfl (fun ls hl => ?_)
  refine lv_goto (tgt := 278) hx hb dX9_keep_304 (by decide) ?_
  refine lv_iload_n hx hb dX9_keep_278 rfl (lv_at hl 0 rfl) ?_
  refine lv_bipush (v := 16) hx hb dX9_keep_279 (by decide) ?_
  refine lv_icmp_ge (tgt := 307) hx hb dX9_keep_281 (by decide) (fun c_281_5 => absurd c_281_5 (by decide)) (fun c_281_5 => ?_)
  refine lv_aload_n hx hb dX9_keep_284 rfl (lv_at hl 1 rfl) ?_
  refine lv_aload_n hx hb dX9_keep_285 rfl (lv_at hl 2 rfl) ?_
  refine k_get (C := RX9) (T := TX9) (N := 79) (ci := 9) (v := .int ((nI (60 * ka)))) X hE hP 0 rfl rfl iX9 44 (by decide) w_498 rfl dX9_keep_286 ?_
  refine lv_bipush (v := 20) hx hb dX9_keep_289 (by decide) ?_
  refine lv_iadd hx hb dX9_keep_291 ?_
  refine tk (y := nI ((60 * ka) + 20)) (nI_add _ 20) ?_
  refine lv_iload_n hx hb dX9_keep_292 rfl (lv_at hl 0 rfl) ?_
  refine lv_iadd hx hb dX9_keep_293 ?_
  refine tk (y := nI (((60 * ka) + 20) + 5)) (nI_add _ 5) ?_
  refine lv_aload_n hx hb dX9_keep_294 rfl (lv_at hl 2 rfl) ?_
  refine k_get (C := RX9) (T := TX9) (N := 79) (ci := 9) (v := .ref mkeys) X hE hP 0 rfl rfl iX9 26 (by decide) w_355 rfl dX9_keep_295 ?_
  refine lv_iload_n hx hb dX9_keep_298 rfl (lv_at hl 0 rfl) ?_
  refine k_ald (v := 0) X hE hP 1 rfl 5 rfl (by decide) (by decide) (zkeys 5 (by decide)) dX9_keep_299 ?_
  refine k_ast X hE hP hD hS 3 rfl (((60 * ka) + 20) + 5) rfl (by omega) (by decide) [(h0, .inr (9, [.ref mwords, .ref mstore, .int 0, .int 0, .int 0, .int 255, .int ((nI pp)), .int 0, .int 0, .int 1, .int zz, .int 0, .int cy, .int 0, .int 0, .int 0, .int 0, .int 0, .int 0, .int 0, .int 0, .int 0, .int 0, .int 0, .int 1, .int 0, .ref mkeys, .ref mrests, .int 0, .int 0, .int 0, .int 0, .int 0, .ref mring, .ref mstrip, .ref mpins, .ref mstops, .int 0, .int 0, .int es, .ref mdone, .ref mkept, .int ((nI ka)), .int ((nI km)), .int ((nI (60 * ka))), .int 0, .ref mtape, .int 0, .int (-1), .int (-1), .ref mnameValue, .ref mnamePlace, .ref mnameEquals, .int 0, .ref mout, .int 0, .int 0, .int 0, .int 0, .int 0, .int 0, .int 0, .int 0, .int 0, .int 0, .int 0, .int 0, .int 0, .int 0, .int 0, .ref mtellFrom, .ref mtellEnd, .ref mtellValue, .ref mtellEquals, .ref mlaid, .int 0, .int 0, .int 0, .int 0])), (mkeys, .inl (cA, 16, .inl gkeys)), (mrests, .inl (cA, 8, .inl gr)), (mkept, .inl (cA, 15360, .inl (upd (upd (upd (upd (upd (upd (upd (upd (upd (upd (upd (upd (upd (upd (upd (upd (upd (upd (upd (upd (upd (upd (upd (upd (upd (upd gk (60 * ka) 0) ((60 * ka) + 1) 0) ((60 * ka) + 2) 0) ((60 * ka) + 3) 255) ((60 * ka) + 4) (nI pp)) ((60 * ka) + 5) ((4 + (2 * zz)) + 0)) ((60 * ka) + 6) 0) ((60 * ka) + 7) cy) ((60 * ka) + 8) 0) ((60 * ka) + 9) 0) ((60 * ka) + 10) 0) ((60 * ka) + 11) 0) ((60 * ka) + 12) 0) ((60 * ka) + 13) 0) ((60 * ka) + 14) 0) ((60 * ka) + 15) 0) ((60 * ka) + 16) 0) ((60 * ka) + 17) 0) ((60 * ka) + 18) 1) ((60 * ka) + 19) 0) (((60 * ka) + 20) + 0) 0) (((60 * ka) + 20) + 1) 0) (((60 * ka) + 20) + 2) 0) (((60 * ka) + 20) + 3) 0) (((60 * ka) + 20) + 4) 0) (((60 * ka) + 20) + 5) 0)))] rfl dX9_keep_300 (fun H locs hP hD hS => ?_)
  refine lv_iinc (v := 6) (lv' := [(2, .int 6), (1, .ref mkept), (0, .ref h0)]) hx hb dX9_keep_301 hl (k := 0) rfl (by decide) (by decide) rfl (fun ls hl => ?_)
  refine lv_goto (tgt := 278) hx hb dX9_keep_304 (by decide) ?_
  refine lv_iload_n hx hb dX9_keep_278 rfl (lv_at hl 0 rfl) ?_
  refine lv_bipush (v := 16) hx hb dX9_keep_279 (by decide) ?_
  refine lv_icmp_ge (tgt := 307) hx hb dX9_keep_281 (by decide) (fun c_281_6 => absurd c_281_6 (by decide)) (fun c_281_6 => ?_)
  refine lv_aload_n hx hb dX9_keep_284 rfl (lv_at hl 1 rfl) ?_
  refine lv_aload_n hx hb dX9_keep_285 rfl (lv_at hl 2 rfl) ?_
  refine k_get (C := RX9) (T := TX9) (N := 79) (ci := 9) (v := .int ((nI (60 * ka)))) X hE hP 0 rfl rfl iX9 44 (by decide) w_498 rfl dX9_keep_286 ?_
  refine lv_bipush (v := 20) hx hb dX9_keep_289 (by decide) ?_
  refine lv_iadd hx hb dX9_keep_291 ?_
  refine tk (y := nI ((60 * ka) + 20)) (nI_add _ 20) ?_
  refine lv_iload_n hx hb dX9_keep_292 rfl (lv_at hl 0 rfl) ?_
  refine lv_iadd hx hb dX9_keep_293 ?_
  refine tk (y := nI (((60 * ka) + 20) + 6)) (nI_add _ 6) ?_
  refine lv_aload_n hx hb dX9_keep_294 rfl (lv_at hl 2 rfl) ?_
  refine k_get (C := RX9) (T := TX9) (N := 79) (ci := 9) (v := .ref mkeys) X hE hP 0 rfl rfl iX9 26 (by decide) w_355 rfl dX9_keep_295 ?_
  refine lv_iload_n hx hb dX9_keep_298 rfl (lv_at hl 0 rfl) ?_
  refine k_ald (v := 0) X hE hP 1 rfl 6 rfl (by decide) (by decide) (zkeys 6 (by decide)) dX9_keep_299 ?_
  refine k_ast X hE hP hD hS 3 rfl (((60 * ka) + 20) + 6) rfl (by omega) (by decide) [(h0, .inr (9, [.ref mwords, .ref mstore, .int 0, .int 0, .int 0, .int 255, .int ((nI pp)), .int 0, .int 0, .int 1, .int zz, .int 0, .int cy, .int 0, .int 0, .int 0, .int 0, .int 0, .int 0, .int 0, .int 0, .int 0, .int 0, .int 0, .int 1, .int 0, .ref mkeys, .ref mrests, .int 0, .int 0, .int 0, .int 0, .int 0, .ref mring, .ref mstrip, .ref mpins, .ref mstops, .int 0, .int 0, .int es, .ref mdone, .ref mkept, .int ((nI ka)), .int ((nI km)), .int ((nI (60 * ka))), .int 0, .ref mtape, .int 0, .int (-1), .int (-1), .ref mnameValue, .ref mnamePlace, .ref mnameEquals, .int 0, .ref mout, .int 0, .int 0, .int 0, .int 0, .int 0, .int 0, .int 0, .int 0, .int 0, .int 0, .int 0, .int 0, .int 0, .int 0, .int 0, .ref mtellFrom, .ref mtellEnd, .ref mtellValue, .ref mtellEquals, .ref mlaid, .int 0, .int 0, .int 0, .int 0])), (mkeys, .inl (cA, 16, .inl gkeys)), (mrests, .inl (cA, 8, .inl gr)), (mkept, .inl (cA, 15360, .inl (upd (upd (upd (upd (upd (upd (upd (upd (upd (upd (upd (upd (upd (upd (upd (upd (upd (upd (upd (upd (upd (upd (upd (upd (upd (upd (upd gk (60 * ka) 0) ((60 * ka) + 1) 0) ((60 * ka) + 2) 0) ((60 * ka) + 3) 255) ((60 * ka) + 4) (nI pp)) ((60 * ka) + 5) ((4 + (2 * zz)) + 0)) ((60 * ka) + 6) 0) ((60 * ka) + 7) cy) ((60 * ka) + 8) 0) ((60 * ka) + 9) 0) ((60 * ka) + 10) 0) ((60 * ka) + 11) 0) ((60 * ka) + 12) 0) ((60 * ka) + 13) 0) ((60 * ka) + 14) 0) ((60 * ka) + 15) 0) ((60 * ka) + 16) 0) ((60 * ka) + 17) 0) ((60 * ka) + 18) 1) ((60 * ka) + 19) 0) (((60 * ka) + 20) + 0) 0) (((60 * ka) + 20) + 1) 0) (((60 * ka) + 20) + 2) 0) (((60 * ka) + 20) + 3) 0) (((60 * ka) + 20) + 4) 0) (((60 * ka) + 20) + 5) 0) (((60 * ka) + 20) + 6) 0)))] rfl dX9_keep_300 (fun H locs hP hD hS => ?_)
  refine lv_iinc (v := 7) (lv' := [(2, .int 7), (1, .ref mkept), (0, .ref h0)]) hx hb dX9_keep_301 hl (k := 0) rfl (by decide) (by decide) rfl (fun ls hl => ?_)
  refine lv_goto (tgt := 278) hx hb dX9_keep_304 (by decide) ?_
  refine lv_iload_n hx hb dX9_keep_278 rfl (lv_at hl 0 rfl) ?_
  refine lv_bipush (v := 16) hx hb dX9_keep_279 (by decide) ?_
  refine lv_icmp_ge (tgt := 307) hx hb dX9_keep_281 (by decide) (fun c_281_7 => absurd c_281_7 (by decide)) (fun c_281_7 => ?_)
  refine lv_aload_n hx hb dX9_keep_284 rfl (lv_at hl 1 rfl) ?_
  refine lv_aload_n hx hb dX9_keep_285 rfl (lv_at hl 2 rfl) ?_
  refine k_get (C := RX9) (T := TX9) (N := 79) (ci := 9) (v := .int ((nI (60 * ka)))) X hE hP 0 rfl rfl iX9 44 (by decide) w_498 rfl dX9_keep_286 ?_
  refine lv_bipush (v := 20) hx hb dX9_keep_289 (by decide) ?_
  refine lv_iadd hx hb dX9_keep_291 ?_
  refine tk (y := nI ((60 * ka) + 20)) (nI_add _ 20) ?_
  refine lv_iload_n hx hb dX9_keep_292 rfl (lv_at hl 0 rfl) ?_
  refine lv_iadd hx hb dX9_keep_293 ?_
  refine tk (y := nI (((60 * ka) + 20) + 7)) (nI_add _ 7) ?_
  refine lv_aload_n hx hb dX9_keep_294 rfl (lv_at hl 2 rfl) ?_
  refine k_get (C := RX9) (T := TX9) (N := 79) (ci := 9) (v := .ref mkeys) X hE hP 0 rfl rfl iX9 26 (by decide) w_355 rfl dX9_keep_295 ?_
  refine lv_iload_n hx hb dX9_keep_298 rfl (lv_at hl 0 rfl) ?_
  refine k_ald (v := 0) X hE hP 1 rfl 7 rfl (by decide) (by decide) (zkeys 7 (by decide)) dX9_keep_299 ?_
  refine k_ast X hE hP hD hS 3 rfl (((60 * ka) + 20) + 7) rfl (by omega) (by decide) [(h0, .inr (9, [.ref mwords, .ref mstore, .int 0, .int 0, .int 0, .int 255, .int ((nI pp)), .int 0, .int 0, .int 1, .int zz, .int 0, .int cy, .int 0, .int 0, .int 0, .int 0, .int 0, .int 0, .int 0, .int 0, .int 0, .int 0, .int 0, .int 1, .int 0, .ref mkeys, .ref mrests, .int 0, .int 0, .int 0, .int 0, .int 0, .ref mring, .ref mstrip, .ref mpins, .ref mstops, .int 0, .int 0, .int es, .ref mdone, .ref mkept, .int ((nI ka)), .int ((nI km)), .int ((nI (60 * ka))), .int 0, .ref mtape, .int 0, .int (-1), .int (-1), .ref mnameValue, .ref mnamePlace, .ref mnameEquals, .int 0, .ref mout, .int 0, .int 0, .int 0, .int 0, .int 0, .int 0, .int 0, .int 0, .int 0, .int 0, .int 0, .int 0, .int 0, .int 0, .int 0, .ref mtellFrom, .ref mtellEnd, .ref mtellValue, .ref mtellEquals, .ref mlaid, .int 0, .int 0, .int 0, .int 0])), (mkeys, .inl (cA, 16, .inl gkeys)), (mrests, .inl (cA, 8, .inl gr)), (mkept, .inl (cA, 15360, .inl (upd (upd (upd (upd (upd (upd (upd (upd (upd (upd (upd (upd (upd (upd (upd (upd (upd (upd (upd (upd (upd (upd (upd (upd (upd (upd (upd (upd gk (60 * ka) 0) ((60 * ka) + 1) 0) ((60 * ka) + 2) 0) ((60 * ka) + 3) 255) ((60 * ka) + 4) (nI pp)) ((60 * ka) + 5) ((4 + (2 * zz)) + 0)) ((60 * ka) + 6) 0) ((60 * ka) + 7) cy) ((60 * ka) + 8) 0) ((60 * ka) + 9) 0) ((60 * ka) + 10) 0) ((60 * ka) + 11) 0) ((60 * ka) + 12) 0) ((60 * ka) + 13) 0) ((60 * ka) + 14) 0) ((60 * ka) + 15) 0) ((60 * ka) + 16) 0) ((60 * ka) + 17) 0) ((60 * ka) + 18) 1) ((60 * ka) + 19) 0) (((60 * ka) + 20) + 0) 0) (((60 * ka) + 20) + 1) 0) (((60 * ka) + 20) + 2) 0) (((60 * ka) + 20) + 3) 0) (((60 * ka) + 20) + 4) 0) (((60 * ka) + 20) + 5) 0) (((60 * ka) + 20) + 6) 0) (((60 * ka) + 20) + 7) 0)))] rfl dX9_keep_300 (fun H locs hP hD hS => ?_)
  refine lv_iinc (v := 8) (lv' := [(2, .int 8), (1, .ref mkept), (0, .ref h0)]) hx hb dX9_keep_301 hl (k := 0) rfl (by decide) (by decide) rfl (fun ls hl => ?_)
  refine lv_goto (tgt := 278) hx hb dX9_keep_304 (by decide) ?_
  refine lv_iload_n hx hb dX9_keep_278 rfl (lv_at hl 0 rfl) ?_
  refine lv_bipush (v := 16) hx hb dX9_keep_279 (by decide) ?_
  refine lv_icmp_ge (tgt := 307) hx hb dX9_keep_281 (by decide) (fun c_281_8 => absurd c_281_8 (by decide)) (fun c_281_8 => ?_)
  refine lv_aload_n hx hb dX9_keep_284 rfl (lv_at hl 1 rfl) ?_
  refine lv_aload_n hx hb dX9_keep_285 rfl (lv_at hl 2 rfl) ?_
  refine k_get (C := RX9) (T := TX9) (N := 79) (ci := 9) (v := .int ((nI (60 * ka)))) X hE hP 0 rfl rfl iX9 44 (by decide) w_498 rfl dX9_keep_286 ?_
  refine lv_bipush (v := 20) hx hb dX9_keep_289 (by decide) ?_
  refine lv_iadd hx hb dX9_keep_291 ?_
  refine tk (y := nI ((60 * ka) + 20)) (nI_add _ 20) ?_
  refine lv_iload_n hx hb dX9_keep_292 rfl (lv_at hl 0 rfl) ?_
  refine lv_iadd hx hb dX9_keep_293 ?_
  refine tk (y := nI (((60 * ka) + 20) + 8)) (nI_add _ 8) ?_
  refine lv_aload_n hx hb dX9_keep_294 rfl (lv_at hl 2 rfl) ?_
  refine k_get (C := RX9) (T := TX9) (N := 79) (ci := 9) (v := .ref mkeys) X hE hP 0 rfl rfl iX9 26 (by decide) w_355 rfl dX9_keep_295 ?_
  refine lv_iload_n hx hb dX9_keep_298 rfl (lv_at hl 0 rfl) ?_
  refine k_ald (v := 0) X hE hP 1 rfl 8 rfl (by decide) (by decide) (zkeys 8 (by decide)) dX9_keep_299 ?_
  refine k_ast X hE hP hD hS 3 rfl (((60 * ka) + 20) + 8) rfl (by omega) (by decide) [(h0, .inr (9, [.ref mwords, .ref mstore, .int 0, .int 0, .int 0, .int 255, .int ((nI pp)), .int 0, .int 0, .int 1, .int zz, .int 0, .int cy, .int 0, .int 0, .int 0, .int 0, .int 0, .int 0, .int 0, .int 0, .int 0, .int 0, .int 0, .int 1, .int 0, .ref mkeys, .ref mrests, .int 0, .int 0, .int 0, .int 0, .int 0, .ref mring, .ref mstrip, .ref mpins, .ref mstops, .int 0, .int 0, .int es, .ref mdone, .ref mkept, .int ((nI ka)), .int ((nI km)), .int ((nI (60 * ka))), .int 0, .ref mtape, .int 0, .int (-1), .int (-1), .ref mnameValue, .ref mnamePlace, .ref mnameEquals, .int 0, .ref mout, .int 0, .int 0, .int 0, .int 0, .int 0, .int 0, .int 0, .int 0, .int 0, .int 0, .int 0, .int 0, .int 0, .int 0, .int 0, .ref mtellFrom, .ref mtellEnd, .ref mtellValue, .ref mtellEquals, .ref mlaid, .int 0, .int 0, .int 0, .int 0])), (mkeys, .inl (cA, 16, .inl gkeys)), (mrests, .inl (cA, 8, .inl gr)), (mkept, .inl (cA, 15360, .inl (upd (upd (upd (upd (upd (upd (upd (upd (upd (upd (upd (upd (upd (upd (upd (upd (upd (upd (upd (upd (upd (upd (upd (upd (upd (upd (upd (upd (upd gk (60 * ka) 0) ((60 * ka) + 1) 0) ((60 * ka) + 2) 0) ((60 * ka) + 3) 255) ((60 * ka) + 4) (nI pp)) ((60 * ka) + 5) ((4 + (2 * zz)) + 0)) ((60 * ka) + 6) 0) ((60 * ka) + 7) cy) ((60 * ka) + 8) 0) ((60 * ka) + 9) 0) ((60 * ka) + 10) 0) ((60 * ka) + 11) 0) ((60 * ka) + 12) 0) ((60 * ka) + 13) 0) ((60 * ka) + 14) 0) ((60 * ka) + 15) 0) ((60 * ka) + 16) 0) ((60 * ka) + 17) 0) ((60 * ka) + 18) 1) ((60 * ka) + 19) 0) (((60 * ka) + 20) + 0) 0) (((60 * ka) + 20) + 1) 0) (((60 * ka) + 20) + 2) 0) (((60 * ka) + 20) + 3) 0) (((60 * ka) + 20) + 4) 0) (((60 * ka) + 20) + 5) 0) (((60 * ka) + 20) + 6) 0) (((60 * ka) + 20) + 7) 0) (((60 * ka) + 20) + 8) 0)))] rfl dX9_keep_300 (fun H locs hP hD hS => ?_)
  refine lv_iinc (v := 9) (lv' := [(2, .int 9), (1, .ref mkept), (0, .ref h0)]) hx hb dX9_keep_301 hl (k := 0) rfl (by decide) (by decide) rfl (fun ls hl => ?_)
  refine lv_goto (tgt := 278) hx hb dX9_keep_304 (by decide) ?_
  refine lv_iload_n hx hb dX9_keep_278 rfl (lv_at hl 0 rfl) ?_
  refine lv_bipush (v := 16) hx hb dX9_keep_279 (by decide) ?_
  refine lv_icmp_ge (tgt := 307) hx hb dX9_keep_281 (by decide) (fun c_281_9 => absurd c_281_9 (by decide)) (fun c_281_9 => ?_)
  refine lv_aload_n hx hb dX9_keep_284 rfl (lv_at hl 1 rfl) ?_
  refine lv_aload_n hx hb dX9_keep_285 rfl (lv_at hl 2 rfl) ?_
  refine k_get (C := RX9) (T := TX9) (N := 79) (ci := 9) (v := .int ((nI (60 * ka)))) X hE hP 0 rfl rfl iX9 44 (by decide) w_498 rfl dX9_keep_286 ?_
  refine lv_bipush (v := 20) hx hb dX9_keep_289 (by decide) ?_
  refine lv_iadd hx hb dX9_keep_291 ?_
  refine tk (y := nI ((60 * ka) + 20)) (nI_add _ 20) ?_
  refine lv_iload_n hx hb dX9_keep_292 rfl (lv_at hl 0 rfl) ?_
  refine lv_iadd hx hb dX9_keep_293 ?_
  refine tk (y := nI (((60 * ka) + 20) + 9)) (nI_add _ 9) ?_
  refine lv_aload_n hx hb dX9_keep_294 rfl (lv_at hl 2 rfl) ?_
  refine k_get (C := RX9) (T := TX9) (N := 79) (ci := 9) (v := .ref mkeys) X hE hP 0 rfl rfl iX9 26 (by decide) w_355 rfl dX9_keep_295 ?_
  refine lv_iload_n hx hb dX9_keep_298 rfl (lv_at hl 0 rfl) ?_
  refine k_ald (v := 0) X hE hP 1 rfl 9 rfl (by decide) (by decide) (zkeys 9 (by decide)) dX9_keep_299 ?_
  refine k_ast X hE hP hD hS 3 rfl (((60 * ka) + 20) + 9) rfl (by omega) (by decide) [(h0, .inr (9, [.ref mwords, .ref mstore, .int 0, .int 0, .int 0, .int 255, .int ((nI pp)), .int 0, .int 0, .int 1, .int zz, .int 0, .int cy, .int 0, .int 0, .int 0, .int 0, .int 0, .int 0, .int 0, .int 0, .int 0, .int 0, .int 0, .int 1, .int 0, .ref mkeys, .ref mrests, .int 0, .int 0, .int 0, .int 0, .int 0, .ref mring, .ref mstrip, .ref mpins, .ref mstops, .int 0, .int 0, .int es, .ref mdone, .ref mkept, .int ((nI ka)), .int ((nI km)), .int ((nI (60 * ka))), .int 0, .ref mtape, .int 0, .int (-1), .int (-1), .ref mnameValue, .ref mnamePlace, .ref mnameEquals, .int 0, .ref mout, .int 0, .int 0, .int 0, .int 0, .int 0, .int 0, .int 0, .int 0, .int 0, .int 0, .int 0, .int 0, .int 0, .int 0, .int 0, .ref mtellFrom, .ref mtellEnd, .ref mtellValue, .ref mtellEquals, .ref mlaid, .int 0, .int 0, .int 0, .int 0])), (mkeys, .inl (cA, 16, .inl gkeys)), (mrests, .inl (cA, 8, .inl gr)), (mkept, .inl (cA, 15360, .inl (upd (upd (upd (upd (upd (upd (upd (upd (upd (upd (upd (upd (upd (upd (upd (upd (upd (upd (upd (upd (upd (upd (upd (upd (upd (upd (upd (upd (upd (upd gk (60 * ka) 0) ((60 * ka) + 1) 0) ((60 * ka) + 2) 0) ((60 * ka) + 3) 255) ((60 * ka) + 4) (nI pp)) ((60 * ka) + 5) ((4 + (2 * zz)) + 0)) ((60 * ka) + 6) 0) ((60 * ka) + 7) cy) ((60 * ka) + 8) 0) ((60 * ka) + 9) 0) ((60 * ka) + 10) 0) ((60 * ka) + 11) 0) ((60 * ka) + 12) 0) ((60 * ka) + 13) 0) ((60 * ka) + 14) 0) ((60 * ka) + 15) 0) ((60 * ka) + 16) 0) ((60 * ka) + 17) 0) ((60 * ka) + 18) 1) ((60 * ka) + 19) 0) (((60 * ka) + 20) + 0) 0) (((60 * ka) + 20) + 1) 0) (((60 * ka) + 20) + 2) 0) (((60 * ka) + 20) + 3) 0) (((60 * ka) + 20) + 4) 0) (((60 * ka) + 20) + 5) 0) (((60 * ka) + 20) + 6) 0) (((60 * ka) + 20) + 7) 0) (((60 * ka) + 20) + 8) 0) (((60 * ka) + 20) + 9) 0)))] rfl dX9_keep_300 (fun H locs hP hD hS => ?_)
  refine lv_iinc (v := 10) (lv' := [(2, .int 10), (1, .ref mkept), (0, .ref h0)]) hx hb dX9_keep_301 hl (k := 0) rfl (by decide) (by decide) rfl (fun ls hl => ?_)
  refine lv_goto (tgt := 278) hx hb dX9_keep_304 (by decide) ?_
  refine lv_iload_n hx hb dX9_keep_278 rfl (lv_at hl 0 rfl) ?_
  refine lv_bipush (v := 16) hx hb dX9_keep_279 (by decide) ?_
  refine lv_icmp_ge (tgt := 307) hx hb dX9_keep_281 (by decide) (fun c_281_10 => absurd c_281_10 (by decide)) (fun c_281_10 => ?_)
  refine lv_aload_n hx hb dX9_keep_284 rfl (lv_at hl 1 rfl) ?_
  refine lv_aload_n hx hb dX9_keep_285 rfl (lv_at hl 2 rfl) ?_
  refine k_get (C := RX9) (T := TX9) (N := 79) (ci := 9) (v := .int ((nI (60 * ka)))) X hE hP 0 rfl rfl iX9 44 (by decide) w_498 rfl dX9_keep_286 ?_
  refine lv_bipush (v := 20) hx hb dX9_keep_289 (by decide) ?_
  refine lv_iadd hx hb dX9_keep_291 ?_
  refine tk (y := nI ((60 * ka) + 20)) (nI_add _ 20) ?_
  refine lv_iload_n hx hb dX9_keep_292 rfl (lv_at hl 0 rfl) ?_
  refine lv_iadd hx hb dX9_keep_293 ?_
  refine tk (y := nI (((60 * ka) + 20) + 10)) (nI_add _ 10) ?_
  refine lv_aload_n hx hb dX9_keep_294 rfl (lv_at hl 2 rfl) ?_
  refine k_get (C := RX9) (T := TX9) (N := 79) (ci := 9) (v := .ref mkeys) X hE hP 0 rfl rfl iX9 26 (by decide) w_355 rfl dX9_keep_295 ?_
  refine lv_iload_n hx hb dX9_keep_298 rfl (lv_at hl 0 rfl) ?_
  refine k_ald (v := 0) X hE hP 1 rfl 10 rfl (by decide) (by decide) (zkeys 10 (by decide)) dX9_keep_299 ?_
  refine k_ast X hE hP hD hS 3 rfl (((60 * ka) + 20) + 10) rfl (by omega) (by decide) [(h0, .inr (9, [.ref mwords, .ref mstore, .int 0, .int 0, .int 0, .int 255, .int ((nI pp)), .int 0, .int 0, .int 1, .int zz, .int 0, .int cy, .int 0, .int 0, .int 0, .int 0, .int 0, .int 0, .int 0, .int 0, .int 0, .int 0, .int 0, .int 1, .int 0, .ref mkeys, .ref mrests, .int 0, .int 0, .int 0, .int 0, .int 0, .ref mring, .ref mstrip, .ref mpins, .ref mstops, .int 0, .int 0, .int es, .ref mdone, .ref mkept, .int ((nI ka)), .int ((nI km)), .int ((nI (60 * ka))), .int 0, .ref mtape, .int 0, .int (-1), .int (-1), .ref mnameValue, .ref mnamePlace, .ref mnameEquals, .int 0, .ref mout, .int 0, .int 0, .int 0, .int 0, .int 0, .int 0, .int 0, .int 0, .int 0, .int 0, .int 0, .int 0, .int 0, .int 0, .int 0, .ref mtellFrom, .ref mtellEnd, .ref mtellValue, .ref mtellEquals, .ref mlaid, .int 0, .int 0, .int 0, .int 0])), (mkeys, .inl (cA, 16, .inl gkeys)), (mrests, .inl (cA, 8, .inl gr)), (mkept, .inl (cA, 15360, .inl (upd (upd (upd (upd (upd (upd (upd (upd (upd (upd (upd (upd (upd (upd (upd (upd (upd (upd (upd (upd (upd (upd (upd (upd (upd (upd (upd (upd (upd (upd (upd gk (60 * ka) 0) ((60 * ka) + 1) 0) ((60 * ka) + 2) 0) ((60 * ka) + 3) 255) ((60 * ka) + 4) (nI pp)) ((60 * ka) + 5) ((4 + (2 * zz)) + 0)) ((60 * ka) + 6) 0) ((60 * ka) + 7) cy) ((60 * ka) + 8) 0) ((60 * ka) + 9) 0) ((60 * ka) + 10) 0) ((60 * ka) + 11) 0) ((60 * ka) + 12) 0) ((60 * ka) + 13) 0) ((60 * ka) + 14) 0) ((60 * ka) + 15) 0) ((60 * ka) + 16) 0) ((60 * ka) + 17) 0) ((60 * ka) + 18) 1) ((60 * ka) + 19) 0) (((60 * ka) + 20) + 0) 0) (((60 * ka) + 20) + 1) 0) (((60 * ka) + 20) + 2) 0) (((60 * ka) + 20) + 3) 0) (((60 * ka) + 20) + 4) 0) (((60 * ka) + 20) + 5) 0) (((60 * ka) + 20) + 6) 0) (((60 * ka) + 20) + 7) 0) (((60 * ka) + 20) + 8) 0) (((60 * ka) + 20) + 9) 0) (((60 * ka) + 20) + 10) 0)))] rfl dX9_keep_300 (fun H locs hP hD hS => ?_)
  refine lv_iinc (v := 11) (lv' := [(2, .int 11), (1, .ref mkept), (0, .ref h0)]) hx hb dX9_keep_301 hl (k := 0) rfl (by decide) (by decide) rfl (fun ls hl => ?_)
  refine lv_goto (tgt := 278) hx hb dX9_keep_304 (by decide) ?_
  refine lv_iload_n hx hb dX9_keep_278 rfl (lv_at hl 0 rfl) ?_
  refine lv_bipush (v := 16) hx hb dX9_keep_279 (by decide) ?_
  refine lv_icmp_ge (tgt := 307) hx hb dX9_keep_281 (by decide) (fun c_281_11 => absurd c_281_11 (by decide)) (fun c_281_11 => ?_)
  refine lv_aload_n hx hb dX9_keep_284 rfl (lv_at hl 1 rfl) ?_
  refine lv_aload_n hx hb dX9_keep_285 rfl (lv_at hl 2 rfl) ?_
  refine k_get (C := RX9) (T := TX9) (N := 79) (ci := 9) (v := .int ((nI (60 * ka)))) X hE hP 0 rfl rfl iX9 44 (by decide) w_498 rfl dX9_keep_286 ?_
  refine lv_bipush (v := 20) hx hb dX9_keep_289 (by decide) ?_
  refine lv_iadd hx hb dX9_keep_291 ?_
  refine tk (y := nI ((60 * ka) + 20)) (nI_add _ 20) ?_
  refine lv_iload_n hx hb dX9_keep_292 rfl (lv_at hl 0 rfl) ?_
  refine lv_iadd hx hb dX9_keep_293 ?_
  refine tk (y := nI (((60 * ka) + 20) + 11)) (nI_add _ 11) ?_
  refine lv_aload_n hx hb dX9_keep_294 rfl (lv_at hl 2 rfl) ?_
  refine k_get (C := RX9) (T := TX9) (N := 79) (ci := 9) (v := .ref mkeys) X hE hP 0 rfl rfl iX9 26 (by decide) w_355 rfl dX9_keep_295 ?_
  refine lv_iload_n hx hb dX9_keep_298 rfl (lv_at hl 0 rfl) ?_
  refine k_ald (v := 0) X hE hP 1 rfl 11 rfl (by decide) (by decide) (zkeys 11 (by decide)) dX9_keep_299 ?_
  refine k_ast X hE hP hD hS 3 rfl (((60 * ka) + 20) + 11) rfl (by omega) (by decide) [(h0, .inr (9, [.ref mwords, .ref mstore, .int 0, .int 0, .int 0, .int 255, .int ((nI pp)), .int 0, .int 0, .int 1, .int zz, .int 0, .int cy, .int 0, .int 0, .int 0, .int 0, .int 0, .int 0, .int 0, .int 0, .int 0, .int 0, .int 0, .int 1, .int 0, .ref mkeys, .ref mrests, .int 0, .int 0, .int 0, .int 0, .int 0, .ref mring, .ref mstrip, .ref mpins, .ref mstops, .int 0, .int 0, .int es, .ref mdone, .ref mkept, .int ((nI ka)), .int ((nI km)), .int ((nI (60 * ka))), .int 0, .ref mtape, .int 0, .int (-1), .int (-1), .ref mnameValue, .ref mnamePlace, .ref mnameEquals, .int 0, .ref mout, .int 0, .int 0, .int 0, .int 0, .int 0, .int 0, .int 0, .int 0, .int 0, .int 0, .int 0, .int 0, .int 0, .int 0, .int 0, .ref mtellFrom, .ref mtellEnd, .ref mtellValue, .ref mtellEquals, .ref mlaid, .int 0, .int 0, .int 0, .int 0])), (mkeys, .inl (cA, 16, .inl gkeys)), (mrests, .inl (cA, 8, .inl gr)), (mkept, .inl (cA, 15360, .inl (upd (upd (upd (upd (upd (upd (upd (upd (upd (upd (upd (upd (upd (upd (upd (upd (upd (upd (upd (upd (upd (upd (upd (upd (upd (upd (upd (upd (upd (upd (upd (upd gk (60 * ka) 0) ((60 * ka) + 1) 0) ((60 * ka) + 2) 0) ((60 * ka) + 3) 255) ((60 * ka) + 4) (nI pp)) ((60 * ka) + 5) ((4 + (2 * zz)) + 0)) ((60 * ka) + 6) 0) ((60 * ka) + 7) cy) ((60 * ka) + 8) 0) ((60 * ka) + 9) 0) ((60 * ka) + 10) 0) ((60 * ka) + 11) 0) ((60 * ka) + 12) 0) ((60 * ka) + 13) 0) ((60 * ka) + 14) 0) ((60 * ka) + 15) 0) ((60 * ka) + 16) 0) ((60 * ka) + 17) 0) ((60 * ka) + 18) 1) ((60 * ka) + 19) 0) (((60 * ka) + 20) + 0) 0) (((60 * ka) + 20) + 1) 0) (((60 * ka) + 20) + 2) 0) (((60 * ka) + 20) + 3) 0) (((60 * ka) + 20) + 4) 0) (((60 * ka) + 20) + 5) 0) (((60 * ka) + 20) + 6) 0) (((60 * ka) + 20) + 7) 0) (((60 * ka) + 20) + 8) 0) (((60 * ka) + 20) + 9) 0) (((60 * ka) + 20) + 10) 0) (((60 * ka) + 20) + 11) 0)))] rfl dX9_keep_300 (fun H locs hP hD hS => ?_)
  refine lv_iinc (v := 12) (lv' := [(2, .int 12), (1, .ref mkept), (0, .ref h0)]) hx hb dX9_keep_301 hl (k := 0) rfl (by decide) (by decide) rfl (fun ls hl => ?_)
  refine lv_goto (tgt := 278) hx hb dX9_keep_304 (by decide) ?_
  refine lv_iload_n hx hb dX9_keep_278 rfl (lv_at hl 0 rfl) ?_
  refine lv_bipush (v := 16) hx hb dX9_keep_279 (by decide) ?_
  refine lv_icmp_ge (tgt := 307) hx hb dX9_keep_281 (by decide) (fun c_281_12 => absurd c_281_12 (by decide)) (fun c_281_12 => ?_)
  refine lv_aload_n hx hb dX9_keep_284 rfl (lv_at hl 1 rfl) ?_
  refine lv_aload_n hx hb dX9_keep_285 rfl (lv_at hl 2 rfl) ?_
  refine k_get (C := RX9) (T := TX9) (N := 79) (ci := 9) (v := .int ((nI (60 * ka)))) X hE hP 0 rfl rfl iX9 44 (by decide) w_498 rfl dX9_keep_286 ?_
  refine lv_bipush (v := 20) hx hb dX9_keep_289 (by decide) ?_
  refine lv_iadd hx hb dX9_keep_291 ?_
  refine tk (y := nI ((60 * ka) + 20)) (nI_add _ 20) ?_
  refine lv_iload_n hx hb dX9_keep_292 rfl (lv_at hl 0 rfl) ?_
  refine lv_iadd hx hb dX9_keep_293 ?_
  refine tk (y := nI (((60 * ka) + 20) + 12)) (nI_add _ 12) ?_
  refine lv_aload_n hx hb dX9_keep_294 rfl (lv_at hl 2 rfl) ?_
  refine k_get (C := RX9) (T := TX9) (N := 79) (ci := 9) (v := .ref mkeys) X hE hP 0 rfl rfl iX9 26 (by decide) w_355 rfl dX9_keep_295 ?_
  refine lv_iload_n hx hb dX9_keep_298 rfl (lv_at hl 0 rfl) ?_
  refine k_ald (v := 0) X hE hP 1 rfl 12 rfl (by decide) (by decide) (zkeys 12 (by decide)) dX9_keep_299 ?_
  refine k_ast X hE hP hD hS 3 rfl (((60 * ka) + 20) + 12) rfl (by omega) (by decide) [(h0, .inr (9, [.ref mwords, .ref mstore, .int 0, .int 0, .int 0, .int 255, .int ((nI pp)), .int 0, .int 0, .int 1, .int zz, .int 0, .int cy, .int 0, .int 0, .int 0, .int 0, .int 0, .int 0, .int 0, .int 0, .int 0, .int 0, .int 0, .int 1, .int 0, .ref mkeys, .ref mrests, .int 0, .int 0, .int 0, .int 0, .int 0, .ref mring, .ref mstrip, .ref mpins, .ref mstops, .int 0, .int 0, .int es, .ref mdone, .ref mkept, .int ((nI ka)), .int ((nI km)), .int ((nI (60 * ka))), .int 0, .ref mtape, .int 0, .int (-1), .int (-1), .ref mnameValue, .ref mnamePlace, .ref mnameEquals, .int 0, .ref mout, .int 0, .int 0, .int 0, .int 0, .int 0, .int 0, .int 0, .int 0, .int 0, .int 0, .int 0, .int 0, .int 0, .int 0, .int 0, .ref mtellFrom, .ref mtellEnd, .ref mtellValue, .ref mtellEquals, .ref mlaid, .int 0, .int 0, .int 0, .int 0])), (mkeys, .inl (cA, 16, .inl gkeys)), (mrests, .inl (cA, 8, .inl gr)), (mkept, .inl (cA, 15360, .inl (upd (upd (upd (upd (upd (upd (upd (upd (upd (upd (upd (upd (upd (upd (upd (upd (upd (upd (upd (upd (upd (upd (upd (upd (upd (upd (upd (upd (upd (upd (upd (upd (upd gk (60 * ka) 0) ((60 * ka) + 1) 0) ((60 * ka) + 2) 0) ((60 * ka) + 3) 255) ((60 * ka) + 4) (nI pp)) ((60 * ka) + 5) ((4 + (2 * zz)) + 0)) ((60 * ka) + 6) 0) ((60 * ka) + 7) cy) ((60 * ka) + 8) 0) ((60 * ka) + 9) 0) ((60 * ka) + 10) 0) ((60 * ka) + 11) 0) ((60 * ka) + 12) 0) ((60 * ka) + 13) 0) ((60 * ka) + 14) 0) ((60 * ka) + 15) 0) ((60 * ka) + 16) 0) ((60 * ka) + 17) 0) ((60 * ka) + 18) 1) ((60 * ka) + 19) 0) (((60 * ka) + 20) + 0) 0) (((60 * ka) + 20) + 1) 0) (((60 * ka) + 20) + 2) 0) (((60 * ka) + 20) + 3) 0) (((60 * ka) + 20) + 4) 0) (((60 * ka) + 20) + 5) 0) (((60 * ka) + 20) + 6) 0) (((60 * ka) + 20) + 7) 0) (((60 * ka) + 20) + 8) 0) (((60 * ka) + 20) + 9) 0) (((60 * ka) + 20) + 10) 0) (((60 * ka) + 20) + 11) 0) (((60 * ka) + 20) + 12) 0)))] rfl dX9_keep_300 (fun H locs hP hD hS => ?_)
  refine lv_iinc (v := 13) (lv' := [(2, .int 13), (1, .ref mkept), (0, .ref h0)]) hx hb dX9_keep_301 hl (k := 0) rfl (by decide) (by decide) rfl (fun ls hl => ?_)
  refine lv_goto (tgt := 278) hx hb dX9_keep_304 (by decide) ?_
  refine lv_iload_n hx hb dX9_keep_278 rfl (lv_at hl 0 rfl) ?_
  refine lv_bipush (v := 16) hx hb dX9_keep_279 (by decide) ?_
  refine lv_icmp_ge (tgt := 307) hx hb dX9_keep_281 (by decide) (fun c_281_13 => absurd c_281_13 (by decide)) (fun c_281_13 => ?_)
  refine lv_aload_n hx hb dX9_keep_284 rfl (lv_at hl 1 rfl) ?_
  refine lv_aload_n hx hb dX9_keep_285 rfl (lv_at hl 2 rfl) ?_
  refine k_get (C := RX9) (T := TX9) (N := 79) (ci := 9) (v := .int ((nI (60 * ka)))) X hE hP 0 rfl rfl iX9 44 (by decide) w_498 rfl dX9_keep_286 ?_
  refine lv_bipush (v := 20) hx hb dX9_keep_289 (by decide) ?_
  refine lv_iadd hx hb dX9_keep_291 ?_
  refine tk (y := nI ((60 * ka) + 20)) (nI_add _ 20) ?_
  refine lv_iload_n hx hb dX9_keep_292 rfl (lv_at hl 0 rfl) ?_
  refine lv_iadd hx hb dX9_keep_293 ?_
  refine tk (y := nI (((60 * ka) + 20) + 13)) (nI_add _ 13) ?_
  refine lv_aload_n hx hb dX9_keep_294 rfl (lv_at hl 2 rfl) ?_
  refine k_get (C := RX9) (T := TX9) (N := 79) (ci := 9) (v := .ref mkeys) X hE hP 0 rfl rfl iX9 26 (by decide) w_355 rfl dX9_keep_295 ?_
  refine lv_iload_n hx hb dX9_keep_298 rfl (lv_at hl 0 rfl) ?_
  refine k_ald (v := 0) X hE hP 1 rfl 13 rfl (by decide) (by decide) (zkeys 13 (by decide)) dX9_keep_299 ?_
  refine k_ast X hE hP hD hS 3 rfl (((60 * ka) + 20) + 13) rfl (by omega) (by decide) [(h0, .inr (9, [.ref mwords, .ref mstore, .int 0, .int 0, .int 0, .int 255, .int ((nI pp)), .int 0, .int 0, .int 1, .int zz, .int 0, .int cy, .int 0, .int 0, .int 0, .int 0, .int 0, .int 0, .int 0, .int 0, .int 0, .int 0, .int 0, .int 1, .int 0, .ref mkeys, .ref mrests, .int 0, .int 0, .int 0, .int 0, .int 0, .ref mring, .ref mstrip, .ref mpins, .ref mstops, .int 0, .int 0, .int es, .ref mdone, .ref mkept, .int ((nI ka)), .int ((nI km)), .int ((nI (60 * ka))), .int 0, .ref mtape, .int 0, .int (-1), .int (-1), .ref mnameValue, .ref mnamePlace, .ref mnameEquals, .int 0, .ref mout, .int 0, .int 0, .int 0, .int 0, .int 0, .int 0, .int 0, .int 0, .int 0, .int 0, .int 0, .int 0, .int 0, .int 0, .int 0, .ref mtellFrom, .ref mtellEnd, .ref mtellValue, .ref mtellEquals, .ref mlaid, .int 0, .int 0, .int 0, .int 0])), (mkeys, .inl (cA, 16, .inl gkeys)), (mrests, .inl (cA, 8, .inl gr)), (mkept, .inl (cA, 15360, .inl (upd (upd (upd (upd (upd (upd (upd (upd (upd (upd (upd (upd (upd (upd (upd (upd (upd (upd (upd (upd (upd (upd (upd (upd (upd (upd (upd (upd (upd (upd (upd (upd (upd (upd gk (60 * ka) 0) ((60 * ka) + 1) 0) ((60 * ka) + 2) 0) ((60 * ka) + 3) 255) ((60 * ka) + 4) (nI pp)) ((60 * ka) + 5) ((4 + (2 * zz)) + 0)) ((60 * ka) + 6) 0) ((60 * ka) + 7) cy) ((60 * ka) + 8) 0) ((60 * ka) + 9) 0) ((60 * ka) + 10) 0) ((60 * ka) + 11) 0) ((60 * ka) + 12) 0) ((60 * ka) + 13) 0) ((60 * ka) + 14) 0) ((60 * ka) + 15) 0) ((60 * ka) + 16) 0) ((60 * ka) + 17) 0) ((60 * ka) + 18) 1) ((60 * ka) + 19) 0) (((60 * ka) + 20) + 0) 0) (((60 * ka) + 20) + 1) 0) (((60 * ka) + 20) + 2) 0) (((60 * ka) + 20) + 3) 0) (((60 * ka) + 20) + 4) 0) (((60 * ka) + 20) + 5) 0) (((60 * ka) + 20) + 6) 0) (((60 * ka) + 20) + 7) 0) (((60 * ka) + 20) + 8) 0) (((60 * ka) + 20) + 9) 0) (((60 * ka) + 20) + 10) 0) (((60 * ka) + 20) + 11) 0) (((60 * ka) + 20) + 12) 0) (((60 * ka) + 20) + 13) 0)))] rfl dX9_keep_300 (fun H locs hP hD hS => ?_)
  refine lv_iinc (v := 14) (lv' := [(2, .int 14), (1, .ref mkept), (0, .ref h0)]) hx hb dX9_keep_301 hl (k := 0) rfl (by decide) (by decide) rfl (fun ls hl => ?_)
  refine lv_goto (tgt := 278) hx hb dX9_keep_304 (by decide) ?_
  refine lv_iload_n hx hb dX9_keep_278 rfl (lv_at hl 0 rfl) ?_
  refine lv_bipush (v := 16) hx hb dX9_keep_279 (by decide) ?_
  refine lv_icmp_ge (tgt := 307) hx hb dX9_keep_281 (by decide) (fun c_281_14 => absurd c_281_14 (by decide)) (fun c_281_14 => ?_)
  refine lv_aload_n hx hb dX9_keep_284 rfl (lv_at hl 1 rfl) ?_
  refine lv_aload_n hx hb dX9_keep_285 rfl (lv_at hl 2 rfl) ?_
  refine k_get (C := RX9) (T := TX9) (N := 79) (ci := 9) (v := .int ((nI (60 * ka)))) X hE hP 0 rfl rfl iX9 44 (by decide) w_498 rfl dX9_keep_286 ?_
  refine lv_bipush (v := 20) hx hb dX9_keep_289 (by decide) ?_
  refine lv_iadd hx hb dX9_keep_291 ?_
  refine tk (y := nI ((60 * ka) + 20)) (nI_add _ 20) ?_
  refine lv_iload_n hx hb dX9_keep_292 rfl (lv_at hl 0 rfl) ?_
  refine lv_iadd hx hb dX9_keep_293 ?_
  refine tk (y := nI (((60 * ka) + 20) + 14)) (nI_add _ 14) ?_
  refine lv_aload_n hx hb dX9_keep_294 rfl (lv_at hl 2 rfl) ?_
  refine k_get (C := RX9) (T := TX9) (N := 79) (ci := 9) (v := .ref mkeys) X hE hP 0 rfl rfl iX9 26 (by decide) w_355 rfl dX9_keep_295 ?_
  refine lv_iload_n hx hb dX9_keep_298 rfl (lv_at hl 0 rfl) ?_
  refine k_ald (v := 0) X hE hP 1 rfl 14 rfl (by decide) (by decide) (zkeys 14 (by decide)) dX9_keep_299 ?_
  refine k_ast X hE hP hD hS 3 rfl (((60 * ka) + 20) + 14) rfl (by omega) (by decide) [(h0, .inr (9, [.ref mwords, .ref mstore, .int 0, .int 0, .int 0, .int 255, .int ((nI pp)), .int 0, .int 0, .int 1, .int zz, .int 0, .int cy, .int 0, .int 0, .int 0, .int 0, .int 0, .int 0, .int 0, .int 0, .int 0, .int 0, .int 0, .int 1, .int 0, .ref mkeys, .ref mrests, .int 0, .int 0, .int 0, .int 0, .int 0, .ref mring, .ref mstrip, .ref mpins, .ref mstops, .int 0, .int 0, .int es, .ref mdone, .ref mkept, .int ((nI ka)), .int ((nI km)), .int ((nI (60 * ka))), .int 0, .ref mtape, .int 0, .int (-1), .int (-1), .ref mnameValue, .ref mnamePlace, .ref mnameEquals, .int 0, .ref mout, .int 0, .int 0, .int 0, .int 0, .int 0, .int 0, .int 0, .int 0, .int 0, .int 0, .int 0, .int 0, .int 0, .int 0, .int 0, .ref mtellFrom, .ref mtellEnd, .ref mtellValue, .ref mtellEquals, .ref mlaid, .int 0, .int 0, .int 0, .int 0])), (mkeys, .inl (cA, 16, .inl gkeys)), (mrests, .inl (cA, 8, .inl gr)), (mkept, .inl (cA, 15360, .inl (upd (upd (upd (upd (upd (upd (upd (upd (upd (upd (upd (upd (upd (upd (upd (upd (upd (upd (upd (upd (upd (upd (upd (upd (upd (upd (upd (upd (upd (upd (upd (upd (upd (upd (upd gk (60 * ka) 0) ((60 * ka) + 1) 0) ((60 * ka) + 2) 0) ((60 * ka) + 3) 255) ((60 * ka) + 4) (nI pp)) ((60 * ka) + 5) ((4 + (2 * zz)) + 0)) ((60 * ka) + 6) 0) ((60 * ka) + 7) cy) ((60 * ka) + 8) 0) ((60 * ka) + 9) 0) ((60 * ka) + 10) 0) ((60 * ka) + 11) 0) ((60 * ka) + 12) 0) ((60 * ka) + 13) 0) ((60 * ka) + 14) 0) ((60 * ka) + 15) 0) ((60 * ka) + 16) 0) ((60 * ka) + 17) 0) ((60 * ka) + 18) 1) ((60 * ka) + 19) 0) (((60 * ka) + 20) + 0) 0) (((60 * ka) + 20) + 1) 0) (((60 * ka) + 20) + 2) 0) (((60 * ka) + 20) + 3) 0) (((60 * ka) + 20) + 4) 0) (((60 * ka) + 20) + 5) 0) (((60 * ka) + 20) + 6) 0) (((60 * ka) + 20) + 7) 0) (((60 * ka) + 20) + 8) 0) (((60 * ka) + 20) + 9) 0) (((60 * ka) + 20) + 10) 0) (((60 * ka) + 20) + 11) 0) (((60 * ka) + 20) + 12) 0) (((60 * ka) + 20) + 13) 0) (((60 * ka) + 20) + 14) 0)))] rfl dX9_keep_300 (fun H locs hP hD hS => ?_)
  refine lv_iinc (v := 15) (lv' := [(2, .int 15), (1, .ref mkept), (0, .ref h0)]) hx hb dX9_keep_301 hl (k := 0) rfl (by decide) (by decide) rfl (fun ls hl => ?_)
  refine lv_goto (tgt := 278) hx hb dX9_keep_304 (by decide) ?_
  refine lv_iload_n hx hb dX9_keep_278 rfl (lv_at hl 0 rfl) ?_
  refine lv_bipush (v := 16) hx hb dX9_keep_279 (by decide) ?_
  refine lv_icmp_ge (tgt := 307) hx hb dX9_keep_281 (by decide) (fun c_281_15 => absurd c_281_15 (by decide)) (fun c_281_15 => ?_)
  refine lv_aload_n hx hb dX9_keep_284 rfl (lv_at hl 1 rfl) ?_
  refine lv_aload_n hx hb dX9_keep_285 rfl (lv_at hl 2 rfl) ?_
  refine k_get (C := RX9) (T := TX9) (N := 79) (ci := 9) (v := .int ((nI (60 * ka)))) X hE hP 0 rfl rfl iX9 44 (by decide) w_498 rfl dX9_keep_286 ?_
  refine lv_bipush (v := 20) hx hb dX9_keep_289 (by decide) ?_
  refine lv_iadd hx hb dX9_keep_291 ?_
  refine tk (y := nI ((60 * ka) + 20)) (nI_add _ 20) ?_
  refine lv_iload_n hx hb dX9_keep_292 rfl (lv_at hl 0 rfl) ?_
  refine lv_iadd hx hb dX9_keep_293 ?_
  refine tk (y := nI (((60 * ka) + 20) + 15)) (nI_add _ 15) ?_
  refine lv_aload_n hx hb dX9_keep_294 rfl (lv_at hl 2 rfl) ?_
  refine k_get (C := RX9) (T := TX9) (N := 79) (ci := 9) (v := .ref mkeys) X hE hP 0 rfl rfl iX9 26 (by decide) w_355 rfl dX9_keep_295 ?_
  refine lv_iload_n hx hb dX9_keep_298 rfl (lv_at hl 0 rfl) ?_
  refine k_ald (v := 0) X hE hP 1 rfl 15 rfl (by decide) (by decide) (zkeys 15 (by decide)) dX9_keep_299 ?_
  refine k_ast X hE hP hD hS 3 rfl (((60 * ka) + 20) + 15) rfl (by omega) (by decide) [(h0, .inr (9, [.ref mwords, .ref mstore, .int 0, .int 0, .int 0, .int 255, .int ((nI pp)), .int 0, .int 0, .int 1, .int zz, .int 0, .int cy, .int 0, .int 0, .int 0, .int 0, .int 0, .int 0, .int 0, .int 0, .int 0, .int 0, .int 0, .int 1, .int 0, .ref mkeys, .ref mrests, .int 0, .int 0, .int 0, .int 0, .int 0, .ref mring, .ref mstrip, .ref mpins, .ref mstops, .int 0, .int 0, .int es, .ref mdone, .ref mkept, .int ((nI ka)), .int ((nI km)), .int ((nI (60 * ka))), .int 0, .ref mtape, .int 0, .int (-1), .int (-1), .ref mnameValue, .ref mnamePlace, .ref mnameEquals, .int 0, .ref mout, .int 0, .int 0, .int 0, .int 0, .int 0, .int 0, .int 0, .int 0, .int 0, .int 0, .int 0, .int 0, .int 0, .int 0, .int 0, .ref mtellFrom, .ref mtellEnd, .ref mtellValue, .ref mtellEquals, .ref mlaid, .int 0, .int 0, .int 0, .int 0])), (mkeys, .inl (cA, 16, .inl gkeys)), (mrests, .inl (cA, 8, .inl gr)), (mkept, .inl (cA, 15360, .inl (upd (upd (upd (upd (upd (upd (upd (upd (upd (upd (upd (upd (upd (upd (upd (upd (upd (upd (upd (upd (upd (upd (upd (upd (upd (upd (upd (upd (upd (upd (upd (upd (upd (upd (upd (upd gk (60 * ka) 0) ((60 * ka) + 1) 0) ((60 * ka) + 2) 0) ((60 * ka) + 3) 255) ((60 * ka) + 4) (nI pp)) ((60 * ka) + 5) ((4 + (2 * zz)) + 0)) ((60 * ka) + 6) 0) ((60 * ka) + 7) cy) ((60 * ka) + 8) 0) ((60 * ka) + 9) 0) ((60 * ka) + 10) 0) ((60 * ka) + 11) 0) ((60 * ka) + 12) 0) ((60 * ka) + 13) 0) ((60 * ka) + 14) 0) ((60 * ka) + 15) 0) ((60 * ka) + 16) 0) ((60 * ka) + 17) 0) ((60 * ka) + 18) 1) ((60 * ka) + 19) 0) (((60 * ka) + 20) + 0) 0) (((60 * ka) + 20) + 1) 0) (((60 * ka) + 20) + 2) 0) (((60 * ka) + 20) + 3) 0) (((60 * ka) + 20) + 4) 0) (((60 * ka) + 20) + 5) 0) (((60 * ka) + 20) + 6) 0) (((60 * ka) + 20) + 7) 0) (((60 * ka) + 20) + 8) 0) (((60 * ka) + 20) + 9) 0) (((60 * ka) + 20) + 10) 0) (((60 * ka) + 20) + 11) 0) (((60 * ka) + 20) + 12) 0) (((60 * ka) + 20) + 13) 0) (((60 * ka) + 20) + 14) 0) (((60 * ka) + 20) + 15) 0)))] rfl dX9_keep_300 (fun H locs hP hD hS => ?_)
  refine lv_iinc (v := 16) (lv' := [(2, .int 16), (1, .ref mkept), (0, .ref h0)]) hx hb dX9_keep_301 hl (k := 0) rfl (by decide) (by decide) rfl (fun ls hl => ?_)
  refine lv_goto (tgt := 278) hx hb dX9_keep_304 (by decide) ?_
  refine lv_iload_n hx hb dX9_keep_278 rfl (lv_at hl 0 rfl) ?_
  refine lv_bipush (v := 16) hx hb dX9_keep_279 (by decide) ?_
  refine lv_icmp_ge (tgt := 307) hx hb dX9_keep_281 (by decide) (fun c_281_16 => ?_) (fun c_281_16 => absurd (by decide) c_281_16)
  refine lv_iconst (v := 0) hx hb dX9_keep_307 (by decide) ?_
  refine lv_istore_n (lv' := [(2, .int 0), (1, .ref mkept), (0, .ref h0)]) hx hb dX9_keep_308 rfl hl (by decide) rfl (fun ls hl => ?_)
  refine lv_iload_n hx hb dX9_keep_309 rfl (lv_at hl 0 rfl) ?_
  refine lv_bipush (v := 8) hx hb dX9_keep_310 (by decide) ?_
  refine lv_icmp_ge (tgt := 338) hx hb dX9_keep_312 (by decide) (fun c_312 => absurd c_312 (by decide)) (fun c_312 => ?_)
  refine lv_aload_n hx hb dX9_keep_315 rfl (lv_at hl 1 rfl) ?_
  refine lv_aload_n hx hb dX9_keep_316 rfl (lv_at hl 2 rfl) ?_
  refine k_get (C := RX9) (T := TX9) (N := 79) (ci := 9) (v := .int ((nI (60 * ka)))) X hE hP 0 rfl rfl iX9 44 (by decide) w_498 rfl dX9_keep_317 ?_
  refine lv_bipush (v := 36) hx hb dX9_keep_320 (by decide) ?_
  refine lv_iadd hx hb dX9_keep_322 ?_
  refine tk (y := nI ((60 * ka) + 36)) (nI_add _ 36) ?_
  refine lv_iload_n hx hb dX9_keep_323 rfl (lv_at hl 0 rfl) ?_
  refine lv_iadd hx hb dX9_keep_324 ?_
  refine tk (y := nI (((60 * ka) + 36) + 0)) (nI_add _ 0) ?_
  refine lv_aload_n hx hb dX9_keep_325 rfl (lv_at hl 2 rfl) ?_
  refine k_get (C := RX9) (T := TX9) (N := 79) (ci := 9) (v := .ref mrests) X hE hP 0 rfl rfl iX9 27 (by decide) w_356 rfl dX9_keep_326 ?_
  refine lv_iload_n hx hb dX9_keep_329 rfl (lv_at hl 0 rfl) ?_
  refine k_ald (v := 0) X hE hP 2 rfl 0 rfl (by decide) (by decide) (zr 0 (by decide)) dX9_keep_330 ?_
  refine k_ast X hE hP hD hS 3 rfl (((60 * ka) + 36) + 0) rfl (by omega) (by decide) [(h0, .inr (9, [.ref mwords, .ref mstore, .int 0, .int 0, .int 0, .int 255, .int ((nI pp)), .int 0, .int 0, .int 1, .int zz, .int 0, .int cy, .int 0, .int 0, .int 0, .int 0, .int 0, .int 0, .int 0, .int 0, .int 0, .int 0, .int 0, .int 1, .int 0, .ref mkeys, .ref mrests, .int 0, .int 0, .int 0, .int 0, .int 0, .ref mring, .ref mstrip, .ref mpins, .ref mstops, .int 0, .int 0, .int es, .ref mdone, .ref mkept, .int ((nI ka)), .int ((nI km)), .int ((nI (60 * ka))), .int 0, .ref mtape, .int 0, .int (-1), .int (-1), .ref mnameValue, .ref mnamePlace, .ref mnameEquals, .int 0, .ref mout, .int 0, .int 0, .int 0, .int 0, .int 0, .int 0, .int 0, .int 0, .int 0, .int 0, .int 0, .int 0, .int 0, .int 0, .int 0, .ref mtellFrom, .ref mtellEnd, .ref mtellValue, .ref mtellEquals, .ref mlaid, .int 0, .int 0, .int 0, .int 0])), (mkeys, .inl (cA, 16, .inl gkeys)), (mrests, .inl (cA, 8, .inl gr)), (mkept, .inl (cA, 15360, .inl (upd (upd (upd (upd (upd (upd (upd (upd (upd (upd (upd (upd (upd (upd (upd (upd (upd (upd (upd (upd (upd (upd (upd (upd (upd (upd (upd (upd (upd (upd (upd (upd (upd (upd (upd (upd (upd gk (60 * ka) 0) ((60 * ka) + 1) 0) ((60 * ka) + 2) 0) ((60 * ka) + 3) 255) ((60 * ka) + 4) (nI pp)) ((60 * ka) + 5) ((4 + (2 * zz)) + 0)) ((60 * ka) + 6) 0) ((60 * ka) + 7) cy) ((60 * ka) + 8) 0) ((60 * ka) + 9) 0) ((60 * ka) + 10) 0) ((60 * ka) + 11) 0) ((60 * ka) + 12) 0) ((60 * ka) + 13) 0) ((60 * ka) + 14) 0) ((60 * ka) + 15) 0) ((60 * ka) + 16) 0) ((60 * ka) + 17) 0) ((60 * ka) + 18) 1) ((60 * ka) + 19) 0) (((60 * ka) + 20) + 0) 0) (((60 * ka) + 20) + 1) 0) (((60 * ka) + 20) + 2) 0) (((60 * ka) + 20) + 3) 0) (((60 * ka) + 20) + 4) 0) (((60 * ka) + 20) + 5) 0) (((60 * ka) + 20) + 6) 0) (((60 * ka) + 20) + 7) 0) (((60 * ka) + 20) + 8) 0) (((60 * ka) + 20) + 9) 0) (((60 * ka) + 20) + 10) 0) (((60 * ka) + 20) + 11) 0) (((60 * ka) + 20) + 12) 0) (((60 * ka) + 20) + 13) 0) (((60 * ka) + 20) + 14) 0) (((60 * ka) + 20) + 15) 0) (((60 * ka) + 36) + 0) 0)))] rfl dX9_keep_331 (fun H locs hP hD hS => ?_)
  refine lv_iinc (v := 1) (lv' := [(2, .int 1), (1, .ref mkept), (0, .ref h0)]) hx hb dX9_keep_332 hl (k := 0) rfl (by decide) (by decide) rfl (fun ls hl => ?_)
  refine lv_goto (tgt := 309) hx hb dX9_keep_335 (by decide) ?_
  refine lv_iload_n hx hb dX9_keep_309 rfl (lv_at hl 0 rfl) ?_
  refine lv_bipush (v := 8) hx hb dX9_keep_310 (by decide) ?_
  refine lv_icmp_ge (tgt := 338) hx hb dX9_keep_312 (by decide) (fun c_312_17 => absurd c_312_17 (by decide)) (fun c_312_17 => ?_)
  refine lv_aload_n hx hb dX9_keep_315 rfl (lv_at hl 1 rfl) ?_
  refine lv_aload_n hx hb dX9_keep_316 rfl (lv_at hl 2 rfl) ?_
  refine k_get (C := RX9) (T := TX9) (N := 79) (ci := 9) (v := .int ((nI (60 * ka)))) X hE hP 0 rfl rfl iX9 44 (by decide) w_498 rfl dX9_keep_317 ?_
  refine lv_bipush (v := 36) hx hb dX9_keep_320 (by decide) ?_
  refine lv_iadd hx hb dX9_keep_322 ?_
  refine tk (y := nI ((60 * ka) + 36)) (nI_add _ 36) ?_
  refine lv_iload_n hx hb dX9_keep_323 rfl (lv_at hl 0 rfl) ?_
  refine lv_iadd hx hb dX9_keep_324 ?_
  refine tk (y := nI (((60 * ka) + 36) + 1)) (nI_add _ 1) ?_
  refine lv_aload_n hx hb dX9_keep_325 rfl (lv_at hl 2 rfl) ?_
  refine k_get (C := RX9) (T := TX9) (N := 79) (ci := 9) (v := .ref mrests) X hE hP 0 rfl rfl iX9 27 (by decide) w_356 rfl dX9_keep_326 ?_
  refine lv_iload_n hx hb dX9_keep_329 rfl (lv_at hl 0 rfl) ?_
  refine k_ald (v := 0) X hE hP 2 rfl 1 rfl (by decide) (by decide) (zr 1 (by decide)) dX9_keep_330 ?_
  refine k_ast X hE hP hD hS 3 rfl (((60 * ka) + 36) + 1) rfl (by omega) (by decide) [(h0, .inr (9, [.ref mwords, .ref mstore, .int 0, .int 0, .int 0, .int 255, .int ((nI pp)), .int 0, .int 0, .int 1, .int zz, .int 0, .int cy, .int 0, .int 0, .int 0, .int 0, .int 0, .int 0, .int 0, .int 0, .int 0, .int 0, .int 0, .int 1, .int 0, .ref mkeys, .ref mrests, .int 0, .int 0, .int 0, .int 0, .int 0, .ref mring, .ref mstrip, .ref mpins, .ref mstops, .int 0, .int 0, .int es, .ref mdone, .ref mkept, .int ((nI ka)), .int ((nI km)), .int ((nI (60 * ka))), .int 0, .ref mtape, .int 0, .int (-1), .int (-1), .ref mnameValue, .ref mnamePlace, .ref mnameEquals, .int 0, .ref mout, .int 0, .int 0, .int 0, .int 0, .int 0, .int 0, .int 0, .int 0, .int 0, .int 0, .int 0, .int 0, .int 0, .int 0, .int 0, .ref mtellFrom, .ref mtellEnd, .ref mtellValue, .ref mtellEquals, .ref mlaid, .int 0, .int 0, .int 0, .int 0])), (mkeys, .inl (cA, 16, .inl gkeys)), (mrests, .inl (cA, 8, .inl gr)), (mkept, .inl (cA, 15360, .inl (upd (upd (upd (upd (upd (upd (upd (upd (upd (upd (upd (upd (upd (upd (upd (upd (upd (upd (upd (upd (upd (upd (upd (upd (upd (upd (upd (upd (upd (upd (upd (upd (upd (upd (upd (upd (upd (upd gk (60 * ka) 0) ((60 * ka) + 1) 0) ((60 * ka) + 2) 0) ((60 * ka) + 3) 255) ((60 * ka) + 4) (nI pp)) ((60 * ka) + 5) ((4 + (2 * zz)) + 0)) ((60 * ka) + 6) 0) ((60 * ka) + 7) cy) ((60 * ka) + 8) 0) ((60 * ka) + 9) 0) ((60 * ka) + 10) 0) ((60 * ka) + 11) 0) ((60 * ka) + 12) 0) ((60 * ka) + 13) 0) ((60 * ka) + 14) 0) ((60 * ka) + 15) 0) ((60 * ka) + 16) 0) ((60 * ka) + 17) 0) ((60 * ka) + 18) 1) ((60 * ka) + 19) 0) (((60 * ka) + 20) + 0) 0) (((60 * ka) + 20) + 1) 0) (((60 * ka) + 20) + 2) 0) (((60 * ka) + 20) + 3) 0) (((60 * ka) + 20) + 4) 0) (((60 * ka) + 20) + 5) 0) (((60 * ka) + 20) + 6) 0) (((60 * ka) + 20) + 7) 0) (((60 * ka) + 20) + 8) 0) (((60 * ka) + 20) + 9) 0) (((60 * ka) + 20) + 10) 0) (((60 * ka) + 20) + 11) 0) (((60 * ka) + 20) + 12) 0) (((60 * ka) + 20) + 13) 0) (((60 * ka) + 20) + 14) 0) (((60 * ka) + 20) + 15) 0) (((60 * ka) + 36) + 0) 0) (((60 * ka) + 36) + 1) 0)))] rfl dX9_keep_331 (fun H locs hP hD hS => ?_)
  refine lv_iinc (v := 2) (lv' := [(2, .int 2), (1, .ref mkept), (0, .ref h0)]) hx hb dX9_keep_332 hl (k := 0) rfl (by decide) (by decide) rfl (fun ls hl => ?_)
  refine lv_goto (tgt := 309) hx hb dX9_keep_335 (by decide) ?_
  refine lv_iload_n hx hb dX9_keep_309 rfl (lv_at hl 0 rfl) ?_
  refine lv_bipush (v := 8) hx hb dX9_keep_310 (by decide) ?_
  refine lv_icmp_ge (tgt := 338) hx hb dX9_keep_312 (by decide) (fun c_312_18 => absurd c_312_18 (by decide)) (fun c_312_18 => ?_)
  refine lv_aload_n hx hb dX9_keep_315 rfl (lv_at hl 1 rfl) ?_
  refine lv_aload_n hx hb dX9_keep_316 rfl (lv_at hl 2 rfl) ?_
  refine k_get (C := RX9) (T := TX9) (N := 79) (ci := 9) (v := .int ((nI (60 * ka)))) X hE hP 0 rfl rfl iX9 44 (by decide) w_498 rfl dX9_keep_317 ?_
  refine lv_bipush (v := 36) hx hb dX9_keep_320 (by decide) ?_
  refine lv_iadd hx hb dX9_keep_322 ?_
  refine tk (y := nI ((60 * ka) + 36)) (nI_add _ 36) ?_
  refine lv_iload_n hx hb dX9_keep_323 rfl (lv_at hl 0 rfl) ?_
  refine lv_iadd hx hb dX9_keep_324 ?_
  refine tk (y := nI (((60 * ka) + 36) + 2)) (nI_add _ 2) ?_
  refine lv_aload_n hx hb dX9_keep_325 rfl (lv_at hl 2 rfl) ?_
  refine k_get (C := RX9) (T := TX9) (N := 79) (ci := 9) (v := .ref mrests) X hE hP 0 rfl rfl iX9 27 (by decide) w_356 rfl dX9_keep_326 ?_
  refine lv_iload_n hx hb dX9_keep_329 rfl (lv_at hl 0 rfl) ?_
  refine k_ald (v := 0) X hE hP 2 rfl 2 rfl (by decide) (by decide) (zr 2 (by decide)) dX9_keep_330 ?_
  refine k_ast X hE hP hD hS 3 rfl (((60 * ka) + 36) + 2) rfl (by omega) (by decide) [(h0, .inr (9, [.ref mwords, .ref mstore, .int 0, .int 0, .int 0, .int 255, .int ((nI pp)), .int 0, .int 0, .int 1, .int zz, .int 0, .int cy, .int 0, .int 0, .int 0, .int 0, .int 0, .int 0, .int 0, .int 0, .int 0, .int 0, .int 0, .int 1, .int 0, .ref mkeys, .ref mrests, .int 0, .int 0, .int 0, .int 0, .int 0, .ref mring, .ref mstrip, .ref mpins, .ref mstops, .int 0, .int 0, .int es, .ref mdone, .ref mkept, .int ((nI ka)), .int ((nI km)), .int ((nI (60 * ka))), .int 0, .ref mtape, .int 0, .int (-1), .int (-1), .ref mnameValue, .ref mnamePlace, .ref mnameEquals, .int 0, .ref mout, .int 0, .int 0, .int 0, .int 0, .int 0, .int 0, .int 0, .int 0, .int 0, .int 0, .int 0, .int 0, .int 0, .int 0, .int 0, .ref mtellFrom, .ref mtellEnd, .ref mtellValue, .ref mtellEquals, .ref mlaid, .int 0, .int 0, .int 0, .int 0])), (mkeys, .inl (cA, 16, .inl gkeys)), (mrests, .inl (cA, 8, .inl gr)), (mkept, .inl (cA, 15360, .inl (upd (upd (upd (upd (upd (upd (upd (upd (upd (upd (upd (upd (upd (upd (upd (upd (upd (upd (upd (upd (upd (upd (upd (upd (upd (upd (upd (upd (upd (upd (upd (upd (upd (upd (upd (upd (upd (upd (upd gk (60 * ka) 0) ((60 * ka) + 1) 0) ((60 * ka) + 2) 0) ((60 * ka) + 3) 255) ((60 * ka) + 4) (nI pp)) ((60 * ka) + 5) ((4 + (2 * zz)) + 0)) ((60 * ka) + 6) 0) ((60 * ka) + 7) cy) ((60 * ka) + 8) 0) ((60 * ka) + 9) 0) ((60 * ka) + 10) 0) ((60 * ka) + 11) 0) ((60 * ka) + 12) 0) ((60 * ka) + 13) 0) ((60 * ka) + 14) 0) ((60 * ka) + 15) 0) ((60 * ka) + 16) 0) ((60 * ka) + 17) 0) ((60 * ka) + 18) 1) ((60 * ka) + 19) 0) (((60 * ka) + 20) + 0) 0) (((60 * ka) + 20) + 1) 0) (((60 * ka) + 20) + 2) 0) (((60 * ka) + 20) + 3) 0) (((60 * ka) + 20) + 4) 0) (((60 * ka) + 20) + 5) 0) (((60 * ka) + 20) + 6) 0) (((60 * ka) + 20) + 7) 0) (((60 * ka) + 20) + 8) 0) (((60 * ka) + 20) + 9) 0) (((60 * ka) + 20) + 10) 0) (((60 * ka) + 20) + 11) 0) (((60 * ka) + 20) + 12) 0) (((60 * ka) + 20) + 13) 0) (((60 * ka) + 20) + 14) 0) (((60 * ka) + 20) + 15) 0) (((60 * ka) + 36) + 0) 0) (((60 * ka) + 36) + 1) 0) (((60 * ka) + 36) + 2) 0)))] rfl dX9_keep_331 (fun H locs hP hD hS => ?_)
  refine lv_iinc (v := 3) (lv' := [(2, .int 3), (1, .ref mkept), (0, .ref h0)]) hx hb dX9_keep_332 hl (k := 0) rfl (by decide) (by decide) rfl (fun ls hl => ?_)
  refine lv_goto (tgt := 309) hx hb dX9_keep_335 (by decide) ?_
  refine lv_iload_n hx hb dX9_keep_309 rfl (lv_at hl 0 rfl) ?_
  refine lv_bipush (v := 8) hx hb dX9_keep_310 (by decide) ?_
  refine lv_icmp_ge (tgt := 338) hx hb dX9_keep_312 (by decide) (fun c_312_19 => absurd c_312_19 (by decide)) (fun c_312_19 => ?_)
  refine lv_aload_n hx hb dX9_keep_315 rfl (lv_at hl 1 rfl) ?_
  refine lv_aload_n hx hb dX9_keep_316 rfl (lv_at hl 2 rfl) ?_
  refine k_get (C := RX9) (T := TX9) (N := 79) (ci := 9) (v := .int ((nI (60 * ka)))) X hE hP 0 rfl rfl iX9 44 (by decide) w_498 rfl dX9_keep_317 ?_
  refine lv_bipush (v := 36) hx hb dX9_keep_320 (by decide) ?_
  refine lv_iadd hx hb dX9_keep_322 ?_
  refine tk (y := nI ((60 * ka) + 36)) (nI_add _ 36) ?_
  refine lv_iload_n hx hb dX9_keep_323 rfl (lv_at hl 0 rfl) ?_
  refine lv_iadd hx hb dX9_keep_324 ?_
  refine tk (y := nI (((60 * ka) + 36) + 3)) (nI_add _ 3) ?_
  refine lv_aload_n hx hb dX9_keep_325 rfl (lv_at hl 2 rfl) ?_
  refine k_get (C := RX9) (T := TX9) (N := 79) (ci := 9) (v := .ref mrests) X hE hP 0 rfl rfl iX9 27 (by decide) w_356 rfl dX9_keep_326 ?_
  refine lv_iload_n hx hb dX9_keep_329 rfl (lv_at hl 0 rfl) ?_
  refine k_ald (v := 0) X hE hP 2 rfl 3 rfl (by decide) (by decide) (zr 3 (by decide)) dX9_keep_330 ?_
  refine k_ast X hE hP hD hS 3 rfl (((60 * ka) + 36) + 3) rfl (by omega) (by decide) [(h0, .inr (9, [.ref mwords, .ref mstore, .int 0, .int 0, .int 0, .int 255, .int ((nI pp)), .int 0, .int 0, .int 1, .int zz, .int 0, .int cy, .int 0, .int 0, .int 0, .int 0, .int 0, .int 0, .int 0, .int 0, .int 0, .int 0, .int 0, .int 1, .int 0, .ref mkeys, .ref mrests, .int 0, .int 0, .int 0, .int 0, .int 0, .ref mring, .ref mstrip, .ref mpins, .ref mstops, .int 0, .int 0, .int es, .ref mdone, .ref mkept, .int ((nI ka)), .int ((nI km)), .int ((nI (60 * ka))), .int 0, .ref mtape, .int 0, .int (-1), .int (-1), .ref mnameValue, .ref mnamePlace, .ref mnameEquals, .int 0, .ref mout, .int 0, .int 0, .int 0, .int 0, .int 0, .int 0, .int 0, .int 0, .int 0, .int 0, .int 0, .int 0, .int 0, .int 0, .int 0, .ref mtellFrom, .ref mtellEnd, .ref mtellValue, .ref mtellEquals, .ref mlaid, .int 0, .int 0, .int 0, .int 0])), (mkeys, .inl (cA, 16, .inl gkeys)), (mrests, .inl (cA, 8, .inl gr)), (mkept, .inl (cA, 15360, .inl (upd (upd (upd (upd (upd (upd (upd (upd (upd (upd (upd (upd (upd (upd (upd (upd (upd (upd (upd (upd (upd (upd (upd (upd (upd (upd (upd (upd (upd (upd (upd (upd (upd (upd (upd (upd (upd (upd (upd (upd gk (60 * ka) 0) ((60 * ka) + 1) 0) ((60 * ka) + 2) 0) ((60 * ka) + 3) 255) ((60 * ka) + 4) (nI pp)) ((60 * ka) + 5) ((4 + (2 * zz)) + 0)) ((60 * ka) + 6) 0) ((60 * ka) + 7) cy) ((60 * ka) + 8) 0) ((60 * ka) + 9) 0) ((60 * ka) + 10) 0) ((60 * ka) + 11) 0) ((60 * ka) + 12) 0) ((60 * ka) + 13) 0) ((60 * ka) + 14) 0) ((60 * ka) + 15) 0) ((60 * ka) + 16) 0) ((60 * ka) + 17) 0) ((60 * ka) + 18) 1) ((60 * ka) + 19) 0) (((60 * ka) + 20) + 0) 0) (((60 * ka) + 20) + 1) 0) (((60 * ka) + 20) + 2) 0) (((60 * ka) + 20) + 3) 0) (((60 * ka) + 20) + 4) 0) (((60 * ka) + 20) + 5) 0) (((60 * ka) + 20) + 6) 0) (((60 * ka) + 20) + 7) 0) (((60 * ka) + 20) + 8) 0) (((60 * ka) + 20) + 9) 0) (((60 * ka) + 20) + 10) 0) (((60 * ka) + 20) + 11) 0) (((60 * ka) + 20) + 12) 0) (((60 * ka) + 20) + 13) 0) (((60 * ka) + 20) + 14) 0) (((60 * ka) + 20) + 15) 0) (((60 * ka) + 36) + 0) 0) (((60 * ka) + 36) + 1) 0) (((60 * ka) + 36) + 2) 0) (((60 * ka) + 36) + 3) 0)))] rfl dX9_keep_331 (fun H locs hP hD hS => ?_)
  refine lv_iinc (v := 4) (lv' := [(2, .int 4), (1, .ref mkept), (0, .ref h0)]) hx hb dX9_keep_332 hl (k := 0) rfl (by decide) (by decide) rfl (fun ls hl => ?_)
  refine lv_goto (tgt := 309) hx hb dX9_keep_335 (by decide) ?_
  refine lv_iload_n hx hb dX9_keep_309 rfl (lv_at hl 0 rfl) ?_
  refine lv_bipush (v := 8) hx hb dX9_keep_310 (by decide) ?_
  refine lv_icmp_ge (tgt := 338) hx hb dX9_keep_312 (by decide) (fun c_312_20 => absurd c_312_20 (by decide)) (fun c_312_20 => ?_)
  refine lv_aload_n hx hb dX9_keep_315 rfl (lv_at hl 1 rfl) ?_
  refine lv_aload_n hx hb dX9_keep_316 rfl (lv_at hl 2 rfl) ?_
  refine k_get (C := RX9) (T := TX9) (N := 79) (ci := 9) (v := .int ((nI (60 * ka)))) X hE hP 0 rfl rfl iX9 44 (by decide) w_498 rfl dX9_keep_317 ?_
  refine lv_bipush (v := 36) hx hb dX9_keep_320 (by decide) ?_
  refine lv_iadd hx hb dX9_keep_322 ?_
  refine tk (y := nI ((60 * ka) + 36)) (nI_add _ 36) ?_
  refine lv_iload_n hx hb dX9_keep_323 rfl (lv_at hl 0 rfl) ?_
  refine lv_iadd hx hb dX9_keep_324 ?_
  refine tk (y := nI (((60 * ka) + 36) + 4)) (nI_add _ 4) ?_
  refine lv_aload_n hx hb dX9_keep_325 rfl (lv_at hl 2 rfl) ?_
  refine k_get (C := RX9) (T := TX9) (N := 79) (ci := 9) (v := .ref mrests) X hE hP 0 rfl rfl iX9 27 (by decide) w_356 rfl dX9_keep_326 ?_
  refine lv_iload_n hx hb dX9_keep_329 rfl (lv_at hl 0 rfl) ?_
  refine k_ald (v := 0) X hE hP 2 rfl 4 rfl (by decide) (by decide) (zr 4 (by decide)) dX9_keep_330 ?_
  refine k_ast X hE hP hD hS 3 rfl (((60 * ka) + 36) + 4) rfl (by omega) (by decide) [(h0, .inr (9, [.ref mwords, .ref mstore, .int 0, .int 0, .int 0, .int 255, .int ((nI pp)), .int 0, .int 0, .int 1, .int zz, .int 0, .int cy, .int 0, .int 0, .int 0, .int 0, .int 0, .int 0, .int 0, .int 0, .int 0, .int 0, .int 0, .int 1, .int 0, .ref mkeys, .ref mrests, .int 0, .int 0, .int 0, .int 0, .int 0, .ref mring, .ref mstrip, .ref mpins, .ref mstops, .int 0, .int 0, .int es, .ref mdone, .ref mkept, .int ((nI ka)), .int ((nI km)), .int ((nI (60 * ka))), .int 0, .ref mtape, .int 0, .int (-1), .int (-1), .ref mnameValue, .ref mnamePlace, .ref mnameEquals, .int 0, .ref mout, .int 0, .int 0, .int 0, .int 0, .int 0, .int 0, .int 0, .int 0, .int 0, .int 0, .int 0, .int 0, .int 0, .int 0, .int 0, .ref mtellFrom, .ref mtellEnd, .ref mtellValue, .ref mtellEquals, .ref mlaid, .int 0, .int 0, .int 0, .int 0])), (mkeys, .inl (cA, 16, .inl gkeys)), (mrests, .inl (cA, 8, .inl gr)), (mkept, .inl (cA, 15360, .inl (upd (upd (upd (upd (upd (upd (upd (upd (upd (upd (upd (upd (upd (upd (upd (upd (upd (upd (upd (upd (upd (upd (upd (upd (upd (upd (upd (upd (upd (upd (upd (upd (upd (upd (upd (upd (upd (upd (upd (upd (upd gk (60 * ka) 0) ((60 * ka) + 1) 0) ((60 * ka) + 2) 0) ((60 * ka) + 3) 255) ((60 * ka) + 4) (nI pp)) ((60 * ka) + 5) ((4 + (2 * zz)) + 0)) ((60 * ka) + 6) 0) ((60 * ka) + 7) cy) ((60 * ka) + 8) 0) ((60 * ka) + 9) 0) ((60 * ka) + 10) 0) ((60 * ka) + 11) 0) ((60 * ka) + 12) 0) ((60 * ka) + 13) 0) ((60 * ka) + 14) 0) ((60 * ka) + 15) 0) ((60 * ka) + 16) 0) ((60 * ka) + 17) 0) ((60 * ka) + 18) 1) ((60 * ka) + 19) 0) (((60 * ka) + 20) + 0) 0) (((60 * ka) + 20) + 1) 0) (((60 * ka) + 20) + 2) 0) (((60 * ka) + 20) + 3) 0) (((60 * ka) + 20) + 4) 0) (((60 * ka) + 20) + 5) 0) (((60 * ka) + 20) + 6) 0) (((60 * ka) + 20) + 7) 0) (((60 * ka) + 20) + 8) 0) (((60 * ka) + 20) + 9) 0) (((60 * ka) + 20) + 10) 0) (((60 * ka) + 20) + 11) 0) (((60 * ka) + 20) + 12) 0) (((60 * ka) + 20) + 13) 0) (((60 * ka) + 20) + 14) 0) (((60 * ka) + 20) + 15) 0) (((60 * ka) + 36) + 0) 0) (((60 * ka) + 36) + 1) 0) (((60 * ka) + 36) + 2) 0) (((60 * ka) + 36) + 3) 0) (((60 * ka) + 36) + 4) 0)))] rfl dX9_keep_331 (fun H locs hP hD hS => ?_)
  refine lv_iinc (v := 5) (lv' := [(2, .int 5), (1, .ref mkept), (0, .ref h0)]) hx hb dX9_keep_332 hl (k := 0) rfl (by decide) (by decide) rfl (fun ls hl => ?_)
  refine lv_goto (tgt := 309) hx hb dX9_keep_335 (by decide) ?_
  refine lv_iload_n hx hb dX9_keep_309 rfl (lv_at hl 0 rfl) ?_
  refine lv_bipush (v := 8) hx hb dX9_keep_310 (by decide) ?_
  refine lv_icmp_ge (tgt := 338) hx hb dX9_keep_312 (by decide) (fun c_312_21 => absurd c_312_21 (by decide)) (fun c_312_21 => ?_)
  refine lv_aload_n hx hb dX9_keep_315 rfl (lv_at hl 1 rfl) ?_
  refine lv_aload_n hx hb dX9_keep_316 rfl (lv_at hl 2 rfl) ?_
  refine k_get (C := RX9) (T := TX9) (N := 79) (ci := 9) (v := .int ((nI (60 * ka)))) X hE hP 0 rfl rfl iX9 44 (by decide) w_498 rfl dX9_keep_317 ?_
  refine lv_bipush (v := 36) hx hb dX9_keep_320 (by decide) ?_
  refine lv_iadd hx hb dX9_keep_322 ?_
  refine tk (y := nI ((60 * ka) + 36)) (nI_add _ 36) ?_
  refine lv_iload_n hx hb dX9_keep_323 rfl (lv_at hl 0 rfl) ?_
  refine lv_iadd hx hb dX9_keep_324 ?_
  refine tk (y := nI (((60 * ka) + 36) + 5)) (nI_add _ 5) ?_
  refine lv_aload_n hx hb dX9_keep_325 rfl (lv_at hl 2 rfl) ?_
  refine k_get (C := RX9) (T := TX9) (N := 79) (ci := 9) (v := .ref mrests) X hE hP 0 rfl rfl iX9 27 (by decide) w_356 rfl dX9_keep_326 ?_
  refine lv_iload_n hx hb dX9_keep_329 rfl (lv_at hl 0 rfl) ?_
  refine k_ald (v := 0) X hE hP 2 rfl 5 rfl (by decide) (by decide) (zr 5 (by decide)) dX9_keep_330 ?_
  refine k_ast X hE hP hD hS 3 rfl (((60 * ka) + 36) + 5) rfl (by omega) (by decide) [(h0, .inr (9, [.ref mwords, .ref mstore, .int 0, .int 0, .int 0, .int 255, .int ((nI pp)), .int 0, .int 0, .int 1, .int zz, .int 0, .int cy, .int 0, .int 0, .int 0, .int 0, .int 0, .int 0, .int 0, .int 0, .int 0, .int 0, .int 0, .int 1, .int 0, .ref mkeys, .ref mrests, .int 0, .int 0, .int 0, .int 0, .int 0, .ref mring, .ref mstrip, .ref mpins, .ref mstops, .int 0, .int 0, .int es, .ref mdone, .ref mkept, .int ((nI ka)), .int ((nI km)), .int ((nI (60 * ka))), .int 0, .ref mtape, .int 0, .int (-1), .int (-1), .ref mnameValue, .ref mnamePlace, .ref mnameEquals, .int 0, .ref mout, .int 0, .int 0, .int 0, .int 0, .int 0, .int 0, .int 0, .int 0, .int 0, .int 0, .int 0, .int 0, .int 0, .int 0, .int 0, .ref mtellFrom, .ref mtellEnd, .ref mtellValue, .ref mtellEquals, .ref mlaid, .int 0, .int 0, .int 0, .int 0])), (mkeys, .inl (cA, 16, .inl gkeys)), (mrests, .inl (cA, 8, .inl gr)), (mkept, .inl (cA, 15360, .inl (upd (upd (upd (upd (upd (upd (upd (upd (upd (upd (upd (upd (upd (upd (upd (upd (upd (upd (upd (upd (upd (upd (upd (upd (upd (upd (upd (upd (upd (upd (upd (upd (upd (upd (upd (upd (upd (upd (upd (upd (upd (upd gk (60 * ka) 0) ((60 * ka) + 1) 0) ((60 * ka) + 2) 0) ((60 * ka) + 3) 255) ((60 * ka) + 4) (nI pp)) ((60 * ka) + 5) ((4 + (2 * zz)) + 0)) ((60 * ka) + 6) 0) ((60 * ka) + 7) cy) ((60 * ka) + 8) 0) ((60 * ka) + 9) 0) ((60 * ka) + 10) 0) ((60 * ka) + 11) 0) ((60 * ka) + 12) 0) ((60 * ka) + 13) 0) ((60 * ka) + 14) 0) ((60 * ka) + 15) 0) ((60 * ka) + 16) 0) ((60 * ka) + 17) 0) ((60 * ka) + 18) 1) ((60 * ka) + 19) 0) (((60 * ka) + 20) + 0) 0) (((60 * ka) + 20) + 1) 0) (((60 * ka) + 20) + 2) 0) (((60 * ka) + 20) + 3) 0) (((60 * ka) + 20) + 4) 0) (((60 * ka) + 20) + 5) 0) (((60 * ka) + 20) + 6) 0) (((60 * ka) + 20) + 7) 0) (((60 * ka) + 20) + 8) 0) (((60 * ka) + 20) + 9) 0) (((60 * ka) + 20) + 10) 0) (((60 * ka) + 20) + 11) 0) (((60 * ka) + 20) + 12) 0) (((60 * ka) + 20) + 13) 0) (((60 * ka) + 20) + 14) 0) (((60 * ka) + 20) + 15) 0) (((60 * ka) + 36) + 0) 0) (((60 * ka) + 36) + 1) 0) (((60 * ka) + 36) + 2) 0) (((60 * ka) + 36) + 3) 0) (((60 * ka) + 36) + 4) 0) (((60 * ka) + 36) + 5) 0)))] rfl dX9_keep_331 (fun H locs hP hD hS => ?_)
  refine lv_iinc (v := 6) (lv' := [(2, .int 6), (1, .ref mkept), (0, .ref h0)]) hx hb dX9_keep_332 hl (k := 0) rfl (by decide) (by decide) rfl (fun ls hl => ?_)
  refine lv_goto (tgt := 309) hx hb dX9_keep_335 (by decide) ?_
  refine lv_iload_n hx hb dX9_keep_309 rfl (lv_at hl 0 rfl) ?_
  refine lv_bipush (v := 8) hx hb dX9_keep_310 (by decide) ?_
  refine lv_icmp_ge (tgt := 338) hx hb dX9_keep_312 (by decide) (fun c_312_22 => absurd c_312_22 (by decide)) (fun c_312_22 => ?_)
  refine lv_aload_n hx hb dX9_keep_315 rfl (lv_at hl 1 rfl) ?_
  refine lv_aload_n hx hb dX9_keep_316 rfl (lv_at hl 2 rfl) ?_
  refine k_get (C := RX9) (T := TX9) (N := 79) (ci := 9) (v := .int ((nI (60 * ka)))) X hE hP 0 rfl rfl iX9 44 (by decide) w_498 rfl dX9_keep_317 ?_
  refine lv_bipush (v := 36) hx hb dX9_keep_320 (by decide) ?_
  refine lv_iadd hx hb dX9_keep_322 ?_
  refine tk (y := nI ((60 * ka) + 36)) (nI_add _ 36) ?_
  refine lv_iload_n hx hb dX9_keep_323 rfl (lv_at hl 0 rfl) ?_
  refine lv_iadd hx hb dX9_keep_324 ?_
  refine tk (y := nI (((60 * ka) + 36) + 6)) (nI_add _ 6) ?_
  refine lv_aload_n hx hb dX9_keep_325 rfl (lv_at hl 2 rfl) ?_
  refine k_get (C := RX9) (T := TX9) (N := 79) (ci := 9) (v := .ref mrests) X hE hP 0 rfl rfl iX9 27 (by decide) w_356 rfl dX9_keep_326 ?_
  refine lv_iload_n hx hb dX9_keep_329 rfl (lv_at hl 0 rfl) ?_
  refine k_ald (v := 0) X hE hP 2 rfl 6 rfl (by decide) (by decide) (zr 6 (by decide)) dX9_keep_330 ?_
  refine k_ast X hE hP hD hS 3 rfl (((60 * ka) + 36) + 6) rfl (by omega) (by decide) [(h0, .inr (9, [.ref mwords, .ref mstore, .int 0, .int 0, .int 0, .int 255, .int ((nI pp)), .int 0, .int 0, .int 1, .int zz, .int 0, .int cy, .int 0, .int 0, .int 0, .int 0, .int 0, .int 0, .int 0, .int 0, .int 0, .int 0, .int 0, .int 1, .int 0, .ref mkeys, .ref mrests, .int 0, .int 0, .int 0, .int 0, .int 0, .ref mring, .ref mstrip, .ref mpins, .ref mstops, .int 0, .int 0, .int es, .ref mdone, .ref mkept, .int ((nI ka)), .int ((nI km)), .int ((nI (60 * ka))), .int 0, .ref mtape, .int 0, .int (-1), .int (-1), .ref mnameValue, .ref mnamePlace, .ref mnameEquals, .int 0, .ref mout, .int 0, .int 0, .int 0, .int 0, .int 0, .int 0, .int 0, .int 0, .int 0, .int 0, .int 0, .int 0, .int 0, .int 0, .int 0, .ref mtellFrom, .ref mtellEnd, .ref mtellValue, .ref mtellEquals, .ref mlaid, .int 0, .int 0, .int 0, .int 0])), (mkeys, .inl (cA, 16, .inl gkeys)), (mrests, .inl (cA, 8, .inl gr)), (mkept, .inl (cA, 15360, .inl (upd (upd (upd (upd (upd (upd (upd (upd (upd (upd (upd (upd (upd (upd (upd (upd (upd (upd (upd (upd (upd (upd (upd (upd (upd (upd (upd (upd (upd (upd (upd (upd (upd (upd (upd (upd (upd (upd (upd (upd (upd (upd (upd gk (60 * ka) 0) ((60 * ka) + 1) 0) ((60 * ka) + 2) 0) ((60 * ka) + 3) 255) ((60 * ka) + 4) (nI pp)) ((60 * ka) + 5) ((4 + (2 * zz)) + 0)) ((60 * ka) + 6) 0) ((60 * ka) + 7) cy) ((60 * ka) + 8) 0) ((60 * ka) + 9) 0) ((60 * ka) + 10) 0) ((60 * ka) + 11) 0) ((60 * ka) + 12) 0) ((60 * ka) + 13) 0) ((60 * ka) + 14) 0) ((60 * ka) + 15) 0) ((60 * ka) + 16) 0) ((60 * ka) + 17) 0) ((60 * ka) + 18) 1) ((60 * ka) + 19) 0) (((60 * ka) + 20) + 0) 0) (((60 * ka) + 20) + 1) 0) (((60 * ka) + 20) + 2) 0) (((60 * ka) + 20) + 3) 0) (((60 * ka) + 20) + 4) 0) (((60 * ka) + 20) + 5) 0) (((60 * ka) + 20) + 6) 0) (((60 * ka) + 20) + 7) 0) (((60 * ka) + 20) + 8) 0) (((60 * ka) + 20) + 9) 0) (((60 * ka) + 20) + 10) 0) (((60 * ka) + 20) + 11) 0) (((60 * ka) + 20) + 12) 0) (((60 * ka) + 20) + 13) 0) (((60 * ka) + 20) + 14) 0) (((60 * ka) + 20) + 15) 0) (((60 * ka) + 36) + 0) 0) (((60 * ka) + 36) + 1) 0) (((60 * ka) + 36) + 2) 0) (((60 * ka) + 36) + 3) 0) (((60 * ka) + 36) + 4) 0) (((60 * ka) + 36) + 5) 0) (((60 * ka) + 36) + 6) 0)))] rfl dX9_keep_331 (fun H locs hP hD hS => ?_)
  refine lv_iinc (v := 7) (lv' := [(2, .int 7), (1, .ref mkept), (0, .ref h0)]) hx hb dX9_keep_332 hl (k := 0) rfl (by decide) (by decide) rfl (fun ls hl => ?_)
  refine lv_goto (tgt := 309) hx hb dX9_keep_335 (by decide) ?_
  refine lv_iload_n hx hb dX9_keep_309 rfl (lv_at hl 0 rfl) ?_
  refine lv_bipush (v := 8) hx hb dX9_keep_310 (by decide) ?_
  refine lv_icmp_ge (tgt := 338) hx hb dX9_keep_312 (by decide) (fun c_312_23 => absurd c_312_23 (by decide)) (fun c_312_23 => ?_)
  refine lv_aload_n hx hb dX9_keep_315 rfl (lv_at hl 1 rfl) ?_
  refine lv_aload_n hx hb dX9_keep_316 rfl (lv_at hl 2 rfl) ?_
  refine k_get (C := RX9) (T := TX9) (N := 79) (ci := 9) (v := .int ((nI (60 * ka)))) X hE hP 0 rfl rfl iX9 44 (by decide) w_498 rfl dX9_keep_317 ?_
  refine lv_bipush (v := 36) hx hb dX9_keep_320 (by decide) ?_
  refine lv_iadd hx hb dX9_keep_322 ?_
  refine tk (y := nI ((60 * ka) + 36)) (nI_add _ 36) ?_
  refine lv_iload_n hx hb dX9_keep_323 rfl (lv_at hl 0 rfl) ?_
  refine lv_iadd hx hb dX9_keep_324 ?_
  refine tk (y := nI (((60 * ka) + 36) + 7)) (nI_add _ 7) ?_
  refine lv_aload_n hx hb dX9_keep_325 rfl (lv_at hl 2 rfl) ?_
  refine k_get (C := RX9) (T := TX9) (N := 79) (ci := 9) (v := .ref mrests) X hE hP 0 rfl rfl iX9 27 (by decide) w_356 rfl dX9_keep_326 ?_
  refine lv_iload_n hx hb dX9_keep_329 rfl (lv_at hl 0 rfl) ?_
  refine k_ald (v := 0) X hE hP 2 rfl 7 rfl (by decide) (by decide) (zr 7 (by decide)) dX9_keep_330 ?_
  refine k_ast X hE hP hD hS 3 rfl (((60 * ka) + 36) + 7) rfl (by omega) (by decide) [(h0, .inr (9, [.ref mwords, .ref mstore, .int 0, .int 0, .int 0, .int 255, .int ((nI pp)), .int 0, .int 0, .int 1, .int zz, .int 0, .int cy, .int 0, .int 0, .int 0, .int 0, .int 0, .int 0, .int 0, .int 0, .int 0, .int 0, .int 0, .int 1, .int 0, .ref mkeys, .ref mrests, .int 0, .int 0, .int 0, .int 0, .int 0, .ref mring, .ref mstrip, .ref mpins, .ref mstops, .int 0, .int 0, .int es, .ref mdone, .ref mkept, .int ((nI ka)), .int ((nI km)), .int ((nI (60 * ka))), .int 0, .ref mtape, .int 0, .int (-1), .int (-1), .ref mnameValue, .ref mnamePlace, .ref mnameEquals, .int 0, .ref mout, .int 0, .int 0, .int 0, .int 0, .int 0, .int 0, .int 0, .int 0, .int 0, .int 0, .int 0, .int 0, .int 0, .int 0, .int 0, .ref mtellFrom, .ref mtellEnd, .ref mtellValue, .ref mtellEquals, .ref mlaid, .int 0, .int 0, .int 0, .int 0])), (mkeys, .inl (cA, 16, .inl gkeys)), (mrests, .inl (cA, 8, .inl gr)), (mkept, .inl (cA, 15360, .inl (upd (upd (upd (upd (upd (upd (upd (upd (upd (upd (upd (upd (upd (upd (upd (upd (upd (upd (upd (upd (upd (upd (upd (upd (upd (upd (upd (upd (upd (upd (upd (upd (upd (upd (upd (upd (upd (upd (upd (upd (upd (upd (upd (upd gk (60 * ka) 0) ((60 * ka) + 1) 0) ((60 * ka) + 2) 0) ((60 * ka) + 3) 255) ((60 * ka) + 4) (nI pp)) ((60 * ka) + 5) ((4 + (2 * zz)) + 0)) ((60 * ka) + 6) 0) ((60 * ka) + 7) cy) ((60 * ka) + 8) 0) ((60 * ka) + 9) 0) ((60 * ka) + 10) 0) ((60 * ka) + 11) 0) ((60 * ka) + 12) 0) ((60 * ka) + 13) 0) ((60 * ka) + 14) 0) ((60 * ka) + 15) 0) ((60 * ka) + 16) 0) ((60 * ka) + 17) 0) ((60 * ka) + 18) 1) ((60 * ka) + 19) 0) (((60 * ka) + 20) + 0) 0) (((60 * ka) + 20) + 1) 0) (((60 * ka) + 20) + 2) 0) (((60 * ka) + 20) + 3) 0) (((60 * ka) + 20) + 4) 0) (((60 * ka) + 20) + 5) 0) (((60 * ka) + 20) + 6) 0) (((60 * ka) + 20) + 7) 0) (((60 * ka) + 20) + 8) 0) (((60 * ka) + 20) + 9) 0) (((60 * ka) + 20) + 10) 0) (((60 * ka) + 20) + 11) 0) (((60 * ka) + 20) + 12) 0) (((60 * ka) + 20) + 13) 0) (((60 * ka) + 20) + 14) 0) (((60 * ka) + 20) + 15) 0) (((60 * ka) + 36) + 0) 0) (((60 * ka) + 36) + 1) 0) (((60 * ka) + 36) + 2) 0) (((60 * ka) + 36) + 3) 0) (((60 * ka) + 36) + 4) 0) (((60 * ka) + 36) + 5) 0) (((60 * ka) + 36) + 6) 0) (((60 * ka) + 36) + 7) 0)))] rfl dX9_keep_331 (fun H locs hP hD hS => ?_)
  refine lv_iinc (v := 8) (lv' := [(2, .int 8), (1, .ref mkept), (0, .ref h0)]) hx hb dX9_keep_332 hl (k := 0) rfl (by decide) (by decide) rfl (fun ls hl => ?_)
  refine lv_goto (tgt := 309) hx hb dX9_keep_335 (by decide) ?_
  refine lv_iload_n hx hb dX9_keep_309 rfl (lv_at hl 0 rfl) ?_
  refine lv_bipush (v := 8) hx hb dX9_keep_310 (by decide) ?_
  refine lv_icmp_ge (tgt := 338) hx hb dX9_keep_312 (by decide) (fun c_312_24 => ?_) (fun c_312_24 => absurd (by decide) c_312_24)
  refine lv_aload_n hx hb dX9_keep_338 rfl (lv_at hl 1 rfl) ?_
  refine lv_aload_n hx hb dX9_keep_339 rfl (lv_at hl 2 rfl) ?_
  refine k_get (C := RX9) (T := TX9) (N := 79) (ci := 9) (v := .int ((nI (60 * ka)))) X hE hP 0 rfl rfl iX9 44 (by decide) w_498 rfl dX9_keep_340 ?_
  refine lv_bipush (v := 44) hx hb dX9_keep_343 (by decide) ?_
  refine lv_iadd hx hb dX9_keep_345 ?_
  refine tk (y := nI ((60 * ka) + 44)) (nI_add _ 44) ?_
  refine lv_aload_n hx hb dX9_keep_346 rfl (lv_at hl 2 rfl) ?_
  refine k_get (C := RX9) (T := TX9) (N := 79) (ci := 9) (v := .int 0) X hE hP 0 rfl rfl iX9 28 (by decide) w_408 rfl dX9_keep_347 ?_
  refine k_ast X hE hP hD hS 3 rfl ((60 * ka) + 44) rfl (by omega) (by decide) [(h0, .inr (9, [.ref mwords, .ref mstore, .int 0, .int 0, .int 0, .int 255, .int ((nI pp)), .int 0, .int 0, .int 1, .int zz, .int 0, .int cy, .int 0, .int 0, .int 0, .int 0, .int 0, .int 0, .int 0, .int 0, .int 0, .int 0, .int 0, .int 1, .int 0, .ref mkeys, .ref mrests, .int 0, .int 0, .int 0, .int 0, .int 0, .ref mring, .ref mstrip, .ref mpins, .ref mstops, .int 0, .int 0, .int es, .ref mdone, .ref mkept, .int ((nI ka)), .int ((nI km)), .int ((nI (60 * ka))), .int 0, .ref mtape, .int 0, .int (-1), .int (-1), .ref mnameValue, .ref mnamePlace, .ref mnameEquals, .int 0, .ref mout, .int 0, .int 0, .int 0, .int 0, .int 0, .int 0, .int 0, .int 0, .int 0, .int 0, .int 0, .int 0, .int 0, .int 0, .int 0, .ref mtellFrom, .ref mtellEnd, .ref mtellValue, .ref mtellEquals, .ref mlaid, .int 0, .int 0, .int 0, .int 0])), (mkeys, .inl (cA, 16, .inl gkeys)), (mrests, .inl (cA, 8, .inl gr)), (mkept, .inl (cA, 15360, .inl (upd (upd (upd (upd (upd (upd (upd (upd (upd (upd (upd (upd (upd (upd (upd (upd (upd (upd (upd (upd (upd (upd (upd (upd (upd (upd (upd (upd (upd (upd (upd (upd (upd (upd (upd (upd (upd (upd (upd (upd (upd (upd (upd (upd (upd gk (60 * ka) 0) ((60 * ka) + 1) 0) ((60 * ka) + 2) 0) ((60 * ka) + 3) 255) ((60 * ka) + 4) (nI pp)) ((60 * ka) + 5) ((4 + (2 * zz)) + 0)) ((60 * ka) + 6) 0) ((60 * ka) + 7) cy) ((60 * ka) + 8) 0) ((60 * ka) + 9) 0) ((60 * ka) + 10) 0) ((60 * ka) + 11) 0) ((60 * ka) + 12) 0) ((60 * ka) + 13) 0) ((60 * ka) + 14) 0) ((60 * ka) + 15) 0) ((60 * ka) + 16) 0) ((60 * ka) + 17) 0) ((60 * ka) + 18) 1) ((60 * ka) + 19) 0) (((60 * ka) + 20) + 0) 0) (((60 * ka) + 20) + 1) 0) (((60 * ka) + 20) + 2) 0) (((60 * ka) + 20) + 3) 0) (((60 * ka) + 20) + 4) 0) (((60 * ka) + 20) + 5) 0) (((60 * ka) + 20) + 6) 0) (((60 * ka) + 20) + 7) 0) (((60 * ka) + 20) + 8) 0) (((60 * ka) + 20) + 9) 0) (((60 * ka) + 20) + 10) 0) (((60 * ka) + 20) + 11) 0) (((60 * ka) + 20) + 12) 0) (((60 * ka) + 20) + 13) 0) (((60 * ka) + 20) + 14) 0) (((60 * ka) + 20) + 15) 0) (((60 * ka) + 36) + 0) 0) (((60 * ka) + 36) + 1) 0) (((60 * ka) + 36) + 2) 0) (((60 * ka) + 36) + 3) 0) (((60 * ka) + 36) + 4) 0) (((60 * ka) + 36) + 5) 0) (((60 * ka) + 36) + 6) 0) (((60 * ka) + 36) + 7) 0) ((60 * ka) + 44) 0)))] rfl dX9_keep_350 (fun H locs hP hD hS => ?_)
  refine lv_aload_n hx hb dX9_keep_351 rfl (lv_at hl 1 rfl) ?_
  refine lv_aload_n hx hb dX9_keep_352 rfl (lv_at hl 2 rfl) ?_
  refine k_get (C := RX9) (T := TX9) (N := 79) (ci := 9) (v := .int ((nI (60 * ka)))) X hE hP 0 rfl rfl iX9 44 (by decide) w_498 rfl dX9_keep_353 ?_
  refine lv_bipush (v := 45) hx hb dX9_keep_356 (by decide) ?_
  refine lv_iadd hx hb dX9_keep_358 ?_
  refine tk (y := nI ((60 * ka) + 45)) (nI_add _ 45) ?_
  refine lv_aload_n hx hb dX9_keep_359 rfl (lv_at hl 2 rfl) ?_
  refine k_get (C := RX9) (T := TX9) (N := 79) (ci := 9) (v := .int 0) X hE hP 0 rfl rfl iX9 29 (by decide) w_409 rfl dX9_keep_360 ?_
  refine k_ast X hE hP hD hS 3 rfl ((60 * ka) + 45) rfl (by omega) (by decide) [(h0, .inr (9, [.ref mwords, .ref mstore, .int 0, .int 0, .int 0, .int 255, .int ((nI pp)), .int 0, .int 0, .int 1, .int zz, .int 0, .int cy, .int 0, .int 0, .int 0, .int 0, .int 0, .int 0, .int 0, .int 0, .int 0, .int 0, .int 0, .int 1, .int 0, .ref mkeys, .ref mrests, .int 0, .int 0, .int 0, .int 0, .int 0, .ref mring, .ref mstrip, .ref mpins, .ref mstops, .int 0, .int 0, .int es, .ref mdone, .ref mkept, .int ((nI ka)), .int ((nI km)), .int ((nI (60 * ka))), .int 0, .ref mtape, .int 0, .int (-1), .int (-1), .ref mnameValue, .ref mnamePlace, .ref mnameEquals, .int 0, .ref mout, .int 0, .int 0, .int 0, .int 0, .int 0, .int 0, .int 0, .int 0, .int 0, .int 0, .int 0, .int 0, .int 0, .int 0, .int 0, .ref mtellFrom, .ref mtellEnd, .ref mtellValue, .ref mtellEquals, .ref mlaid, .int 0, .int 0, .int 0, .int 0])), (mkeys, .inl (cA, 16, .inl gkeys)), (mrests, .inl (cA, 8, .inl gr)), (mkept, .inl (cA, 15360, .inl (upd (upd (upd (upd (upd (upd (upd (upd (upd (upd (upd (upd (upd (upd (upd (upd (upd (upd (upd (upd (upd (upd (upd (upd (upd (upd (upd (upd (upd (upd (upd (upd (upd (upd (upd (upd (upd (upd (upd (upd (upd (upd (upd (upd (upd (upd gk (60 * ka) 0) ((60 * ka) + 1) 0) ((60 * ka) + 2) 0) ((60 * ka) + 3) 255) ((60 * ka) + 4) (nI pp)) ((60 * ka) + 5) ((4 + (2 * zz)) + 0)) ((60 * ka) + 6) 0) ((60 * ka) + 7) cy) ((60 * ka) + 8) 0) ((60 * ka) + 9) 0) ((60 * ka) + 10) 0) ((60 * ka) + 11) 0) ((60 * ka) + 12) 0) ((60 * ka) + 13) 0) ((60 * ka) + 14) 0) ((60 * ka) + 15) 0) ((60 * ka) + 16) 0) ((60 * ka) + 17) 0) ((60 * ka) + 18) 1) ((60 * ka) + 19) 0) (((60 * ka) + 20) + 0) 0) (((60 * ka) + 20) + 1) 0) (((60 * ka) + 20) + 2) 0) (((60 * ka) + 20) + 3) 0) (((60 * ka) + 20) + 4) 0) (((60 * ka) + 20) + 5) 0) (((60 * ka) + 20) + 6) 0) (((60 * ka) + 20) + 7) 0) (((60 * ka) + 20) + 8) 0) (((60 * ka) + 20) + 9) 0) (((60 * ka) + 20) + 10) 0) (((60 * ka) + 20) + 11) 0) (((60 * ka) + 20) + 12) 0) (((60 * ka) + 20) + 13) 0) (((60 * ka) + 20) + 14) 0) (((60 * ka) + 20) + 15) 0) (((60 * ka) + 36) + 0) 0) (((60 * ka) + 36) + 1) 0) (((60 * ka) + 36) + 2) 0) (((60 * ka) + 36) + 3) 0) (((60 * ka) + 36) + 4) 0) (((60 * ka) + 36) + 5) 0) (((60 * ka) + 36) + 6) 0) (((60 * ka) + 36) + 7) 0) ((60 * ka) + 44) 0) ((60 * ka) + 45) 0)))] rfl dX9_keep_363 (fun H locs hP hD hS => ?_)
  refine lv_aload_n hx hb dX9_keep_364 rfl (lv_at hl 1 rfl) ?_
  refine lv_aload_n hx hb dX9_keep_365 rfl (lv_at hl 2 rfl) ?_
  refine k_get (C := RX9) (T := TX9) (N := 79) (ci := 9) (v := .int ((nI (60 * ka)))) X hE hP 0 rfl rfl iX9 44 (by decide) w_498 rfl dX9_keep_366 ?_
  refine lv_bipush (v := 46) hx hb dX9_keep_369 (by decide) ?_
  refine lv_iadd hx hb dX9_keep_371 ?_
  refine tk (y := nI ((60 * ka) + 46)) (nI_add _ 46) ?_
  refine lv_aload_n hx hb dX9_keep_372 rfl (lv_at hl 2 rfl) ?_
  refine k_get (C := RX9) (T := TX9) (N := 79) (ci := 9) (v := .int 0) X hE hP 0 rfl rfl iX9 30 (by decide) w_410 rfl dX9_keep_373 ?_
  refine k_ast X hE hP hD hS 3 rfl ((60 * ka) + 46) rfl (by omega) (by decide) [(h0, .inr (9, [.ref mwords, .ref mstore, .int 0, .int 0, .int 0, .int 255, .int ((nI pp)), .int 0, .int 0, .int 1, .int zz, .int 0, .int cy, .int 0, .int 0, .int 0, .int 0, .int 0, .int 0, .int 0, .int 0, .int 0, .int 0, .int 0, .int 1, .int 0, .ref mkeys, .ref mrests, .int 0, .int 0, .int 0, .int 0, .int 0, .ref mring, .ref mstrip, .ref mpins, .ref mstops, .int 0, .int 0, .int es, .ref mdone, .ref mkept, .int ((nI ka)), .int ((nI km)), .int ((nI (60 * ka))), .int 0, .ref mtape, .int 0, .int (-1), .int (-1), .ref mnameValue, .ref mnamePlace, .ref mnameEquals, .int 0, .ref mout, .int 0, .int 0, .int 0, .int 0, .int 0, .int 0, .int 0, .int 0, .int 0, .int 0, .int 0, .int 0, .int 0, .int 0, .int 0, .ref mtellFrom, .ref mtellEnd, .ref mtellValue, .ref mtellEquals, .ref mlaid, .int 0, .int 0, .int 0, .int 0])), (mkeys, .inl (cA, 16, .inl gkeys)), (mrests, .inl (cA, 8, .inl gr)), (mkept, .inl (cA, 15360, .inl (upd (upd (upd (upd (upd (upd (upd (upd (upd (upd (upd (upd (upd (upd (upd (upd (upd (upd (upd (upd (upd (upd (upd (upd (upd (upd (upd (upd (upd (upd (upd (upd (upd (upd (upd (upd (upd (upd (upd (upd (upd (upd (upd (upd (upd (upd (upd gk (60 * ka) 0) ((60 * ka) + 1) 0) ((60 * ka) + 2) 0) ((60 * ka) + 3) 255) ((60 * ka) + 4) (nI pp)) ((60 * ka) + 5) ((4 + (2 * zz)) + 0)) ((60 * ka) + 6) 0) ((60 * ka) + 7) cy) ((60 * ka) + 8) 0) ((60 * ka) + 9) 0) ((60 * ka) + 10) 0) ((60 * ka) + 11) 0) ((60 * ka) + 12) 0) ((60 * ka) + 13) 0) ((60 * ka) + 14) 0) ((60 * ka) + 15) 0) ((60 * ka) + 16) 0) ((60 * ka) + 17) 0) ((60 * ka) + 18) 1) ((60 * ka) + 19) 0) (((60 * ka) + 20) + 0) 0) (((60 * ka) + 20) + 1) 0) (((60 * ka) + 20) + 2) 0) (((60 * ka) + 20) + 3) 0) (((60 * ka) + 20) + 4) 0) (((60 * ka) + 20) + 5) 0) (((60 * ka) + 20) + 6) 0) (((60 * ka) + 20) + 7) 0) (((60 * ka) + 20) + 8) 0) (((60 * ka) + 20) + 9) 0) (((60 * ka) + 20) + 10) 0) (((60 * ka) + 20) + 11) 0) (((60 * ka) + 20) + 12) 0) (((60 * ka) + 20) + 13) 0) (((60 * ka) + 20) + 14) 0) (((60 * ka) + 20) + 15) 0) (((60 * ka) + 36) + 0) 0) (((60 * ka) + 36) + 1) 0) (((60 * ka) + 36) + 2) 0) (((60 * ka) + 36) + 3) 0) (((60 * ka) + 36) + 4) 0) (((60 * ka) + 36) + 5) 0) (((60 * ka) + 36) + 6) 0) (((60 * ka) + 36) + 7) 0) ((60 * ka) + 44) 0) ((60 * ka) + 45) 0) ((60 * ka) + 46) 0)))] rfl dX9_keep_376 (fun H locs hP hD hS => ?_)
  refine lv_aload_n hx hb dX9_keep_377 rfl (lv_at hl 1 rfl) ?_
  refine lv_aload_n hx hb dX9_keep_378 rfl (lv_at hl 2 rfl) ?_
  refine k_get (C := RX9) (T := TX9) (N := 79) (ci := 9) (v := .int ((nI (60 * ka)))) X hE hP 0 rfl rfl iX9 44 (by decide) w_498 rfl dX9_keep_379 ?_
  refine lv_bipush (v := 47) hx hb dX9_keep_382 (by decide) ?_
  refine lv_iadd hx hb dX9_keep_384 ?_
  refine tk (y := nI ((60 * ka) + 47)) (nI_add _ 47) ?_
  refine lv_aload_n hx hb dX9_keep_385 rfl (lv_at hl 2 rfl) ?_
  refine k_get (C := RX9) (T := TX9) (N := 79) (ci := 9) (v := .int 0) X hE hP 0 rfl rfl iX9 31 (by decide) w_411 rfl dX9_keep_386 ?_
  refine k_ast X hE hP hD hS 3 rfl ((60 * ka) + 47) rfl (by omega) (by decide) [(h0, .inr (9, [.ref mwords, .ref mstore, .int 0, .int 0, .int 0, .int 255, .int ((nI pp)), .int 0, .int 0, .int 1, .int zz, .int 0, .int cy, .int 0, .int 0, .int 0, .int 0, .int 0, .int 0, .int 0, .int 0, .int 0, .int 0, .int 0, .int 1, .int 0, .ref mkeys, .ref mrests, .int 0, .int 0, .int 0, .int 0, .int 0, .ref mring, .ref mstrip, .ref mpins, .ref mstops, .int 0, .int 0, .int es, .ref mdone, .ref mkept, .int ((nI ka)), .int ((nI km)), .int ((nI (60 * ka))), .int 0, .ref mtape, .int 0, .int (-1), .int (-1), .ref mnameValue, .ref mnamePlace, .ref mnameEquals, .int 0, .ref mout, .int 0, .int 0, .int 0, .int 0, .int 0, .int 0, .int 0, .int 0, .int 0, .int 0, .int 0, .int 0, .int 0, .int 0, .int 0, .ref mtellFrom, .ref mtellEnd, .ref mtellValue, .ref mtellEquals, .ref mlaid, .int 0, .int 0, .int 0, .int 0])), (mkeys, .inl (cA, 16, .inl gkeys)), (mrests, .inl (cA, 8, .inl gr)), (mkept, .inl (cA, 15360, .inl (upd (upd (upd (upd (upd (upd (upd (upd (upd (upd (upd (upd (upd (upd (upd (upd (upd (upd (upd (upd (upd (upd (upd (upd (upd (upd (upd (upd (upd (upd (upd (upd (upd (upd (upd (upd (upd (upd (upd (upd (upd (upd (upd (upd (upd (upd (upd (upd gk (60 * ka) 0) ((60 * ka) + 1) 0) ((60 * ka) + 2) 0) ((60 * ka) + 3) 255) ((60 * ka) + 4) (nI pp)) ((60 * ka) + 5) ((4 + (2 * zz)) + 0)) ((60 * ka) + 6) 0) ((60 * ka) + 7) cy) ((60 * ka) + 8) 0) ((60 * ka) + 9) 0) ((60 * ka) + 10) 0) ((60 * ka) + 11) 0) ((60 * ka) + 12) 0) ((60 * ka) + 13) 0) ((60 * ka) + 14) 0) ((60 * ka) + 15) 0) ((60 * ka) + 16) 0) ((60 * ka) + 17) 0) ((60 * ka) + 18) 1) ((60 * ka) + 19) 0) (((60 * ka) + 20) + 0) 0) (((60 * ka) + 20) + 1) 0) (((60 * ka) + 20) + 2) 0) (((60 * ka) + 20) + 3) 0) (((60 * ka) + 20) + 4) 0) (((60 * ka) + 20) + 5) 0) (((60 * ka) + 20) + 6) 0) (((60 * ka) + 20) + 7) 0) (((60 * ka) + 20) + 8) 0) (((60 * ka) + 20) + 9) 0) (((60 * ka) + 20) + 10) 0) (((60 * ka) + 20) + 11) 0) (((60 * ka) + 20) + 12) 0) (((60 * ka) + 20) + 13) 0) (((60 * ka) + 20) + 14) 0) (((60 * ka) + 20) + 15) 0) (((60 * ka) + 36) + 0) 0) (((60 * ka) + 36) + 1) 0) (((60 * ka) + 36) + 2) 0) (((60 * ka) + 36) + 3) 0) (((60 * ka) + 36) + 4) 0) (((60 * ka) + 36) + 5) 0) (((60 * ka) + 36) + 6) 0) (((60 * ka) + 36) + 7) 0) ((60 * ka) + 44) 0) ((60 * ka) + 45) 0) ((60 * ka) + 46) 0) ((60 * ka) + 47) 0)))] rfl dX9_keep_389 (fun H locs hP hD hS => ?_)
  refine lv_aload_n hx hb dX9_keep_390 rfl (lv_at hl 1 rfl) ?_
  refine lv_aload_n hx hb dX9_keep_391 rfl (lv_at hl 2 rfl) ?_
  refine k_get (C := RX9) (T := TX9) (N := 79) (ci := 9) (v := .int ((nI (60 * ka)))) X hE hP 0 rfl rfl iX9 44 (by decide) w_498 rfl dX9_keep_392 ?_
  refine lv_bipush (v := 48) hx hb dX9_keep_395 (by decide) ?_
  refine lv_iadd hx hb dX9_keep_397 ?_
  refine tk (y := nI ((60 * ka) + 48)) (nI_add _ 48) ?_
  refine lv_aload_n hx hb dX9_keep_398 rfl (lv_at hl 2 rfl) ?_
  refine k_get (C := RX9) (T := TX9) (N := 79) (ci := 9) (v := .int 0) X hE hP 0 rfl rfl iX9 32 (by decide) w_412 rfl dX9_keep_399 ?_
  refine k_ast X hE hP hD hS 3 rfl ((60 * ka) + 48) rfl (by omega) (by decide) [(h0, .inr (9, [.ref mwords, .ref mstore, .int 0, .int 0, .int 0, .int 255, .int ((nI pp)), .int 0, .int 0, .int 1, .int zz, .int 0, .int cy, .int 0, .int 0, .int 0, .int 0, .int 0, .int 0, .int 0, .int 0, .int 0, .int 0, .int 0, .int 1, .int 0, .ref mkeys, .ref mrests, .int 0, .int 0, .int 0, .int 0, .int 0, .ref mring, .ref mstrip, .ref mpins, .ref mstops, .int 0, .int 0, .int es, .ref mdone, .ref mkept, .int ((nI ka)), .int ((nI km)), .int ((nI (60 * ka))), .int 0, .ref mtape, .int 0, .int (-1), .int (-1), .ref mnameValue, .ref mnamePlace, .ref mnameEquals, .int 0, .ref mout, .int 0, .int 0, .int 0, .int 0, .int 0, .int 0, .int 0, .int 0, .int 0, .int 0, .int 0, .int 0, .int 0, .int 0, .int 0, .ref mtellFrom, .ref mtellEnd, .ref mtellValue, .ref mtellEquals, .ref mlaid, .int 0, .int 0, .int 0, .int 0])), (mkeys, .inl (cA, 16, .inl gkeys)), (mrests, .inl (cA, 8, .inl gr)), (mkept, .inl (cA, 15360, .inl (upd (upd (upd (upd (upd (upd (upd (upd (upd (upd (upd (upd (upd (upd (upd (upd (upd (upd (upd (upd (upd (upd (upd (upd (upd (upd (upd (upd (upd (upd (upd (upd (upd (upd (upd (upd (upd (upd (upd (upd (upd (upd (upd (upd (upd (upd (upd (upd (upd gk (60 * ka) 0) ((60 * ka) + 1) 0) ((60 * ka) + 2) 0) ((60 * ka) + 3) 255) ((60 * ka) + 4) (nI pp)) ((60 * ka) + 5) ((4 + (2 * zz)) + 0)) ((60 * ka) + 6) 0) ((60 * ka) + 7) cy) ((60 * ka) + 8) 0) ((60 * ka) + 9) 0) ((60 * ka) + 10) 0) ((60 * ka) + 11) 0) ((60 * ka) + 12) 0) ((60 * ka) + 13) 0) ((60 * ka) + 14) 0) ((60 * ka) + 15) 0) ((60 * ka) + 16) 0) ((60 * ka) + 17) 0) ((60 * ka) + 18) 1) ((60 * ka) + 19) 0) (((60 * ka) + 20) + 0) 0) (((60 * ka) + 20) + 1) 0) (((60 * ka) + 20) + 2) 0) (((60 * ka) + 20) + 3) 0) (((60 * ka) + 20) + 4) 0) (((60 * ka) + 20) + 5) 0) (((60 * ka) + 20) + 6) 0) (((60 * ka) + 20) + 7) 0) (((60 * ka) + 20) + 8) 0) (((60 * ka) + 20) + 9) 0) (((60 * ka) + 20) + 10) 0) (((60 * ka) + 20) + 11) 0) (((60 * ka) + 20) + 12) 0) (((60 * ka) + 20) + 13) 0) (((60 * ka) + 20) + 14) 0) (((60 * ka) + 20) + 15) 0) (((60 * ka) + 36) + 0) 0) (((60 * ka) + 36) + 1) 0) (((60 * ka) + 36) + 2) 0) (((60 * ka) + 36) + 3) 0) (((60 * ka) + 36) + 4) 0) (((60 * ka) + 36) + 5) 0) (((60 * ka) + 36) + 6) 0) (((60 * ka) + 36) + 7) 0) ((60 * ka) + 44) 0) ((60 * ka) + 45) 0) ((60 * ka) + 46) 0) ((60 * ka) + 47) 0) ((60 * ka) + 48) 0)))] rfl dX9_keep_402 (fun H locs hP hD hS => ?_)
  have hP : va_P D classes [(h0, .inr (9, [.ref mwords, .ref mstore, .int 0, .int 0, .int 0, .int 255, .int ((nI pp)), .int 0, .int 0, .int 1, .int zz, .int 0, .int cy, .int 0, .int 0, .int 0, .int 0, .int 0, .int 0, .int 0, .int 0, .int 0, .int 0, .int 0, .int 1, .int 0, .ref mkeys, .ref mrests, .int 0, .int 0, .int 0, .int 0, .int 0, .ref mring, .ref mstrip, .ref mpins, .ref mstops, .int 0, .int 0, .int es, .ref mdone, .ref mkept, .int ((nI ka)), .int ((nI km)), .int ((nI (60 * ka))), .int 0, .ref mtape, .int 0, .int (-1), .int (-1), .ref mnameValue, .ref mnamePlace, .ref mnameEquals, .int 0, .ref mout, .int 0, .int 0, .int 0, .int 0, .int 0, .int 0, .int 0, .int 0, .int 0, .int 0, .int 0, .int 0, .int 0, .int 0, .int 0, .ref mtellFrom, .ref mtellEnd, .ref mtellValue, .ref mtellEquals, .ref mlaid, .int 0, .int 0, .int 0, .int 0])), (mkept, .inl (cA, 15360, .inl (upd (upd (upd (upd (upd (upd (upd (upd (upd (upd (upd (upd (upd (upd (upd (upd (upd (upd (upd (upd (upd (upd (upd (upd (upd (upd (upd (upd (upd (upd (upd (upd (upd (upd (upd (upd (upd (upd (upd (upd (upd (upd (upd (upd (upd (upd (upd (upd (upd gk (60 * ka) 0) ((60 * ka) + 1) 0) ((60 * ka) + 2) 0) ((60 * ka) + 3) 255) ((60 * ka) + 4) (nI pp)) ((60 * ka) + 5) ((4 + (2 * zz)) + 0)) ((60 * ka) + 6) 0) ((60 * ka) + 7) cy) ((60 * ka) + 8) 0) ((60 * ka) + 9) 0) ((60 * ka) + 10) 0) ((60 * ka) + 11) 0) ((60 * ka) + 12) 0) ((60 * ka) + 13) 0) ((60 * ka) + 14) 0) ((60 * ka) + 15) 0) ((60 * ka) + 16) 0) ((60 * ka) + 17) 0) ((60 * ka) + 18) 1) ((60 * ka) + 19) 0) (((60 * ka) + 20) + 0) 0) (((60 * ka) + 20) + 1) 0) (((60 * ka) + 20) + 2) 0) (((60 * ka) + 20) + 3) 0) (((60 * ka) + 20) + 4) 0) (((60 * ka) + 20) + 5) 0) (((60 * ka) + 20) + 6) 0) (((60 * ka) + 20) + 7) 0) (((60 * ka) + 20) + 8) 0) (((60 * ka) + 20) + 9) 0) (((60 * ka) + 20) + 10) 0) (((60 * ka) + 20) + 11) 0) (((60 * ka) + 20) + 12) 0) (((60 * ka) + 20) + 13) 0) (((60 * ka) + 20) + 14) 0) (((60 * ka) + 20) + 15) 0) (((60 * ka) + 36) + 0) 0) (((60 * ka) + 36) + 1) 0) (((60 * ka) + 36) + 2) 0) (((60 * ka) + 36) + 3) 0) (((60 * ka) + 36) + 4) 0) (((60 * ka) + 36) + 5) 0) (((60 * ka) + 36) + 6) 0) (((60 * ka) + 36) + 7) 0) ((60 * ka) + 44) 0) ((60 * ka) + 45) 0) ((60 * ka) + 46) 0) ((60 * ka) + 47) 0) ((60 * ka) + 48) 0))), (mkeys, .inl (cA, 16, .inl gkeys)), (mrests, .inl (cA, 8, .inl gr))] _ := hP.sub [0, 3, 1, 2] rfl
  have hD : va_D A [(h0, .inr (9, [.ref mwords, .ref mstore, .int 0, .int 0, .int 0, .int 255, .int ((nI pp)), .int 0, .int 0, .int 1, .int zz, .int 0, .int cy, .int 0, .int 0, .int 0, .int 0, .int 0, .int 0, .int 0, .int 0, .int 0, .int 0, .int 0, .int 1, .int 0, .ref mkeys, .ref mrests, .int 0, .int 0, .int 0, .int 0, .int 0, .ref mring, .ref mstrip, .ref mpins, .ref mstops, .int 0, .int 0, .int es, .ref mdone, .ref mkept, .int ((nI ka)), .int ((nI km)), .int ((nI (60 * ka))), .int 0, .ref mtape, .int 0, .int (-1), .int (-1), .ref mnameValue, .ref mnamePlace, .ref mnameEquals, .int 0, .ref mout, .int 0, .int 0, .int 0, .int 0, .int 0, .int 0, .int 0, .int 0, .int 0, .int 0, .int 0, .int 0, .int 0, .int 0, .int 0, .ref mtellFrom, .ref mtellEnd, .ref mtellValue, .ref mtellEquals, .ref mlaid, .int 0, .int 0, .int 0, .int 0])), (mkept, .inl (cA, 15360, .inl (upd (upd (upd (upd (upd (upd (upd (upd (upd (upd (upd (upd (upd (upd (upd (upd (upd (upd (upd (upd (upd (upd (upd (upd (upd (upd (upd (upd (upd (upd (upd (upd (upd (upd (upd (upd (upd (upd (upd (upd (upd (upd (upd (upd (upd (upd (upd (upd (upd gk (60 * ka) 0) ((60 * ka) + 1) 0) ((60 * ka) + 2) 0) ((60 * ka) + 3) 255) ((60 * ka) + 4) (nI pp)) ((60 * ka) + 5) ((4 + (2 * zz)) + 0)) ((60 * ka) + 6) 0) ((60 * ka) + 7) cy) ((60 * ka) + 8) 0) ((60 * ka) + 9) 0) ((60 * ka) + 10) 0) ((60 * ka) + 11) 0) ((60 * ka) + 12) 0) ((60 * ka) + 13) 0) ((60 * ka) + 14) 0) ((60 * ka) + 15) 0) ((60 * ka) + 16) 0) ((60 * ka) + 17) 0) ((60 * ka) + 18) 1) ((60 * ka) + 19) 0) (((60 * ka) + 20) + 0) 0) (((60 * ka) + 20) + 1) 0) (((60 * ka) + 20) + 2) 0) (((60 * ka) + 20) + 3) 0) (((60 * ka) + 20) + 4) 0) (((60 * ka) + 20) + 5) 0) (((60 * ka) + 20) + 6) 0) (((60 * ka) + 20) + 7) 0) (((60 * ka) + 20) + 8) 0) (((60 * ka) + 20) + 9) 0) (((60 * ka) + 20) + 10) 0) (((60 * ka) + 20) + 11) 0) (((60 * ka) + 20) + 12) 0) (((60 * ka) + 20) + 13) 0) (((60 * ka) + 20) + 14) 0) (((60 * ka) + 20) + 15) 0) (((60 * ka) + 36) + 0) 0) (((60 * ka) + 36) + 1) 0) (((60 * ka) + 36) + 2) 0) (((60 * ka) + 36) + 3) 0) (((60 * ka) + 36) + 4) 0) (((60 * ka) + 36) + 5) 0) (((60 * ka) + 36) + 6) 0) (((60 * ka) + 36) + 7) 0) ((60 * ka) + 44) 0) ((60 * ka) + 45) 0) ((60 * ka) + 46) 0) ((60 * ka) + 47) 0) ((60 * ka) + 48) 0))), (mkeys, .inl (cA, 16, .inl gkeys)), (mrests, .inl (cA, 8, .inl gr))] := hD.sub [0, 3, 1, 2] (by decide) rfl
  exact endV X hr hlocks hP hD hS dX9_keep_403 ⟨(upd (upd (upd (upd (upd (upd (upd (upd (upd (upd (upd (upd (upd (upd (upd (upd (upd (upd (upd (upd (upd (upd (upd (upd (upd (upd (upd (upd (upd (upd (upd (upd (upd (upd (upd (upd (upd (upd (upd (upd (upd (upd (upd (upd (upd (upd (upd (upd (upd gk (60 * ka) 0) ((60 * ka) + 1) 0) ((60 * ka) + 2) 0) ((60 * ka) + 3) 255) ((60 * ka) + 4) (nI pp)) ((60 * ka) + 5) ((4 + (2 * zz)) + 0)) ((60 * ka) + 6) 0) ((60 * ka) + 7) cy) ((60 * ka) + 8) 0) ((60 * ka) + 9) 0) ((60 * ka) + 10) 0) ((60 * ka) + 11) 0) ((60 * ka) + 12) 0) ((60 * ka) + 13) 0) ((60 * ka) + 14) 0) ((60 * ka) + 15) 0) ((60 * ka) + 16) 0) ((60 * ka) + 17) 0) ((60 * ka) + 18) 1) ((60 * ka) + 19) 0) (((60 * ka) + 20) + 0) 0) (((60 * ka) + 20) + 1) 0) (((60 * ka) + 20) + 2) 0) (((60 * ka) + 20) + 3) 0) (((60 * ka) + 20) + 4) 0) (((60 * ka) + 20) + 5) 0) (((60 * ka) + 20) + 6) 0) (((60 * ka) + 20) + 7) 0) (((60 * ka) + 20) + 8) 0) (((60 * ka) + 20) + 9) 0) (((60 * ka) + 20) + 10) 0) (((60 * ka) + 20) + 11) 0) (((60 * ka) + 20) + 12) 0) (((60 * ka) + 20) + 13) 0) (((60 * ka) + 20) + 14) 0) (((60 * ka) + 20) + 15) 0) (((60 * ka) + 36) + 0) 0) (((60 * ka) + 36) + 1) 0) (((60 * ka) + 36) + 2) 0) (((60 * ka) + 36) + 3) 0) (((60 * ka) + 36) + 4) 0) (((60 * ka) + 36) + 5) 0) (((60 * ka) + 36) + 6) 0) (((60 * ka) + 36) + 7) 0) ((60 * ka) + 44) 0) ((60 * ka) + 45) 0) ((60 * ka) + 46) 0) ((60 * ka) + 47) 0) ((60 * ka) + 48) 0), rfl⟩
set_option maxHeartbeats 4000000 in
set_option maxRecDepth 100000 in
theorem c_X9_flag_a76 (l : Launch) (D : va_G) (cA cB : ClassId)   : CI l yX9_flag cX9_flag 1 (some .int) 0 0 0 0 D cA cB [.int 1] [] (fun r W1 => r = 1 ∧ W1 = []) := by
  refine mkI (lv0 := [(0, .int 1)]) (by decide) (Nat.le_of_ble_eq_true rfl) rfl ?_
  intro p e s m below meth c A ls X hr hlocks hnm hE hA hP hD hS hl
  have hx := X.1
  have hb := X.2.1
  refine lv_iload_n hx hb dX9_flag_0 rfl (lv_at hl 0 rfl) ?_
  refine lv_if_eq (tgt := 8) hx hb dX9_flag_1 (by decide) (fun c_1 => absurd c_1 (by decide)) (fun c_1 => ?_)
  refine lv_iconst (v := 1) hx hb dX9_flag_4 (by decide) ?_
  refine lv_goto (tgt := 9) hx hb dX9_flag_5 (by decide) ?_
  exact endI X hr hlocks hP hD hS dX9_flag_9 ⟨rfl, rfl⟩
set_option maxHeartbeats 4000000 in
set_option maxRecDepth 100000 in
theorem c_X9_signed_a75 (l : Launch) (D : va_G) (cA cB : ClassId) (h0 : Nat) (h1 : Nat) (h2 : Nat) (x1 : Int32) (x2 : Int32) (x3 : Int32) (h3 : Nat) (h4 : Nat) (h5 : Nat) (h6 : Nat) (h7 : Nat) (h8 : Nat) (x4 : Int32) (h9 : Nat) (h10 : Nat) (x5 : Int32) (x6 : Int32) (x7 : Int32) (x8 : Int32) (h11 : Nat) (h12 : Nat) (h13 : Nat) (h14 : Nat) (h15 : Nat) (h16 : Nat) (h17 : Nat) (h18 : Nat) (h19 : Nat) (h20 : Nat)  : CI l yX9_signed cX9_signed 3 (some .int) 1 20 0 0 D cA cB [.ref h0, .int 0] [(h0, .inr (9, [.ref h1, .ref h2, .int 0, .int 0, .int 0, .int 255, .int x1, .int 0, .int 0, .int 1, .int x2, .int 0, .int x3, .int 0, .int 0, .int 0, .int 0, .int 0, .int 0, .int 0, .int 0, .int 0, .int 0, .int 0, .int 1, .int 0, .ref h3, .ref h4, .int 0, .int 0, .int 0, .int 0, .int 0, .ref h5, .ref h6, .ref h7, .ref h8, .int 0, .int 0, .int x4, .ref h9, .ref h10, .int x5, .int x6, .int x7, .int x8, .ref h11, .int 0, .int (-1), .int (-1), .ref h12, .ref h13, .ref h14, .int 0, .ref h15, .int 0, .int 0, .int 0, .int 0, .int 0, .int 0, .int 0, .int 0, .int 0, .int 0, .int 0, .int 0, .int 0, .int 0, .int 0, .ref h16, .ref h17, .ref h18, .ref h19, .ref h20, .int 0, .int 0, .int 0, .int 0])), (h2, .inl (cA, 4096, .inl (fun _ => 0)))] (fun r W1 => r = 0 ∧ W1 = [(h0, .inr (9, [.ref h1, .ref h2, .int 0, .int 0, .int 0, .int 255, .int x1, .int 0, .int 0, .int 1, .int 1, .int 0, .int x3, .int 0, .int 0, .int 0, .int 0, .int 0, .int 0, .int 0, .int 0, .int 0, .int 0, .int 0, .int 1, .int 0, .ref h3, .ref h4, .int 0, .int 0, .int 0, .int 0, .int 0, .ref h5, .ref h6, .ref h7, .ref h8, .int 0, .int 0, .int x4, .ref h9, .ref h10, .int x5, .int x6, .int x7, .int x8, .ref h11, .int 0, .int (-1), .int (-1), .ref h12, .ref h13, .ref h14, .int 0, .ref h15, .int 0, .int 0, .int 0, .int 0, .int 0, .int 0, .int 0, .int 0, .int 0, .int 0, .int 0, .int 0, .int 0, .int 0, .int 0, .ref h16, .ref h17, .ref h18, .ref h19, .ref h20, .int 0, .int 0, .int 0, .int 0])), (h2, .inl (cA, 4096, .inl (fun _ => 0)))]) := by
  refine mkI (lv0 := [(0, .ref h0), (1, .int 0)]) (by decide) (Nat.le_of_ble_eq_true rfl) rfl ?_
  intro p e s m below meth c A ls X hr hlocks hnm hE hA hP hD hS hl
  have hx := X.1
  have hb := X.2.1
  refine lv_iload_n hx hb dX9_signed_0 rfl (lv_at hl 1 rfl) ?_
  refine lv_sipush (v := 255) hx hb dX9_signed_1 (by decide) ?_
  refine lv_iand hx hb dX9_signed_4 ?_
  refine tk (y := 0) (by decide) ?_
  refine lv_istore_n (lv' := [(2, .int 0), (0, .ref h0), (1, .int 0)]) hx hb dX9_signed_5 rfl hl (by decide) rfl (fun ls hl => ?_)
  refine lv_aload_n hx hb dX9_signed_6 rfl (lv_at hl 1 rfl) ?_
  refine lv_iload_n hx hb dX9_signed_7 rfl (lv_at hl 0 rfl) ?_
  refine lv_bipush (v := 7) hx hb dX9_signed_8 (by decide) ?_
  refine lv_ishr hx hb dX9_signed_10 ?_
  refine tk (y := 0) (by decide) ?_
  refine k_put (C := RX9) (T := TX9) (N := 79) (ci := 9) (v := .int 0) (ty := .int) X hE hP hD hS 0 rfl rfl iX9 tyX9 tyX9_ok nmX9 7 (by decide) w_380 rfl (by decide +kernel) rfl rfl (Nat.le_of_ble_eq_true rfl) [(h0, .inr (9, [.ref h1, .ref h2, .int 0, .int 0, .int 0, .int 255, .int x1, .int 0, .int 0, .int 1, .int x2, .int 0, .int x3, .int 0, .int 0, .int 0, .int 0, .int 0, .int 0, .int 0, .int 0, .int 0, .int 0, .int 0, .int 1, .int 0, .ref h3, .ref h4, .int 0, .int 0, .int 0, .int 0, .int 0, .ref h5, .ref h6, .ref h7, .ref h8, .int 0, .int 0, .int x4, .ref h9, .ref h10, .int x5, .int x6, .int x7, .int x8, .ref h11, .int 0, .int (-1), .int (-1), .ref h12, .ref h13, .ref h14, .int 0, .ref h15, .int 0, .int 0, .int 0, .int 0, .int 0, .int 0, .int 0, .int 0, .int 0, .int 0, .int 0, .int 0, .int 0, .int 0, .int 0, .ref h16, .ref h17, .ref h18, .ref h19, .ref h20, .int 0, .int 0, .int 0, .int 0])), (h2, .inl (cA, 4096, .inl (fun _ => 0)))] rfl dX9_signed_11 (fun H locs hP hD hS => ?_)
  refine lv_aload_n hx hb dX9_signed_14 rfl (lv_at hl 1 rfl) ?_
  refine lv_iload_n hx hb dX9_signed_15 rfl (lv_at hl 0 rfl) ?_
  refine lv_if_ne (tgt := 23) hx hb dX9_signed_16 (by decide) (fun c_16 => absurd (by decide) c_16) (fun c_16 => ?_)
  refine lv_iconst (v := 1) hx hb dX9_signed_19 (by decide) ?_
  refine lv_goto (tgt := 24) hx hb dX9_signed_20 (by decide) ?_
  refine kSi (n3 := 1) (As := [.int 1]) (rest := [.ref h0]) X hl.1 hE hP hD hS hA [] [(h0, .inr (9, [.ref h1, .ref h2, .int 0, .int 0, .int 0, .int 255, .int x1, .int 0, .int 0, .int 1, .int x2, .int 0, .int x3, .int 0, .int 0, .int 0, .int 0, .int 0, .int 0, .int 0, .int 0, .int 0, .int 0, .int 0, .int 1, .int 0, .ref h3, .ref h4, .int 0, .int 0, .int 0, .int 0, .int 0, .ref h5, .ref h6, .ref h7, .ref h8, .int 0, .int 0, .int x4, .ref h9, .ref h10, .int x5, .int x6, .int x7, .int x8, .ref h11, .int 0, .int (-1), .int (-1), .ref h12, .ref h13, .ref h14, .int 0, .ref h15, .int 0, .int 0, .int 0, .int 0, .int 0, .int 0, .int 0, .int 0, .int 0, .int 0, .int 0, .int 0, .int 0, .int 0, .int 0, .ref h16, .ref h17, .ref h18, .ref h19, .ref h20, .int 0, .int 0, .int 0, .int 0])), (h2, .inl (cA, 4096, .inl (fun _ => 0)))] [] [0, 1] rfl rfl rfl (by decide) (by decide) (by decide) (c_X9_flag_a76 l D cA cB  ) w_436 w_387 w_435 w_437 (by decide +kernel) rfl rfl (Nat.le_of_ble_eq_true rfl) ⟨(Nat.le_of_ble_eq_true rfl), (Nat.le_of_ble_eq_true rfl)⟩ ⟨(Nat.le_of_ble_eq_true rfl), (Nat.le_of_ble_eq_true rfl)⟩ dX9_signed_24 (fun r W1 H locs hw hP hD hS => ?_)
  obtain ⟨rfl, rfl⟩ := hw
  have hP : va_P D classes [(h0, .inr (9, [.ref h1, .ref h2, .int 0, .int 0, .int 0, .int 255, .int x1, .int 0, .int 0, .int 1, .int x2, .int 0, .int x3, .int 0, .int 0, .int 0, .int 0, .int 0, .int 0, .int 0, .int 0, .int 0, .int 0, .int 0, .int 1, .int 0, .ref h3, .ref h4, .int 0, .int 0, .int 0, .int 0, .int 0, .ref h5, .ref h6, .ref h7, .ref h8, .int 0, .int 0, .int x4, .ref h9, .ref h10, .int x5, .int x6, .int x7, .int x8, .ref h11, .int 0, .int (-1), .int (-1), .ref h12, .ref h13, .ref h14, .int 0, .ref h15, .int 0, .int 0, .int 0, .int 0, .int 0, .int 0, .int 0, .int 0, .int 0, .int 0, .int 0, .int 0, .int 0, .int 0, .int 0, .ref h16, .ref h17, .ref h18, .ref h19, .ref h20, .int 0, .int 0, .int 0, .int 0])), (h2, .inl (cA, 4096, .inl (fun _ => 0)))] H := hP
  have hD : va_D A [(h0, .inr (9, [.ref h1, .ref h2, .int 0, .int 0, .int 0, .int 255, .int x1, .int 0, .int 0, .int 1, .int x2, .int 0, .int x3, .int 0, .int 0, .int 0, .int 0, .int 0, .int 0, .int 0, .int 0, .int 0, .int 0, .int 0, .int 1, .int 0, .ref h3, .ref h4, .int 0, .int 0, .int 0, .int 0, .int 0, .ref h5, .ref h6, .ref h7, .ref h8, .int 0, .int 0, .int x4, .ref h9, .ref h10, .int x5, .int x6, .int x7, .int x8, .ref h11, .int 0, .int (-1), .int (-1), .ref h12, .ref h13, .ref h14, .int 0, .ref h15, .int 0, .int 0, .int 0, .int 0, .int 0, .int 0, .int 0, .int 0, .int 0, .int 0, .int 0, .int 0, .int 0, .int 0, .int 0, .ref h16, .ref h17, .ref h18, .ref h19, .ref h20, .int 0, .int 0, .int 0, .int 0])), (h2, .inl (cA, 4096, .inl (fun _ => 0)))] := hD
  refine k_put (C := RX9) (T := TX9) (N := 79) (ci := 9) (v := .int 1) (ty := .int) X hE hP hD hS 0 rfl rfl iX9 tyX9 tyX9_ok nmX9 10 (by decide) w_383 rfl (by decide +kernel) rfl rfl (Nat.le_of_ble_eq_true rfl) [(h0, .inr (9, [.ref h1, .ref h2, .int 0, .int 0, .int 0, .int 255, .int x1, .int 0, .int 0, .int 1, .int 1, .int 0, .int x3, .int 0, .int 0, .int 0, .int 0, .int 0, .int 0, .int 0, .int 0, .int 0, .int 0, .int 0, .int 1, .int 0, .ref h3, .ref h4, .int 0, .int 0, .int 0, .int 0, .int 0, .ref h5, .ref h6, .ref h7, .ref h8, .int 0, .int 0, .int x4, .ref h9, .ref h10, .int x5, .int x6, .int x7, .int x8, .ref h11, .int 0, .int (-1), .int (-1), .ref h12, .ref h13, .ref h14, .int 0, .ref h15, .int 0, .int 0, .int 0, .int 0, .int 0, .int 0, .int 0, .int 0, .int 0, .int 0, .int 0, .int 0, .int 0, .int 0, .int 0, .ref h16, .ref h17, .ref h18, .ref h19, .ref h20, .int 0, .int 0, .int 0, .int 0])), (h2, .inl (cA, 4096, .inl (fun _ => 0)))] rfl dX9_signed_27 (fun H locs hP hD hS => ?_)
  refine lv_iload_n hx hb dX9_signed_30 rfl (lv_at hl 0 rfl) ?_
  exact endI X hr hlocks hP hD hS dX9_signed_31 ⟨rfl, rfl⟩
set_option maxHeartbeats 4000000 in
set_option maxRecDepth 100000 in
theorem c_X9_valued_a74 (l : Launch) (D : va_G) (cA cB : ClassId) (h0 : Nat) (h1 : Nat) (h2 : Nat) (x1 : Int32) (x2 : Int32) (x3 : Int32) (h3 : Nat) (h4 : Nat) (h5 : Nat) (h6 : Nat) (h7 : Nat) (h8 : Nat) (x4 : Int32) (h9 : Nat) (h10 : Nat) (x5 : Int32) (x6 : Int32) (x7 : Int32) (x8 : Int32) (h11 : Nat) (h12 : Nat) (h13 : Nat) (h14 : Nat) (h15 : Nat) (h16 : Nat) (h17 : Nat) (h18 : Nat) (h19 : Nat) (h20 : Nat)  : CI l yX9_valued cX9_valued 3 (some .int) 2 42 0 0 D cA cB [.ref h0, .int 0, .int 0] [(h0, .inr (9, [.ref h1, .ref h2, .int 0, .int 0, .int 0, .int 255, .int x1, .int 0, .int 0, .int 1, .int x2, .int 0, .int x3, .int 0, .int 0, .int 0, .int 0, .int 0, .int 0, .int 0, .int 0, .int 0, .int 0, .int 0, .int 1, .int 0, .ref h3, .ref h4, .int 0, .int 0, .int 0, .int 0, .int 0, .ref h5, .ref h6, .ref h7, .ref h8, .int 0, .int 0, .int x4, .ref h9, .ref h10, .int x5, .int x6, .int x7, .int x8, .ref h11, .int 0, .int (-1), .int (-1), .ref h12, .ref h13, .ref h14, .int 0, .ref h15, .int 0, .int 0, .int 0, .int 0, .int 0, .int 0, .int 0, .int 0, .int 0, .int 0, .int 0, .int 0, .int 0, .int 0, .int 0, .ref h16, .ref h17, .ref h18, .ref h19, .ref h20, .int 0, .int 0, .int 0, .int 0])), (h2, .inl (cA, 4096, .inl (fun _ => 0)))] (fun r W1 => r = 0 ∧ W1 = [(h0, .inr (9, [.ref h1, .ref h2, .int 0, .int 0, .int 0, .int 255, .int x1, .int 0, .int 0, .int 1, .int 1, .int 0, .int x3, .int 0, .int 0, .int 0, .int 0, .int 0, .int 0, .int 0, .int 0, .int 0, .int 0, .int 0, .int 1, .int 0, .ref h3, .ref h4, .int 0, .int 0, .int 0, .int 0, .int 0, .ref h5, .ref h6, .ref h7, .ref h8, .int 0, .int 0, .int x4, .ref h9, .ref h10, .int x5, .int x6, .int x7, .int x8, .ref h11, .int 0, .int (-1), .int (-1), .ref h12, .ref h13, .ref h14, .int 0, .ref h15, .int 0, .int 0, .int 0, .int 0, .int 0, .int 0, .int 0, .int 0, .int 0, .int 0, .int 0, .int 0, .int 0, .int 0, .int 0, .ref h16, .ref h17, .ref h18, .ref h19, .ref h20, .int 0, .int 0, .int 0, .int 0])), (h2, .inl (cA, 4096, .inl (fun _ => 0)))]) := by
  refine mkI (lv0 := [(0, .ref h0), (1, .int 0), (2, .int 0)]) (by decide) (Nat.le_of_ble_eq_true rfl) rfl ?_
  intro p e s m below meth c A ls X hr hlocks hnm hE hA hP hD hS hl
  have hx := X.1
  have hb := X.2.1
  refine lv_iload_n hx hb dX9_valued_0 rfl (lv_at hl 1 rfl) ?_
  refine lv_tableIn (tgt := 76) (off := 75) hx hb dX9_valued_1 (by decide) (by decide) (by decide) (by decide) ?_
  refine lv_aload_n hx hb dX9_valued_76 rfl (lv_at hl 0 rfl) ?_
  refine lv_aload_n hx hb dX9_valued_77 rfl (lv_at hl 0 rfl) ?_
  refine lv_iload_n hx hb dX9_valued_78 rfl (lv_at hl 2 rfl) ?_
  refine kVi (n3 := 1) (As := [.int 0]) (rest := [.ref h0]) X hl.1 hE hP hD hS hA [(h0, .inr (9, [.ref h1, .ref h2, .int 0, .int 0, .int 0, .int 255, .int x1, .int 0, .int 0, .int 1, .int x2, .int 0, .int x3, .int 0, .int 0, .int 0, .int 0, .int 0, .int 0, .int 0, .int 0, .int 0, .int 0, .int 0, .int 1, .int 0, .ref h3, .ref h4, .int 0, .int 0, .int 0, .int 0, .int 0, .ref h5, .ref h6, .ref h7, .ref h8, .int 0, .int 0, .int x4, .ref h9, .ref h10, .int x5, .int x6, .int x7, .int x8, .ref h11, .int 0, .int (-1), .int (-1), .ref h12, .ref h13, .ref h14, .int 0, .ref h15, .int 0, .int 0, .int 0, .int 0, .int 0, .int 0, .int 0, .int 0, .int 0, .int 0, .int 0, .int 0, .int 0, .int 0, .int 0, .ref h16, .ref h17, .ref h18, .ref h19, .ref h20, .int 0, .int 0, .int 0, .int 0])), (h2, .inl (cA, 4096, .inl (fun _ => 0)))] [] [0, 1] [] rfl rfl rfl (by decide) (by decide) (by decide) (c_X9_signed_a75 l D cA cB h0 h1 h2 x1 x2 x3 h3 h4 h5 h6 h7 h8 x4 h9 h10 x5 x6 x7 x8 h11 h12 h13 h14 h15 h16 h17 h18 h19 h20 ) w_505 w_387 w_504 w_506 w_507 0 (ci := 9) (T := TX9) (N := 79) rfl rfl (by decide +kernel) rfl rfl (Nat.le_of_ble_eq_true rfl) ⟨(Nat.le_of_ble_eq_true rfl), (Nat.le_of_ble_eq_true rfl)⟩ ⟨(Nat.le_of_ble_eq_true rfl), (Nat.le_of_ble_eq_true rfl)⟩ dX9_valued_79 (fun r W1 H locs hw hP hD hS => ?_)
  obtain ⟨rfl, rfl⟩ := hw
  have hP : va_P D classes [(h0, .inr (9, [.ref h1, .ref h2, .int 0, .int 0, .int 0, .int 255, .int x1, .int 0, .int 0, .int 1, .int 1, .int 0, .int x3, .int 0, .int 0, .int 0, .int 0, .int 0, .int 0, .int 0, .int 0, .int 0, .int 0, .int 0, .int 1, .int 0, .ref h3, .ref h4, .int 0, .int 0, .int 0, .int 0, .int 0, .ref h5, .ref h6, .ref h7, .ref h8, .int 0, .int 0, .int x4, .ref h9, .ref h10, .int x5, .int x6, .int x7, .int x8, .ref h11, .int 0, .int (-1), .int (-1), .ref h12, .ref h13, .ref h14, .int 0, .ref h15, .int 0, .int 0, .int 0, .int 0, .int 0, .int 0, .int 0, .int 0, .int 0, .int 0, .int 0, .int 0, .int 0, .int 0, .int 0, .ref h16, .ref h17, .ref h18, .ref h19, .ref h20, .int 0, .int 0, .int 0, .int 0])), (h2, .inl (cA, 4096, .inl (fun _ => 0)))] H := hP
  have hD : va_D A [(h0, .inr (9, [.ref h1, .ref h2, .int 0, .int 0, .int 0, .int 255, .int x1, .int 0, .int 0, .int 1, .int 1, .int 0, .int x3, .int 0, .int 0, .int 0, .int 0, .int 0, .int 0, .int 0, .int 0, .int 0, .int 0, .int 0, .int 1, .int 0, .ref h3, .ref h4, .int 0, .int 0, .int 0, .int 0, .int 0, .ref h5, .ref h6, .ref h7, .ref h8, .int 0, .int 0, .int x4, .ref h9, .ref h10, .int x5, .int x6, .int x7, .int x8, .ref h11, .int 0, .int (-1), .int (-1), .ref h12, .ref h13, .ref h14, .int 0, .ref h15, .int 0, .int 0, .int 0, .int 0, .int 0, .int 0, .int 0, .int 0, .int 0, .int 0, .int 0, .int 0, .int 0, .int 0, .int 0, .ref h16, .ref h17, .ref h18, .ref h19, .ref h20, .int 0, .int 0, .int 0, .int 0])), (h2, .inl (cA, 4096, .inl (fun _ => 0)))] := hD
  refine k_put (C := RX9) (T := TX9) (N := 79) (ci := 9) (v := .int 0) (ty := .int) X hE hP hD hS 0 rfl rfl iX9 tyX9 tyX9_ok nmX9 2 (by decide) w_376 rfl (by decide +kernel) rfl rfl (Nat.le_of_ble_eq_true rfl) [(h0, .inr (9, [.ref h1, .ref h2, .int 0, .int 0, .int 0, .int 255, .int x1, .int 0, .int 0, .int 1, .int 1, .int 0, .int x3, .int 0, .int 0, .int 0, .int 0, .int 0, .int 0, .int 0, .int 0, .int 0, .int 0, .int 0, .int 1, .int 0, .ref h3, .ref h4, .int 0, .int 0, .int 0, .int 0, .int 0, .ref h5, .ref h6, .ref h7, .ref h8, .int 0, .int 0, .int x4, .ref h9, .ref h10, .int x5, .int x6, .int x7, .int x8, .ref h11, .int 0, .int (-1), .int (-1), .ref h12, .ref h13, .ref h14, .int 0, .ref h15, .int 0, .int 0, .int 0, .int 0, .int 0, .int 0, .int 0, .int 0, .int 0, .int 0, .int 0, .int 0, .int 0, .int 0, .int 0, .ref h16, .ref h17, .ref h18, .ref h19, .ref h20, .int 0, .int 0, .int 0, .int 0])), (h2, .inl (cA, 4096, .inl (fun _ => 0)))] rfl dX9_valued_82 (fun H locs hP hD hS => ?_)
  refine lv_iconst (v := 0) hx hb dX9_valued_85 (by decide) ?_
  exact endI X hr hlocks hP hD hS dX9_valued_86 ⟨rfl, rfl⟩
set_option maxHeartbeats 4000000 in
set_option maxRecDepth 100000 in
theorem c_m_code (l : Launch) (D : va_G) (cA cB : ClassId) (h0 : Nat) (mwords : Nat) (mstore : Nat) (mkeys : Nat) (mrests : Nat) (mring : Nat) (mstrip : Nat) (mpins : Nat) (mstops : Nat) (mdone : Nat) (mkept : Nat) (mtape : Nat) (mnameValue : Nat) (mnamePlace : Nat) (mnameEquals : Nat) (mout : Nat) (mtellFrom : Nat) (mtellEnd : Nat) (mtellValue : Nat) (mtellEquals : Nat) (mlaid : Nat) (pp : Nat) (ka : Nat) (km : Nat) (zz : Int32) (cy : Int32) (aa : Int32) (wr : Int32) (es : Int32) (hpp : pp < 4096) : CI l yX9_code cX9_code 5 (some .int) 3 64 0 0 D cA cB [.ref h0] [(h0, .inr (9, [.ref mwords, .ref mstore, .int 0, .int 0, .int 0, .int 255, .int (nI pp), .int 0, .int 0, .int 1, .int zz, .int 0, .int cy, .int 0, .int 0, .int 0, .int 0, .int 0, .int 0, .int 0, .int 0, .int 0, .int 0, .int 0, .int 1, .int 0, .ref mkeys, .ref mrests, .int 0, .int 0, .int 0, .int 0, .int 0, .ref mring, .ref mstrip, .ref mpins, .ref mstops, .int 0, .int 0, .int es, .ref mdone, .ref mkept, .int (nI ka), .int (nI km), .int aa, .int wr, .ref mtape, .int 0, .int (-1), .int (-1), .ref mnameValue, .ref mnamePlace, .ref mnameEquals, .int 0, .ref mout, .int 0, .int 0, .int 0, .int 0, .int 0, .int 0, .int 0, .int 0, .int 0, .int 0, .int 0, .int 0, .int 0, .int 0, .int 0, .ref mtellFrom, .ref mtellEnd, .ref mtellValue, .ref mtellEquals, .ref mlaid, .int 0, .int 0, .int 0, .int 0])), (mstore, .inl (cA, 4096, .inl (fun _ => 0)))] (fun r W1 => ∃ (pp2 : Nat) (zz2 : Int32), r = 2 ∧ (pp2 < 4096) ∧ W1 = [(h0, .inr (9, [.ref mwords, .ref mstore, .int 0, .int 0, .int 0, .int 255, .int (nI pp2), .int 0, .int 0, .int 1, .int zz2, .int 0, .int cy, .int 0, .int 0, .int 0, .int 0, .int 0, .int 0, .int 0, .int 0, .int 0, .int 0, .int 0, .int 1, .int 0, .ref mkeys, .ref mrests, .int 0, .int 0, .int 0, .int 0, .int 0, .ref mring, .ref mstrip, .ref mpins, .ref mstops, .int 0, .int 0, .int es, .ref mdone, .ref mkept, .int (nI ka), .int (nI km), .int aa, .int wr, .ref mtape, .int 0, .int (-1), .int (-1), .ref mnameValue, .ref mnamePlace, .ref mnameEquals, .int 0, .ref mout, .int 0, .int 0, .int 0, .int 0, .int 0, .int 0, .int 0, .int 0, .int 0, .int 0, .int 0, .int 0, .int 0, .int 0, .int 0, .ref mtellFrom, .ref mtellEnd, .ref mtellValue, .ref mtellEquals, .ref mlaid, .int 0, .int 0, .int 0, .int 0])), (mstore, .inl (cA, 4096, .inl (fun _ => 0)))]) := by
  refine mkI (lv0 := [(0, .ref h0)]) (by decide) (Nat.le_of_ble_eq_true rfl) rfl ?_
  intro p e s m below meth c A ls X hr hlocks hnm hE hA hP hD hS hl
  have hx := X.1
  have hb := X.2.1
  refine lv_aload_n hx hb dX9_code_0 rfl (lv_at hl 0 rfl) ?_
  refine kVi (n3 := 0) (As := []) (rest := []) X hl.1 hE hP hD hS hA [(h0, .inr (9, [.ref mwords, .ref mstore, .int 0, .int 0, .int 0, .int 255, .int (nI pp), .int 0, .int 0, .int 1, .int zz, .int 0, .int cy, .int 0, .int 0, .int 0, .int 0, .int 0, .int 0, .int 0, .int 0, .int 0, .int 0, .int 0, .int 1, .int 0, .ref mkeys, .ref mrests, .int 0, .int 0, .int 0, .int 0, .int 0, .ref mring, .ref mstrip, .ref mpins, .ref mstops, .int 0, .int 0, .int es, .ref mdone, .ref mkept, .int (nI ka), .int (nI km), .int aa, .int wr, .ref mtape, .int 0, .int (-1), .int (-1), .ref mnameValue, .ref mnamePlace, .ref mnameEquals, .int 0, .ref mout, .int 0, .int 0, .int 0, .int 0, .int 0, .int 0, .int 0, .int 0, .int 0, .int 0, .int 0, .int 0, .int 0, .int 0, .int 0, .ref mtellFrom, .ref mtellEnd, .ref mtellValue, .ref mtellEquals, .ref mlaid, .int 0, .int 0, .int 0, .int 0])), (mstore, .inl (cA, 4096, .inl (fun _ => 0)))] [] [0, 1] [] rfl rfl rfl (by decide) (by decide) (by decide) (c_m_behind l D cA cB h0 mwords mstore mkeys mrests mring mstrip mpins mstops mdone mkept mtape mnameValue mnamePlace mnameEquals mout mtellFrom mtellEnd mtellValue mtellEquals mlaid pp ka km zz cy aa wr es hpp) w_501 w_387 w_500 w_502 w_503 0 (ci := 9) (T := TX9) (N := 79) rfl rfl (by decide +kernel) rfl rfl (Nat.le_of_ble_eq_true rfl) ⟨(Nat.le_of_ble_eq_true rfl), (Nat.le_of_ble_eq_true rfl)⟩ ⟨(Nat.le_of_ble_eq_true rfl), (Nat.le_of_ble_eq_true rfl)⟩ dX9_code_1 (fun r W1 H locs hw hP hD hS => ?_)
  obtain ⟨pp2_1, rfl, hf_2, rfl⟩ := hw
  have hP : va_P D classes [(h0, .inr (9, [.ref mwords, .ref mstore, .int 0, .int 0, .int 0, .int 255, .int (nI pp2_1), .int 0, .int 0, .int 1, .int zz, .int 0, .int cy, .int 0, .int 0, .int 0, .int 0, .int 0, .int 0, .int 0, .int 0, .int 0, .int 0, .int 0, .int 1, .int 0, .ref mkeys, .ref mrests, .int 0, .int 0, .int 0, .int 0, .int 0, .ref mring, .ref mstrip, .ref mpins, .ref mstops, .int 0, .int 0, .int es, .ref mdone, .ref mkept, .int (nI ka), .int (nI km), .int aa, .int wr, .ref mtape, .int 0, .int (-1), .int (-1), .ref mnameValue, .ref mnamePlace, .ref mnameEquals, .int 0, .ref mout, .int 0, .int 0, .int 0, .int 0, .int 0, .int 0, .int 0, .int 0, .int 0, .int 0, .int 0, .int 0, .int 0, .int 0, .int 0, .ref mtellFrom, .ref mtellEnd, .ref mtellValue, .ref mtellEquals, .ref mlaid, .int 0, .int 0, .int 0, .int 0])), (mstore, .inl (cA, 4096, .inl (fun _ => 0)))] H := hP
  have hD : va_D A [(h0, .inr (9, [.ref mwords, .ref mstore, .int 0, .int 0, .int 0, .int 255, .int (nI pp2_1), .int 0, .int 0, .int 1, .int zz, .int 0, .int cy, .int 0, .int 0, .int 0, .int 0, .int 0, .int 0, .int 0, .int 0, .int 0, .int 0, .int 0, .int 1, .int 0, .ref mkeys, .ref mrests, .int 0, .int 0, .int 0, .int 0, .int 0, .ref mring, .ref mstrip, .ref mpins, .ref mstops, .int 0, .int 0, .int es, .ref mdone, .ref mkept, .int (nI ka), .int (nI km), .int aa, .int wr, .ref mtape, .int 0, .int (-1), .int (-1), .ref mnameValue, .ref mnamePlace, .ref mnameEquals, .int 0, .ref mout, .int 0, .int 0, .int 0, .int 0, .int 0, .int 0, .int 0, .int 0, .int 0, .int 0, .int 0, .int 0, .int 0, .int 0, .int 0, .ref mtellFrom, .ref mtellEnd, .ref mtellValue, .ref mtellEquals, .ref mlaid, .int 0, .int 0, .int 0, .int 0])), (mstore, .inl (cA, 4096, .inl (fun _ => 0)))] := hD
  refine lv_istore_n (lv' := [(1, .int 0), (0, .ref h0)]) hx hb dX9_code_4 rfl hl (by decide) rfl (fun ls hl => ?_)
  refine lv_iload_n hx hb dX9_code_5 rfl (lv_at hl 0 rfl) ?_
  refine lv_iconst (v := 3) hx hb dX9_code_6 (by decide) ?_
  refine lv_ishr hx hb dX9_code_7 ?_
  refine tk (y := 0) (by decide) ?_
  refine lv_istore_n (lv' := [(2, .int 0), (1, .int 0), (0, .ref h0)]) hx hb dX9_code_8 rfl hl (by decide) rfl (fun ls hl => ?_)
  refine lv_iload_n hx hb dX9_code_9 rfl (lv_at hl 1 rfl) ?_
  refine lv_bipush (v := 7) hx hb dX9_code_10 (by decide) ?_
  refine lv_iand hx hb dX9_code_12 ?_
  refine tk (y := 0) (by decide) ?_
  refine lv_istore_n (lv' := [(3, .int 0), (2, .int 0), (1, .int 0), (0, .ref h0)]) hx hb dX9_code_13 rfl hl (by decide) rfl (fun ls hl => ?_)
  refine lv_iload_n hx hb dX9_code_14 rfl (lv_at hl 0 rfl) ?_
  refine lv_if_le (tgt := 58) hx hb dX9_code_15 (by decide) (fun c_15 => ?_) (fun c_15 => absurd (by decide) c_15)
  refine lv_aload_n hx hb dX9_code_58 rfl (lv_at hl 3 rfl) ?_
  refine kVi (n3 := 0) (As := []) (rest := []) X hl.1 hE hP hD hS hA [(h0, .inr (9, [.ref mwords, .ref mstore, .int 0, .int 0, .int 0, .int 255, .int (nI pp2_1), .int 0, .int 0, .int 1, .int zz, .int 0, .int cy, .int 0, .int 0, .int 0, .int 0, .int 0, .int 0, .int 0, .int 0, .int 0, .int 0, .int 0, .int 1, .int 0, .ref mkeys, .ref mrests, .int 0, .int 0, .int 0, .int 0, .int 0, .ref mring, .ref mstrip, .ref mpins, .ref mstops, .int 0, .int 0, .int es, .ref mdone, .ref mkept, .int (nI ka), .int (nI km), .int aa, .int wr, .ref mtape, .int 0, .int (-1), .int (-1), .ref mnameValue, .ref mnamePlace, .ref mnameEquals, .int 0, .ref mout, .int 0, .int 0, .int 0, .int 0, .int 0, .int 0, .int 0, .int 0, .int 0, .int 0, .int 0, .int 0, .int 0, .int 0, .int 0, .ref mtellFrom, .ref mtellEnd, .ref mtellValue, .ref mtellEquals, .ref mlaid, .int 0, .int 0, .int 0, .int 0])), (mstore, .inl (cA, 4096, .inl (fun _ => 0)))] [] [0, 1] [] rfl rfl rfl (by decide) (by decide) (by decide) (c_m_behind l D cA cB h0 mwords mstore mkeys mrests mring mstrip mpins mstops mdone mkept mtape mnameValue mnamePlace mnameEquals mout mtellFrom mtellEnd mtellValue mtellEquals mlaid pp2_1 ka km zz cy aa wr es hf_2) w_501 w_387 w_500 w_502 w_503 0 (ci := 9) (T := TX9) (N := 79) rfl rfl (by decide +kernel) rfl rfl (Nat.le_of_ble_eq_true rfl) ⟨(Nat.le_of_ble_eq_true rfl), (Nat.le_of_ble_eq_true rfl)⟩ ⟨(Nat.le_of_ble_eq_true rfl), (Nat.le_of_ble_eq_true rfl)⟩ dX9_code_59 (fun r W1 H locs hw hP hD hS => ?_)
  obtain ⟨pp2_3, rfl, hf_4, rfl⟩ := hw
  have hP : va_P D classes [(h0, .inr (9, [.ref mwords, .ref mstore, .int 0, .int 0, .int 0, .int 255, .int (nI pp2_3), .int 0, .int 0, .int 1, .int zz, .int 0, .int cy, .int 0, .int 0, .int 0, .int 0, .int 0, .int 0, .int 0, .int 0, .int 0, .int 0, .int 0, .int 1, .int 0, .ref mkeys, .ref mrests, .int 0, .int 0, .int 0, .int 0, .int 0, .ref mring, .ref mstrip, .ref mpins, .ref mstops, .int 0, .int 0, .int es, .ref mdone, .ref mkept, .int (nI ka), .int (nI km), .int aa, .int wr, .ref mtape, .int 0, .int (-1), .int (-1), .ref mnameValue, .ref mnamePlace, .ref mnameEquals, .int 0, .ref mout, .int 0, .int 0, .int 0, .int 0, .int 0, .int 0, .int 0, .int 0, .int 0, .int 0, .int 0, .int 0, .int 0, .int 0, .int 0, .ref mtellFrom, .ref mtellEnd, .ref mtellValue, .ref mtellEquals, .ref mlaid, .int 0, .int 0, .int 0, .int 0])), (mstore, .inl (cA, 4096, .inl (fun _ => 0)))] H := hP
  have hD : va_D A [(h0, .inr (9, [.ref mwords, .ref mstore, .int 0, .int 0, .int 0, .int 255, .int (nI pp2_3), .int 0, .int 0, .int 1, .int zz, .int 0, .int cy, .int 0, .int 0, .int 0, .int 0, .int 0, .int 0, .int 0, .int 0, .int 0, .int 0, .int 0, .int 1, .int 0, .ref mkeys, .ref mrests, .int 0, .int 0, .int 0, .int 0, .int 0, .ref mring, .ref mstrip, .ref mpins, .ref mstops, .int 0, .int 0, .int es, .ref mdone, .ref mkept, .int (nI ka), .int (nI km), .int aa, .int wr, .ref mtape, .int 0, .int (-1), .int (-1), .ref mnameValue, .ref mnamePlace, .ref mnameEquals, .int 0, .ref mout, .int 0, .int 0, .int 0, .int 0, .int 0, .int 0, .int 0, .int 0, .int 0, .int 0, .int 0, .int 0, .int 0, .int 0, .int 0, .ref mtellFrom, .ref mtellEnd, .ref mtellValue, .ref mtellEquals, .ref mlaid, .int 0, .int 0, .int 0, .int 0])), (mstore, .inl (cA, 4096, .inl (fun _ => 0)))] := hD
  refine lv_istore (lv' := [(4, .int 0), (3, .int 0), (2, .int 0), (1, .int 0), (0, .ref h0)]) hx hb dX9_code_62 hl (by decide) rfl (fun ls hl => ?_)
  refine lv_iload_n hx hb dX9_code_64 rfl (lv_at hl 2 rfl) ?_
  refine lv_bipush (v := 16) hx hb dX9_code_65 (by decide) ?_
  refine lv_icmp_ge (tgt := 80) hx hb dX9_code_67 (by decide) (fun c_67 => absurd c_67 (by decide)) (fun c_67 => ?_)
  refine lv_iconst (v := 2) hx hb dX9_code_70 (by decide) ?_
  refine lv_aload_n hx hb dX9_code_71 rfl (lv_at hl 4 rfl) ?_
  refine lv_iload_n hx hb dX9_code_72 rfl (lv_at hl 2 rfl) ?_
  refine lv_iload hx hb dX9_code_73 (lv_at hl 0 rfl) ?_
  refine kVi (n3 := 2) (As := [.int 0, .int 0]) (rest := [.int 2]) X hl.1 hE hP hD hS hA [(h0, .inr (9, [.ref mwords, .ref mstore, .int 0, .int 0, .int 0, .int 255, .int (nI pp2_3), .int 0, .int 0, .int 1, .int zz, .int 0, .int cy, .int 0, .int 0, .int 0, .int 0, .int 0, .int 0, .int 0, .int 0, .int 0, .int 0, .int 0, .int 1, .int 0, .ref mkeys, .ref mrests, .int 0, .int 0, .int 0, .int 0, .int 0, .ref mring, .ref mstrip, .ref mpins, .ref mstops, .int 0, .int 0, .int es, .ref mdone, .ref mkept, .int (nI ka), .int (nI km), .int aa, .int wr, .ref mtape, .int 0, .int (-1), .int (-1), .ref mnameValue, .ref mnamePlace, .ref mnameEquals, .int 0, .ref mout, .int 0, .int 0, .int 0, .int 0, .int 0, .int 0, .int 0, .int 0, .int 0, .int 0, .int 0, .int 0, .int 0, .int 0, .int 0, .ref mtellFrom, .ref mtellEnd, .ref mtellValue, .ref mtellEquals, .ref mlaid, .int 0, .int 0, .int 0, .int 0])), (mstore, .inl (cA, 4096, .inl (fun _ => 0)))] [] [0, 1] [] rfl rfl rfl (by decide) (by decide) (by decide) (c_X9_valued_a74 l D cA cB h0 mwords mstore (nI pp2_3) zz cy mkeys mrests mring mstrip mpins mstops es mdone mkept (nI ka) (nI km) aa wr mtape mnameValue mnamePlace mnameEquals mout mtellFrom mtellEnd mtellValue mtellEquals mlaid ) w_509 w_387 w_508 w_510 w_511 0 (ci := 9) (T := TX9) (N := 79) rfl rfl (by decide +kernel) rfl rfl (Nat.le_of_ble_eq_true rfl) ⟨(Nat.le_of_ble_eq_true rfl), (Nat.le_of_ble_eq_true rfl)⟩ ⟨(Nat.le_of_ble_eq_true rfl), (Nat.le_of_ble_eq_true rfl)⟩ dX9_code_75 (fun r W1 H locs hw hP hD hS => ?_)
  obtain ⟨rfl, rfl⟩ := hw
  have hP : va_P D classes [(h0, .inr (9, [.ref mwords, .ref mstore, .int 0, .int 0, .int 0, .int 255, .int ((nI pp2_3)), .int 0, .int 0, .int 1, .int 1, .int 0, .int cy, .int 0, .int 0, .int 0, .int 0, .int 0, .int 0, .int 0, .int 0, .int 0, .int 0, .int 0, .int 1, .int 0, .ref mkeys, .ref mrests, .int 0, .int 0, .int 0, .int 0, .int 0, .ref mring, .ref mstrip, .ref mpins, .ref mstops, .int 0, .int 0, .int es, .ref mdone, .ref mkept, .int ((nI ka)), .int ((nI km)), .int aa, .int wr, .ref mtape, .int 0, .int (-1), .int (-1), .ref mnameValue, .ref mnamePlace, .ref mnameEquals, .int 0, .ref mout, .int 0, .int 0, .int 0, .int 0, .int 0, .int 0, .int 0, .int 0, .int 0, .int 0, .int 0, .int 0, .int 0, .int 0, .int 0, .ref mtellFrom, .ref mtellEnd, .ref mtellValue, .ref mtellEquals, .ref mlaid, .int 0, .int 0, .int 0, .int 0])), (mstore, .inl (cA, 4096, .inl (fun _ => 0)))] H := hP
  have hD : va_D A [(h0, .inr (9, [.ref mwords, .ref mstore, .int 0, .int 0, .int 0, .int 255, .int ((nI pp2_3)), .int 0, .int 0, .int 1, .int 1, .int 0, .int cy, .int 0, .int 0, .int 0, .int 0, .int 0, .int 0, .int 0, .int 0, .int 0, .int 0, .int 0, .int 1, .int 0, .ref mkeys, .ref mrests, .int 0, .int 0, .int 0, .int 0, .int 0, .ref mring, .ref mstrip, .ref mpins, .ref mstops, .int 0, .int 0, .int es, .ref mdone, .ref mkept, .int ((nI ka)), .int ((nI km)), .int aa, .int wr, .ref mtape, .int 0, .int (-1), .int (-1), .ref mnameValue, .ref mnamePlace, .ref mnameEquals, .int 0, .ref mout, .int 0, .int 0, .int 0, .int 0, .int 0, .int 0, .int 0, .int 0, .int 0, .int 0, .int 0, .int 0, .int 0, .int 0, .int 0, .ref mtellFrom, .ref mtellEnd, .ref mtellValue, .ref mtellEquals, .ref mlaid, .int 0, .int 0, .int 0, .int 0])), (mstore, .inl (cA, 4096, .inl (fun _ => 0)))] := hD
  refine lv_iadd hx hb dX9_code_78 ?_
  refine tk (y := 2) (by decide) ?_
  exact endI X hr hlocks hP hD hS dX9_code_79 ⟨pp2_3, 1, rfl, hf_4, rfl⟩
set_option maxHeartbeats 4000000 in
set_option maxRecDepth 100000 in
theorem c_m_pass (l : Launch) (D : va_G) (cA cB : ClassId) (h0 : Nat) (mwords : Nat) (mstore : Nat) (mkeys : Nat) (mrests : Nat) (mring : Nat) (mstrip : Nat) (mpins : Nat) (mstops : Nat) (mdone : Nat) (mkept : Nat) (mtape : Nat) (mnameValue : Nat) (mnamePlace : Nat) (mnameEquals : Nat) (mout : Nat) (mtellFrom : Nat) (mtellEnd : Nat) (mtellValue : Nat) (mtellEquals : Nat) (mlaid : Nat) (pp : Nat) (ka : Nat) (km : Nat) (zz : Int32) (cy : Int32) (aa : Int32) (wr : Int32) (es : Int32) (gr : Nat → Int32) (zr : ∀ j, j < 8 → gr j = 0) : CI l yX9_pass cX9_pass 2 (some .boolean) 0 0 0 0 D cA cB [.ref h0] [(h0, .inr (9, [.ref mwords, .ref mstore, .int 0, .int 0, .int 0, .int 255, .int (nI pp), .int 0, .int 0, .int 1, .int zz, .int 0, .int cy, .int 0, .int 0, .int 0, .int 0, .int 0, .int 0, .int 0, .int 0, .int 0, .int 0, .int 0, .int 1, .int 0, .ref mkeys, .ref mrests, .int 0, .int 0, .int 0, .int 0, .int 0, .ref mring, .ref mstrip, .ref mpins, .ref mstops, .int 0, .int 0, .int es, .ref mdone, .ref mkept, .int (nI ka), .int (nI km), .int aa, .int wr, .ref mtape, .int 0, .int (-1), .int (-1), .ref mnameValue, .ref mnamePlace, .ref mnameEquals, .int 0, .ref mout, .int 0, .int 0, .int 0, .int 0, .int 0, .int 0, .int 0, .int 0, .int 0, .int 0, .int 0, .int 0, .int 0, .int 0, .int 0, .ref mtellFrom, .ref mtellEnd, .ref mtellValue, .ref mtellEquals, .ref mlaid, .int 0, .int 0, .int 0, .int 0])), (mrests, .inl (cA, 8, .inl gr))] (fun r W1 => ∃ (cy2 : Int32) (gr2 : Nat → Int32), r = 1 ∧ (∀ j, j < 8 → gr2 j = 0) ∧ W1 = [(h0, .inr (9, [.ref mwords, .ref mstore, .int 0, .int 0, .int 0, .int 255, .int (nI pp), .int 0, .int 0, .int 1, .int zz, .int 0, .int cy2, .int 0, .int 0, .int 0, .int 0, .int 0, .int 0, .int 0, .int 0, .int 0, .int 0, .int 0, .int 1, .int 0, .ref mkeys, .ref mrests, .int 0, .int 0, .int 0, .int 0, .int 0, .ref mring, .ref mstrip, .ref mpins, .ref mstops, .int 0, .int 0, .int es, .ref mdone, .ref mkept, .int (nI ka), .int (nI km), .int aa, .int wr, .ref mtape, .int 0, .int (-1), .int (-1), .ref mnameValue, .ref mnamePlace, .ref mnameEquals, .int 0, .ref mout, .int 0, .int 0, .int 0, .int 0, .int 0, .int 0, .int 0, .int 0, .int 0, .int 0, .int 0, .int 0, .int 0, .int 0, .int 0, .ref mtellFrom, .ref mtellEnd, .ref mtellValue, .ref mtellEquals, .ref mlaid, .int 0, .int 0, .int 0, .int 0])), (mrests, .inl (cA, 8, .inl gr2))]) := by
  refine mkI (lv0 := [(0, .ref h0)]) (by decide) (Nat.le_of_ble_eq_true rfl) rfl ?_
  intro p e s m below meth c A ls X hr hlocks hnm hE hA hP hD hS hl
  have hx := X.1
  have hb := X.2.1
  refine lv_aload_n hx hb dX9_pass_0 rfl (lv_at hl 0 rfl) ?_
  refine lv_dup hx hb dX9_pass_1 rfl ?_
  refine k_get (C := RX9) (T := TX9) (N := 79) (ci := 9) (v := .int cy) X hE hP 0 rfl rfl iX9 12 (by decide) w_413 rfl dX9_pass_2 ?_
  refine lv_iconst (v := 1) hx hb dX9_pass_5 (by decide) ?_
  refine lv_iadd hx hb dX9_pass_6 ?_
  refine k_put (C := RX9) (T := TX9) (N := 79) (ci := 9) (v := .int (cy + 1)) (ty := .int) X hE hP hD hS 0 rfl rfl iX9 tyX9 tyX9_ok nmX9 12 (by decide) w_413 rfl (by decide +kernel) rfl rfl (Nat.le_of_ble_eq_true rfl) [(h0, .inr (9, [.ref mwords, .ref mstore, .int 0, .int 0, .int 0, .int 255, .int (nI pp), .int 0, .int 0, .int 1, .int zz, .int 0, .int (cy + 1), .int 0, .int 0, .int 0, .int 0, .int 0, .int 0, .int 0, .int 0, .int 0, .int 0, .int 0, .int 1, .int 0, .ref mkeys, .ref mrests, .int 0, .int 0, .int 0, .int 0, .int 0, .ref mring, .ref mstrip, .ref mpins, .ref mstops, .int 0, .int 0, .int es, .ref mdone, .ref mkept, .int (nI ka), .int (nI km), .int aa, .int wr, .ref mtape, .int 0, .int (-1), .int (-1), .ref mnameValue, .ref mnamePlace, .ref mnameEquals, .int 0, .ref mout, .int 0, .int 0, .int 0, .int 0, .int 0, .int 0, .int 0, .int 0, .int 0, .int 0, .int 0, .int 0, .int 0, .int 0, .int 0, .ref mtellFrom, .ref mtellEnd, .ref mtellValue, .ref mtellEquals, .ref mlaid, .int 0, .int 0, .int 0, .int 0])), (mrests, .inl (cA, 8, .inl gr))] rfl dX9_pass_7 (fun H locs hP hD hS => ?_)
  refine lv_aload_n hx hb dX9_pass_10 rfl (lv_at hl 0 rfl) ?_
  refine k_get (C := RX9) (T := TX9) (N := 79) (ci := 9) (v := .int 0) X hE hP 0 rfl rfl iX9 16 (by decide) w_398 rfl dX9_pass_11 ?_
  refine lv_iconst (v := 1) hx hb dX9_pass_14 (by decide) ?_
  refine lv_icmp_ne (tgt := 63) hx hb dX9_pass_15 (by decide) (fun c_15 => ?_) (fun c_15 => absurd c_15 (by decide))
  refine lv_aload_n hx hb dX9_pass_63 rfl (lv_at hl 0 rfl) ?_
  refine k_get (C := RX9) (T := TX9) (N := 79) (ci := 9) (v := .int 0) X hE hP 0 rfl rfl iX9 17 (by decide) w_399 rfl dX9_pass_64 ?_
  refine lv_iconst (v := 1) hx hb dX9_pass_67 (by decide) ?_
  refine lv_icmp_ne (tgt := 81) hx hb dX9_pass_68 (by decide) (fun c_68 => ?_) (fun c_68 => absurd c_68 (by decide))
  refine lv_aload_n hx hb dX9_pass_81 rfl (lv_at hl 0 rfl) ?_
  refine k_get (C := RX9) (T := TX9) (N := 79) (ci := 9) (v := .int 0) X hE hP 0 rfl rfl iX9 17 (by decide) w_399 rfl dX9_pass_82 ?_
  refine lv_iconst (v := 1) hx hb dX9_pass_85 (by decide) ?_
  refine lv_icmp_ne (tgt := 149) hx hb dX9_pass_86 (by decide) (fun c_86 => ?_) (fun c_86 => absurd c_86 (by decide))
  refine lv_iconst (v := 0) hx hb dX9_pass_149 (by decide) ?_
  refine lv_istore_n (lv' := [(1, .int 0), (0, .ref h0)]) hx hb dX9_pass_150 rfl hl (by decide) rfl (fun ls hl => ?_)
  refine lv_iload_n hx hb dX9_pass_151 rfl (lv_at hl 0 rfl) ?_
  refine lv_bipush (v := 8) hx hb dX9_pass_152 (by decide) ?_
  refine lv_icmp_ge (tgt := 210) hx hb dX9_pass_154 (by decide) (fun c_154 => absurd c_154 (by decide)) (fun c_154 => ?_)
  refine lv_aload_n hx hb dX9_pass_157 rfl (lv_at hl 1 rfl) ?_
  refine lv_dup hx hb dX9_pass_158 rfl ?_
  refine k_get (C := RX9) (T := TX9) (N := 79) (ci := 9) (v := .int 0) X hE hP 0 rfl rfl iX9 21 (by decide) w_403 rfl dX9_pass_159 ?_
  refine lv_aload_n hx hb dX9_pass_162 rfl (lv_at hl 1 rfl) ?_
  refine k_get (C := RX9) (T := TX9) (N := 79) (ci := 9) (v := .ref mrests) X hE hP 0 rfl rfl iX9 27 (by decide) w_356 rfl dX9_pass_163 ?_
  refine lv_iload_n hx hb dX9_pass_166 rfl (lv_at hl 0 rfl) ?_
  refine k_ald (v := 0) X hE hP 1 rfl 0 rfl (by decide) (by decide) (zr 0 (by decide)) dX9_pass_167 ?_
  refine lv_iconst (v := 1) hx hb dX9_pass_168 (by decide) ?_
  refine lv_icmp_ne (tgt := 176) hx hb dX9_pass_169 (by decide) (fun c_169 => ?_) (fun c_169 => absurd c_169 (by decide))
  refine lv_iconst (v := 0) hx hb dX9_pass_176 (by decide) ?_
  refine lv_ior hx hb dX9_pass_177 ?_
  refine tk (y := 0) (by decide) ?_
  refine k_put (C := RX9) (T := TX9) (N := 79) (ci := 9) (v := .int 0) (ty := .int) X hE hP hD hS 0 rfl rfl iX9 tyX9 tyX9_ok nmX9 21 (by decide) w_403 rfl (by decide +kernel) rfl rfl (Nat.le_of_ble_eq_true rfl) [(h0, .inr (9, [.ref mwords, .ref mstore, .int 0, .int 0, .int 0, .int 255, .int (nI pp), .int 0, .int 0, .int 1, .int zz, .int 0, .int (cy + 1), .int 0, .int 0, .int 0, .int 0, .int 0, .int 0, .int 0, .int 0, .int 0, .int 0, .int 0, .int 1, .int 0, .ref mkeys, .ref mrests, .int 0, .int 0, .int 0, .int 0, .int 0, .ref mring, .ref mstrip, .ref mpins, .ref mstops, .int 0, .int 0, .int es, .ref mdone, .ref mkept, .int (nI ka), .int (nI km), .int aa, .int wr, .ref mtape, .int 0, .int (-1), .int (-1), .ref mnameValue, .ref mnamePlace, .ref mnameEquals, .int 0, .ref mout, .int 0, .int 0, .int 0, .int 0, .int 0, .int 0, .int 0, .int 0, .int 0, .int 0, .int 0, .int 0, .int 0, .int 0, .int 0, .ref mtellFrom, .ref mtellEnd, .ref mtellValue, .ref mtellEquals, .ref mlaid, .int 0, .int 0, .int 0, .int 0])), (mrests, .inl (cA, 8, .inl gr))] rfl dX9_pass_178 (fun H locs hP hD hS => ?_)
  refine lv_aload_n hx hb dX9_pass_181 rfl (lv_at hl 1 rfl) ?_
  refine k_get (C := RX9) (T := TX9) (N := 79) (ci := 9) (v := .ref mrests) X hE hP 0 rfl rfl iX9 27 (by decide) w_356 rfl dX9_pass_182 ?_
  refine lv_iload_n hx hb dX9_pass_185 rfl (lv_at hl 0 rfl) ?_
  refine lv_dup2_11 hx hb dX9_pass_186 rfl rfl ?_
  refine k_ald (v := 0) X hE hP 1 rfl 0 rfl (by decide) (by decide) (zr 0 (by decide)) dX9_pass_187 ?_
  refine lv_aload_n hx hb dX9_pass_188 rfl (lv_at hl 1 rfl) ?_
  refine k_get (C := RX9) (T := TX9) (N := 79) (ci := 9) (v := .ref mrests) X hE hP 0 rfl rfl iX9 27 (by decide) w_356 rfl dX9_pass_189 ?_
  refine lv_iload_n hx hb dX9_pass_192 rfl (lv_at hl 0 rfl) ?_
  refine k_ald (v := 0) X hE hP 1 rfl 0 rfl (by decide) (by decide) (zr 0 (by decide)) dX9_pass_193 ?_
  refine lv_if_le (tgt := 201) hx hb dX9_pass_194 (by decide) (fun c_194 => ?_) (fun c_194 => absurd (by decide) c_194)
  refine lv_iconst (v := 0) hx hb dX9_pass_201 (by decide) ?_
  refine lv_isub hx hb dX9_pass_202 ?_
  refine tk (y := 0) (by decide) ?_
  refine k_ast X hE hP hD hS 1 rfl 0 rfl (by decide) (by decide) [(h0, .inr (9, [.ref mwords, .ref mstore, .int 0, .int 0, .int 0, .int 255, .int (nI pp), .int 0, .int 0, .int 1, .int zz, .int 0, .int (cy + 1), .int 0, .int 0, .int 0, .int 0, .int 0, .int 0, .int 0, .int 0, .int 0, .int 0, .int 0, .int 1, .int 0, .ref mkeys, .ref mrests, .int 0, .int 0, .int 0, .int 0, .int 0, .ref mring, .ref mstrip, .ref mpins, .ref mstops, .int 0, .int 0, .int es, .ref mdone, .ref mkept, .int (nI ka), .int (nI km), .int aa, .int wr, .ref mtape, .int 0, .int (-1), .int (-1), .ref mnameValue, .ref mnamePlace, .ref mnameEquals, .int 0, .ref mout, .int 0, .int 0, .int 0, .int 0, .int 0, .int 0, .int 0, .int 0, .int 0, .int 0, .int 0, .int 0, .int 0, .int 0, .int 0, .ref mtellFrom, .ref mtellEnd, .ref mtellValue, .ref mtellEquals, .ref mlaid, .int 0, .int 0, .int 0, .int 0])), (mrests, .inl (cA, 8, .inl (upd gr 0 0)))] rfl dX9_pass_203 (fun H locs hP hD hS => ?_)
  refine lv_iinc (v := 1) (lv' := [(1, .int 1), (0, .ref h0)]) hx hb dX9_pass_204 hl (k := 0) rfl (by decide) (by decide) rfl (fun ls hl => ?_)
  refine lv_goto (tgt := 151) hx hb dX9_pass_207 (by decide) ?_
  refine lv_iload_n hx hb dX9_pass_151 rfl (lv_at hl 0 rfl) ?_
  refine lv_bipush (v := 8) hx hb dX9_pass_152 (by decide) ?_
  refine lv_icmp_ge (tgt := 210) hx hb dX9_pass_154 (by decide) (fun c_154_1 => absurd c_154_1 (by decide)) (fun c_154_1 => ?_)
  refine lv_aload_n hx hb dX9_pass_157 rfl (lv_at hl 1 rfl) ?_
  refine lv_dup hx hb dX9_pass_158 rfl ?_
  refine k_get (C := RX9) (T := TX9) (N := 79) (ci := 9) (v := .int 0) X hE hP 0 rfl rfl iX9 21 (by decide) w_403 rfl dX9_pass_159 ?_
  refine lv_aload_n hx hb dX9_pass_162 rfl (lv_at hl 1 rfl) ?_
  refine k_get (C := RX9) (T := TX9) (N := 79) (ci := 9) (v := .ref mrests) X hE hP 0 rfl rfl iX9 27 (by decide) w_356 rfl dX9_pass_163 ?_
  refine lv_iload_n hx hb dX9_pass_166 rfl (lv_at hl 0 rfl) ?_
  refine k_ald (v := 0) X hE hP 1 rfl 1 rfl (by decide) (by decide) (zr 1 (by decide)) dX9_pass_167 ?_
  refine lv_iconst (v := 1) hx hb dX9_pass_168 (by decide) ?_
  refine lv_icmp_ne (tgt := 176) hx hb dX9_pass_169 (by decide) (fun c_169_2 => ?_) (fun c_169_2 => absurd c_169_2 (by decide))
  refine lv_iconst (v := 0) hx hb dX9_pass_176 (by decide) ?_
  refine lv_ior hx hb dX9_pass_177 ?_
  refine tk (y := 0) (by decide) ?_
  refine k_put (C := RX9) (T := TX9) (N := 79) (ci := 9) (v := .int 0) (ty := .int) X hE hP hD hS 0 rfl rfl iX9 tyX9 tyX9_ok nmX9 21 (by decide) w_403 rfl (by decide +kernel) rfl rfl (Nat.le_of_ble_eq_true rfl) [(h0, .inr (9, [.ref mwords, .ref mstore, .int 0, .int 0, .int 0, .int 255, .int (nI pp), .int 0, .int 0, .int 1, .int zz, .int 0, .int (cy + 1), .int 0, .int 0, .int 0, .int 0, .int 0, .int 0, .int 0, .int 0, .int 0, .int 0, .int 0, .int 1, .int 0, .ref mkeys, .ref mrests, .int 0, .int 0, .int 0, .int 0, .int 0, .ref mring, .ref mstrip, .ref mpins, .ref mstops, .int 0, .int 0, .int es, .ref mdone, .ref mkept, .int (nI ka), .int (nI km), .int aa, .int wr, .ref mtape, .int 0, .int (-1), .int (-1), .ref mnameValue, .ref mnamePlace, .ref mnameEquals, .int 0, .ref mout, .int 0, .int 0, .int 0, .int 0, .int 0, .int 0, .int 0, .int 0, .int 0, .int 0, .int 0, .int 0, .int 0, .int 0, .int 0, .ref mtellFrom, .ref mtellEnd, .ref mtellValue, .ref mtellEquals, .ref mlaid, .int 0, .int 0, .int 0, .int 0])), (mrests, .inl (cA, 8, .inl (upd gr 0 0)))] rfl dX9_pass_178 (fun H locs hP hD hS => ?_)
  refine lv_aload_n hx hb dX9_pass_181 rfl (lv_at hl 1 rfl) ?_
  refine k_get (C := RX9) (T := TX9) (N := 79) (ci := 9) (v := .ref mrests) X hE hP 0 rfl rfl iX9 27 (by decide) w_356 rfl dX9_pass_182 ?_
  refine lv_iload_n hx hb dX9_pass_185 rfl (lv_at hl 0 rfl) ?_
  refine lv_dup2_11 hx hb dX9_pass_186 rfl rfl ?_
  refine k_ald (v := 0) X hE hP 1 rfl 1 rfl (by decide) (by decide) (zr 1 (by decide)) dX9_pass_187 ?_
  refine lv_aload_n hx hb dX9_pass_188 rfl (lv_at hl 1 rfl) ?_
  refine k_get (C := RX9) (T := TX9) (N := 79) (ci := 9) (v := .ref mrests) X hE hP 0 rfl rfl iX9 27 (by decide) w_356 rfl dX9_pass_189 ?_
  refine lv_iload_n hx hb dX9_pass_192 rfl (lv_at hl 0 rfl) ?_
  refine k_ald (v := 0) X hE hP 1 rfl 1 rfl (by decide) (by decide) (zr 1 (by decide)) dX9_pass_193 ?_
  refine lv_if_le (tgt := 201) hx hb dX9_pass_194 (by decide) (fun c_194_3 => ?_) (fun c_194_3 => absurd (by decide) c_194_3)
  refine lv_iconst (v := 0) hx hb dX9_pass_201 (by decide) ?_
  refine lv_isub hx hb dX9_pass_202 ?_
  refine tk (y := 0) (by decide) ?_
  refine k_ast X hE hP hD hS 1 rfl 1 rfl (by decide) (by decide) [(h0, .inr (9, [.ref mwords, .ref mstore, .int 0, .int 0, .int 0, .int 255, .int (nI pp), .int 0, .int 0, .int 1, .int zz, .int 0, .int (cy + 1), .int 0, .int 0, .int 0, .int 0, .int 0, .int 0, .int 0, .int 0, .int 0, .int 0, .int 0, .int 1, .int 0, .ref mkeys, .ref mrests, .int 0, .int 0, .int 0, .int 0, .int 0, .ref mring, .ref mstrip, .ref mpins, .ref mstops, .int 0, .int 0, .int es, .ref mdone, .ref mkept, .int (nI ka), .int (nI km), .int aa, .int wr, .ref mtape, .int 0, .int (-1), .int (-1), .ref mnameValue, .ref mnamePlace, .ref mnameEquals, .int 0, .ref mout, .int 0, .int 0, .int 0, .int 0, .int 0, .int 0, .int 0, .int 0, .int 0, .int 0, .int 0, .int 0, .int 0, .int 0, .int 0, .ref mtellFrom, .ref mtellEnd, .ref mtellValue, .ref mtellEquals, .ref mlaid, .int 0, .int 0, .int 0, .int 0])), (mrests, .inl (cA, 8, .inl (upd (upd gr 0 0) 1 0)))] rfl dX9_pass_203 (fun H locs hP hD hS => ?_)
  refine lv_iinc (v := 2) (lv' := [(1, .int 2), (0, .ref h0)]) hx hb dX9_pass_204 hl (k := 0) rfl (by decide) (by decide) rfl (fun ls hl => ?_)
  refine lv_goto (tgt := 151) hx hb dX9_pass_207 (by decide) ?_
  refine lv_iload_n hx hb dX9_pass_151 rfl (lv_at hl 0 rfl) ?_
  refine lv_bipush (v := 8) hx hb dX9_pass_152 (by decide) ?_
  refine lv_icmp_ge (tgt := 210) hx hb dX9_pass_154 (by decide) (fun c_154_4 => absurd c_154_4 (by decide)) (fun c_154_4 => ?_)
  refine lv_aload_n hx hb dX9_pass_157 rfl (lv_at hl 1 rfl) ?_
  refine lv_dup hx hb dX9_pass_158 rfl ?_
  refine k_get (C := RX9) (T := TX9) (N := 79) (ci := 9) (v := .int 0) X hE hP 0 rfl rfl iX9 21 (by decide) w_403 rfl dX9_pass_159 ?_
  refine lv_aload_n hx hb dX9_pass_162 rfl (lv_at hl 1 rfl) ?_
  refine k_get (C := RX9) (T := TX9) (N := 79) (ci := 9) (v := .ref mrests) X hE hP 0 rfl rfl iX9 27 (by decide) w_356 rfl dX9_pass_163 ?_
  refine lv_iload_n hx hb dX9_pass_166 rfl (lv_at hl 0 rfl) ?_
  refine k_ald (v := 0) X hE hP 1 rfl 2 rfl (by decide) (by decide) (zr 2 (by decide)) dX9_pass_167 ?_
  refine lv_iconst (v := 1) hx hb dX9_pass_168 (by decide) ?_
  refine lv_icmp_ne (tgt := 176) hx hb dX9_pass_169 (by decide) (fun c_169_5 => ?_) (fun c_169_5 => absurd c_169_5 (by decide))
  refine lv_iconst (v := 0) hx hb dX9_pass_176 (by decide) ?_
  refine lv_ior hx hb dX9_pass_177 ?_
  refine tk (y := 0) (by decide) ?_
  refine k_put (C := RX9) (T := TX9) (N := 79) (ci := 9) (v := .int 0) (ty := .int) X hE hP hD hS 0 rfl rfl iX9 tyX9 tyX9_ok nmX9 21 (by decide) w_403 rfl (by decide +kernel) rfl rfl (Nat.le_of_ble_eq_true rfl) [(h0, .inr (9, [.ref mwords, .ref mstore, .int 0, .int 0, .int 0, .int 255, .int (nI pp), .int 0, .int 0, .int 1, .int zz, .int 0, .int (cy + 1), .int 0, .int 0, .int 0, .int 0, .int 0, .int 0, .int 0, .int 0, .int 0, .int 0, .int 0, .int 1, .int 0, .ref mkeys, .ref mrests, .int 0, .int 0, .int 0, .int 0, .int 0, .ref mring, .ref mstrip, .ref mpins, .ref mstops, .int 0, .int 0, .int es, .ref mdone, .ref mkept, .int (nI ka), .int (nI km), .int aa, .int wr, .ref mtape, .int 0, .int (-1), .int (-1), .ref mnameValue, .ref mnamePlace, .ref mnameEquals, .int 0, .ref mout, .int 0, .int 0, .int 0, .int 0, .int 0, .int 0, .int 0, .int 0, .int 0, .int 0, .int 0, .int 0, .int 0, .int 0, .int 0, .ref mtellFrom, .ref mtellEnd, .ref mtellValue, .ref mtellEquals, .ref mlaid, .int 0, .int 0, .int 0, .int 0])), (mrests, .inl (cA, 8, .inl (upd (upd gr 0 0) 1 0)))] rfl dX9_pass_178 (fun H locs hP hD hS => ?_)
  refine lv_aload_n hx hb dX9_pass_181 rfl (lv_at hl 1 rfl) ?_
  refine k_get (C := RX9) (T := TX9) (N := 79) (ci := 9) (v := .ref mrests) X hE hP 0 rfl rfl iX9 27 (by decide) w_356 rfl dX9_pass_182 ?_
  refine lv_iload_n hx hb dX9_pass_185 rfl (lv_at hl 0 rfl) ?_
  refine lv_dup2_11 hx hb dX9_pass_186 rfl rfl ?_
  refine k_ald (v := 0) X hE hP 1 rfl 2 rfl (by decide) (by decide) (zr 2 (by decide)) dX9_pass_187 ?_
  refine lv_aload_n hx hb dX9_pass_188 rfl (lv_at hl 1 rfl) ?_
  refine k_get (C := RX9) (T := TX9) (N := 79) (ci := 9) (v := .ref mrests) X hE hP 0 rfl rfl iX9 27 (by decide) w_356 rfl dX9_pass_189 ?_
  refine lv_iload_n hx hb dX9_pass_192 rfl (lv_at hl 0 rfl) ?_
  refine k_ald (v := 0) X hE hP 1 rfl 2 rfl (by decide) (by decide) (zr 2 (by decide)) dX9_pass_193 ?_
  refine lv_if_le (tgt := 201) hx hb dX9_pass_194 (by decide) (fun c_194_6 => ?_) (fun c_194_6 => absurd (by decide) c_194_6)
  refine lv_iconst (v := 0) hx hb dX9_pass_201 (by decide) ?_
  refine lv_isub hx hb dX9_pass_202 ?_
  refine tk (y := 0) (by decide) ?_
  refine k_ast X hE hP hD hS 1 rfl 2 rfl (by decide) (by decide) [(h0, .inr (9, [.ref mwords, .ref mstore, .int 0, .int 0, .int 0, .int 255, .int (nI pp), .int 0, .int 0, .int 1, .int zz, .int 0, .int (cy + 1), .int 0, .int 0, .int 0, .int 0, .int 0, .int 0, .int 0, .int 0, .int 0, .int 0, .int 0, .int 1, .int 0, .ref mkeys, .ref mrests, .int 0, .int 0, .int 0, .int 0, .int 0, .ref mring, .ref mstrip, .ref mpins, .ref mstops, .int 0, .int 0, .int es, .ref mdone, .ref mkept, .int (nI ka), .int (nI km), .int aa, .int wr, .ref mtape, .int 0, .int (-1), .int (-1), .ref mnameValue, .ref mnamePlace, .ref mnameEquals, .int 0, .ref mout, .int 0, .int 0, .int 0, .int 0, .int 0, .int 0, .int 0, .int 0, .int 0, .int 0, .int 0, .int 0, .int 0, .int 0, .int 0, .ref mtellFrom, .ref mtellEnd, .ref mtellValue, .ref mtellEquals, .ref mlaid, .int 0, .int 0, .int 0, .int 0])), (mrests, .inl (cA, 8, .inl (upd (upd (upd gr 0 0) 1 0) 2 0)))] rfl dX9_pass_203 (fun H locs hP hD hS => ?_)
  refine lv_iinc (v := 3) (lv' := [(1, .int 3), (0, .ref h0)]) hx hb dX9_pass_204 hl (k := 0) rfl (by decide) (by decide) rfl (fun ls hl => ?_)
  refine lv_goto (tgt := 151) hx hb dX9_pass_207 (by decide) ?_
  refine lv_iload_n hx hb dX9_pass_151 rfl (lv_at hl 0 rfl) ?_
  refine lv_bipush (v := 8) hx hb dX9_pass_152 (by decide) ?_
  refine lv_icmp_ge (tgt := 210) hx hb dX9_pass_154 (by decide) (fun c_154_7 => absurd c_154_7 (by decide)) (fun c_154_7 => ?_)
  refine lv_aload_n hx hb dX9_pass_157 rfl (lv_at hl 1 rfl) ?_
  refine lv_dup hx hb dX9_pass_158 rfl ?_
  refine k_get (C := RX9) (T := TX9) (N := 79) (ci := 9) (v := .int 0) X hE hP 0 rfl rfl iX9 21 (by decide) w_403 rfl dX9_pass_159 ?_
  refine lv_aload_n hx hb dX9_pass_162 rfl (lv_at hl 1 rfl) ?_
  refine k_get (C := RX9) (T := TX9) (N := 79) (ci := 9) (v := .ref mrests) X hE hP 0 rfl rfl iX9 27 (by decide) w_356 rfl dX9_pass_163 ?_
  refine lv_iload_n hx hb dX9_pass_166 rfl (lv_at hl 0 rfl) ?_
  refine k_ald (v := 0) X hE hP 1 rfl 3 rfl (by decide) (by decide) (zr 3 (by decide)) dX9_pass_167 ?_
  refine lv_iconst (v := 1) hx hb dX9_pass_168 (by decide) ?_
  refine lv_icmp_ne (tgt := 176) hx hb dX9_pass_169 (by decide) (fun c_169_8 => ?_) (fun c_169_8 => absurd c_169_8 (by decide))
  refine lv_iconst (v := 0) hx hb dX9_pass_176 (by decide) ?_
  refine lv_ior hx hb dX9_pass_177 ?_
  refine tk (y := 0) (by decide) ?_
  refine k_put (C := RX9) (T := TX9) (N := 79) (ci := 9) (v := .int 0) (ty := .int) X hE hP hD hS 0 rfl rfl iX9 tyX9 tyX9_ok nmX9 21 (by decide) w_403 rfl (by decide +kernel) rfl rfl (Nat.le_of_ble_eq_true rfl) [(h0, .inr (9, [.ref mwords, .ref mstore, .int 0, .int 0, .int 0, .int 255, .int (nI pp), .int 0, .int 0, .int 1, .int zz, .int 0, .int (cy + 1), .int 0, .int 0, .int 0, .int 0, .int 0, .int 0, .int 0, .int 0, .int 0, .int 0, .int 0, .int 1, .int 0, .ref mkeys, .ref mrests, .int 0, .int 0, .int 0, .int 0, .int 0, .ref mring, .ref mstrip, .ref mpins, .ref mstops, .int 0, .int 0, .int es, .ref mdone, .ref mkept, .int (nI ka), .int (nI km), .int aa, .int wr, .ref mtape, .int 0, .int (-1), .int (-1), .ref mnameValue, .ref mnamePlace, .ref mnameEquals, .int 0, .ref mout, .int 0, .int 0, .int 0, .int 0, .int 0, .int 0, .int 0, .int 0, .int 0, .int 0, .int 0, .int 0, .int 0, .int 0, .int 0, .ref mtellFrom, .ref mtellEnd, .ref mtellValue, .ref mtellEquals, .ref mlaid, .int 0, .int 0, .int 0, .int 0])), (mrests, .inl (cA, 8, .inl (upd (upd (upd gr 0 0) 1 0) 2 0)))] rfl dX9_pass_178 (fun H locs hP hD hS => ?_)
  refine lv_aload_n hx hb dX9_pass_181 rfl (lv_at hl 1 rfl) ?_
  refine k_get (C := RX9) (T := TX9) (N := 79) (ci := 9) (v := .ref mrests) X hE hP 0 rfl rfl iX9 27 (by decide) w_356 rfl dX9_pass_182 ?_
  refine lv_iload_n hx hb dX9_pass_185 rfl (lv_at hl 0 rfl) ?_
  refine lv_dup2_11 hx hb dX9_pass_186 rfl rfl ?_
  refine k_ald (v := 0) X hE hP 1 rfl 3 rfl (by decide) (by decide) (zr 3 (by decide)) dX9_pass_187 ?_
  refine lv_aload_n hx hb dX9_pass_188 rfl (lv_at hl 1 rfl) ?_
  refine k_get (C := RX9) (T := TX9) (N := 79) (ci := 9) (v := .ref mrests) X hE hP 0 rfl rfl iX9 27 (by decide) w_356 rfl dX9_pass_189 ?_
  refine lv_iload_n hx hb dX9_pass_192 rfl (lv_at hl 0 rfl) ?_
  refine k_ald (v := 0) X hE hP 1 rfl 3 rfl (by decide) (by decide) (zr 3 (by decide)) dX9_pass_193 ?_
  refine lv_if_le (tgt := 201) hx hb dX9_pass_194 (by decide) (fun c_194_9 => ?_) (fun c_194_9 => absurd (by decide) c_194_9)
  refine lv_iconst (v := 0) hx hb dX9_pass_201 (by decide) ?_
  refine lv_isub hx hb dX9_pass_202 ?_
  refine tk (y := 0) (by decide) ?_
  refine k_ast X hE hP hD hS 1 rfl 3 rfl (by decide) (by decide) [(h0, .inr (9, [.ref mwords, .ref mstore, .int 0, .int 0, .int 0, .int 255, .int (nI pp), .int 0, .int 0, .int 1, .int zz, .int 0, .int (cy + 1), .int 0, .int 0, .int 0, .int 0, .int 0, .int 0, .int 0, .int 0, .int 0, .int 0, .int 0, .int 1, .int 0, .ref mkeys, .ref mrests, .int 0, .int 0, .int 0, .int 0, .int 0, .ref mring, .ref mstrip, .ref mpins, .ref mstops, .int 0, .int 0, .int es, .ref mdone, .ref mkept, .int (nI ka), .int (nI km), .int aa, .int wr, .ref mtape, .int 0, .int (-1), .int (-1), .ref mnameValue, .ref mnamePlace, .ref mnameEquals, .int 0, .ref mout, .int 0, .int 0, .int 0, .int 0, .int 0, .int 0, .int 0, .int 0, .int 0, .int 0, .int 0, .int 0, .int 0, .int 0, .int 0, .ref mtellFrom, .ref mtellEnd, .ref mtellValue, .ref mtellEquals, .ref mlaid, .int 0, .int 0, .int 0, .int 0])), (mrests, .inl (cA, 8, .inl (upd (upd (upd (upd gr 0 0) 1 0) 2 0) 3 0)))] rfl dX9_pass_203 (fun H locs hP hD hS => ?_)
  refine lv_iinc (v := 4) (lv' := [(1, .int 4), (0, .ref h0)]) hx hb dX9_pass_204 hl (k := 0) rfl (by decide) (by decide) rfl (fun ls hl => ?_)
  refine lv_goto (tgt := 151) hx hb dX9_pass_207 (by decide) ?_
  refine lv_iload_n hx hb dX9_pass_151 rfl (lv_at hl 0 rfl) ?_
  refine lv_bipush (v := 8) hx hb dX9_pass_152 (by decide) ?_
  refine lv_icmp_ge (tgt := 210) hx hb dX9_pass_154 (by decide) (fun c_154_10 => absurd c_154_10 (by decide)) (fun c_154_10 => ?_)
  refine lv_aload_n hx hb dX9_pass_157 rfl (lv_at hl 1 rfl) ?_
  refine lv_dup hx hb dX9_pass_158 rfl ?_
  refine k_get (C := RX9) (T := TX9) (N := 79) (ci := 9) (v := .int 0) X hE hP 0 rfl rfl iX9 21 (by decide) w_403 rfl dX9_pass_159 ?_
  refine lv_aload_n hx hb dX9_pass_162 rfl (lv_at hl 1 rfl) ?_
  refine k_get (C := RX9) (T := TX9) (N := 79) (ci := 9) (v := .ref mrests) X hE hP 0 rfl rfl iX9 27 (by decide) w_356 rfl dX9_pass_163 ?_
  refine lv_iload_n hx hb dX9_pass_166 rfl (lv_at hl 0 rfl) ?_
  refine k_ald (v := 0) X hE hP 1 rfl 4 rfl (by decide) (by decide) (zr 4 (by decide)) dX9_pass_167 ?_
  refine lv_iconst (v := 1) hx hb dX9_pass_168 (by decide) ?_
  refine lv_icmp_ne (tgt := 176) hx hb dX9_pass_169 (by decide) (fun c_169_11 => ?_) (fun c_169_11 => absurd c_169_11 (by decide))
  refine lv_iconst (v := 0) hx hb dX9_pass_176 (by decide) ?_
  refine lv_ior hx hb dX9_pass_177 ?_
  refine tk (y := 0) (by decide) ?_
  refine k_put (C := RX9) (T := TX9) (N := 79) (ci := 9) (v := .int 0) (ty := .int) X hE hP hD hS 0 rfl rfl iX9 tyX9 tyX9_ok nmX9 21 (by decide) w_403 rfl (by decide +kernel) rfl rfl (Nat.le_of_ble_eq_true rfl) [(h0, .inr (9, [.ref mwords, .ref mstore, .int 0, .int 0, .int 0, .int 255, .int (nI pp), .int 0, .int 0, .int 1, .int zz, .int 0, .int (cy + 1), .int 0, .int 0, .int 0, .int 0, .int 0, .int 0, .int 0, .int 0, .int 0, .int 0, .int 0, .int 1, .int 0, .ref mkeys, .ref mrests, .int 0, .int 0, .int 0, .int 0, .int 0, .ref mring, .ref mstrip, .ref mpins, .ref mstops, .int 0, .int 0, .int es, .ref mdone, .ref mkept, .int (nI ka), .int (nI km), .int aa, .int wr, .ref mtape, .int 0, .int (-1), .int (-1), .ref mnameValue, .ref mnamePlace, .ref mnameEquals, .int 0, .ref mout, .int 0, .int 0, .int 0, .int 0, .int 0, .int 0, .int 0, .int 0, .int 0, .int 0, .int 0, .int 0, .int 0, .int 0, .int 0, .ref mtellFrom, .ref mtellEnd, .ref mtellValue, .ref mtellEquals, .ref mlaid, .int 0, .int 0, .int 0, .int 0])), (mrests, .inl (cA, 8, .inl (upd (upd (upd (upd gr 0 0) 1 0) 2 0) 3 0)))] rfl dX9_pass_178 (fun H locs hP hD hS => ?_)
  refine lv_aload_n hx hb dX9_pass_181 rfl (lv_at hl 1 rfl) ?_
  refine k_get (C := RX9) (T := TX9) (N := 79) (ci := 9) (v := .ref mrests) X hE hP 0 rfl rfl iX9 27 (by decide) w_356 rfl dX9_pass_182 ?_
  refine lv_iload_n hx hb dX9_pass_185 rfl (lv_at hl 0 rfl) ?_
  refine lv_dup2_11 hx hb dX9_pass_186 rfl rfl ?_
  refine k_ald (v := 0) X hE hP 1 rfl 4 rfl (by decide) (by decide) (zr 4 (by decide)) dX9_pass_187 ?_
  refine lv_aload_n hx hb dX9_pass_188 rfl (lv_at hl 1 rfl) ?_
  refine k_get (C := RX9) (T := TX9) (N := 79) (ci := 9) (v := .ref mrests) X hE hP 0 rfl rfl iX9 27 (by decide) w_356 rfl dX9_pass_189 ?_
  refine lv_iload_n hx hb dX9_pass_192 rfl (lv_at hl 0 rfl) ?_
  refine k_ald (v := 0) X hE hP 1 rfl 4 rfl (by decide) (by decide) (zr 4 (by decide)) dX9_pass_193 ?_
  refine lv_if_le (tgt := 201) hx hb dX9_pass_194 (by decide) (fun c_194_12 => ?_) (fun c_194_12 => absurd (by decide) c_194_12)
  refine lv_iconst (v := 0) hx hb dX9_pass_201 (by decide) ?_
  refine lv_isub hx hb dX9_pass_202 ?_
  refine tk (y := 0) (by decide) ?_
  refine k_ast X hE hP hD hS 1 rfl 4 rfl (by decide) (by decide) [(h0, .inr (9, [.ref mwords, .ref mstore, .int 0, .int 0, .int 0, .int 255, .int (nI pp), .int 0, .int 0, .int 1, .int zz, .int 0, .int (cy + 1), .int 0, .int 0, .int 0, .int 0, .int 0, .int 0, .int 0, .int 0, .int 0, .int 0, .int 0, .int 1, .int 0, .ref mkeys, .ref mrests, .int 0, .int 0, .int 0, .int 0, .int 0, .ref mring, .ref mstrip, .ref mpins, .ref mstops, .int 0, .int 0, .int es, .ref mdone, .ref mkept, .int (nI ka), .int (nI km), .int aa, .int wr, .ref mtape, .int 0, .int (-1), .int (-1), .ref mnameValue, .ref mnamePlace, .ref mnameEquals, .int 0, .ref mout, .int 0, .int 0, .int 0, .int 0, .int 0, .int 0, .int 0, .int 0, .int 0, .int 0, .int 0, .int 0, .int 0, .int 0, .int 0, .ref mtellFrom, .ref mtellEnd, .ref mtellValue, .ref mtellEquals, .ref mlaid, .int 0, .int 0, .int 0, .int 0])), (mrests, .inl (cA, 8, .inl (upd (upd (upd (upd (upd gr 0 0) 1 0) 2 0) 3 0) 4 0)))] rfl dX9_pass_203 (fun H locs hP hD hS => ?_)
  refine lv_iinc (v := 5) (lv' := [(1, .int 5), (0, .ref h0)]) hx hb dX9_pass_204 hl (k := 0) rfl (by decide) (by decide) rfl (fun ls hl => ?_)
  refine lv_goto (tgt := 151) hx hb dX9_pass_207 (by decide) ?_
  refine lv_iload_n hx hb dX9_pass_151 rfl (lv_at hl 0 rfl) ?_
  refine lv_bipush (v := 8) hx hb dX9_pass_152 (by decide) ?_
  refine lv_icmp_ge (tgt := 210) hx hb dX9_pass_154 (by decide) (fun c_154_13 => absurd c_154_13 (by decide)) (fun c_154_13 => ?_)
  refine lv_aload_n hx hb dX9_pass_157 rfl (lv_at hl 1 rfl) ?_
  refine lv_dup hx hb dX9_pass_158 rfl ?_
  refine k_get (C := RX9) (T := TX9) (N := 79) (ci := 9) (v := .int 0) X hE hP 0 rfl rfl iX9 21 (by decide) w_403 rfl dX9_pass_159 ?_
  refine lv_aload_n hx hb dX9_pass_162 rfl (lv_at hl 1 rfl) ?_
  refine k_get (C := RX9) (T := TX9) (N := 79) (ci := 9) (v := .ref mrests) X hE hP 0 rfl rfl iX9 27 (by decide) w_356 rfl dX9_pass_163 ?_
  refine lv_iload_n hx hb dX9_pass_166 rfl (lv_at hl 0 rfl) ?_
  refine k_ald (v := 0) X hE hP 1 rfl 5 rfl (by decide) (by decide) (zr 5 (by decide)) dX9_pass_167 ?_
  refine lv_iconst (v := 1) hx hb dX9_pass_168 (by decide) ?_
  refine lv_icmp_ne (tgt := 176) hx hb dX9_pass_169 (by decide) (fun c_169_14 => ?_) (fun c_169_14 => absurd c_169_14 (by decide))
  refine lv_iconst (v := 0) hx hb dX9_pass_176 (by decide) ?_
  refine lv_ior hx hb dX9_pass_177 ?_
  refine tk (y := 0) (by decide) ?_
  refine k_put (C := RX9) (T := TX9) (N := 79) (ci := 9) (v := .int 0) (ty := .int) X hE hP hD hS 0 rfl rfl iX9 tyX9 tyX9_ok nmX9 21 (by decide) w_403 rfl (by decide +kernel) rfl rfl (Nat.le_of_ble_eq_true rfl) [(h0, .inr (9, [.ref mwords, .ref mstore, .int 0, .int 0, .int 0, .int 255, .int (nI pp), .int 0, .int 0, .int 1, .int zz, .int 0, .int (cy + 1), .int 0, .int 0, .int 0, .int 0, .int 0, .int 0, .int 0, .int 0, .int 0, .int 0, .int 0, .int 1, .int 0, .ref mkeys, .ref mrests, .int 0, .int 0, .int 0, .int 0, .int 0, .ref mring, .ref mstrip, .ref mpins, .ref mstops, .int 0, .int 0, .int es, .ref mdone, .ref mkept, .int (nI ka), .int (nI km), .int aa, .int wr, .ref mtape, .int 0, .int (-1), .int (-1), .ref mnameValue, .ref mnamePlace, .ref mnameEquals, .int 0, .ref mout, .int 0, .int 0, .int 0, .int 0, .int 0, .int 0, .int 0, .int 0, .int 0, .int 0, .int 0, .int 0, .int 0, .int 0, .int 0, .ref mtellFrom, .ref mtellEnd, .ref mtellValue, .ref mtellEquals, .ref mlaid, .int 0, .int 0, .int 0, .int 0])), (mrests, .inl (cA, 8, .inl (upd (upd (upd (upd (upd gr 0 0) 1 0) 2 0) 3 0) 4 0)))] rfl dX9_pass_178 (fun H locs hP hD hS => ?_)
  refine lv_aload_n hx hb dX9_pass_181 rfl (lv_at hl 1 rfl) ?_
  refine k_get (C := RX9) (T := TX9) (N := 79) (ci := 9) (v := .ref mrests) X hE hP 0 rfl rfl iX9 27 (by decide) w_356 rfl dX9_pass_182 ?_
  refine lv_iload_n hx hb dX9_pass_185 rfl (lv_at hl 0 rfl) ?_
  refine lv_dup2_11 hx hb dX9_pass_186 rfl rfl ?_
  refine k_ald (v := 0) X hE hP 1 rfl 5 rfl (by decide) (by decide) (zr 5 (by decide)) dX9_pass_187 ?_
  refine lv_aload_n hx hb dX9_pass_188 rfl (lv_at hl 1 rfl) ?_
  refine k_get (C := RX9) (T := TX9) (N := 79) (ci := 9) (v := .ref mrests) X hE hP 0 rfl rfl iX9 27 (by decide) w_356 rfl dX9_pass_189 ?_
  refine lv_iload_n hx hb dX9_pass_192 rfl (lv_at hl 0 rfl) ?_
  refine k_ald (v := 0) X hE hP 1 rfl 5 rfl (by decide) (by decide) (zr 5 (by decide)) dX9_pass_193 ?_
  refine lv_if_le (tgt := 201) hx hb dX9_pass_194 (by decide) (fun c_194_15 => ?_) (fun c_194_15 => absurd (by decide) c_194_15)
  refine lv_iconst (v := 0) hx hb dX9_pass_201 (by decide) ?_
  refine lv_isub hx hb dX9_pass_202 ?_
  refine tk (y := 0) (by decide) ?_
  refine k_ast X hE hP hD hS 1 rfl 5 rfl (by decide) (by decide) [(h0, .inr (9, [.ref mwords, .ref mstore, .int 0, .int 0, .int 0, .int 255, .int (nI pp), .int 0, .int 0, .int 1, .int zz, .int 0, .int (cy + 1), .int 0, .int 0, .int 0, .int 0, .int 0, .int 0, .int 0, .int 0, .int 0, .int 0, .int 0, .int 1, .int 0, .ref mkeys, .ref mrests, .int 0, .int 0, .int 0, .int 0, .int 0, .ref mring, .ref mstrip, .ref mpins, .ref mstops, .int 0, .int 0, .int es, .ref mdone, .ref mkept, .int (nI ka), .int (nI km), .int aa, .int wr, .ref mtape, .int 0, .int (-1), .int (-1), .ref mnameValue, .ref mnamePlace, .ref mnameEquals, .int 0, .ref mout, .int 0, .int 0, .int 0, .int 0, .int 0, .int 0, .int 0, .int 0, .int 0, .int 0, .int 0, .int 0, .int 0, .int 0, .int 0, .ref mtellFrom, .ref mtellEnd, .ref mtellValue, .ref mtellEquals, .ref mlaid, .int 0, .int 0, .int 0, .int 0])), (mrests, .inl (cA, 8, .inl (upd (upd (upd (upd (upd (upd gr 0 0) 1 0) 2 0) 3 0) 4 0) 5 0)))] rfl dX9_pass_203 (fun H locs hP hD hS => ?_)
  refine lv_iinc (v := 6) (lv' := [(1, .int 6), (0, .ref h0)]) hx hb dX9_pass_204 hl (k := 0) rfl (by decide) (by decide) rfl (fun ls hl => ?_)
  refine lv_goto (tgt := 151) hx hb dX9_pass_207 (by decide) ?_
  refine lv_iload_n hx hb dX9_pass_151 rfl (lv_at hl 0 rfl) ?_
  refine lv_bipush (v := 8) hx hb dX9_pass_152 (by decide) ?_
  refine lv_icmp_ge (tgt := 210) hx hb dX9_pass_154 (by decide) (fun c_154_16 => absurd c_154_16 (by decide)) (fun c_154_16 => ?_)
  refine lv_aload_n hx hb dX9_pass_157 rfl (lv_at hl 1 rfl) ?_
  refine lv_dup hx hb dX9_pass_158 rfl ?_
  refine k_get (C := RX9) (T := TX9) (N := 79) (ci := 9) (v := .int 0) X hE hP 0 rfl rfl iX9 21 (by decide) w_403 rfl dX9_pass_159 ?_
  refine lv_aload_n hx hb dX9_pass_162 rfl (lv_at hl 1 rfl) ?_
  refine k_get (C := RX9) (T := TX9) (N := 79) (ci := 9) (v := .ref mrests) X hE hP 0 rfl rfl iX9 27 (by decide) w_356 rfl dX9_pass_163 ?_
  refine lv_iload_n hx hb dX9_pass_166 rfl (lv_at hl 0 rfl) ?_
  refine k_ald (v := 0) X hE hP 1 rfl 6 rfl (by decide) (by decide) (zr 6 (by decide)) dX9_pass_167 ?_
  refine lv_iconst (v := 1) hx hb dX9_pass_168 (by decide) ?_
  refine lv_icmp_ne (tgt := 176) hx hb dX9_pass_169 (by decide) (fun c_169_17 => ?_) (fun c_169_17 => absurd c_169_17 (by decide))
  refine lv_iconst (v := 0) hx hb dX9_pass_176 (by decide) ?_
  refine lv_ior hx hb dX9_pass_177 ?_
  refine tk (y := 0) (by decide) ?_
  refine k_put (C := RX9) (T := TX9) (N := 79) (ci := 9) (v := .int 0) (ty := .int) X hE hP hD hS 0 rfl rfl iX9 tyX9 tyX9_ok nmX9 21 (by decide) w_403 rfl (by decide +kernel) rfl rfl (Nat.le_of_ble_eq_true rfl) [(h0, .inr (9, [.ref mwords, .ref mstore, .int 0, .int 0, .int 0, .int 255, .int (nI pp), .int 0, .int 0, .int 1, .int zz, .int 0, .int (cy + 1), .int 0, .int 0, .int 0, .int 0, .int 0, .int 0, .int 0, .int 0, .int 0, .int 0, .int 0, .int 1, .int 0, .ref mkeys, .ref mrests, .int 0, .int 0, .int 0, .int 0, .int 0, .ref mring, .ref mstrip, .ref mpins, .ref mstops, .int 0, .int 0, .int es, .ref mdone, .ref mkept, .int (nI ka), .int (nI km), .int aa, .int wr, .ref mtape, .int 0, .int (-1), .int (-1), .ref mnameValue, .ref mnamePlace, .ref mnameEquals, .int 0, .ref mout, .int 0, .int 0, .int 0, .int 0, .int 0, .int 0, .int 0, .int 0, .int 0, .int 0, .int 0, .int 0, .int 0, .int 0, .int 0, .ref mtellFrom, .ref mtellEnd, .ref mtellValue, .ref mtellEquals, .ref mlaid, .int 0, .int 0, .int 0, .int 0])), (mrests, .inl (cA, 8, .inl (upd (upd (upd (upd (upd (upd gr 0 0) 1 0) 2 0) 3 0) 4 0) 5 0)))] rfl dX9_pass_178 (fun H locs hP hD hS => ?_)
  refine lv_aload_n hx hb dX9_pass_181 rfl (lv_at hl 1 rfl) ?_
  refine k_get (C := RX9) (T := TX9) (N := 79) (ci := 9) (v := .ref mrests) X hE hP 0 rfl rfl iX9 27 (by decide) w_356 rfl dX9_pass_182 ?_
  refine lv_iload_n hx hb dX9_pass_185 rfl (lv_at hl 0 rfl) ?_
  refine lv_dup2_11 hx hb dX9_pass_186 rfl rfl ?_
  refine k_ald (v := 0) X hE hP 1 rfl 6 rfl (by decide) (by decide) (zr 6 (by decide)) dX9_pass_187 ?_
  refine lv_aload_n hx hb dX9_pass_188 rfl (lv_at hl 1 rfl) ?_
  refine k_get (C := RX9) (T := TX9) (N := 79) (ci := 9) (v := .ref mrests) X hE hP 0 rfl rfl iX9 27 (by decide) w_356 rfl dX9_pass_189 ?_
  refine lv_iload_n hx hb dX9_pass_192 rfl (lv_at hl 0 rfl) ?_
  refine k_ald (v := 0) X hE hP 1 rfl 6 rfl (by decide) (by decide) (zr 6 (by decide)) dX9_pass_193 ?_
  refine lv_if_le (tgt := 201) hx hb dX9_pass_194 (by decide) (fun c_194_18 => ?_) (fun c_194_18 => absurd (by decide) c_194_18)
  refine lv_iconst (v := 0) hx hb dX9_pass_201 (by decide) ?_
  refine lv_isub hx hb dX9_pass_202 ?_
  refine tk (y := 0) (by decide) ?_
  refine k_ast X hE hP hD hS 1 rfl 6 rfl (by decide) (by decide) [(h0, .inr (9, [.ref mwords, .ref mstore, .int 0, .int 0, .int 0, .int 255, .int (nI pp), .int 0, .int 0, .int 1, .int zz, .int 0, .int (cy + 1), .int 0, .int 0, .int 0, .int 0, .int 0, .int 0, .int 0, .int 0, .int 0, .int 0, .int 0, .int 1, .int 0, .ref mkeys, .ref mrests, .int 0, .int 0, .int 0, .int 0, .int 0, .ref mring, .ref mstrip, .ref mpins, .ref mstops, .int 0, .int 0, .int es, .ref mdone, .ref mkept, .int (nI ka), .int (nI km), .int aa, .int wr, .ref mtape, .int 0, .int (-1), .int (-1), .ref mnameValue, .ref mnamePlace, .ref mnameEquals, .int 0, .ref mout, .int 0, .int 0, .int 0, .int 0, .int 0, .int 0, .int 0, .int 0, .int 0, .int 0, .int 0, .int 0, .int 0, .int 0, .int 0, .ref mtellFrom, .ref mtellEnd, .ref mtellValue, .ref mtellEquals, .ref mlaid, .int 0, .int 0, .int 0, .int 0])), (mrests, .inl (cA, 8, .inl (upd (upd (upd (upd (upd (upd (upd gr 0 0) 1 0) 2 0) 3 0) 4 0) 5 0) 6 0)))] rfl dX9_pass_203 (fun H locs hP hD hS => ?_)
  refine lv_iinc (v := 7) (lv' := [(1, .int 7), (0, .ref h0)]) hx hb dX9_pass_204 hl (k := 0) rfl (by decide) (by decide) rfl (fun ls hl => ?_)
  refine lv_goto (tgt := 151) hx hb dX9_pass_207 (by decide) ?_
  refine lv_iload_n hx hb dX9_pass_151 rfl (lv_at hl 0 rfl) ?_
  refine lv_bipush (v := 8) hx hb dX9_pass_152 (by decide) ?_
  refine lv_icmp_ge (tgt := 210) hx hb dX9_pass_154 (by decide) (fun c_154_19 => absurd c_154_19 (by decide)) (fun c_154_19 => ?_)
  refine lv_aload_n hx hb dX9_pass_157 rfl (lv_at hl 1 rfl) ?_
  refine lv_dup hx hb dX9_pass_158 rfl ?_
  refine k_get (C := RX9) (T := TX9) (N := 79) (ci := 9) (v := .int 0) X hE hP 0 rfl rfl iX9 21 (by decide) w_403 rfl dX9_pass_159 ?_
  refine lv_aload_n hx hb dX9_pass_162 rfl (lv_at hl 1 rfl) ?_
  refine k_get (C := RX9) (T := TX9) (N := 79) (ci := 9) (v := .ref mrests) X hE hP 0 rfl rfl iX9 27 (by decide) w_356 rfl dX9_pass_163 ?_
  refine lv_iload_n hx hb dX9_pass_166 rfl (lv_at hl 0 rfl) ?_
  refine k_ald (v := 0) X hE hP 1 rfl 7 rfl (by decide) (by decide) (zr 7 (by decide)) dX9_pass_167 ?_
  refine lv_iconst (v := 1) hx hb dX9_pass_168 (by decide) ?_
  refine lv_icmp_ne (tgt := 176) hx hb dX9_pass_169 (by decide) (fun c_169_20 => ?_) (fun c_169_20 => absurd c_169_20 (by decide))
  refine lv_iconst (v := 0) hx hb dX9_pass_176 (by decide) ?_
  refine lv_ior hx hb dX9_pass_177 ?_
  refine tk (y := 0) (by decide) ?_
  refine k_put (C := RX9) (T := TX9) (N := 79) (ci := 9) (v := .int 0) (ty := .int) X hE hP hD hS 0 rfl rfl iX9 tyX9 tyX9_ok nmX9 21 (by decide) w_403 rfl (by decide +kernel) rfl rfl (Nat.le_of_ble_eq_true rfl) [(h0, .inr (9, [.ref mwords, .ref mstore, .int 0, .int 0, .int 0, .int 255, .int (nI pp), .int 0, .int 0, .int 1, .int zz, .int 0, .int (cy + 1), .int 0, .int 0, .int 0, .int 0, .int 0, .int 0, .int 0, .int 0, .int 0, .int 0, .int 0, .int 1, .int 0, .ref mkeys, .ref mrests, .int 0, .int 0, .int 0, .int 0, .int 0, .ref mring, .ref mstrip, .ref mpins, .ref mstops, .int 0, .int 0, .int es, .ref mdone, .ref mkept, .int (nI ka), .int (nI km), .int aa, .int wr, .ref mtape, .int 0, .int (-1), .int (-1), .ref mnameValue, .ref mnamePlace, .ref mnameEquals, .int 0, .ref mout, .int 0, .int 0, .int 0, .int 0, .int 0, .int 0, .int 0, .int 0, .int 0, .int 0, .int 0, .int 0, .int 0, .int 0, .int 0, .ref mtellFrom, .ref mtellEnd, .ref mtellValue, .ref mtellEquals, .ref mlaid, .int 0, .int 0, .int 0, .int 0])), (mrests, .inl (cA, 8, .inl (upd (upd (upd (upd (upd (upd (upd gr 0 0) 1 0) 2 0) 3 0) 4 0) 5 0) 6 0)))] rfl dX9_pass_178 (fun H locs hP hD hS => ?_)
  refine lv_aload_n hx hb dX9_pass_181 rfl (lv_at hl 1 rfl) ?_
  refine k_get (C := RX9) (T := TX9) (N := 79) (ci := 9) (v := .ref mrests) X hE hP 0 rfl rfl iX9 27 (by decide) w_356 rfl dX9_pass_182 ?_
  refine lv_iload_n hx hb dX9_pass_185 rfl (lv_at hl 0 rfl) ?_
  refine lv_dup2_11 hx hb dX9_pass_186 rfl rfl ?_
  refine k_ald (v := 0) X hE hP 1 rfl 7 rfl (by decide) (by decide) (zr 7 (by decide)) dX9_pass_187 ?_
  refine lv_aload_n hx hb dX9_pass_188 rfl (lv_at hl 1 rfl) ?_
  refine k_get (C := RX9) (T := TX9) (N := 79) (ci := 9) (v := .ref mrests) X hE hP 0 rfl rfl iX9 27 (by decide) w_356 rfl dX9_pass_189 ?_
  refine lv_iload_n hx hb dX9_pass_192 rfl (lv_at hl 0 rfl) ?_
  refine k_ald (v := 0) X hE hP 1 rfl 7 rfl (by decide) (by decide) (zr 7 (by decide)) dX9_pass_193 ?_
  refine lv_if_le (tgt := 201) hx hb dX9_pass_194 (by decide) (fun c_194_21 => ?_) (fun c_194_21 => absurd (by decide) c_194_21)
  refine lv_iconst (v := 0) hx hb dX9_pass_201 (by decide) ?_
  refine lv_isub hx hb dX9_pass_202 ?_
  refine tk (y := 0) (by decide) ?_
  refine k_ast X hE hP hD hS 1 rfl 7 rfl (by decide) (by decide) [(h0, .inr (9, [.ref mwords, .ref mstore, .int 0, .int 0, .int 0, .int 255, .int (nI pp), .int 0, .int 0, .int 1, .int zz, .int 0, .int (cy + 1), .int 0, .int 0, .int 0, .int 0, .int 0, .int 0, .int 0, .int 0, .int 0, .int 0, .int 0, .int 1, .int 0, .ref mkeys, .ref mrests, .int 0, .int 0, .int 0, .int 0, .int 0, .ref mring, .ref mstrip, .ref mpins, .ref mstops, .int 0, .int 0, .int es, .ref mdone, .ref mkept, .int (nI ka), .int (nI km), .int aa, .int wr, .ref mtape, .int 0, .int (-1), .int (-1), .ref mnameValue, .ref mnamePlace, .ref mnameEquals, .int 0, .ref mout, .int 0, .int 0, .int 0, .int 0, .int 0, .int 0, .int 0, .int 0, .int 0, .int 0, .int 0, .int 0, .int 0, .int 0, .int 0, .ref mtellFrom, .ref mtellEnd, .ref mtellValue, .ref mtellEquals, .ref mlaid, .int 0, .int 0, .int 0, .int 0])), (mrests, .inl (cA, 8, .inl (upd (upd (upd (upd (upd (upd (upd (upd gr 0 0) 1 0) 2 0) 3 0) 4 0) 5 0) 6 0) 7 0)))] rfl dX9_pass_203 (fun H locs hP hD hS => ?_)
  refine lv_iinc (v := 8) (lv' := [(1, .int 8), (0, .ref h0)]) hx hb dX9_pass_204 hl (k := 0) rfl (by decide) (by decide) rfl (fun ls hl => ?_)
  refine lv_goto (tgt := 151) hx hb dX9_pass_207 (by decide) ?_
  refine lv_iload_n hx hb dX9_pass_151 rfl (lv_at hl 0 rfl) ?_
  refine lv_bipush (v := 8) hx hb dX9_pass_152 (by decide) ?_
  refine lv_icmp_ge (tgt := 210) hx hb dX9_pass_154 (by decide) (fun c_154_22 => ?_) (fun c_154_22 => absurd (by decide) c_154_22)
  refine lv_aload_n hx hb dX9_pass_210 rfl (lv_at hl 1 rfl) ?_
  refine lv_dup hx hb dX9_pass_211 rfl ?_
  refine k_get (C := RX9) (T := TX9) (N := 79) (ci := 9) (v := .int 0) X hE hP 0 rfl rfl iX9 23 (by decide) w_405 rfl dX9_pass_212 ?_
  refine lv_aload_n hx hb dX9_pass_215 rfl (lv_at hl 1 rfl) ?_
  refine k_get (C := RX9) (T := TX9) (N := 79) (ci := 9) (v := .int 0) X hE hP 0 rfl rfl iX9 23 (by decide) w_405 rfl dX9_pass_216 ?_
  refine lv_if_le (tgt := 226) hx hb dX9_pass_219 (by decide) (fun c_219 => ?_) (fun c_219 => absurd (by decide) c_219)
  refine lv_iconst (v := 0) hx hb dX9_pass_226 (by decide) ?_
  refine lv_isub hx hb dX9_pass_227 ?_
  refine tk (y := 0) (by decide) ?_
  refine k_put (C := RX9) (T := TX9) (N := 79) (ci := 9) (v := .int 0) (ty := .int) X hE hP hD hS 0 rfl rfl iX9 tyX9 tyX9_ok nmX9 23 (by decide) w_405 rfl (by decide +kernel) rfl rfl (Nat.le_of_ble_eq_true rfl) [(h0, .inr (9, [.ref mwords, .ref mstore, .int 0, .int 0, .int 0, .int 255, .int (nI pp), .int 0, .int 0, .int 1, .int zz, .int 0, .int (cy + 1), .int 0, .int 0, .int 0, .int 0, .int 0, .int 0, .int 0, .int 0, .int 0, .int 0, .int 0, .int 1, .int 0, .ref mkeys, .ref mrests, .int 0, .int 0, .int 0, .int 0, .int 0, .ref mring, .ref mstrip, .ref mpins, .ref mstops, .int 0, .int 0, .int es, .ref mdone, .ref mkept, .int (nI ka), .int (nI km), .int aa, .int wr, .ref mtape, .int 0, .int (-1), .int (-1), .ref mnameValue, .ref mnamePlace, .ref mnameEquals, .int 0, .ref mout, .int 0, .int 0, .int 0, .int 0, .int 0, .int 0, .int 0, .int 0, .int 0, .int 0, .int 0, .int 0, .int 0, .int 0, .int 0, .ref mtellFrom, .ref mtellEnd, .ref mtellValue, .ref mtellEquals, .ref mlaid, .int 0, .int 0, .int 0, .int 0])), (mrests, .inl (cA, 8, .inl (upd (upd (upd (upd (upd (upd (upd (upd gr 0 0) 1 0) 2 0) 3 0) 4 0) 5 0) 6 0) 7 0)))] rfl dX9_pass_228 (fun H locs hP hD hS => ?_)
  refine lv_aload_n hx hb dX9_pass_231 rfl (lv_at hl 1 rfl) ?_
  refine k_get (C := RX9) (T := TX9) (N := 79) (ci := 9) (v := .int 0) X hE hP 0 rfl rfl iX9 23 (by decide) w_405 rfl dX9_pass_232 ?_
  refine lv_if_ne (tgt := 242) hx hb dX9_pass_235 (by decide) (fun c_235 => absurd (by decide) c_235) (fun c_235 => ?_)
  refine lv_iconst (v := 1) hx hb dX9_pass_238 (by decide) ?_
  refine lv_goto (tgt := 243) hx hb dX9_pass_239 (by decide) ?_
  exact endZ X hr rfl hlocks hP hD hS dX9_pass_243 ⟨(cy + 1), (upd (upd (upd (upd (upd (upd (upd (upd gr 0 0) 1 0) 2 0) 3 0) 4 0) 5 0) 6 0) 7 0), rfl, up8, rfl⟩
set_option maxHeartbeats 4000000 in
set_option maxRecDepth 100000 in
theorem c_m_step (l : Launch) (D : va_G) (cA cB : ClassId) (h0 : Nat) (mwords : Nat) (mstore : Nat) (mkeys : Nat) (mrests : Nat) (mring : Nat) (mstrip : Nat) (mpins : Nat) (mstops : Nat) (mdone : Nat) (mkept : Nat) (mtape : Nat) (mnameValue : Nat) (mnamePlace : Nat) (mnameEquals : Nat) (mout : Nat) (mtellFrom : Nat) (mtellEnd : Nat) (mtellValue : Nat) (mtellEquals : Nat) (mlaid : Nat) (pp : Nat) (ka : Nat) (km : Nat) (zz : Int32) (cy : Int32) (aa : Int32) (wr : Int32) (es : Int32) (gk : Nat → Int32) (gkeys : Nat → Int32) (gr : Nat → Int32) (gd : Nat → Int32) (hpp : pp < 4096) (hka : ka < 256) (hkm : km ≤ 256) (zkeys : ∀ j, j < 16 → gkeys j = 0) (zr : ∀ j, j < 8 → gr j = 0) : CI l yX9_step cX9_step 8 (some .boolean) 4 88 0 0 D cA cB [.ref h0] [(h0, .inr (9, [.ref mwords, .ref mstore, .int 0, .int 0, .int 0, .int 255, .int (nI pp), .int 0, .int 0, .int 1, .int zz, .int 0, .int cy, .int 0, .int 0, .int 0, .int 0, .int 0, .int 0, .int 0, .int 0, .int 0, .int 0, .int 0, .int 1, .int 0, .ref mkeys, .ref mrests, .int 0, .int 0, .int 0, .int 0, .int 0, .ref mring, .ref mstrip, .ref mpins, .ref mstops, .int 0, .int 0, .int es, .ref mdone, .ref mkept, .int (nI ka), .int (nI km), .int aa, .int wr, .ref mtape, .int 0, .int (-1), .int (-1), .ref mnameValue, .ref mnamePlace, .ref mnameEquals, .int 0, .ref mout, .int 0, .int 0, .int 0, .int 0, .int 0, .int 0, .int 0, .int 0, .int 0, .int 0, .int 0, .int 0, .int 0, .int 0, .int 0, .ref mtellFrom, .ref mtellEnd, .ref mtellValue, .ref mtellEquals, .ref mlaid, .int 0, .int 0, .int 0, .int 0])), (mkept, .inl (cA, 15360, .inl gk)), (mkeys, .inl (cA, 16, .inl gkeys)), (mrests, .inl (cA, 8, .inl gr)), (mdone, .inl (cA, 257, .inl gd)), (mstore, .inl (cA, 4096, .inl (fun _ => 0)))] (fun r W1 => ∃ (pp2 : Nat) (ka2 : Nat) (km2 : Nat) (zz2 : Int32) (cy2 : Int32) (aa2 : Int32) (wr2 : Int32) (gk2 : Nat → Int32) (gr2 : Nat → Int32) (gd2 : Nat → Int32), r = 1 ∧ (pp2 < 4096) ∧ (ka2 < 256) ∧ (km2 ≤ 256) ∧ (∀ j, j < 8 → gr2 j = 0) ∧ W1 = [(h0, .inr (9, [.ref mwords, .ref mstore, .int 0, .int 0, .int 0, .int 255, .int (nI pp2), .int 0, .int 0, .int 1, .int zz2, .int 0, .int cy2, .int 0, .int 0, .int 0, .int 0, .int 0, .int 0, .int 0, .int 0, .int 0, .int 0, .int 0, .int 1, .int 0, .ref mkeys, .ref mrests, .int 0, .int 0, .int 0, .int 0, .int 0, .ref mring, .ref mstrip, .ref mpins, .ref mstops, .int 0, .int 0, .int es, .ref mdone, .ref mkept, .int (nI ka2), .int (nI km2), .int aa2, .int wr2, .ref mtape, .int 0, .int (-1), .int (-1), .ref mnameValue, .ref mnamePlace, .ref mnameEquals, .int 0, .ref mout, .int 0, .int 0, .int 0, .int 0, .int 0, .int 0, .int 0, .int 0, .int 0, .int 0, .int 0, .int 0, .int 0, .int 0, .int 0, .ref mtellFrom, .ref mtellEnd, .ref mtellValue, .ref mtellEquals, .ref mlaid, .int 0, .int 0, .int 0, .int 0])), (mkept, .inl (cA, 15360, .inl gk2)), (mkeys, .inl (cA, 16, .inl gkeys)), (mrests, .inl (cA, 8, .inl gr2)), (mdone, .inl (cA, 257, .inl gd2)), (mstore, .inl (cA, 4096, .inl (fun _ => 0)))]) := by
  refine mkI (lv0 := [(0, .ref h0)]) (by decide) (Nat.le_of_ble_eq_true rfl) rfl ?_
  intro p e s m below meth c A ls X hr hlocks hnm hE hA hP hD hS hl
  have hx := X.1
  have hb := X.2.1
  refine lv_aload_n hx hb dX9_step_0 rfl (lv_at hl 0 rfl) ?_
  refine k_get (C := RX9) (T := TX9) (N := 79) (ci := 9) (v := .int 1) X hE hP 0 rfl rfl iX9 9 (by decide) w_382 rfl dX9_step_1 ?_
  refine lv_if_ne (tgt := 23) hx hb dX9_step_4 (by decide) (fun c_4 => ?_) (fun c_4 => absurd c_4 (by decide))
  refine lv_iconst (v := 0) hx hb dX9_step_23 (by decide) ?_
  refine lv_istore_n (lv' := [(1, .int 0), (0, .ref h0)]) hx hb dX9_step_24 rfl hl (by decide) rfl (fun ls hl => ?_)
  refine lv_iload_n hx hb dX9_step_25 rfl (lv_at hl 0 rfl) ?_
  refine lv_if_ne (tgt := 38) hx hb dX9_step_26 (by decide) (fun c_26 => absurd (by decide) c_26) (fun c_26 => ?_)
  refine lv_aload_n hx hb dX9_step_29 rfl (lv_at hl 1 rfl) ?_
  refine kVi (n3 := 0) (As := []) (rest := []) X hl.1 hE hP hD hS hA [(h0, .inr (9, [.ref mwords, .ref mstore, .int 0, .int 0, .int 0, .int 255, .int (nI pp), .int 0, .int 0, .int 1, .int zz, .int 0, .int cy, .int 0, .int 0, .int 0, .int 0, .int 0, .int 0, .int 0, .int 0, .int 0, .int 0, .int 0, .int 1, .int 0, .ref mkeys, .ref mrests, .int 0, .int 0, .int 0, .int 0, .int 0, .ref mring, .ref mstrip, .ref mpins, .ref mstops, .int 0, .int 0, .int es, .ref mdone, .ref mkept, .int (nI ka), .int (nI km), .int aa, .int wr, .ref mtape, .int 0, .int (-1), .int (-1), .ref mnameValue, .ref mnamePlace, .ref mnameEquals, .int 0, .ref mout, .int 0, .int 0, .int 0, .int 0, .int 0, .int 0, .int 0, .int 0, .int 0, .int 0, .int 0, .int 0, .int 0, .int 0, .int 0, .ref mtellFrom, .ref mtellEnd, .ref mtellValue, .ref mtellEquals, .ref mlaid, .int 0, .int 0, .int 0, .int 0])), (mstore, .inl (cA, 4096, .inl (fun _ => 0)))] [(mkept, .inl (cA, 15360, .inl gk)), (mkeys, .inl (cA, 16, .inl gkeys)), (mrests, .inl (cA, 8, .inl gr)), (mdone, .inl (cA, 257, .inl gd))] [0, 5] [1, 2, 3, 4] rfl rfl rfl (by decide) (by decide) (by decide) (c_m_isIllegal l D cA cB h0 mwords mstore mkeys mrests mring mstrip mpins mstops mdone mkept mtape mnameValue mnamePlace mnameEquals mout mtellFrom mtellEnd mtellValue mtellEquals mlaid pp ka km zz cy aa wr es hpp) w_513 w_387 w_512 w_514 w_515 0 (ci := 9) (T := TX9) (N := 79) rfl rfl (by decide +kernel) rfl rfl (Nat.le_of_ble_eq_true rfl) ⟨(Nat.le_of_ble_eq_true rfl), (Nat.le_of_ble_eq_true rfl)⟩ ⟨(Nat.le_of_ble_eq_true rfl), (Nat.le_of_ble_eq_true rfl)⟩ dX9_step_30 (fun r W1 H locs hw hP hD hS => ?_)
  obtain ⟨rfl, rfl⟩ := hw
  have hP : va_P D classes [(mkept, .inl (cA, 15360, .inl gk)), (mkeys, .inl (cA, 16, .inl gkeys)), (mrests, .inl (cA, 8, .inl gr)), (mdone, .inl (cA, 257, .inl gd)), (h0, .inr (9, [.ref mwords, .ref mstore, .int 0, .int 0, .int 0, .int 255, .int (nI pp), .int 0, .int 0, .int 1, .int zz, .int 0, .int cy, .int 0, .int 0, .int 0, .int 0, .int 0, .int 0, .int 0, .int 0, .int 0, .int 0, .int 0, .int 1, .int 0, .ref mkeys, .ref mrests, .int 0, .int 0, .int 0, .int 0, .int 0, .ref mring, .ref mstrip, .ref mpins, .ref mstops, .int 0, .int 0, .int es, .ref mdone, .ref mkept, .int (nI ka), .int (nI km), .int aa, .int wr, .ref mtape, .int 0, .int (-1), .int (-1), .ref mnameValue, .ref mnamePlace, .ref mnameEquals, .int 0, .ref mout, .int 0, .int 0, .int 0, .int 0, .int 0, .int 0, .int 0, .int 0, .int 0, .int 0, .int 0, .int 0, .int 0, .int 0, .int 0, .ref mtellFrom, .ref mtellEnd, .ref mtellValue, .ref mtellEquals, .ref mlaid, .int 0, .int 0, .int 0, .int 0])), (mstore, .inl (cA, 4096, .inl (fun _ => 0)))] H := hP
  have hD : va_D A [(mkept, .inl (cA, 15360, .inl gk)), (mkeys, .inl (cA, 16, .inl gkeys)), (mrests, .inl (cA, 8, .inl gr)), (mdone, .inl (cA, 257, .inl gd)), (h0, .inr (9, [.ref mwords, .ref mstore, .int 0, .int 0, .int 0, .int 255, .int (nI pp), .int 0, .int 0, .int 1, .int zz, .int 0, .int cy, .int 0, .int 0, .int 0, .int 0, .int 0, .int 0, .int 0, .int 0, .int 0, .int 0, .int 0, .int 1, .int 0, .ref mkeys, .ref mrests, .int 0, .int 0, .int 0, .int 0, .int 0, .ref mring, .ref mstrip, .ref mpins, .ref mstops, .int 0, .int 0, .int es, .ref mdone, .ref mkept, .int (nI ka), .int (nI km), .int aa, .int wr, .ref mtape, .int 0, .int (-1), .int (-1), .ref mnameValue, .ref mnamePlace, .ref mnameEquals, .int 0, .ref mout, .int 0, .int 0, .int 0, .int 0, .int 0, .int 0, .int 0, .int 0, .int 0, .int 0, .int 0, .int 0, .int 0, .int 0, .int 0, .ref mtellFrom, .ref mtellEnd, .ref mtellValue, .ref mtellEquals, .ref mlaid, .int 0, .int 0, .int 0, .int 0])), (mstore, .inl (cA, 4096, .inl (fun _ => 0)))] := hD
  refine lv_if_eq (tgt := 38) hx hb dX9_step_33 (by decide) (fun c_33 => ?_) (fun c_33 => absurd (by decide) c_33)
  refine lv_aload_n hx hb dX9_step_38 rfl (lv_at hl 1 rfl) ?_
  refine kVv (n3 := 0) (As := []) (rest := []) X hl.1 hE hP hD hS hA [(h0, .inr (9, [.ref mwords, .ref mstore, .int 0, .int 0, .int 0, .int 255, .int (nI pp), .int 0, .int 0, .int 1, .int zz, .int 0, .int cy, .int 0, .int 0, .int 0, .int 0, .int 0, .int 0, .int 0, .int 0, .int 0, .int 0, .int 0, .int 1, .int 0, .ref mkeys, .ref mrests, .int 0, .int 0, .int 0, .int 0, .int 0, .ref mring, .ref mstrip, .ref mpins, .ref mstops, .int 0, .int 0, .int es, .ref mdone, .ref mkept, .int (nI ka), .int (nI km), .int aa, .int wr, .ref mtape, .int 0, .int (-1), .int (-1), .ref mnameValue, .ref mnamePlace, .ref mnameEquals, .int 0, .ref mout, .int 0, .int 0, .int 0, .int 0, .int 0, .int 0, .int 0, .int 0, .int 0, .int 0, .int 0, .int 0, .int 0, .int 0, .int 0, .ref mtellFrom, .ref mtellEnd, .ref mtellValue, .ref mtellEquals, .ref mlaid, .int 0, .int 0, .int 0, .int 0])), (mkept, .inl (cA, 15360, .inl gk)), (mkeys, .inl (cA, 16, .inl gkeys)), (mrests, .inl (cA, 8, .inl gr))] [(mdone, .inl (cA, 257, .inl gd)), (mstore, .inl (cA, 4096, .inl (fun _ => 0)))] [4, 0, 1, 2] [3, 5] rfl rfl rfl (by decide) (by decide) (by decide) (c_m_keep l D cA cB h0 mwords mstore mkeys mrests mring mstrip mpins mstops mdone mkept mtape mnameValue mnamePlace mnameEquals mout mtellFrom mtellEnd mtellValue mtellEquals mlaid pp ka km zz cy aa wr es gk gkeys gr hka zkeys zr) w_517 w_387 w_516 w_518 w_519 0 (ci := 9) (T := TX9) (N := 79) rfl rfl (by decide +kernel) rfl rfl (Nat.le_of_ble_eq_true rfl) ⟨(Nat.le_of_ble_eq_true rfl), (Nat.le_of_ble_eq_true rfl)⟩ ⟨(Nat.le_of_ble_eq_true rfl), (Nat.le_of_ble_eq_true rfl)⟩ dX9_step_39 (fun W1 H locs hw hP hD hS => ?_)
  obtain ⟨gk2_1, rfl⟩ := hw
  have hP : va_P D classes [(mdone, .inl (cA, 257, .inl gd)), (mstore, .inl (cA, 4096, .inl (fun _ => 0))), (h0, .inr (9, [.ref mwords, .ref mstore, .int 0, .int 0, .int 0, .int 255, .int (nI pp), .int 0, .int 0, .int 1, .int zz, .int 0, .int cy, .int 0, .int 0, .int 0, .int 0, .int 0, .int 0, .int 0, .int 0, .int 0, .int 0, .int 0, .int 1, .int 0, .ref mkeys, .ref mrests, .int 0, .int 0, .int 0, .int 0, .int 0, .ref mring, .ref mstrip, .ref mpins, .ref mstops, .int 0, .int 0, .int es, .ref mdone, .ref mkept, .int (nI ka), .int (nI km), .int (nI (60 * ka)), .int 0, .ref mtape, .int 0, .int (-1), .int (-1), .ref mnameValue, .ref mnamePlace, .ref mnameEquals, .int 0, .ref mout, .int 0, .int 0, .int 0, .int 0, .int 0, .int 0, .int 0, .int 0, .int 0, .int 0, .int 0, .int 0, .int 0, .int 0, .int 0, .ref mtellFrom, .ref mtellEnd, .ref mtellValue, .ref mtellEquals, .ref mlaid, .int 0, .int 0, .int 0, .int 0])), (mkept, .inl (cA, 15360, .inl gk2_1)), (mkeys, .inl (cA, 16, .inl gkeys)), (mrests, .inl (cA, 8, .inl gr))] H := hP
  have hD : va_D A [(mdone, .inl (cA, 257, .inl gd)), (mstore, .inl (cA, 4096, .inl (fun _ => 0))), (h0, .inr (9, [.ref mwords, .ref mstore, .int 0, .int 0, .int 0, .int 255, .int (nI pp), .int 0, .int 0, .int 1, .int zz, .int 0, .int cy, .int 0, .int 0, .int 0, .int 0, .int 0, .int 0, .int 0, .int 0, .int 0, .int 0, .int 0, .int 1, .int 0, .ref mkeys, .ref mrests, .int 0, .int 0, .int 0, .int 0, .int 0, .ref mring, .ref mstrip, .ref mpins, .ref mstops, .int 0, .int 0, .int es, .ref mdone, .ref mkept, .int (nI ka), .int (nI km), .int (nI (60 * ka)), .int 0, .ref mtape, .int 0, .int (-1), .int (-1), .ref mnameValue, .ref mnamePlace, .ref mnameEquals, .int 0, .ref mout, .int 0, .int 0, .int 0, .int 0, .int 0, .int 0, .int 0, .int 0, .int 0, .int 0, .int 0, .int 0, .int 0, .int 0, .int 0, .ref mtellFrom, .ref mtellEnd, .ref mtellValue, .ref mtellEquals, .ref mlaid, .int 0, .int 0, .int 0, .int 0])), (mkept, .inl (cA, 15360, .inl gk2_1)), (mkeys, .inl (cA, 16, .inl gkeys)), (mrests, .inl (cA, 8, .inl gr))] := hD
  refine lv_sipush (v := 256) hx hb dX9_step_42 (by decide) ?_
  refine lv_istore_n (lv' := [(2, .int 256), (1, .int 0), (0, .ref h0)]) hx hb dX9_step_45 rfl hl (by decide) rfl (fun ls hl => ?_)
  refine lv_bipush (v := 7) hx hb dX9_step_46 (by decide) ?_
  refine lv_istore_n (lv' := [(3, .int 7), (2, .int 256), (1, .int 0), (0, .ref h0)]) hx hb dX9_step_48 rfl hl (by decide) rfl (fun ls hl => ?_)
  refine lv_iload_n hx hb dX9_step_49 rfl (lv_at hl 2 rfl) ?_
  refine lv_if_eq (tgt := 88) hx hb dX9_step_50 (by decide) (fun c_50 => ?_) (fun c_50 => absurd (by decide) c_50)
  refine lv_aload_n hx hb dX9_step_88 rfl (lv_at hl 3 rfl) ?_
  refine k_get (C := RX9) (T := TX9) (N := 79) (ci := 9) (v := .ref mstore) X hE hP 2 rfl rfl iX9 1 (by decide) w_354 rfl dX9_step_89 ?_
  refine lv_aload_n hx hb dX9_step_92 rfl (lv_at hl 3 rfl) ?_
  refine k_get (C := RX9) (T := TX9) (N := 79) (ci := 9) (v := .int (nI pp)) X hE hP 2 rfl rfl iX9 6 (by decide) w_390 rfl dX9_step_93 ?_
  refine k_ald (v := 0) X hE hP 1 rfl pp rfl hpp (by decide) rfl dX9_step_96 ?_
  refine lv_istore_n (lv' := [(2, .int 0), (3, .int 7), (1, .int 0), (0, .ref h0)]) hx hb dX9_step_97 rfl hl (by decide) rfl (fun ls hl => ?_)
  refine lv_aload_n hx hb dX9_step_98 rfl (lv_at hl 3 rfl) ?_
  refine kVi (n3 := 0) (As := []) (rest := []) X hl.1 hE hP hD hS hA [(h0, .inr (9, [.ref mwords, .ref mstore, .int 0, .int 0, .int 0, .int 255, .int (nI pp), .int 0, .int 0, .int 1, .int zz, .int 0, .int cy, .int 0, .int 0, .int 0, .int 0, .int 0, .int 0, .int 0, .int 0, .int 0, .int 0, .int 0, .int 1, .int 0, .ref mkeys, .ref mrests, .int 0, .int 0, .int 0, .int 0, .int 0, .ref mring, .ref mstrip, .ref mpins, .ref mstops, .int 0, .int 0, .int es, .ref mdone, .ref mkept, .int (nI ka), .int (nI km), .int (nI (60 * ka)), .int 0, .ref mtape, .int 0, .int (-1), .int (-1), .ref mnameValue, .ref mnamePlace, .ref mnameEquals, .int 0, .ref mout, .int 0, .int 0, .int 0, .int 0, .int 0, .int 0, .int 0, .int 0, .int 0, .int 0, .int 0, .int 0, .int 0, .int 0, .int 0, .ref mtellFrom, .ref mtellEnd, .ref mtellValue, .ref mtellEquals, .ref mlaid, .int 0, .int 0, .int 0, .int 0])), (mstore, .inl (cA, 4096, .inl (fun _ => 0)))] [(mdone, .inl (cA, 257, .inl gd)), (mkept, .inl (cA, 15360, .inl gk2_1)), (mkeys, .inl (cA, 16, .inl gkeys)), (mrests, .inl (cA, 8, .inl gr))] [2, 1] [0, 3, 4, 5] rfl rfl rfl (by decide) (by decide) (by decide) (c_m_code l D cA cB h0 mwords mstore mkeys mrests mring mstrip mpins mstops mdone mkept mtape mnameValue mnamePlace mnameEquals mout mtellFrom mtellEnd mtellValue mtellEquals mlaid pp ka km zz cy (nI (60 * ka)) 0 es hpp) w_521 w_387 w_520 w_522 w_523 0 (ci := 9) (T := TX9) (N := 79) rfl rfl (by decide +kernel) rfl rfl (Nat.le_of_ble_eq_true rfl) ⟨(Nat.le_of_ble_eq_true rfl), (Nat.le_of_ble_eq_true rfl)⟩ ⟨(Nat.le_of_ble_eq_true rfl), (Nat.le_of_ble_eq_true rfl)⟩ dX9_step_99 (fun r W1 H locs hw hP hD hS => ?_)
  obtain ⟨pp2_2, zz2_3, rfl, hf_4, rfl⟩ := hw
  have hP : va_P D classes [(mdone, .inl (cA, 257, .inl gd)), (mkept, .inl (cA, 15360, .inl gk2_1)), (mkeys, .inl (cA, 16, .inl gkeys)), (mrests, .inl (cA, 8, .inl gr)), (h0, .inr (9, [.ref mwords, .ref mstore, .int 0, .int 0, .int 0, .int 255, .int (nI pp2_2), .int 0, .int 0, .int 1, .int zz2_3, .int 0, .int cy, .int 0, .int 0, .int 0, .int 0, .int 0, .int 0, .int 0, .int 0, .int 0, .int 0, .int 0, .int 1, .int 0, .ref mkeys, .ref mrests, .int 0, .int 0, .int 0, .int 0, .int 0, .ref mring, .ref mstrip, .ref mpins, .ref mstops, .int 0, .int 0, .int es, .ref mdone, .ref mkept, .int (nI ka), .int (nI km), .int ((nI (60 * ka))), .int 0, .ref mtape, .int 0, .int (-1), .int (-1), .ref mnameValue, .ref mnamePlace, .ref mnameEquals, .int 0, .ref mout, .int 0, .int 0, .int 0, .int 0, .int 0, .int 0, .int 0, .int 0, .int 0, .int 0, .int 0, .int 0, .int 0, .int 0, .int 0, .ref mtellFrom, .ref mtellEnd, .ref mtellValue, .ref mtellEquals, .ref mlaid, .int 0, .int 0, .int 0, .int 0])), (mstore, .inl (cA, 4096, .inl (fun _ => 0)))] H := hP
  have hD : va_D A [(mdone, .inl (cA, 257, .inl gd)), (mkept, .inl (cA, 15360, .inl gk2_1)), (mkeys, .inl (cA, 16, .inl gkeys)), (mrests, .inl (cA, 8, .inl gr)), (h0, .inr (9, [.ref mwords, .ref mstore, .int 0, .int 0, .int 0, .int 255, .int (nI pp2_2), .int 0, .int 0, .int 1, .int zz2_3, .int 0, .int cy, .int 0, .int 0, .int 0, .int 0, .int 0, .int 0, .int 0, .int 0, .int 0, .int 0, .int 0, .int 1, .int 0, .ref mkeys, .ref mrests, .int 0, .int 0, .int 0, .int 0, .int 0, .ref mring, .ref mstrip, .ref mpins, .ref mstops, .int 0, .int 0, .int es, .ref mdone, .ref mkept, .int (nI ka), .int (nI km), .int ((nI (60 * ka))), .int 0, .ref mtape, .int 0, .int (-1), .int (-1), .ref mnameValue, .ref mnamePlace, .ref mnameEquals, .int 0, .ref mout, .int 0, .int 0, .int 0, .int 0, .int 0, .int 0, .int 0, .int 0, .int 0, .int 0, .int 0, .int 0, .int 0, .int 0, .int 0, .ref mtellFrom, .ref mtellEnd, .ref mtellValue, .ref mtellEquals, .ref mlaid, .int 0, .int 0, .int 0, .int 0])), (mstore, .inl (cA, 4096, .inl (fun _ => 0)))] := hD
  refine lv_istore_n (lv' := [(3, .int 2), (2, .int 0), (1, .int 0), (0, .ref h0)]) hx hb dX9_step_102 rfl hl (by decide) rfl (fun ls hl => ?_)
  refine lv_iconst (v := 0) hx hb dX9_step_103 (by decide) ?_
  refine lv_istore (lv' := [(4, .int 0), (3, .int 2), (2, .int 0), (1, .int 0), (0, .ref h0)]) hx hb dX9_step_104 hl (by decide) rfl (fun ls hl => ?_)
  refine lv_iconst (v := 0) hx hb dX9_step_106 (by decide) ?_
  refine lv_istore (lv' := [(5, .int 0), (4, .int 0), (3, .int 2), (2, .int 0), (1, .int 0), (0, .ref h0)]) hx hb dX9_step_107 hl (by decide) rfl (fun ls hl => ?_)
  refine lv_iload hx hb dX9_step_109 (lv_at hl 0 rfl) ?_
  refine lv_iload_n hx hb dX9_step_111 rfl (lv_at hl 2 rfl) ?_
  refine lv_icmp_ge (tgt := 163) hx hb dX9_step_112 (by decide) (fun c_112 => absurd c_112 (by decide)) (fun c_112 => ?_)
  refine lv_aload_n hx hb dX9_step_115 rfl (lv_at hl 5 rfl) ?_
  refine k_get (C := RX9) (T := TX9) (N := 79) (ci := 9) (v := .int 0) X hE hP 4 rfl rfl iX9 23 (by decide) w_405 rfl dX9_step_116 ?_
  refine lv_if_le (tgt := 126) hx hb dX9_step_119 (by decide) (fun c_119 => ?_) (fun c_119 => absurd (by decide) c_119)
  refine lv_iconst (v := 0) hx hb dX9_step_126 (by decide) ?_
  refine lv_istore (lv' := [(6, .int 0), (5, .int 0), (4, .int 0), (3, .int 2), (2, .int 0), (1, .int 0), (0, .ref h0)]) hx hb dX9_step_127 hl (by decide) rfl (fun ls hl => ?_)
  refine lv_aload_n hx hb dX9_step_129 rfl (lv_at hl 6 rfl) ?_
  refine kVi (n3 := 0) (As := []) (rest := []) X hl.1 hE hP hD hS hA [(h0, .inr (9, [.ref mwords, .ref mstore, .int 0, .int 0, .int 0, .int 255, .int (nI pp2_2), .int 0, .int 0, .int 1, .int zz2_3, .int 0, .int cy, .int 0, .int 0, .int 0, .int 0, .int 0, .int 0, .int 0, .int 0, .int 0, .int 0, .int 0, .int 1, .int 0, .ref mkeys, .ref mrests, .int 0, .int 0, .int 0, .int 0, .int 0, .ref mring, .ref mstrip, .ref mpins, .ref mstops, .int 0, .int 0, .int es, .ref mdone, .ref mkept, .int (nI ka), .int (nI km), .int ((nI (60 * ka))), .int 0, .ref mtape, .int 0, .int (-1), .int (-1), .ref mnameValue, .ref mnamePlace, .ref mnameEquals, .int 0, .ref mout, .int 0, .int 0, .int 0, .int 0, .int 0, .int 0, .int 0, .int 0, .int 0, .int 0, .int 0, .int 0, .int 0, .int 0, .int 0, .ref mtellFrom, .ref mtellEnd, .ref mtellValue, .ref mtellEquals, .ref mlaid, .int 0, .int 0, .int 0, .int 0])), (mrests, .inl (cA, 8, .inl gr))] [(mdone, .inl (cA, 257, .inl gd)), (mkept, .inl (cA, 15360, .inl gk2_1)), (mkeys, .inl (cA, 16, .inl gkeys)), (mstore, .inl (cA, 4096, .inl (fun _ => 0)))] [4, 3] [0, 1, 2, 5] rfl rfl rfl (by decide) (by decide) (by decide) (c_m_pass l D cA cB h0 mwords mstore mkeys mrests mring mstrip mpins mstops mdone mkept mtape mnameValue mnamePlace mnameEquals mout mtellFrom mtellEnd mtellValue mtellEquals mlaid pp2_2 ka km zz2_3 cy (nI (60 * ka)) 0 es gr zr) w_525 w_387 w_524 w_526 w_527 0 (ci := 9) (T := TX9) (N := 79) rfl rfl (by decide +kernel) rfl rfl (Nat.le_of_ble_eq_true rfl) ⟨(Nat.le_of_ble_eq_true rfl), (Nat.le_of_ble_eq_true rfl)⟩ ⟨(Nat.le_of_ble_eq_true rfl), (Nat.le_of_ble_eq_true rfl)⟩ dX9_step_130 (fun r W1 H locs hw hP hD hS => ?_)
  obtain ⟨cy2_5, gr2_6, rfl, hf_7, rfl⟩ := hw
  have hP : va_P D classes [(mdone, .inl (cA, 257, .inl gd)), (mkept, .inl (cA, 15360, .inl gk2_1)), (mkeys, .inl (cA, 16, .inl gkeys)), (mstore, .inl (cA, 4096, .inl (fun _ => 0))), (h0, .inr (9, [.ref mwords, .ref mstore, .int 0, .int 0, .int 0, .int 255, .int (nI pp2_2), .int 0, .int 0, .int 1, .int zz2_3, .int 0, .int cy2_5, .int 0, .int 0, .int 0, .int 0, .int 0, .int 0, .int 0, .int 0, .int 0, .int 0, .int 0, .int 1, .int 0, .ref mkeys, .ref mrests, .int 0, .int 0, .int 0, .int 0, .int 0, .ref mring, .ref mstrip, .ref mpins, .ref mstops, .int 0, .int 0, .int es, .ref mdone, .ref mkept, .int (nI ka), .int (nI km), .int ((nI (60 * ka))), .int 0, .ref mtape, .int 0, .int (-1), .int (-1), .ref mnameValue, .ref mnamePlace, .ref mnameEquals, .int 0, .ref mout, .int 0, .int 0, .int 0, .int 0, .int 0, .int 0, .int 0, .int 0, .int 0, .int 0, .int 0, .int 0, .int 0, .int 0, .int 0, .ref mtellFrom, .ref mtellEnd, .ref mtellValue, .ref mtellEquals, .ref mlaid, .int 0, .int 0, .int 0, .int 0])), (mrests, .inl (cA, 8, .inl gr2_6))] H := hP
  have hD : va_D A [(mdone, .inl (cA, 257, .inl gd)), (mkept, .inl (cA, 15360, .inl gk2_1)), (mkeys, .inl (cA, 16, .inl gkeys)), (mstore, .inl (cA, 4096, .inl (fun _ => 0))), (h0, .inr (9, [.ref mwords, .ref mstore, .int 0, .int 0, .int 0, .int 255, .int (nI pp2_2), .int 0, .int 0, .int 1, .int zz2_3, .int 0, .int cy2_5, .int 0, .int 0, .int 0, .int 0, .int 0, .int 0, .int 0, .int 0, .int 0, .int 0, .int 0, .int 1, .int 0, .ref mkeys, .ref mrests, .int 0, .int 0, .int 0, .int 0, .int 0, .ref mring, .ref mstrip, .ref mpins, .ref mstops, .int 0, .int 0, .int es, .ref mdone, .ref mkept, .int (nI ka), .int (nI km), .int ((nI (60 * ka))), .int 0, .ref mtape, .int 0, .int (-1), .int (-1), .ref mnameValue, .ref mnamePlace, .ref mnameEquals, .int 0, .ref mout, .int 0, .int 0, .int 0, .int 0, .int 0, .int 0, .int 0, .int 0, .int 0, .int 0, .int 0, .int 0, .int 0, .int 0, .int 0, .ref mtellFrom, .ref mtellEnd, .ref mtellValue, .ref mtellEquals, .ref mlaid, .int 0, .int 0, .int 0, .int 0])), (mrests, .inl (cA, 8, .inl gr2_6))] := hD
  refine lv_istore (lv' := [(7, .int 1), (6, .int 0), (5, .int 0), (4, .int 0), (3, .int 2), (2, .int 0), (1, .int 0), (0, .ref h0)]) hx hb dX9_step_133 hl (by decide) rfl (fun ls hl => ?_)
  refine lv_iload hx hb dX9_step_135 (lv_at hl 3 rfl) ?_
  refine lv_if_ne (tgt := 150) hx hb dX9_step_137 (by decide) (fun c_137 => absurd (by decide) c_137) (fun c_137 => ?_)
  refine lv_iload hx hb dX9_step_140 (lv_at hl 1 rfl) ?_
  refine lv_if_eq (tgt := 154) hx hb dX9_step_142 (by decide) (fun c_142 => ?_) (fun c_142 => absurd (by decide) c_142)
  refine lv_iconst (v := 0) hx hb dX9_step_154 (by decide) ?_
  refine lv_istore (lv' := [(4, .int 0), (7, .int 1), (6, .int 0), (5, .int 0), (3, .int 2), (2, .int 0), (1, .int 0), (0, .ref h0)]) hx hb dX9_step_155 hl (by decide) rfl (fun ls hl => ?_)
  refine lv_iinc (v := 1) (lv' := [(5, .int 1), (4, .int 0), (7, .int 1), (6, .int 0), (3, .int 2), (2, .int 0), (1, .int 0), (0, .ref h0)]) hx hb dX9_step_157 hl (k := 3) rfl (by decide) (by decide) rfl (fun ls hl => ?_)
  refine lv_goto (tgt := 109) hx hb dX9_step_160 (by decide) ?_
  refine lv_iload hx hb dX9_step_109 (lv_at hl 0 rfl) ?_
  refine lv_iload_n hx hb dX9_step_111 rfl (lv_at hl 4 rfl) ?_
  refine lv_icmp_ge (tgt := 163) hx hb dX9_step_112 (by decide) (fun c_112_8 => absurd c_112_8 (by decide)) (fun c_112_8 => ?_)
  refine lv_aload_n hx hb dX9_step_115 rfl (lv_at hl 7 rfl) ?_
  refine k_get (C := RX9) (T := TX9) (N := 79) (ci := 9) (v := .int 0) X hE hP 4 rfl rfl iX9 23 (by decide) w_405 rfl dX9_step_116 ?_
  refine lv_if_le (tgt := 126) hx hb dX9_step_119 (by decide) (fun c_119_9 => ?_) (fun c_119_9 => absurd (by decide) c_119_9)
  refine lv_iconst (v := 0) hx hb dX9_step_126 (by decide) ?_
  refine lv_istore (lv' := [(6, .int 0), (5, .int 1), (4, .int 0), (7, .int 1), (3, .int 2), (2, .int 0), (1, .int 0), (0, .ref h0)]) hx hb dX9_step_127 hl (by decide) rfl (fun ls hl => ?_)
  refine lv_aload_n hx hb dX9_step_129 rfl (lv_at hl 7 rfl) ?_
  refine kVi (n3 := 0) (As := []) (rest := []) X hl.1 hE hP hD hS hA [(h0, .inr (9, [.ref mwords, .ref mstore, .int 0, .int 0, .int 0, .int 255, .int (nI pp2_2), .int 0, .int 0, .int 1, .int zz2_3, .int 0, .int cy2_5, .int 0, .int 0, .int 0, .int 0, .int 0, .int 0, .int 0, .int 0, .int 0, .int 0, .int 0, .int 1, .int 0, .ref mkeys, .ref mrests, .int 0, .int 0, .int 0, .int 0, .int 0, .ref mring, .ref mstrip, .ref mpins, .ref mstops, .int 0, .int 0, .int es, .ref mdone, .ref mkept, .int (nI ka), .int (nI km), .int ((nI (60 * ka))), .int 0, .ref mtape, .int 0, .int (-1), .int (-1), .ref mnameValue, .ref mnamePlace, .ref mnameEquals, .int 0, .ref mout, .int 0, .int 0, .int 0, .int 0, .int 0, .int 0, .int 0, .int 0, .int 0, .int 0, .int 0, .int 0, .int 0, .int 0, .int 0, .ref mtellFrom, .ref mtellEnd, .ref mtellValue, .ref mtellEquals, .ref mlaid, .int 0, .int 0, .int 0, .int 0])), (mrests, .inl (cA, 8, .inl gr2_6))] [(mdone, .inl (cA, 257, .inl gd)), (mkept, .inl (cA, 15360, .inl gk2_1)), (mkeys, .inl (cA, 16, .inl gkeys)), (mstore, .inl (cA, 4096, .inl (fun _ => 0)))] [4, 5] [0, 1, 2, 3] rfl rfl rfl (by decide) (by decide) (by decide) (c_m_pass l D cA cB h0 mwords mstore mkeys mrests mring mstrip mpins mstops mdone mkept mtape mnameValue mnamePlace mnameEquals mout mtellFrom mtellEnd mtellValue mtellEquals mlaid pp2_2 ka km zz2_3 cy2_5 (nI (60 * ka)) 0 es gr2_6 hf_7) w_525 w_387 w_524 w_526 w_527 0 (ci := 9) (T := TX9) (N := 79) rfl rfl (by decide +kernel) rfl rfl (Nat.le_of_ble_eq_true rfl) ⟨(Nat.le_of_ble_eq_true rfl), (Nat.le_of_ble_eq_true rfl)⟩ ⟨(Nat.le_of_ble_eq_true rfl), (Nat.le_of_ble_eq_true rfl)⟩ dX9_step_130 (fun r W1 H locs hw hP hD hS => ?_)
  obtain ⟨cy2_10, gr2_11, rfl, hf_12, rfl⟩ := hw
  have hP : va_P D classes [(mdone, .inl (cA, 257, .inl gd)), (mkept, .inl (cA, 15360, .inl gk2_1)), (mkeys, .inl (cA, 16, .inl gkeys)), (mstore, .inl (cA, 4096, .inl (fun _ => 0))), (h0, .inr (9, [.ref mwords, .ref mstore, .int 0, .int 0, .int 0, .int 255, .int (nI pp2_2), .int 0, .int 0, .int 1, .int zz2_3, .int 0, .int cy2_10, .int 0, .int 0, .int 0, .int 0, .int 0, .int 0, .int 0, .int 0, .int 0, .int 0, .int 0, .int 1, .int 0, .ref mkeys, .ref mrests, .int 0, .int 0, .int 0, .int 0, .int 0, .ref mring, .ref mstrip, .ref mpins, .ref mstops, .int 0, .int 0, .int es, .ref mdone, .ref mkept, .int (nI ka), .int (nI km), .int ((nI (60 * ka))), .int 0, .ref mtape, .int 0, .int (-1), .int (-1), .ref mnameValue, .ref mnamePlace, .ref mnameEquals, .int 0, .ref mout, .int 0, .int 0, .int 0, .int 0, .int 0, .int 0, .int 0, .int 0, .int 0, .int 0, .int 0, .int 0, .int 0, .int 0, .int 0, .ref mtellFrom, .ref mtellEnd, .ref mtellValue, .ref mtellEquals, .ref mlaid, .int 0, .int 0, .int 0, .int 0])), (mrests, .inl (cA, 8, .inl gr2_11))] H := hP
  have hD : va_D A [(mdone, .inl (cA, 257, .inl gd)), (mkept, .inl (cA, 15360, .inl gk2_1)), (mkeys, .inl (cA, 16, .inl gkeys)), (mstore, .inl (cA, 4096, .inl (fun _ => 0))), (h0, .inr (9, [.ref mwords, .ref mstore, .int 0, .int 0, .int 0, .int 255, .int (nI pp2_2), .int 0, .int 0, .int 1, .int zz2_3, .int 0, .int cy2_10, .int 0, .int 0, .int 0, .int 0, .int 0, .int 0, .int 0, .int 0, .int 0, .int 0, .int 0, .int 1, .int 0, .ref mkeys, .ref mrests, .int 0, .int 0, .int 0, .int 0, .int 0, .ref mring, .ref mstrip, .ref mpins, .ref mstops, .int 0, .int 0, .int es, .ref mdone, .ref mkept, .int (nI ka), .int (nI km), .int ((nI (60 * ka))), .int 0, .ref mtape, .int 0, .int (-1), .int (-1), .ref mnameValue, .ref mnamePlace, .ref mnameEquals, .int 0, .ref mout, .int 0, .int 0, .int 0, .int 0, .int 0, .int 0, .int 0, .int 0, .int 0, .int 0, .int 0, .int 0, .int 0, .int 0, .int 0, .ref mtellFrom, .ref mtellEnd, .ref mtellValue, .ref mtellEquals, .ref mlaid, .int 0, .int 0, .int 0, .int 0])), (mrests, .inl (cA, 8, .inl gr2_11))] := hD
  refine lv_istore (lv' := [(7, .int 1), (6, .int 0), (5, .int 1), (4, .int 0), (3, .int 2), (2, .int 0), (1, .int 0), (0, .ref h0)]) hx hb dX9_step_133 hl (by decide) rfl (fun ls hl => ?_)
  refine lv_iload hx hb dX9_step_135 (lv_at hl 3 rfl) ?_
  refine lv_if_ne (tgt := 150) hx hb dX9_step_137 (by decide) (fun c_137_13 => absurd (by decide) c_137_13) (fun c_137_13 => ?_)
  refine lv_iload hx hb dX9_step_140 (lv_at hl 1 rfl) ?_
  refine lv_if_eq (tgt := 154) hx hb dX9_step_142 (by decide) (fun c_142_14 => ?_) (fun c_142_14 => absurd (by decide) c_142_14)
  refine lv_iconst (v := 0) hx hb dX9_step_154 (by decide) ?_
  refine lv_istore (lv' := [(4, .int 0), (7, .int 1), (6, .int 0), (5, .int 1), (3, .int 2), (2, .int 0), (1, .int 0), (0, .ref h0)]) hx hb dX9_step_155 hl (by decide) rfl (fun ls hl => ?_)
  refine lv_iinc (v := 2) (lv' := [(5, .int 2), (4, .int 0), (7, .int 1), (6, .int 0), (3, .int 2), (2, .int 0), (1, .int 0), (0, .ref h0)]) hx hb dX9_step_157 hl (k := 3) rfl (by decide) (by decide) rfl (fun ls hl => ?_)
  refine lv_goto (tgt := 109) hx hb dX9_step_160 (by decide) ?_
  refine lv_iload hx hb dX9_step_109 (lv_at hl 0 rfl) ?_
  refine lv_iload_n hx hb dX9_step_111 rfl (lv_at hl 4 rfl) ?_
  refine lv_icmp_ge (tgt := 163) hx hb dX9_step_112 (by decide) (fun c_112_15 => ?_) (fun c_112_15 => absurd (by decide) c_112_15)
  refine lv_iload hx hb dX9_step_163 (lv_at hl 1 rfl) ?_
  refine lv_if_eq (tgt := 202) hx hb dX9_step_165 (by decide) (fun c_165 => ?_) (fun c_165 => absurd (by decide) c_165)
  refine lv_aload_n hx hb dX9_step_202 rfl (lv_at hl 7 rfl) ?_
  refine k_get (C := RX9) (T := TX9) (N := 79) (ci := 9) (v := .ref mdone) X hE hP 4 rfl rfl iX9 40 (by decide) w_362 rfl dX9_step_203 ?_
  refine lv_iload_n hx hb dX9_step_206 rfl (lv_at hl 5 rfl) ?_
  refine lv_dup2_11 hx hb dX9_step_207 rfl rfl ?_
  refine k_ald (v := gd 0) X hE hP 0 rfl 0 rfl (by decide) (by decide) rfl dX9_step_208 ?_
  refine lv_iconst (v := 1) hx hb dX9_step_209 (by decide) ?_
  refine lv_iadd hx hb dX9_step_210 ?_
  refine k_ast X hE hP hD hS 0 rfl 0 rfl (by decide) (by decide) [(mdone, .inl (cA, 257, .inl (upd gd 0 ((gd 0) + 1)))), (mkept, .inl (cA, 15360, .inl gk2_1)), (mkeys, .inl (cA, 16, .inl gkeys)), (mstore, .inl (cA, 4096, .inl (fun _ => 0))), (h0, .inr (9, [.ref mwords, .ref mstore, .int 0, .int 0, .int 0, .int 255, .int (nI pp2_2), .int 0, .int 0, .int 1, .int zz2_3, .int 0, .int cy2_10, .int 0, .int 0, .int 0, .int 0, .int 0, .int 0, .int 0, .int 0, .int 0, .int 0, .int 0, .int 1, .int 0, .ref mkeys, .ref mrests, .int 0, .int 0, .int 0, .int 0, .int 0, .ref mring, .ref mstrip, .ref mpins, .ref mstops, .int 0, .int 0, .int es, .ref mdone, .ref mkept, .int (nI ka), .int (nI km), .int ((nI (60 * ka))), .int 0, .ref mtape, .int 0, .int (-1), .int (-1), .ref mnameValue, .ref mnamePlace, .ref mnameEquals, .int 0, .ref mout, .int 0, .int 0, .int 0, .int 0, .int 0, .int 0, .int 0, .int 0, .int 0, .int 0, .int 0, .int 0, .int 0, .int 0, .int 0, .ref mtellFrom, .ref mtellEnd, .ref mtellValue, .ref mtellEquals, .ref mlaid, .int 0, .int 0, .int 0, .int 0])), (mrests, .inl (cA, 8, .inl gr2_11))] rfl dX9_step_211 (fun H locs hP hD hS => ?_)
  refine lv_aload_n hx hb dX9_step_212 rfl (lv_at hl 7 rfl) ?_
  refine k_get (C := RX9) (T := TX9) (N := 79) (ci := 9) (v := .ref mkept) X hE hP 4 rfl rfl iX9 41 (by decide) w_363 rfl dX9_step_213 ?_
  refine lv_aload_n hx hb dX9_step_216 rfl (lv_at hl 7 rfl) ?_
  refine k_get (C := RX9) (T := TX9) (N := 79) (ci := 9) (v := .int ((nI (60 * ka)))) X hE hP 4 rfl rfl iX9 44 (by decide) w_498 rfl dX9_step_217 ?_
  refine lv_bipush (v := 49) hx hb dX9_step_220 (by decide) ?_
  refine lv_iadd hx hb dX9_step_222 ?_
  refine tk (y := nI ((60 * ka) + 49)) (nI_add _ 49) ?_
  refine lv_iload_n hx hb dX9_step_223 rfl (lv_at hl 5 rfl) ?_
  refine k_ast X hE hP hD hS 1 rfl ((60 * ka) + 49) rfl (by omega) (by decide) [(mdone, .inl (cA, 257, .inl (upd gd 0 ((gd 0) + 1)))), (mkept, .inl (cA, 15360, .inl (upd gk2_1 ((60 * ka) + 49) 0))), (mkeys, .inl (cA, 16, .inl gkeys)), (mstore, .inl (cA, 4096, .inl (fun _ => 0))), (h0, .inr (9, [.ref mwords, .ref mstore, .int 0, .int 0, .int 0, .int 255, .int (nI pp2_2), .int 0, .int 0, .int 1, .int zz2_3, .int 0, .int cy2_10, .int 0, .int 0, .int 0, .int 0, .int 0, .int 0, .int 0, .int 0, .int 0, .int 0, .int 0, .int 1, .int 0, .ref mkeys, .ref mrests, .int 0, .int 0, .int 0, .int 0, .int 0, .ref mring, .ref mstrip, .ref mpins, .ref mstops, .int 0, .int 0, .int es, .ref mdone, .ref mkept, .int (nI ka), .int (nI km), .int ((nI (60 * ka))), .int 0, .ref mtape, .int 0, .int (-1), .int (-1), .ref mnameValue, .ref mnamePlace, .ref mnameEquals, .int 0, .ref mout, .int 0, .int 0, .int 0, .int 0, .int 0, .int 0, .int 0, .int 0, .int 0, .int 0, .int 0, .int 0, .int 0, .int 0, .int 0, .ref mtellFrom, .ref mtellEnd, .ref mtellValue, .ref mtellEquals, .ref mlaid, .int 0, .int 0, .int 0, .int 0])), (mrests, .inl (cA, 8, .inl gr2_11))] rfl dX9_step_224 (fun H locs hP hD hS => ?_)
  refine lv_aload_n hx hb dX9_step_225 rfl (lv_at hl 7 rfl) ?_
  refine k_get (C := RX9) (T := TX9) (N := 79) (ci := 9) (v := .ref mkept) X hE hP 4 rfl rfl iX9 41 (by decide) w_363 rfl dX9_step_226 ?_
  refine lv_aload_n hx hb dX9_step_229 rfl (lv_at hl 7 rfl) ?_
  refine k_get (C := RX9) (T := TX9) (N := 79) (ci := 9) (v := .int ((nI (60 * ka)))) X hE hP 4 rfl rfl iX9 44 (by decide) w_498 rfl dX9_step_230 ?_
  refine lv_bipush (v := 50) hx hb dX9_step_233 (by decide) ?_
  refine lv_iadd hx hb dX9_step_235 ?_
  refine tk (y := nI ((60 * ka) + 50)) (nI_add _ 50) ?_
  refine lv_aload_n hx hb dX9_step_236 rfl (lv_at hl 7 rfl) ?_
  refine k_get (C := RX9) (T := TX9) (N := 79) (ci := 9) (v := .int 0) X hE hP 4 rfl rfl iX9 45 (by decide) w_499 rfl dX9_step_237 ?_
  refine k_ast X hE hP hD hS 1 rfl ((60 * ka) + 50) rfl (by omega) (by decide) [(mdone, .inl (cA, 257, .inl (upd gd 0 ((gd 0) + 1)))), (mkept, .inl (cA, 15360, .inl (upd (upd gk2_1 ((60 * ka) + 49) 0) ((60 * ka) + 50) 0))), (mkeys, .inl (cA, 16, .inl gkeys)), (mstore, .inl (cA, 4096, .inl (fun _ => 0))), (h0, .inr (9, [.ref mwords, .ref mstore, .int 0, .int 0, .int 0, .int 255, .int (nI pp2_2), .int 0, .int 0, .int 1, .int zz2_3, .int 0, .int cy2_10, .int 0, .int 0, .int 0, .int 0, .int 0, .int 0, .int 0, .int 0, .int 0, .int 0, .int 0, .int 1, .int 0, .ref mkeys, .ref mrests, .int 0, .int 0, .int 0, .int 0, .int 0, .ref mring, .ref mstrip, .ref mpins, .ref mstops, .int 0, .int 0, .int es, .ref mdone, .ref mkept, .int (nI ka), .int (nI km), .int ((nI (60 * ka))), .int 0, .ref mtape, .int 0, .int (-1), .int (-1), .ref mnameValue, .ref mnamePlace, .ref mnameEquals, .int 0, .ref mout, .int 0, .int 0, .int 0, .int 0, .int 0, .int 0, .int 0, .int 0, .int 0, .int 0, .int 0, .int 0, .int 0, .int 0, .int 0, .ref mtellFrom, .ref mtellEnd, .ref mtellValue, .ref mtellEquals, .ref mlaid, .int 0, .int 0, .int 0, .int 0])), (mrests, .inl (cA, 8, .inl gr2_11))] rfl dX9_step_240 (fun H locs hP hD hS => ?_)
  refine lv_aload_n hx hb dX9_step_241 rfl (lv_at hl 7 rfl) ?_
  refine lv_aload_n hx hb dX9_step_242 rfl (lv_at hl 7 rfl) ?_
  refine k_get (C := RX9) (T := TX9) (N := 79) (ci := 9) (v := .int (nI ka)) X hE hP 4 rfl rfl iX9 42 (by decide) w_497 rfl dX9_step_243 ?_
  refine lv_iconst (v := 1) hx hb dX9_step_246 (by decide) ?_
  refine lv_iadd hx hb dX9_step_247 ?_
  refine tk (y := nI (ka + 1)) (nI_add _ 1) ?_
  refine lv_sipush (v := 255) hx hb dX9_step_248 (by decide) ?_
  refine lv_iand hx hb dX9_step_251 ?_
  refine tk (y := nI ((ka + 1) % 256)) (pk_andN (by omega) 8 (by decide)) ?_
  refine k_put (C := RX9) (T := TX9) (N := 79) (ci := 9) (v := .int (nI ((ka + 1) % 256))) (ty := .int) X hE hP hD hS 4 rfl rfl iX9 tyX9 tyX9_ok nmX9 42 (by decide) w_497 rfl (by decide +kernel) rfl rfl (Nat.le_of_ble_eq_true rfl) [(mdone, .inl (cA, 257, .inl (upd gd 0 ((gd 0) + 1)))), (mkept, .inl (cA, 15360, .inl (upd (upd gk2_1 ((60 * ka) + 49) 0) ((60 * ka) + 50) 0))), (mkeys, .inl (cA, 16, .inl gkeys)), (mstore, .inl (cA, 4096, .inl (fun _ => 0))), (h0, .inr (9, [.ref mwords, .ref mstore, .int 0, .int 0, .int 0, .int 255, .int (nI pp2_2), .int 0, .int 0, .int 1, .int zz2_3, .int 0, .int cy2_10, .int 0, .int 0, .int 0, .int 0, .int 0, .int 0, .int 0, .int 0, .int 0, .int 0, .int 0, .int 1, .int 0, .ref mkeys, .ref mrests, .int 0, .int 0, .int 0, .int 0, .int 0, .ref mring, .ref mstrip, .ref mpins, .ref mstops, .int 0, .int 0, .int es, .ref mdone, .ref mkept, .int (nI ((ka + 1) % 256)), .int (nI km), .int ((nI (60 * ka))), .int 0, .ref mtape, .int 0, .int (-1), .int (-1), .ref mnameValue, .ref mnamePlace, .ref mnameEquals, .int 0, .ref mout, .int 0, .int 0, .int 0, .int 0, .int 0, .int 0, .int 0, .int 0, .int 0, .int 0, .int 0, .int 0, .int 0, .int 0, .int 0, .ref mtellFrom, .ref mtellEnd, .ref mtellValue, .ref mtellEquals, .ref mlaid, .int 0, .int 0, .int 0, .int 0])), (mrests, .inl (cA, 8, .inl gr2_11))] rfl dX9_step_252 (fun H locs hP hD hS => ?_)
  refine lv_aload_n hx hb dX9_step_255 rfl (lv_at hl 7 rfl) ?_
  refine lv_dup hx hb dX9_step_256 rfl ?_
  refine k_get (C := RX9) (T := TX9) (N := 79) (ci := 9) (v := .int (nI km)) X hE hP 4 rfl rfl iX9 43 (by decide) w_414 rfl dX9_step_257 ?_
  refine lv_aload_n hx hb dX9_step_260 rfl (lv_at hl 7 rfl) ?_
  refine k_get (C := RX9) (T := TX9) (N := 79) (ci := 9) (v := .int (nI km)) X hE hP 4 rfl rfl iX9 43 (by decide) w_414 rfl dX9_step_261 ?_
  refine lv_sipush (v := 256) hx hb dX9_step_264 (by decide) ?_
  refine lv_icmp_ge (tgt := 274) hx hb dX9_step_267 (by decide) (fun c_267 => ?_) (fun c_267 => ?_)
  · skip
    refine lv_iconst (v := 0) hx hb dX9_step_274 (by decide) ?_
    refine lv_iadd hx hb dX9_step_275 ?_
    refine tk (y := nI (km + 0)) (nI_add _ 0) ?_
    refine k_put (C := RX9) (T := TX9) (N := 79) (ci := 9) (v := .int (nI (km + 0))) (ty := .int) X hE hP hD hS 4 rfl rfl iX9 tyX9 tyX9_ok nmX9 43 (by decide) w_414 rfl (by decide +kernel) rfl rfl (Nat.le_of_ble_eq_true rfl) [(mdone, .inl (cA, 257, .inl (upd gd 0 ((gd 0) + 1)))), (mkept, .inl (cA, 15360, .inl (upd (upd gk2_1 ((60 * ka) + 49) 0) ((60 * ka) + 50) 0))), (mkeys, .inl (cA, 16, .inl gkeys)), (mstore, .inl (cA, 4096, .inl (fun _ => 0))), (h0, .inr (9, [.ref mwords, .ref mstore, .int 0, .int 0, .int 0, .int 255, .int (nI pp2_2), .int 0, .int 0, .int 1, .int zz2_3, .int 0, .int cy2_10, .int 0, .int 0, .int 0, .int 0, .int 0, .int 0, .int 0, .int 0, .int 0, .int 0, .int 0, .int 1, .int 0, .ref mkeys, .ref mrests, .int 0, .int 0, .int 0, .int 0, .int 0, .ref mring, .ref mstrip, .ref mpins, .ref mstops, .int 0, .int 0, .int es, .ref mdone, .ref mkept, .int (nI ((ka + 1) % 256)), .int (nI (km + 0)), .int ((nI (60 * ka))), .int 0, .ref mtape, .int 0, .int (-1), .int (-1), .ref mnameValue, .ref mnamePlace, .ref mnameEquals, .int 0, .ref mout, .int 0, .int 0, .int 0, .int 0, .int 0, .int 0, .int 0, .int 0, .int 0, .int 0, .int 0, .int 0, .int 0, .int 0, .int 0, .ref mtellFrom, .ref mtellEnd, .ref mtellValue, .ref mtellEquals, .ref mlaid, .int 0, .int 0, .int 0, .int 0])), (mrests, .inl (cA, 8, .inl gr2_11))] rfl dX9_step_276 (fun H locs hP hD hS => ?_)
    refine lv_iconst (v := 1) hx hb dX9_step_279 (by decide) ?_
    have hP : va_P D classes [(h0, .inr (9, [.ref mwords, .ref mstore, .int 0, .int 0, .int 0, .int 255, .int (nI pp2_2), .int 0, .int 0, .int 1, .int zz2_3, .int 0, .int cy2_10, .int 0, .int 0, .int 0, .int 0, .int 0, .int 0, .int 0, .int 0, .int 0, .int 0, .int 0, .int 1, .int 0, .ref mkeys, .ref mrests, .int 0, .int 0, .int 0, .int 0, .int 0, .ref mring, .ref mstrip, .ref mpins, .ref mstops, .int 0, .int 0, .int es, .ref mdone, .ref mkept, .int (nI ((ka + 1) % 256)), .int (nI (km + 0)), .int ((nI (60 * ka))), .int 0, .ref mtape, .int 0, .int (-1), .int (-1), .ref mnameValue, .ref mnamePlace, .ref mnameEquals, .int 0, .ref mout, .int 0, .int 0, .int 0, .int 0, .int 0, .int 0, .int 0, .int 0, .int 0, .int 0, .int 0, .int 0, .int 0, .int 0, .int 0, .ref mtellFrom, .ref mtellEnd, .ref mtellValue, .ref mtellEquals, .ref mlaid, .int 0, .int 0, .int 0, .int 0])), (mkept, .inl (cA, 15360, .inl (upd (upd gk2_1 ((60 * ka) + 49) 0) ((60 * ka) + 50) 0))), (mkeys, .inl (cA, 16, .inl gkeys)), (mrests, .inl (cA, 8, .inl gr2_11)), (mdone, .inl (cA, 257, .inl (upd gd 0 ((gd 0) + 1)))), (mstore, .inl (cA, 4096, .inl (fun _ => 0)))] _ := hP.sub [4, 1, 2, 5, 0, 3] rfl
    have hD : va_D A [(h0, .inr (9, [.ref mwords, .ref mstore, .int 0, .int 0, .int 0, .int 255, .int (nI pp2_2), .int 0, .int 0, .int 1, .int zz2_3, .int 0, .int cy2_10, .int 0, .int 0, .int 0, .int 0, .int 0, .int 0, .int 0, .int 0, .int 0, .int 0, .int 0, .int 1, .int 0, .ref mkeys, .ref mrests, .int 0, .int 0, .int 0, .int 0, .int 0, .ref mring, .ref mstrip, .ref mpins, .ref mstops, .int 0, .int 0, .int es, .ref mdone, .ref mkept, .int (nI ((ka + 1) % 256)), .int (nI (km + 0)), .int ((nI (60 * ka))), .int 0, .ref mtape, .int 0, .int (-1), .int (-1), .ref mnameValue, .ref mnamePlace, .ref mnameEquals, .int 0, .ref mout, .int 0, .int 0, .int 0, .int 0, .int 0, .int 0, .int 0, .int 0, .int 0, .int 0, .int 0, .int 0, .int 0, .int 0, .int 0, .ref mtellFrom, .ref mtellEnd, .ref mtellValue, .ref mtellEquals, .ref mlaid, .int 0, .int 0, .int 0, .int 0])), (mkept, .inl (cA, 15360, .inl (upd (upd gk2_1 ((60 * ka) + 49) 0) ((60 * ka) + 50) 0))), (mkeys, .inl (cA, 16, .inl gkeys)), (mrests, .inl (cA, 8, .inl gr2_11)), (mdone, .inl (cA, 257, .inl (upd gd 0 ((gd 0) + 1)))), (mstore, .inl (cA, 4096, .inl (fun _ => 0)))] := hD.sub [4, 1, 2, 5, 0, 3] (by decide) rfl
    exact endZ X hr rfl hlocks hP hD hS dX9_step_280 ⟨pp2_2, ((ka + 1) % 256), (km + 0), zz2_3, cy2_10, (nI (60 * ka)), 0, (upd (upd gk2_1 ((60 * ka) + 49) 0) ((60 * ka) + 50) 0), gr2_11, (upd gd 0 ((gd 0) + 1)), rfl, hf_4, (Nat.mod_lt _ (by decide)), (by omega), hf_12, rfl⟩
  · skip
    have hkl : km < 256 := by rcases Nat.lt_or_ge km 256 with q | q; exact q; exact absurd (nI_le (a := 256) q (by omega)) c_267
    refine lv_iconst (v := 1) hx hb dX9_step_270 (by decide) ?_
    refine lv_goto (tgt := 275) hx hb dX9_step_271 (by decide) ?_
    refine lv_iadd hx hb dX9_step_275 ?_
    refine tk (y := nI (km + 1)) (nI_add _ 1) ?_
    refine k_put (C := RX9) (T := TX9) (N := 79) (ci := 9) (v := .int (nI (km + 1))) (ty := .int) X hE hP hD hS 4 rfl rfl iX9 tyX9 tyX9_ok nmX9 43 (by decide) w_414 rfl (by decide +kernel) rfl rfl (Nat.le_of_ble_eq_true rfl) [(mdone, .inl (cA, 257, .inl (upd gd 0 ((gd 0) + 1)))), (mkept, .inl (cA, 15360, .inl (upd (upd gk2_1 ((60 * ka) + 49) 0) ((60 * ka) + 50) 0))), (mkeys, .inl (cA, 16, .inl gkeys)), (mstore, .inl (cA, 4096, .inl (fun _ => 0))), (h0, .inr (9, [.ref mwords, .ref mstore, .int 0, .int 0, .int 0, .int 255, .int (nI pp2_2), .int 0, .int 0, .int 1, .int zz2_3, .int 0, .int cy2_10, .int 0, .int 0, .int 0, .int 0, .int 0, .int 0, .int 0, .int 0, .int 0, .int 0, .int 0, .int 1, .int 0, .ref mkeys, .ref mrests, .int 0, .int 0, .int 0, .int 0, .int 0, .ref mring, .ref mstrip, .ref mpins, .ref mstops, .int 0, .int 0, .int es, .ref mdone, .ref mkept, .int (nI ((ka + 1) % 256)), .int (nI (km + 1)), .int ((nI (60 * ka))), .int 0, .ref mtape, .int 0, .int (-1), .int (-1), .ref mnameValue, .ref mnamePlace, .ref mnameEquals, .int 0, .ref mout, .int 0, .int 0, .int 0, .int 0, .int 0, .int 0, .int 0, .int 0, .int 0, .int 0, .int 0, .int 0, .int 0, .int 0, .int 0, .ref mtellFrom, .ref mtellEnd, .ref mtellValue, .ref mtellEquals, .ref mlaid, .int 0, .int 0, .int 0, .int 0])), (mrests, .inl (cA, 8, .inl gr2_11))] rfl dX9_step_276 (fun H locs hP hD hS => ?_)
    refine lv_iconst (v := 1) hx hb dX9_step_279 (by decide) ?_
    have hP : va_P D classes [(h0, .inr (9, [.ref mwords, .ref mstore, .int 0, .int 0, .int 0, .int 255, .int (nI pp2_2), .int 0, .int 0, .int 1, .int zz2_3, .int 0, .int cy2_10, .int 0, .int 0, .int 0, .int 0, .int 0, .int 0, .int 0, .int 0, .int 0, .int 0, .int 0, .int 1, .int 0, .ref mkeys, .ref mrests, .int 0, .int 0, .int 0, .int 0, .int 0, .ref mring, .ref mstrip, .ref mpins, .ref mstops, .int 0, .int 0, .int es, .ref mdone, .ref mkept, .int (nI ((ka + 1) % 256)), .int (nI (km + 1)), .int ((nI (60 * ka))), .int 0, .ref mtape, .int 0, .int (-1), .int (-1), .ref mnameValue, .ref mnamePlace, .ref mnameEquals, .int 0, .ref mout, .int 0, .int 0, .int 0, .int 0, .int 0, .int 0, .int 0, .int 0, .int 0, .int 0, .int 0, .int 0, .int 0, .int 0, .int 0, .ref mtellFrom, .ref mtellEnd, .ref mtellValue, .ref mtellEquals, .ref mlaid, .int 0, .int 0, .int 0, .int 0])), (mkept, .inl (cA, 15360, .inl (upd (upd gk2_1 ((60 * ka) + 49) 0) ((60 * ka) + 50) 0))), (mkeys, .inl (cA, 16, .inl gkeys)), (mrests, .inl (cA, 8, .inl gr2_11)), (mdone, .inl (cA, 257, .inl (upd gd 0 ((gd 0) + 1)))), (mstore, .inl (cA, 4096, .inl (fun _ => 0)))] _ := hP.sub [4, 1, 2, 5, 0, 3] rfl
    have hD : va_D A [(h0, .inr (9, [.ref mwords, .ref mstore, .int 0, .int 0, .int 0, .int 255, .int (nI pp2_2), .int 0, .int 0, .int 1, .int zz2_3, .int 0, .int cy2_10, .int 0, .int 0, .int 0, .int 0, .int 0, .int 0, .int 0, .int 0, .int 0, .int 0, .int 0, .int 1, .int 0, .ref mkeys, .ref mrests, .int 0, .int 0, .int 0, .int 0, .int 0, .ref mring, .ref mstrip, .ref mpins, .ref mstops, .int 0, .int 0, .int es, .ref mdone, .ref mkept, .int (nI ((ka + 1) % 256)), .int (nI (km + 1)), .int ((nI (60 * ka))), .int 0, .ref mtape, .int 0, .int (-1), .int (-1), .ref mnameValue, .ref mnamePlace, .ref mnameEquals, .int 0, .ref mout, .int 0, .int 0, .int 0, .int 0, .int 0, .int 0, .int 0, .int 0, .int 0, .int 0, .int 0, .int 0, .int 0, .int 0, .int 0, .ref mtellFrom, .ref mtellEnd, .ref mtellValue, .ref mtellEquals, .ref mlaid, .int 0, .int 0, .int 0, .int 0])), (mkept, .inl (cA, 15360, .inl (upd (upd gk2_1 ((60 * ka) + 49) 0) ((60 * ka) + 50) 0))), (mkeys, .inl (cA, 16, .inl gkeys)), (mrests, .inl (cA, 8, .inl gr2_11)), (mdone, .inl (cA, 257, .inl (upd gd 0 ((gd 0) + 1)))), (mstore, .inl (cA, 4096, .inl (fun _ => 0)))] := hD.sub [4, 1, 2, 5, 0, 3] (by decide) rfl
    exact endZ X hr rfl hlocks hP hD hS dX9_step_280 ⟨pp2_2, ((ka + 1) % 256), (km + 1), zz2_3, cy2_10, (nI (60 * ka)), 0, (upd (upd gk2_1 ((60 * ka) + 49) 0) ((60 * ka) + 50) 0), gr2_11, (upd gd 0 ((gd 0) + 1)), rfl, hf_4, (Nat.mod_lt _ (by decide)), (by omega), hf_12, rfl⟩
