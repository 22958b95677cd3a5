abbrev cX8_takesValue : ByteArray := prog_1_method_27_code
def yX8_takesValue : MethodName := ⟨RX8, "takesValue", "(I)Z"⟩
abbrev cX0_termHere : ByteArray := prog_2_method_17_code
def yX0_termHere : MethodName := ⟨RX0, "termHere", "()I"⟩
abbrev cX0_readSum : ByteArray := prog_2_method_15_code
def yX0_readSum : MethodName := ⟨RX0, "readSum", "()Z"⟩
abbrev cX0_beginLine : ByteArray := prog_2_method_5_code
def yX0_beginLine : MethodName := ⟨RX0, "beginLine", "(I)V"⟩
abbrev cX0_readName : ByteArray := prog_2_method_8_code
def yX0_readName : MethodName := ⟨RX0, "readName", "()Z"⟩
set_option maxRecDepth 100000 in
theorem w_497 : (Cond.methodLink "BelfryBox$Assembler" 183 yX2_find : Cond) ∈ gw := List.mem_filter.mpr ⟨List.mem_append_right _ (tb3 (List.mem_of_getElem? (i := 37) rfl)), rfl⟩
set_option maxRecDepth 100000 in
theorem w_498 : (Cond.code yX2_find prog_4_method_3_code 5 (Option.some Jvm.ClassFile.FieldType.int) : Cond) ∈ gw := List.mem_filter.mpr ⟨List.mem_append_right _ (tb3 (List.mem_of_getElem? (i := 40) rfl)), rfl⟩
set_option maxRecDepth 100000 in
theorem w_499 : (Cond.instanceMethod yX2_find : Cond) ∈ gw := List.mem_filter.mpr ⟨List.mem_append_right _ (tb3 (List.mem_of_getElem? (i := 38) rfl)), rfl⟩
set_option maxRecDepth 100000 in
theorem w_500 : (Cond.selects "BelfryBox$Names" yX2_find yX2_find : Cond) ∈ gw := List.mem_filter.mpr ⟨List.mem_append_right _ (tb3 (List.mem_of_getElem? (i := 39) rfl)), rfl⟩
set_option maxRecDepth 100000 in
theorem w_501 : (Cond.methodLink "BelfryBox$Assembler" 187 yX2_tell : Cond) ∈ gw := List.mem_filter.mpr ⟨List.mem_append_right _ (tb3 (List.mem_of_getElem? (i := 45) rfl)), rfl⟩
set_option maxRecDepth 100000 in
theorem w_502 : (Cond.fieldLink "BelfryBox$Assembler" 101 "BelfryBox$Assembler" "unknownPlace" "I" : Cond) ∈ gw := List.mem_filter.mpr ⟨List.mem_append_right _ (tb1 (List.mem_of_getElem? (i := 209) rfl)), rfl⟩
set_option maxRecDepth 100000 in
theorem w_503 : (Cond.methodLink "BelfryBox$Assembler" 127 yX0_failHere : Cond) ∈ gw := List.mem_filter.mpr ⟨List.mem_append_right _ (tb3 (List.mem_of_getElem? (i := 17) rfl)), rfl⟩
set_option maxRecDepth 100000 in
theorem w_504 : (Cond.code yX0_failHere prog_2_method_7_code 1 (Option.some Jvm.ClassFile.FieldType.boolean) : Cond) ∈ gw := List.mem_filter.mpr ⟨List.mem_append_right _ (tb3 (List.mem_of_getElem? (i := 20) rfl)), rfl⟩
set_option maxRecDepth 100000 in
theorem w_505 : (Cond.instanceMethod yX0_failHere : Cond) ∈ gw := List.mem_filter.mpr ⟨List.mem_append_right _ (tb3 (List.mem_of_getElem? (i := 19) rfl)), rfl⟩
set_option maxRecDepth 100000 in
theorem w_506 : (Cond.selects "BelfryBox$Assembler" yX0_failHere yX0_failHere : Cond) ∈ gw := List.mem_filter.mpr ⟨List.mem_append_left _ (List.mem_map.mpr ⟨(⟨"BelfryBox$Assembler", "failHere", "()Z"⟩, 18), sl1 (List.mem_of_getElem? (i := 9) rfl), rfl⟩), rfl⟩
set_option maxRecDepth 100000 in
theorem w_507 : (Cond.methodLink "BelfryBox$Assembler" 175 yX0_termHere : Cond) ∈ gw := List.mem_filter.mpr ⟨List.mem_append_right _ (tb3 (List.mem_of_getElem? (i := 33) rfl)), rfl⟩
set_option maxRecDepth 100000 in
theorem w_508 : (Cond.code yX0_termHere prog_2_method_17_code 2 (Option.some Jvm.ClassFile.FieldType.int) : Cond) ∈ gw := List.mem_filter.mpr ⟨List.mem_append_right _ (tb3 (List.mem_of_getElem? (i := 36) rfl)), rfl⟩
set_option maxRecDepth 100000 in
theorem w_509 : (Cond.instanceMethod yX0_termHere : Cond) ∈ gw := List.mem_filter.mpr ⟨List.mem_append_right _ (tb3 (List.mem_of_getElem? (i := 35) rfl)), rfl⟩
set_option maxRecDepth 100000 in
theorem w_510 : (Cond.selects "BelfryBox$Assembler" yX0_termHere yX0_termHere : Cond) ∈ gw := List.mem_filter.mpr ⟨List.mem_append_left _ (List.mem_map.mpr ⟨(⟨"BelfryBox$Assembler", "termHere", "()I"⟩, 18), sl1 (List.mem_of_getElem? (i := 13) rfl), rfl⟩), rfl⟩
set_option maxRecDepth 100000 in
theorem w_511 : (Cond.methodLink "BelfryBox$Assembler" 179 yX0_partOf : Cond) ∈ gw := List.mem_filter.mpr ⟨List.mem_append_right _ (tb3 (List.mem_of_getElem? (i := 49) rfl)), rfl⟩
set_option maxRecDepth 100000 in
theorem w_512 : (Cond.code yX0_partOf prog_2_method_16_code 2 (Option.some Jvm.ClassFile.FieldType.int) : Cond) ∈ gw := List.mem_filter.mpr ⟨List.mem_append_right _ (tb3 (List.mem_of_getElem? (i := 51) rfl)), rfl⟩
set_option maxRecDepth 100000 in
theorem w_513 : (Cond.static yX0_partOf : Cond) ∈ gw := List.mem_filter.mpr ⟨List.mem_append_right _ (tb3 (List.mem_of_getElem? (i := 50) rfl)), rfl⟩
set_option maxRecDepth 100000 in
theorem w_514 : (Cond.methodLink "BelfryBox$Assembler" 108 yX7_next : Cond) ∈ gw := List.mem_filter.mpr ⟨List.mem_append_right _ (tb2 (List.mem_of_getElem? (i := 111) rfl)), rfl⟩
set_option maxRecDepth 100000 in
theorem w_515 : (Cond.code yX7_next prog_9_method_5_code 2 (Option.none : Option Jvm.ClassFile.FieldType) : Cond) ∈ gw := List.mem_filter.mpr ⟨List.mem_append_right _ (tb2 (List.mem_of_getElem? (i := 114) rfl)), rfl⟩
set_option maxRecDepth 100000 in
theorem w_516 : (Cond.instanceMethod yX7_next : Cond) ∈ gw := List.mem_filter.mpr ⟨List.mem_append_right _ (tb2 (List.mem_of_getElem? (i := 112) rfl)), rfl⟩
set_option maxRecDepth 100000 in
theorem w_517 : (Cond.selects "BelfryBox$Tape" yX7_next yX7_next : Cond) ∈ gw := List.mem_filter.mpr ⟨List.mem_append_right _ (tb2 (List.mem_of_getElem? (i := 113) rfl)), rfl⟩
set_option maxRecDepth 100000 in
theorem w_518 : (Cond.fieldLink "BelfryBox$Assembler" 95 "BelfryBox$Assembler" "namePlace" "I" : Cond) ∈ gw := List.mem_filter.mpr ⟨List.mem_append_right _ (tb1 (List.mem_of_getElem? (i := 201) rfl)), rfl⟩
set_option maxRecDepth 100000 in
theorem w_519 : (Cond.fieldLink "BelfryBox$Assembler" 98 "BelfryBox$Assembler" "equation" "Z" : Cond) ∈ gw := List.mem_filter.mpr ⟨List.mem_append_right _ (tb1 (List.mem_of_getElem? (i := 203) rfl)), rfl⟩
set_option maxRecDepth 100000 in
theorem w_520 : (Cond.methodLink "BelfryBox$Assembler" 107 yX7_beginLine : Cond) ∈ gw := List.mem_filter.mpr ⟨List.mem_append_right _ (tb2 (List.mem_of_getElem? (i := 107) rfl)), rfl⟩
set_option maxRecDepth 100000 in
theorem w_521 : (Cond.code yX7_beginLine prog_9_method_4_code 2 (Option.none : Option Jvm.ClassFile.FieldType) : Cond) ∈ gw := List.mem_filter.mpr ⟨List.mem_append_right _ (tb2 (List.mem_of_getElem? (i := 110) rfl)), rfl⟩
set_option maxRecDepth 100000 in
theorem w_522 : (Cond.instanceMethod yX7_beginLine : Cond) ∈ gw := List.mem_filter.mpr ⟨List.mem_append_right _ (tb2 (List.mem_of_getElem? (i := 108) rfl)), rfl⟩
set_option maxRecDepth 100000 in
theorem w_523 : (Cond.selects "BelfryBox$Tape" yX7_beginLine yX7_beginLine : Cond) ∈ gw := List.mem_filter.mpr ⟨List.mem_append_right _ (tb2 (List.mem_of_getElem? (i := 109) rfl)), rfl⟩
set_option maxRecDepth 100000 in
theorem w_524 : (Cond.fieldLink "BelfryBox$Assembler" 124 "BelfryBox$Assembler" "nameLetters" "I" : Cond) ∈ gw := List.mem_filter.mpr ⟨List.mem_append_right _ (tb1 (List.mem_of_getElem? (i := 202) rfl)), rfl⟩
theorem nw_16 : (Cond.fieldLinkNest "BelfryBox$Assembler" 118 "BelfryBox$Tape" "kind" "I" "BelfryBox" : Cond) ∈ nests := List.mem_of_getElem? (i := 16) rfl
theorem nw_18 : (Cond.fieldLinkNest "BelfryBox$Assembler" 121 "BelfryBox$Tape" "letters" "I" "BelfryBox" : Cond) ∈ nests := List.mem_of_getElem? (i := 18) rfl
theorem nw_19 : (Cond.fieldLinkNest "BelfryBox$Assembler" 133 "BelfryBox$Tape" "value" "I" "BelfryBox" : Cond) ∈ nests := List.mem_of_getElem? (i := 19) rfl
theorem nw_20 : (Cond.fieldLinkNest "BelfryBox$Assembler" 172 "BelfryBox$Tape" "missing" "I" "BelfryBox" : Cond) ∈ nests := List.mem_of_getElem? (i := 20) rfl
theorem dX8_takesValue_0 : decode cX8_takesValue 0 = .ok (.iload_n 0, 1) := by decide +kernel
theorem dX8_takesValue_1 : decode cX8_takesValue 1 = .ok (.bipush 28, 2) := by decide +kernel
theorem dX8_takesValue_3 : decode cX8_takesValue 3 = .ok (.if_icmp .eq 15, 3) := by decide +kernel
theorem dX8_takesValue_18 : decode cX8_takesValue 18 = .ok (.iconst 1, 1) := by decide +kernel
theorem dX8_takesValue_19 : decode cX8_takesValue 19 = .ok (.goto 4, 3) := by decide +kernel
theorem dX8_takesValue_23 : decode cX8_takesValue 23 = .ok (.ireturn, 1) := by decide +kernel
theorem dX8_takesValue_6 : decode cX8_takesValue 6 = .ok (.iload_n 0, 1) := by decide +kernel
theorem dX8_takesValue_7 : decode cX8_takesValue 7 = .ok (.bipush 30, 2) := by decide +kernel
theorem dX8_takesValue_9 : decode cX8_takesValue 9 = .ok (.if_icmp .eq 9, 3) := by decide +kernel
theorem dX8_takesValue_12 : decode cX8_takesValue 12 = .ok (.iload_n 0, 1) := by decide +kernel
theorem dX8_takesValue_13 : decode cX8_takesValue 13 = .ok (.bipush 31, 2) := by decide +kernel
theorem dX8_takesValue_15 : decode cX8_takesValue 15 = .ok (.if_icmp .ne 7, 3) := by decide +kernel
theorem dX8_takesValue_22 : decode cX8_takesValue 22 = .ok (.iconst 0, 1) := by decide +kernel
theorem dX0_termHere_0 : decode cX0_termHere 0 = .ok (.aload_n 0, 1) := by decide +kernel
theorem dX0_termHere_1 : decode cX0_termHere 1 = .ok (.getfield 32, 3) := by decide +kernel
theorem dX0_termHere_4 : decode cX0_termHere 4 = .ok (.getfield 118, 3) := by decide +kernel
theorem dX0_termHere_7 : decode cX0_termHere 7 = .ok (.sipush 259, 3) := by decide +kernel
theorem dX0_termHere_10 : decode cX0_termHere 10 = .ok (.if_icmp .ne 11, 3) := by decide +kernel
theorem dX0_termHere_21 : decode cX0_termHere 21 = .ok (.aload_n 0, 1) := by decide +kernel
theorem dX0_termHere_22 : decode cX0_termHere 22 = .ok (.getfield 32, 3) := by decide +kernel
theorem dX0_termHere_25 : decode cX0_termHere 25 = .ok (.getfield 118, 3) := by decide +kernel
theorem dX0_termHere_28 : decode cX0_termHere 28 = .ok (.bipush 46, 2) := by decide +kernel
theorem dX0_termHere_30 : decode cX0_termHere 30 = .ok (.if_icmp .ne 8, 3) := by decide +kernel
theorem dX0_termHere_38 : decode cX0_termHere 38 = .ok (.aload_n 0, 1) := by decide +kernel
theorem dX0_termHere_39 : decode cX0_termHere 39 = .ok (.getfield 18, 3) := by decide +kernel
theorem dX0_termHere_42 : decode cX0_termHere 42 = .ok (.aload_n 0, 1) := by decide +kernel
theorem dX0_termHere_43 : decode cX0_termHere 43 = .ok (.getfield 32, 3) := by decide +kernel
theorem dX0_termHere_46 : decode cX0_termHere 46 = .ok (.aload_n 0, 1) := by decide +kernel
theorem dX0_termHere_47 : decode cX0_termHere 47 = .ok (.getfield 32, 3) := by decide +kernel
theorem dX0_termHere_50 : decode cX0_termHere 50 = .ok (.getfield 111, 3) := by decide +kernel
theorem dX0_termHere_53 : decode cX0_termHere 53 = .ok (.aload_n 0, 1) := by decide +kernel
theorem dX0_termHere_54 : decode cX0_termHere 54 = .ok (.getfield 32, 3) := by decide +kernel
theorem dX0_termHere_57 : decode cX0_termHere 57 = .ok (.getfield 121, 3) := by decide +kernel
theorem dX0_termHere_60 : decode cX0_termHere 60 = .ok (.invokevirtual 183, 3) := by decide +kernel
theorem dX0_termHere_63 : decode cX0_termHere 63 = .ok (.istore_n 1, 1) := by decide +kernel
theorem dX0_termHere_64 : decode cX0_termHere 64 = .ok (.iload_n 1, 1) := by decide +kernel
theorem dX0_termHere_65 : decode cX0_termHere 65 = .ok (.iconst (-1), 1) := by decide +kernel
theorem dX0_termHere_66 : decode cX0_termHere 66 = .ok (.if_icmp .ne 22, 3) := by decide +kernel
theorem dX0_termHere_88 : decode cX0_termHere 88 = .ok (.aload_n 0, 1) := by decide +kernel
theorem dX0_termHere_89 : decode cX0_termHere 89 = .ok (.getfield 18, 3) := by decide +kernel
theorem dX0_termHere_92 : decode cX0_termHere 92 = .ok (.iload_n 1, 1) := by decide +kernel
theorem dX0_termHere_93 : decode cX0_termHere 93 = .ok (.iconst 0, 1) := by decide +kernel
theorem dX0_termHere_94 : decode cX0_termHere 94 = .ok (.invokevirtual 187, 3) := by decide +kernel
theorem dX0_termHere_97 : decode cX0_termHere 97 = .ok (.ireturn, 1) := by decide +kernel
theorem dX0_termHere_69 : decode cX0_termHere 69 = .ok (.aload_n 0, 1) := by decide +kernel
theorem dX0_termHere_70 : decode cX0_termHere 70 = .ok (.getfield 101, 3) := by decide +kernel
theorem dX0_termHere_73 : decode cX0_termHere 73 = .ok (.iconst (-1), 1) := by decide +kernel
theorem dX0_termHere_74 : decode cX0_termHere 74 = .ok (.if_icmp .ne 14, 3) := by decide +kernel
theorem dX0_termHere_77 : decode cX0_termHere 77 = .ok (.aload_n 0, 1) := by decide +kernel
theorem dX0_termHere_78 : decode cX0_termHere 78 = .ok (.aload_n 0, 1) := by decide +kernel
theorem dX0_termHere_79 : decode cX0_termHere 79 = .ok (.getfield 32, 3) := by decide +kernel
theorem dX0_termHere_82 : decode cX0_termHere 82 = .ok (.getfield 111, 3) := by decide +kernel
theorem dX0_termHere_85 : decode cX0_termHere 85 = .ok (.putfield 101, 3) := by decide +kernel
theorem dX0_termHere_33 : decode cX0_termHere 33 = .ok (.aload_n 0, 1) := by decide +kernel
theorem dX0_termHere_34 : decode cX0_termHere 34 = .ok (.getfield 55, 3) := by decide +kernel
theorem dX0_termHere_37 : decode cX0_termHere 37 = .ok (.ireturn, 1) := by decide +kernel
theorem dX0_termHere_13 : decode cX0_termHere 13 = .ok (.aload_n 0, 1) := by decide +kernel
theorem dX0_termHere_14 : decode cX0_termHere 14 = .ok (.getfield 32, 3) := by decide +kernel
theorem dX0_termHere_17 : decode cX0_termHere 17 = .ok (.getfield 133, 3) := by decide +kernel
theorem dX0_termHere_20 : decode cX0_termHere 20 = .ok (.ireturn, 1) := by decide +kernel
theorem dX0_readSum_0 : decode cX0_readSum 0 = .ok (.aload_n 0, 1) := by decide +kernel
theorem dX0_readSum_1 : decode cX0_readSum 1 = .ok (.iconst 0, 1) := by decide +kernel
theorem dX0_readSum_2 : decode cX0_readSum 2 = .ok (.putfield 86, 3) := by decide +kernel
theorem dX0_readSum_5 : decode cX0_readSum 5 = .ok (.aload_n 0, 1) := by decide +kernel
theorem dX0_readSum_6 : decode cX0_readSum 6 = .ok (.aload_n 0, 1) := by decide +kernel
theorem dX0_readSum_7 : decode cX0_readSum 7 = .ok (.getfield 32, 3) := by decide +kernel
theorem dX0_readSum_10 : decode cX0_readSum 10 = .ok (.getfield 111, 3) := by decide +kernel
theorem dX0_readSum_13 : decode cX0_readSum 13 = .ok (.putfield 169, 3) := by decide +kernel
theorem dX0_readSum_45 : decode cX0_readSum 45 = .ok (.iconst 0, 1) := by decide +kernel
theorem dX0_readSum_46 : decode cX0_readSum 46 = .ok (.istore_n 2, 1) := by decide +kernel
theorem dX0_readSum_47 : decode cX0_readSum 47 = .ok (.iload_n 2, 1) := by decide +kernel
theorem dX0_readSum_48 : decode cX0_readSum 48 = .ok (.sipush 6000, 3) := by decide +kernel
theorem dX0_readSum_51 : decode cX0_readSum 51 = .ok (.if_icmp .ge 192, 3) := by decide +kernel
theorem dX0_readSum_243 : decode cX0_readSum 243 = .ok (.aload_n 0, 1) := by decide +kernel
theorem dX0_readSum_244 : decode cX0_readSum 244 = .ok (.invokevirtual 127, 3) := by decide +kernel
theorem dX0_readSum_247 : decode cX0_readSum 247 = .ok (.ireturn, 1) := by decide +kernel
theorem dX0_readSum_54 : decode cX0_readSum 54 = .ok (.aload_n 0, 1) := by decide +kernel
theorem dX0_readSum_55 : decode cX0_readSum 55 = .ok (.getfield 32, 3) := by decide +kernel
theorem dX0_readSum_58 : decode cX0_readSum 58 = .ok (.getfield 118, 3) := by decide +kernel
theorem dX0_readSum_61 : decode cX0_readSum 61 = .ok (.istore_n 3, 1) := by decide +kernel
theorem dX0_readSum_81 : decode cX0_readSum 81 = .ok (.aload_n 0, 1) := by decide +kernel
theorem dX0_readSum_82 : decode cX0_readSum 82 = .ok (.getfield 32, 3) := by decide +kernel
theorem dX0_readSum_85 : decode cX0_readSum 85 = .ok (.getfield 172, 3) := by decide +kernel
theorem dX0_readSum_88 : decode cX0_readSum 88 = .ok (.iconst (-1), 1) := by decide +kernel
theorem dX0_readSum_89 : decode cX0_readSum 89 = .ok (.if_icmp .eq 16, 3) := by decide +kernel
theorem dX0_readSum_148 : decode cX0_readSum 148 = .ok (.iload_n 3, 1) := by decide +kernel
theorem dX0_readSum_149 : decode cX0_readSum 149 = .ok (.aload_n 0, 1) := by decide +kernel
theorem dX0_readSum_150 : decode cX0_readSum 150 = .ok (.invokevirtual 175, 3) := by decide +kernel
theorem dX0_readSum_153 : decode cX0_readSum 153 = .ok (.invokestatic 179, 3) := by decide +kernel
theorem dX0_readSum_156 : decode cX0_readSum 156 = .ok (.istore 4, 2) := by decide +kernel
theorem dX0_readSum_179 : decode cX0_readSum 179 = .ok (.aload_n 0, 1) := by decide +kernel
theorem dX0_readSum_180 : decode cX0_readSum 180 = .ok (.getfield 32, 3) := by decide +kernel
theorem dX0_readSum_183 : decode cX0_readSum 183 = .ok (.invokevirtual 108, 3) := by decide +kernel
theorem dX0_readSum_186 : decode cX0_readSum 186 = .ok (.aload_n 0, 1) := by decide +kernel
theorem dX0_readSum_187 : decode cX0_readSum 187 = .ok (.getfield 32, 3) := by decide +kernel
theorem dX0_readSum_190 : decode cX0_readSum 190 = .ok (.getfield 118, 3) := by decide +kernel
theorem dX0_readSum_193 : decode cX0_readSum 193 = .ok (.bipush 43, 2) := by decide +kernel
theorem dX0_readSum_195 : decode cX0_readSum 195 = .ok (.if_icmp .eq 17, 3) := by decide +kernel
theorem dX0_readSum_212 : decode cX0_readSum 212 = .ok (.aload_n 0, 1) := by decide +kernel
theorem dX0_readSum_213 : decode cX0_readSum 213 = .ok (.getfield 32, 3) := by decide +kernel
theorem dX0_readSum_216 : decode cX0_readSum 216 = .ok (.getfield 118, 3) := by decide +kernel
theorem dX0_readSum_219 : decode cX0_readSum 219 = .ok (.bipush 45, 2) := by decide +kernel
theorem dX0_readSum_221 : decode cX0_readSum 221 = .ok (.if_icmp .ne 7, 3) := by decide +kernel
theorem dX0_readSum_228 : decode cX0_readSum 228 = .ok (.iconst 0, 1) := by decide +kernel
theorem dX0_readSum_229 : decode cX0_readSum 229 = .ok (.istore_n 1, 1) := by decide +kernel
theorem dX0_readSum_230 : decode cX0_readSum 230 = .ok (.aload_n 0, 1) := by decide +kernel
theorem dX0_readSum_231 : decode cX0_readSum 231 = .ok (.getfield 32, 3) := by decide +kernel
theorem dX0_readSum_234 : decode cX0_readSum 234 = .ok (.invokevirtual 108, 3) := by decide +kernel
theorem dX0_readSum_237 : decode cX0_readSum 237 = .ok (.iinc 2 1, 3) := by decide +kernel
theorem dX0_readSum_240 : decode cX0_readSum 240 = .ok (.goto (-193), 3) := by decide +kernel
theorem dX0_readSum_224 : decode cX0_readSum 224 = .ok (.iconst 1, 1) := by decide +kernel
theorem dX0_readSum_225 : decode cX0_readSum 225 = .ok (.goto 4, 3) := by decide +kernel
theorem dX0_readSum_198 : decode cX0_readSum 198 = .ok (.aload_n 0, 1) := by decide +kernel
theorem dX0_readSum_199 : decode cX0_readSum 199 = .ok (.getfield 32, 3) := by decide +kernel
theorem dX0_readSum_202 : decode cX0_readSum 202 = .ok (.getfield 118, 3) := by decide +kernel
theorem dX0_readSum_205 : decode cX0_readSum 205 = .ok (.bipush 45, 2) := by decide +kernel
theorem dX0_readSum_207 : decode cX0_readSum 207 = .ok (.if_icmp .eq 5, 3) := by decide +kernel
theorem dX0_readSum_210 : decode cX0_readSum 210 = .ok (.iconst 1, 1) := by decide +kernel
theorem dX0_readSum_211 : decode cX0_readSum 211 = .ok (.ireturn, 1) := by decide +kernel
theorem dX0_readSum_158 : decode cX0_readSum 158 = .ok (.aload_n 0, 1) := by decide +kernel
theorem dX0_readSum_159 : decode cX0_readSum 159 = .ok (.dup, 1) := by decide +kernel
theorem dX0_readSum_160 : decode cX0_readSum 160 = .ok (.getfield 86, 3) := by decide +kernel
theorem dX0_readSum_163 : decode cX0_readSum 163 = .ok (.iload_n 1, 1) := by decide +kernel
theorem dX0_readSum_164 : decode cX0_readSum 164 = .ok (.ifCond .eq 9, 3) := by decide +kernel
theorem dX0_readSum_173 : decode cX0_readSum 173 = .ok (.iload 4, 2) := by decide +kernel
theorem dX0_readSum_175 : decode cX0_readSum 175 = .ok (.iadd, 1) := by decide +kernel
theorem dX0_readSum_176 : decode cX0_readSum 176 = .ok (.putfield 86, 3) := by decide +kernel
theorem dX0_readSum_167 : decode cX0_readSum 167 = .ok (.iload 4, 2) := by decide +kernel
theorem dX0_readSum_169 : decode cX0_readSum 169 = .ok (.ineg, 1) := by decide +kernel
theorem dX0_readSum_170 : decode cX0_readSum 170 = .ok (.goto 5, 3) := by decide +kernel
theorem dX0_readSum_105 : decode cX0_readSum 105 = .ok (.aload_n 0, 1) := by decide +kernel
theorem dX0_readSum_106 : decode cX0_readSum 106 = .ok (.getfield 32, 3) := by decide +kernel
theorem dX0_readSum_109 : decode cX0_readSum 109 = .ok (.getfield 118, 3) := by decide +kernel
theorem dX0_readSum_112 : decode cX0_readSum 112 = .ok (.sipush 259, 3) := by decide +kernel
theorem dX0_readSum_115 : decode cX0_readSum 115 = .ok (.if_icmp .eq 33, 3) := by decide +kernel
theorem dX0_readSum_118 : decode cX0_readSum 118 = .ok (.aload_n 0, 1) := by decide +kernel
theorem dX0_readSum_119 : decode cX0_readSum 119 = .ok (.getfield 32, 3) := by decide +kernel
theorem dX0_readSum_122 : decode cX0_readSum 122 = .ok (.getfield 118, 3) := by decide +kernel
theorem dX0_readSum_125 : decode cX0_readSum 125 = .ok (.sipush 257, 3) := by decide +kernel
theorem dX0_readSum_128 : decode cX0_readSum 128 = .ok (.if_icmp .eq 20, 3) := by decide +kernel
theorem dX0_readSum_131 : decode cX0_readSum 131 = .ok (.aload_n 0, 1) := by decide +kernel
theorem dX0_readSum_132 : decode cX0_readSum 132 = .ok (.getfield 32, 3) := by decide +kernel
theorem dX0_readSum_135 : decode cX0_readSum 135 = .ok (.getfield 118, 3) := by decide +kernel
theorem dX0_readSum_138 : decode cX0_readSum 138 = .ok (.bipush 46, 2) := by decide +kernel
theorem dX0_readSum_140 : decode cX0_readSum 140 = .ok (.if_icmp .eq 8, 3) := by decide +kernel
theorem dX0_readSum_143 : decode cX0_readSum 143 = .ok (.aload_n 0, 1) := by decide +kernel
theorem dX0_readSum_144 : decode cX0_readSum 144 = .ok (.invokevirtual 127, 3) := by decide +kernel
theorem dX0_readSum_147 : decode cX0_readSum 147 = .ok (.ireturn, 1) := by decide +kernel
theorem dX0_readSum_92 : decode cX0_readSum 92 = .ok (.aload_n 0, 1) := by decide +kernel
theorem dX0_readSum_93 : decode cX0_readSum 93 = .ok (.iconst 1, 1) := by decide +kernel
theorem dX0_readSum_94 : decode cX0_readSum 94 = .ok (.aload_n 0, 1) := by decide +kernel
theorem dX0_readSum_95 : decode cX0_readSum 95 = .ok (.getfield 32, 3) := by decide +kernel
theorem dX0_readSum_98 : decode cX0_readSum 98 = .ok (.getfield 172, 3) := by decide +kernel
theorem dX0_readSum_101 : decode cX0_readSum 101 = .ok (.invokevirtual 114, 3) := by decide +kernel
theorem dX0_readSum_104 : decode cX0_readSum 104 = .ok (.ireturn, 1) := by decide +kernel
theorem dX0_readSum_62 : decode cX0_readSum 62 = .ok (.iload_n 3, 1) := by decide +kernel
theorem dX0_readSum_63 : decode cX0_readSum 63 = .ok (.bipush 37, 2) := by decide +kernel
theorem dX0_readSum_65 : decode cX0_readSum 65 = .ok (.if_icmp .eq 9, 3) := by decide +kernel
theorem dX0_readSum_74 : decode cX0_readSum 74 = .ok (.aload_n 0, 1) := by decide +kernel
theorem dX0_readSum_75 : decode cX0_readSum 75 = .ok (.getfield 32, 3) := by decide +kernel
theorem dX0_readSum_78 : decode cX0_readSum 78 = .ok (.invokevirtual 108, 3) := by decide +kernel
theorem dX0_readSum_68 : decode cX0_readSum 68 = .ok (.iload_n 3, 1) := by decide +kernel
theorem dX0_readSum_69 : decode cX0_readSum 69 = .ok (.bipush 38, 2) := by decide +kernel
theorem dX0_readSum_71 : decode cX0_readSum 71 = .ok (.if_icmp .ne 10, 3) := by decide +kernel
theorem dX0_readSum_16 : decode cX0_readSum 16 = .ok (.aload_n 0, 1) := by decide +kernel
theorem dX0_readSum_17 : decode cX0_readSum 17 = .ok (.getfield 32, 3) := by decide +kernel
theorem dX0_readSum_20 : decode cX0_readSum 20 = .ok (.getfield 118, 3) := by decide +kernel
theorem dX0_readSum_23 : decode cX0_readSum 23 = .ok (.bipush 45, 2) := by decide +kernel
theorem dX0_readSum_25 : decode cX0_readSum 25 = .ok (.if_icmp .ne 7, 3) := by decide +kernel
theorem dX0_readSum_32 : decode cX0_readSum 32 = .ok (.iconst 0, 1) := by decide +kernel
theorem dX0_readSum_33 : decode cX0_readSum 33 = .ok (.istore_n 1, 1) := by decide +kernel
theorem dX0_readSum_34 : decode cX0_readSum 34 = .ok (.iload_n 1, 1) := by decide +kernel
theorem dX0_readSum_35 : decode cX0_readSum 35 = .ok (.ifCond .eq 10, 3) := by decide +kernel
theorem dX0_readSum_28 : decode cX0_readSum 28 = .ok (.iconst 1, 1) := by decide +kernel
theorem dX0_readSum_29 : decode cX0_readSum 29 = .ok (.goto 4, 3) := by decide +kernel
theorem dX0_readSum_38 : decode cX0_readSum 38 = .ok (.aload_n 0, 1) := by decide +kernel
theorem dX0_readSum_39 : decode cX0_readSum 39 = .ok (.getfield 32, 3) := by decide +kernel
theorem dX0_readSum_42 : decode cX0_readSum 42 = .ok (.invokevirtual 108, 3) := by decide +kernel
theorem dX0_beginLine_0 : decode cX0_beginLine 0 = .ok (.aload_n 0, 1) := by decide +kernel
theorem dX0_beginLine_1 : decode cX0_beginLine 1 = .ok (.iconst (-1), 1) := by decide +kernel
theorem dX0_beginLine_2 : decode cX0_beginLine 2 = .ok (.putfield 95, 3) := by decide +kernel
theorem dX0_beginLine_5 : decode cX0_beginLine 5 = .ok (.aload_n 0, 1) := by decide +kernel
theorem dX0_beginLine_6 : decode cX0_beginLine 6 = .ok (.iconst 0, 1) := by decide +kernel
theorem dX0_beginLine_7 : decode cX0_beginLine 7 = .ok (.putfield 98, 3) := by decide +kernel
theorem dX0_beginLine_10 : decode cX0_beginLine 10 = .ok (.aload_n 0, 1) := by decide +kernel
theorem dX0_beginLine_11 : decode cX0_beginLine 11 = .ok (.iconst (-1), 1) := by decide +kernel
theorem dX0_beginLine_12 : decode cX0_beginLine 12 = .ok (.putfield 83, 3) := by decide +kernel
theorem dX0_beginLine_15 : decode cX0_beginLine 15 = .ok (.aload_n 0, 1) := by decide +kernel
theorem dX0_beginLine_16 : decode cX0_beginLine 16 = .ok (.iconst 0, 1) := by decide +kernel
theorem dX0_beginLine_17 : decode cX0_beginLine 17 = .ok (.putfield 89, 3) := by decide +kernel
theorem dX0_beginLine_20 : decode cX0_beginLine 20 = .ok (.aload_n 0, 1) := by decide +kernel
theorem dX0_beginLine_21 : decode cX0_beginLine 21 = .ok (.iconst (-1), 1) := by decide +kernel
theorem dX0_beginLine_22 : decode cX0_beginLine 22 = .ok (.putfield 101, 3) := by decide +kernel
theorem dX0_beginLine_25 : decode cX0_beginLine 25 = .ok (.aload_n 0, 1) := by decide +kernel
theorem dX0_beginLine_26 : decode cX0_beginLine 26 = .ok (.iconst (-1), 1) := by decide +kernel
theorem dX0_beginLine_27 : decode cX0_beginLine 27 = .ok (.putfield 104, 3) := by decide +kernel
theorem dX0_beginLine_30 : decode cX0_beginLine 30 = .ok (.aload_n 0, 1) := by decide +kernel
theorem dX0_beginLine_31 : decode cX0_beginLine 31 = .ok (.getfield 32, 3) := by decide +kernel
theorem dX0_beginLine_34 : decode cX0_beginLine 34 = .ok (.iload_n 1, 1) := by decide +kernel
theorem dX0_beginLine_35 : decode cX0_beginLine 35 = .ok (.invokevirtual 107, 3) := by decide +kernel
theorem dX0_beginLine_38 : decode cX0_beginLine 38 = .ok (.aload_n 0, 1) := by decide +kernel
theorem dX0_beginLine_39 : decode cX0_beginLine 39 = .ok (.getfield 32, 3) := by decide +kernel
theorem dX0_beginLine_42 : decode cX0_beginLine 42 = .ok (.invokevirtual 108, 3) := by decide +kernel
theorem dX0_beginLine_45 : decode cX0_beginLine 45 = .ok (.return_, 1) := by decide +kernel
theorem dX0_readName_0 : decode cX0_readName 0 = .ok (.aload_n 0, 1) := by decide +kernel
theorem dX0_readName_1 : decode cX0_readName 1 = .ok (.getfield 32, 3) := by decide +kernel
theorem dX0_readName_4 : decode cX0_readName 4 = .ok (.getfield 118, 3) := by decide +kernel
theorem dX0_readName_7 : decode cX0_readName 7 = .ok (.sipush 257, 3) := by decide +kernel
theorem dX0_readName_10 : decode cX0_readName 10 = .ok (.if_icmp .eq 5, 3) := by decide +kernel
theorem dX0_readName_15 : decode cX0_readName 15 = .ok (.aload_n 0, 1) := by decide +kernel
theorem dX0_readName_16 : decode cX0_readName 16 = .ok (.aload_n 0, 1) := by decide +kernel
theorem dX0_readName_17 : decode cX0_readName 17 = .ok (.getfield 32, 3) := by decide +kernel
theorem dX0_readName_20 : decode cX0_readName 20 = .ok (.getfield 111, 3) := by decide +kernel
theorem dX0_readName_23 : decode cX0_readName 23 = .ok (.putfield 95, 3) := by decide +kernel
theorem dX0_readName_26 : decode cX0_readName 26 = .ok (.aload_n 0, 1) := by decide +kernel
theorem dX0_readName_27 : decode cX0_readName 27 = .ok (.aload_n 0, 1) := by decide +kernel
theorem dX0_readName_28 : decode cX0_readName 28 = .ok (.getfield 32, 3) := by decide +kernel
theorem dX0_readName_31 : decode cX0_readName 31 = .ok (.getfield 121, 3) := by decide +kernel
theorem dX0_readName_34 : decode cX0_readName 34 = .ok (.putfield 124, 3) := by decide +kernel
theorem dX0_readName_37 : decode cX0_readName 37 = .ok (.aload_n 0, 1) := by decide +kernel
theorem dX0_readName_38 : decode cX0_readName 38 = .ok (.getfield 32, 3) := by decide +kernel
theorem dX0_readName_41 : decode cX0_readName 41 = .ok (.invokevirtual 108, 3) := by decide +kernel
theorem dX0_readName_44 : decode cX0_readName 44 = .ok (.aload_n 0, 1) := by decide +kernel
theorem dX0_readName_45 : decode cX0_readName 45 = .ok (.aload_n 0, 1) := by decide +kernel
theorem dX0_readName_46 : decode cX0_readName 46 = .ok (.getfield 32, 3) := by decide +kernel
theorem dX0_readName_49 : decode cX0_readName 49 = .ok (.getfield 118, 3) := by decide +kernel
theorem dX0_readName_52 : decode cX0_readName 52 = .ok (.bipush 61, 2) := by decide +kernel
theorem dX0_readName_54 : decode cX0_readName 54 = .ok (.if_icmp .ne 7, 3) := by decide +kernel
theorem dX0_readName_61 : decode cX0_readName 61 = .ok (.iconst 0, 1) := by decide +kernel
theorem dX0_readName_62 : decode cX0_readName 62 = .ok (.putfield 98, 3) := by decide +kernel
theorem dX0_readName_65 : decode cX0_readName 65 = .ok (.aload_n 0, 1) := by decide +kernel
theorem dX0_readName_66 : decode cX0_readName 66 = .ok (.getfield 98, 3) := by decide +kernel
theorem dX0_readName_69 : decode cX0_readName 69 = .ok (.ifCond .ne 20, 3) := by decide +kernel
theorem dX0_readName_72 : decode cX0_readName 72 = .ok (.aload_n 0, 1) := by decide +kernel
theorem dX0_readName_73 : decode cX0_readName 73 = .ok (.getfield 32, 3) := by decide +kernel
theorem dX0_readName_76 : decode cX0_readName 76 = .ok (.getfield 118, 3) := by decide +kernel
theorem dX0_readName_79 : decode cX0_readName 79 = .ok (.bipush 58, 2) := by decide +kernel
theorem dX0_readName_81 : decode cX0_readName 81 = .ok (.if_icmp .eq 8, 3) := by decide +kernel
theorem dX0_readName_89 : decode cX0_readName 89 = .ok (.aload_n 0, 1) := by decide +kernel
theorem dX0_readName_90 : decode cX0_readName 90 = .ok (.getfield 32, 3) := by decide +kernel
theorem dX0_readName_93 : decode cX0_readName 93 = .ok (.invokevirtual 108, 3) := by decide +kernel
theorem dX0_readName_96 : decode cX0_readName 96 = .ok (.iconst 1, 1) := by decide +kernel
theorem dX0_readName_97 : decode cX0_readName 97 = .ok (.ireturn, 1) := by decide +kernel
theorem dX0_readName_84 : decode cX0_readName 84 = .ok (.aload_n 0, 1) := by decide +kernel
theorem dX0_readName_85 : decode cX0_readName 85 = .ok (.invokevirtual 127, 3) := by decide +kernel
theorem dX0_readName_88 : decode cX0_readName 88 = .ok (.ireturn, 1) := by decide +kernel
theorem dX0_readName_57 : decode cX0_readName 57 = .ok (.iconst 1, 1) := by decide +kernel
theorem dX0_readName_58 : decode cX0_readName 58 = .ok (.goto 4, 3) := by decide +kernel
theorem dX0_readName_13 : decode cX0_readName 13 = .ok (.iconst 1, 1) := by decide +kernel
theorem dX0_readName_14 : decode cX0_readName 14 = .ok (.ireturn, 1) := by decide +kernel
/-- a line's name: none, or it lies in the tape -/
def okP (pa lt : Int32) : Prop := pa = -1 ∨ ∃ a b : Nat, a + b ≤ 6000 ∧ pa = nI a ∧ lt = nI b
theorem fit_b {k : Nat} (h : k < 2) : fits .boolean (.int (nI k)) = true := by
  rcases (show k = 0 ∨ k = 1 by omega) with rfl | rfl <;> rfl
theorem okT_0 {pa lt : Nat → Int32} {n : Nat} (h : n = 0) : okT pa lt n := fun k hk => absurd hk (by omega)
set_option maxHeartbeats 4000000 in
set_option maxRecDepth 100000 in
theorem c_s_takesValue (l : Launch) (D : va_G) (cA cB : ClassId) (v : Int32)  : CI l yX8_takesValue cX8_takesValue 1 (some .boolean) 0 0 0 0 D cA cB [.int v] [] (fun r W1 => ∃ (rk : Nat), r = nI rk ∧ (rk < 2) ∧ W1 = []) := by
  refine mkI (lv0 := [(0, .int v)]) (by decide) (Nat.le_of_ble_eq_true rfl) rfl ?_
  intro p e s m below meth c A ls X hr hlocks hnm hE hA hP hD hS hl
  have hx := X.1
  have hb := X.2.1
  refine qW (fun Q9 hQ9 => ?_)
  refine lv_iload_n hx hb dX8_takesValue_0 rfl (lv_at hl 0 rfl) ?_
  refine lv_bipush (v := 28) hx hb dX8_takesValue_1 (by decide) ?_
  refine lv_icmp_eq (tgt := 18) hx hb dX8_takesValue_3 (by decide) (fun c_3 => ?_) (fun c_3 => ?_)
  · skip
    refine lv_iconst (v := 1) hx hb dX8_takesValue_18 (by decide) ?_
    refine lv_goto (tgt := 23) hx hb dX8_takesValue_19 (by decide) ?_
    rw [hQ9]
    exact endZ X hr rfl hlocks hP hD hS dX8_takesValue_23 ⟨1, rfl, (by decide), rfl⟩
  · skip
    refine lv_iload_n hx hb dX8_takesValue_6 rfl (lv_at hl 0 rfl) ?_
    refine lv_bipush (v := 30) hx hb dX8_takesValue_7 (by decide) ?_
    refine lv_icmp_eq (tgt := 18) hx hb dX8_takesValue_9 (by decide) (fun c_9 => ?_) (fun c_9 => ?_)
    · skip
      refine lv_iconst (v := 1) hx hb dX8_takesValue_18 (by decide) ?_
      refine lv_goto (tgt := 23) hx hb dX8_takesValue_19 (by decide) ?_
      rw [hQ9]
      exact endZ X hr rfl hlocks hP hD hS dX8_takesValue_23 ⟨1, rfl, (by decide), rfl⟩
    · skip
      refine lv_iload_n hx hb dX8_takesValue_12 rfl (lv_at hl 0 rfl) ?_
      refine lv_bipush (v := 31) hx hb dX8_takesValue_13 (by decide) ?_
      refine lv_icmp_ne (tgt := 22) hx hb dX8_takesValue_15 (by decide) (fun c_15 => ?_) (fun c_15 => ?_)
      · skip
        refine lv_iconst (v := 0) hx hb dX8_takesValue_22 (by decide) ?_
        rw [hQ9]
        exact endZ X hr rfl hlocks hP hD hS dX8_takesValue_23 ⟨0, rfl, (by decide), rfl⟩
      · skip
        refine lv_iconst (v := 1) hx hb dX8_takesValue_18 (by decide) ?_
        refine lv_goto (tgt := 23) hx hb dX8_takesValue_19 (by decide) ?_
        rw [hQ9]
        exact endZ X hr rfl hlocks hP hD hS dX8_takesValue_23 ⟨1, rfl, (by decide), rfl⟩
set_option maxHeartbeats 4000000 in
set_option maxRecDepth 100000 in
theorem c_s_atermHere (l : Launch) (D : va_G) (cA cB : ClassId) (h0 : Nat) (qa : Nat) (qmi : Nat) (qmt : Nat) (qms : Nat) (htb : Nat) (ha : Nat) (hb9 : Nat) (hc9 : Nat) (hd9 : Nat) (ua : Int32) (ub : Int32) (uc : Int32) (ud : Int32) (ue : Int32) (uf : Int32) (ug : Nat) (uh : Int32) (ui : Int32) (uj : Int32) (uk : Int32) (ul : Int32) (um : Int32) (un : Int32) (ln : Nat) (le : Nat) (ax : Nat) (kd : Int32) (pl : Nat) (lt : Nat) (vl : Int32) (ms : Int32) (cn : Nat) (im : Nat → Int32) (tz : Nat → Int32) (na : Nat → Int32) (nb : Nat → Int32) (nc : Nat → Int32) (nd : Nat → Int32) (hug : ug < 2) (hln : ln < 6001) (hle : le < 6001) (hax : ax < 6001) (hpl : pl < 6010) (hlt : lt < 6010) (hcn : cn < 61) (him : ∀ j, j < 4096 → ∃ k : Nat, k < 256 ∧ im j = nI k) (htz : ∀ j, j < 6000 → ∃ k : Nat, k < 256 ∧ tz j = nI k) (hal : ax ≤ le) (hkd : kd = 257 → pl + lt ≤ 6000) (hT : okT na nb cn) (hk3 : kd = 259 ∨ kd = 257 ∨ kd = 46) : CI l yX0_termHere cX0_termHere 2 (some .int) 2 48 0 0 D cA cB [.ref h0] [(h0, .inr (0, [.ref qa, .ref qmi, .ref qmt, .ref qms, .int ua, .int ub, .int uc, .int ud, .int ue, .int uf, .int (nI ug), .int uh, .int ui, .int uj, .int uk, .int ul, .int um, .int un])), (qa, .inr (7, [.ref htb, .int (nI ln), .int (nI le), .int (nI ax), .int kd, .int (nI pl), .int (nI lt), .int vl, .int ms])), (qmt, .inr (2, [.ref ha, .ref hb9, .ref hc9, .ref hd9, .int (nI cn)])), (qmi, .inl (cA, 4096, .inl im)), (htb, .inl (cA, 6000, .inl tz)), (ha, .inl (cA, 60, .inl na)), (hb9, .inl (cA, 60, .inl nb)), (hc9, .inl (cA, 60, .inl nc)), (hd9, .inl (cA, 60, .inl nd))] (fun r W1 => ∃ (um2 : Int32) (rv : Int32), r = rv ∧ W1 = [(h0, .inr (0, [.ref qa, .ref qmi, .ref qmt, .ref qms, .int ua, .int ub, .int uc, .int ud, .int ue, .int uf, .int (nI ug), .int uh, .int ui, .int uj, .int uk, .int ul, .int um2, .int un])), (qa, .inr (7, [.ref htb, .int (nI ln), .int (nI le), .int (nI ax), .int kd, .int (nI pl), .int (nI lt), .int vl, .int ms])), (qmt, .inr (2, [.ref ha, .ref hb9, .ref hc9, .ref hd9, .int (nI cn)])), (qmi, .inl (cA, 4096, .inl im)), (htb, .inl (cA, 6000, .inl tz)), (ha, .inl (cA, 60, .inl na)), (hb9, .inl (cA, 60, .inl nb)), (hc9, .inl (cA, 60, .inl nc)), (hd9, .inl (cA, 60, .inl nd))]) := by
  refine mkI (lv0 := [(0, .ref h0)]) (by decide) (Nat.le_of_ble_eq_true rfl) rfl ?_
  intro p e s m below meth c A ls X hr hlocks hnm hE hA hP hD hS hl
  have hx := X.1
  have hb := X.2.1
  refine qW (fun Q9 hQ9 => ?_)
  refine lv_aload_n hx hb dX0_termHere_0 rfl (lv_at hl 0 rfl) ?_
  refine k_get (C := RX0) (T := TX0) (N := 18) (ci := 0) (v := .ref qa) X hE hP 0 rfl rfl iX0 0 (by decide) w_394 rfl dX0_termHere_1 ?_
  refine k_getN (C := RX7) (T := TX7) (N := 9) (ci := 7) (v := .int kd) X hE hP 1 rfl rfl iX7 4 (by decide) nw_16 rfl dX0_termHere_4 ?_
  refine lv_sipush (v := 259) hx hb dX0_termHere_7 (by decide) ?_
  refine lv_icmp_ne (tgt := 21) hx hb dX0_termHere_10 (by decide) (fun c_10 => ?_) (fun c_10 => ?_)
  · skip
    refine lv_aload_n hx hb dX0_termHere_21 rfl (lv_at hl 0 rfl) ?_
    refine k_get (C := RX0) (T := TX0) (N := 18) (ci := 0) (v := .ref qa) X hE hP 0 rfl rfl iX0 0 (by decide) w_394 rfl dX0_termHere_22 ?_
    refine k_getN (C := RX7) (T := TX7) (N := 9) (ci := 7) (v := .int kd) X hE hP 1 rfl rfl iX7 4 (by decide) nw_16 rfl dX0_termHere_25 ?_
    refine lv_bipush (v := 46) hx hb dX0_termHere_28 (by decide) ?_
    refine lv_icmp_ne (tgt := 38) hx hb dX0_termHere_30 (by decide) (fun c_30 => ?_) (fun c_30 => ?_)
    · skip
      refine lv_aload_n hx hb dX0_termHere_38 rfl (lv_at hl 0 rfl) ?_
      refine k_get (C := RX0) (T := TX0) (N := 18) (ci := 0) (v := .ref qmt) X hE hP 0 rfl rfl iX0 2 (by decide) w_400 rfl dX0_termHere_39 ?_
      refine lv_aload_n hx hb dX0_termHere_42 rfl (lv_at hl 0 rfl) ?_
      refine k_get (C := RX0) (T := TX0) (N := 18) (ci := 0) (v := .ref qa) X hE hP 0 rfl rfl iX0 0 (by decide) w_394 rfl dX0_termHere_43 ?_
      refine lv_aload_n hx hb dX0_termHere_46 rfl (lv_at hl 0 rfl) ?_
      refine k_get (C := RX0) (T := TX0) (N := 18) (ci := 0) (v := .ref qa) X hE hP 0 rfl rfl iX0 0 (by decide) w_394 rfl dX0_termHere_47 ?_
      refine k_getN (C := RX7) (T := TX7) (N := 9) (ci := 7) (v := .int (nI pl)) X hE hP 1 rfl rfl iX7 5 (by decide) nw_17 rfl dX0_termHere_50 ?_
      refine lv_aload_n hx hb dX0_termHere_53 rfl (lv_at hl 0 rfl) ?_
      refine k_get (C := RX0) (T := TX0) (N := 18) (ci := 0) (v := .ref qa) X hE hP 0 rfl rfl iX0 0 (by decide) w_394 rfl dX0_termHere_54 ?_
      refine k_getN (C := RX7) (T := TX7) (N := 9) (ci := 7) (v := .int (nI lt)) X hE hP 1 rfl rfl iX7 6 (by decide) nw_18 rfl dX0_termHere_57 ?_
      refine kVi (n3 := 3) (As := [.ref qa, .int (nI pl), .int (nI lt)]) (rest := []) X hl.1 hE hP hD hS hA [(qmt, .inr (2, [.ref ha, .ref hb9, .ref hc9, .ref hd9, .int (nI cn)])), (qa, .inr (7, [.ref htb, .int (nI ln), .int (nI le), .int (nI ax), .int kd, .int (nI pl), .int (nI lt), .int vl, .int ms])), (ha, .inl (cA, 60, .inl na)), (hb9, .inl (cA, 60, .inl nb)), (htb, .inl (cA, 6000, .inl tz))] [(h0, .inr (0, [.ref qa, .ref qmi, .ref qmt, .ref qms, .int ua, .int ub, .int uc, .int ud, .int ue, .int uf, .int (nI ug), .int uh, .int ui, .int uj, .int uk, .int ul, .int um, .int un])), (qmi, .inl (cA, 4096, .inl im)), (hc9, .inl (cA, 60, .inl nc)), (hd9, .inl (cA, 60, .inl nd))] [2, 1, 5, 6, 4] [0, 3, 7, 8] rfl rfl rfl (by decide +kernel) (by decide +kernel) (by decide +kernel) (c_s2_nfind l D cA cB qmt ha hb9 hc9 hd9 qa htb cn (nI ln) (nI le) (nI ax) kd (nI pl) (nI lt) vl ms na nb tz pl lt hcn htz hpl hlt (by first | assumption | omega | decide | rfl) (hkd ((hk3.resolve_left c_10).resolve_right c_30))) w_498 w_362 w_497 w_499 w_500 0 (ci := 2) (T := TX2) (N := 5) rfl rfl (by decide +kernel) rfl rfl (Nat.le_of_ble_eq_true rfl) ⟨(Nat.le_of_ble_eq_true rfl), (Nat.le_of_ble_eq_true rfl)⟩ ⟨(Nat.le_of_ble_eq_true rfl), (Nat.le_of_ble_eq_true rfl)⟩ dX0_termHere_60 (fun r W1 H locs hw hP hD hS => ?_)
      obtain ⟨rv_1, er_3, hf_2, rfl⟩ := hw
      have hP : va_P D classes [(h0, .inr (0, [.ref qa, .ref qmi, .ref qmt, .ref qms, .int ua, .int ub, .int uc, .int ud, .int ue, .int uf, .int (nI ug), .int uh, .int ui, .int uj, .int uk, .int ul, .int um, .int un])), (qmi, .inl (cA, 4096, .inl im)), (hc9, .inl (cA, 60, .inl nc)), (hd9, .inl (cA, 60, .inl nd)), (qmt, .inr (2, [.ref ha, .ref hb9, .ref hc9, .ref hd9, .int (nI cn)])), (qa, .inr (7, [.ref htb, .int (nI ln), .int (nI le), .int (nI ax), .int kd, .int (nI pl), .int (nI lt), .int vl, .int ms])), (ha, .inl (cA, 60, .inl na)), (hb9, .inl (cA, 60, .inl nb)), (htb, .inl (cA, 6000, .inl tz))] H := hP
      have hD : va_D A [(h0, .inr (0, [.ref qa, .ref qmi, .ref qmt, .ref qms, .int ua, .int ub, .int uc, .int ud, .int ue, .int uf, .int (nI ug), .int uh, .int ui, .int uj, .int uk, .int ul, .int um, .int un])), (qmi, .inl (cA, 4096, .inl im)), (hc9, .inl (cA, 60, .inl nc)), (hd9, .inl (cA, 60, .inl nd)), (qmt, .inr (2, [.ref ha, .ref hb9, .ref hc9, .ref hd9, .int (nI cn)])), (qa, .inr (7, [.ref htb, .int (nI ln), .int (nI le), .int (nI ax), .int kd, .int (nI pl), .int (nI lt), .int vl, .int ms])), (ha, .inl (cA, 60, .inl na)), (hb9, .inl (cA, 60, .inl nb)), (htb, .inl (cA, 6000, .inl tz))] := hD
      refine tk (y := rv_1) er_3 ?_
      refine lv_istore_n (lv' := [(1, .int rv_1), (0, .ref h0)]) hx hb dX0_termHere_63 rfl hl (by decide) rfl (fun ls hl => ?_)
      refine lv_iload_n hx hb dX0_termHere_64 rfl (lv_at hl 0 rfl) ?_
      refine lv_iconst (v := (-1)) hx hb dX0_termHere_65 (by decide) ?_
      refine lv_icmp_ne (tgt := 88) hx hb dX0_termHere_66 (by decide) (fun c_66 => ?_) (fun c_66 => ?_)
      · skip
        refine lv_aload_n hx hb dX0_termHere_88 rfl (lv_at hl 1 rfl) ?_
        refine k_get (C := RX0) (T := TX0) (N := 18) (ci := 0) (v := .ref qmt) X hE hP 0 rfl rfl iX0 2 (by decide) w_400 rfl dX0_termHere_89 ?_
        refine lv_iload_n hx hb dX0_termHere_92 rfl (lv_at hl 0 rfl) ?_
        refine lv_iconst (v := 0) hx hb dX0_termHere_93 (by decide) ?_
        refine kVi (n3 := 2) (As := [.int rv_1, .int 0]) (rest := []) X hl.1 hE hP hD hS hA [(qmt, .inr (2, [.ref ha, .ref hb9, .ref hc9, .ref hd9, .int (nI cn)])), (ha, .inl (cA, 60, .inl na)), (hb9, .inl (cA, 60, .inl nb)), (hc9, .inl (cA, 60, .inl nc)), (hd9, .inl (cA, 60, .inl nd))] [(h0, .inr (0, [.ref qa, .ref qmi, .ref qmt, .ref qms, .int ua, .int ub, .int uc, .int ud, .int ue, .int uf, .int (nI ug), .int uh, .int ui, .int uj, .int uk, .int ul, .int um, .int un])), (qmi, .inl (cA, 4096, .inl im)), (qa, .inr (7, [.ref htb, .int (nI ln), .int (nI le), .int (nI ax), .int kd, .int (nI pl), .int (nI lt), .int vl, .int ms])), (htb, .inl (cA, 6000, .inl tz))] [4, 6, 7, 2, 3] [0, 1, 5, 8] rfl rfl rfl (by decide +kernel) (by decide +kernel) (by decide +kernel) (c_s_tell l D cA cB qmt ha hb9 hc9 hd9 cn na nb nc nd rv_1 0 hcn) w_361 w_362 w_501 w_363 w_364 0 (ci := 2) (T := TX2) (N := 5) rfl rfl (by decide +kernel) rfl rfl (Nat.le_of_ble_eq_true rfl) ⟨(Nat.le_of_ble_eq_true rfl), (Nat.le_of_ble_eq_true rfl)⟩ ⟨(Nat.le_of_ble_eq_true rfl), (Nat.le_of_ble_eq_true rfl)⟩ dX0_termHere_94 (fun r W1 H locs hw hP hD hS => ?_)
        obtain ⟨rv_4, er_5, rfl⟩ := hw
        have hP : va_P D classes [(h0, .inr (0, [.ref qa, .ref qmi, .ref qmt, .ref qms, .int ua, .int ub, .int uc, .int ud, .int ue, .int uf, .int (nI ug), .int uh, .int ui, .int uj, .int uk, .int ul, .int um, .int un])), (qmi, .inl (cA, 4096, .inl im)), (qa, .inr (7, [.ref htb, .int (nI ln), .int (nI le), .int (nI ax), .int kd, .int (nI pl), .int (nI lt), .int vl, .int ms])), (htb, .inl (cA, 6000, .inl tz)), (qmt, .inr (2, [.ref ha, .ref hb9, .ref hc9, .ref hd9, .int (nI cn)])), (ha, .inl (cA, 60, .inl na)), (hb9, .inl (cA, 60, .inl nb)), (hc9, .inl (cA, 60, .inl nc)), (hd9, .inl (cA, 60, .inl nd))] H := hP
        have hD : va_D A [(h0, .inr (0, [.ref qa, .ref qmi, .ref qmt, .ref qms, .int ua, .int ub, .int uc, .int ud, .int ue, .int uf, .int (nI ug), .int uh, .int ui, .int uj, .int uk, .int ul, .int um, .int un])), (qmi, .inl (cA, 4096, .inl im)), (qa, .inr (7, [.ref htb, .int (nI ln), .int (nI le), .int (nI ax), .int kd, .int (nI pl), .int (nI lt), .int vl, .int ms])), (htb, .inl (cA, 6000, .inl tz)), (qmt, .inr (2, [.ref ha, .ref hb9, .ref hc9, .ref hd9, .int (nI cn)])), (ha, .inl (cA, 60, .inl na)), (hb9, .inl (cA, 60, .inl nb)), (hc9, .inl (cA, 60, .inl nc)), (hd9, .inl (cA, 60, .inl nd))] := hD
        refine tk (y := rv_4) er_5 ?_
        have hP : va_P D classes [(h0, .inr (0, [.ref qa, .ref qmi, .ref qmt, .ref qms, .int ua, .int ub, .int uc, .int ud, .int ue, .int uf, .int (nI ug), .int uh, .int ui, .int uj, .int uk, .int ul, .int um, .int un])), (qa, .inr (7, [.ref htb, .int (nI ln), .int (nI le), .int (nI ax), .int kd, .int (nI pl), .int (nI lt), .int vl, .int ms])), (qmt, .inr (2, [.ref ha, .ref hb9, .ref hc9, .ref hd9, .int (nI cn)])), (qmi, .inl (cA, 4096, .inl im)), (htb, .inl (cA, 6000, .inl tz)), (ha, .inl (cA, 60, .inl na)), (hb9, .inl (cA, 60, .inl nb)), (hc9, .inl (cA, 60, .inl nc)), (hd9, .inl (cA, 60, .inl nd))] _ := hP.sub [0, 2, 4, 1, 3, 5, 6, 7, 8] rfl
        have hD : va_D A [(h0, .inr (0, [.ref qa, .ref qmi, .ref qmt, .ref qms, .int ua, .int ub, .int uc, .int ud, .int ue, .int uf, .int (nI ug), .int uh, .int ui, .int uj, .int uk, .int ul, .int um, .int un])), (qa, .inr (7, [.ref htb, .int (nI ln), .int (nI le), .int (nI ax), .int kd, .int (nI pl), .int (nI lt), .int vl, .int ms])), (qmt, .inr (2, [.ref ha, .ref hb9, .ref hc9, .ref hd9, .int (nI cn)])), (qmi, .inl (cA, 4096, .inl im)), (htb, .inl (cA, 6000, .inl tz)), (ha, .inl (cA, 60, .inl na)), (hb9, .inl (cA, 60, .inl nb)), (hc9, .inl (cA, 60, .inl nc)), (hd9, .inl (cA, 60, .inl nd))] := hD.sub [0, 2, 4, 1, 3, 5, 6, 7, 8] (by decide) rfl
        rw [hQ9]
        exact endI X hr hlocks hP hD hS dX0_termHere_97 ⟨um, rv_4, rfl, rfl⟩
      · skip
        refine lv_aload_n hx hb dX0_termHere_69 rfl (lv_at hl 1 rfl) ?_
        refine k_get (C := RX0) (T := TX0) (N := 18) (ci := 0) (v := .int um) X hE hP 0 rfl rfl iX0 16 (by decide) w_502 rfl dX0_termHere_70 ?_
        refine lv_iconst (v := (-1)) hx hb dX0_termHere_73 (by decide) ?_
        refine lv_icmp_ne (tgt := 88) hx hb dX0_termHere_74 (by decide) (fun c_74 => ?_) (fun c_74 => ?_)
        · skip
          refine lv_aload_n hx hb dX0_termHere_88 rfl (lv_at hl 1 rfl) ?_
          refine k_get (C := RX0) (T := TX0) (N := 18) (ci := 0) (v := .ref qmt) X hE hP 0 rfl rfl iX0 2 (by decide) w_400 rfl dX0_termHere_89 ?_
          refine lv_iload_n hx hb dX0_termHere_92 rfl (lv_at hl 0 rfl) ?_
          refine lv_iconst (v := 0) hx hb dX0_termHere_93 (by decide) ?_
          refine kVi (n3 := 2) (As := [.int rv_1, .int 0]) (rest := []) X hl.1 hE hP hD hS hA [(qmt, .inr (2, [.ref ha, .ref hb9, .ref hc9, .ref hd9, .int (nI cn)])), (ha, .inl (cA, 60, .inl na)), (hb9, .inl (cA, 60, .inl nb)), (hc9, .inl (cA, 60, .inl nc)), (hd9, .inl (cA, 60, .inl nd))] [(h0, .inr (0, [.ref qa, .ref qmi, .ref qmt, .ref qms, .int ua, .int ub, .int uc, .int ud, .int ue, .int uf, .int (nI ug), .int uh, .int ui, .int uj, .int uk, .int ul, .int um, .int un])), (qmi, .inl (cA, 4096, .inl im)), (qa, .inr (7, [.ref htb, .int (nI ln), .int (nI le), .int (nI ax), .int kd, .int (nI pl), .int (nI lt), .int vl, .int ms])), (htb, .inl (cA, 6000, .inl tz))] [4, 6, 7, 2, 3] [0, 1, 5, 8] rfl rfl rfl (by decide +kernel) (by decide +kernel) (by decide +kernel) (c_s_tell l D cA cB qmt ha hb9 hc9 hd9 cn na nb nc nd rv_1 0 hcn) w_361 w_362 w_501 w_363 w_364 0 (ci := 2) (T := TX2) (N := 5) rfl rfl (by decide +kernel) rfl rfl (Nat.le_of_ble_eq_true rfl) ⟨(Nat.le_of_ble_eq_true rfl), (Nat.le_of_ble_eq_true rfl)⟩ ⟨(Nat.le_of_ble_eq_true rfl), (Nat.le_of_ble_eq_true rfl)⟩ dX0_termHere_94 (fun r W1 H locs hw hP hD hS => ?_)
          obtain ⟨rv_6, er_7, rfl⟩ := hw
          have hP : va_P D classes [(h0, .inr (0, [.ref qa, .ref qmi, .ref qmt, .ref qms, .int ua, .int ub, .int uc, .int ud, .int ue, .int uf, .int (nI ug), .int uh, .int ui, .int uj, .int uk, .int ul, .int um, .int un])), (qmi, .inl (cA, 4096, .inl im)), (qa, .inr (7, [.ref htb, .int (nI ln), .int (nI le), .int (nI ax), .int kd, .int (nI pl), .int (nI lt), .int vl, .int ms])), (htb, .inl (cA, 6000, .inl tz)), (qmt, .inr (2, [.ref ha, .ref hb9, .ref hc9, .ref hd9, .int (nI cn)])), (ha, .inl (cA, 60, .inl na)), (hb9, .inl (cA, 60, .inl nb)), (hc9, .inl (cA, 60, .inl nc)), (hd9, .inl (cA, 60, .inl nd))] H := hP
          have hD : va_D A [(h0, .inr (0, [.ref qa, .ref qmi, .ref qmt, .ref qms, .int ua, .int ub, .int uc, .int ud, .int ue, .int uf, .int (nI ug), .int uh, .int ui, .int uj, .int uk, .int ul, .int um, .int un])), (qmi, .inl (cA, 4096, .inl im)), (qa, .inr (7, [.ref htb, .int (nI ln), .int (nI le), .int (nI ax), .int kd, .int (nI pl), .int (nI lt), .int vl, .int ms])), (htb, .inl (cA, 6000, .inl tz)), (qmt, .inr (2, [.ref ha, .ref hb9, .ref hc9, .ref hd9, .int (nI cn)])), (ha, .inl (cA, 60, .inl na)), (hb9, .inl (cA, 60, .inl nb)), (hc9, .inl (cA, 60, .inl nc)), (hd9, .inl (cA, 60, .inl nd))] := hD
          refine tk (y := rv_6) er_7 ?_
          have hP : va_P D classes [(h0, .inr (0, [.ref qa, .ref qmi, .ref qmt, .ref qms, .int ua, .int ub, .int uc, .int ud, .int ue, .int uf, .int (nI ug), .int uh, .int ui, .int uj, .int uk, .int ul, .int um, .int un])), (qa, .inr (7, [.ref htb, .int (nI ln), .int (nI le), .int (nI ax), .int kd, .int (nI pl), .int (nI lt), .int vl, .int ms])), (qmt, .inr (2, [.ref ha, .ref hb9, .ref hc9, .ref hd9, .int (nI cn)])), (qmi, .inl (cA, 4096, .inl im)), (htb, .inl (cA, 6000, .inl tz)), (ha, .inl (cA, 60, .inl na)), (hb9, .inl (cA, 60, .inl nb)), (hc9, .inl (cA, 60, .inl nc)), (hd9, .inl (cA, 60, .inl nd))] _ := hP.sub [0, 2, 4, 1, 3, 5, 6, 7, 8] rfl
          have hD : va_D A [(h0, .inr (0, [.ref qa, .ref qmi, .ref qmt, .ref qms, .int ua, .int ub, .int uc, .int ud, .int ue, .int uf, .int (nI ug), .int uh, .int ui, .int uj, .int uk, .int ul, .int um, .int un])), (qa, .inr (7, [.ref htb, .int (nI ln), .int (nI le), .int (nI ax), .int kd, .int (nI pl), .int (nI lt), .int vl, .int ms])), (qmt, .inr (2, [.ref ha, .ref hb9, .ref hc9, .ref hd9, .int (nI cn)])), (qmi, .inl (cA, 4096, .inl im)), (htb, .inl (cA, 6000, .inl tz)), (ha, .inl (cA, 60, .inl na)), (hb9, .inl (cA, 60, .inl nb)), (hc9, .inl (cA, 60, .inl nc)), (hd9, .inl (cA, 60, .inl nd))] := hD.sub [0, 2, 4, 1, 3, 5, 6, 7, 8] (by decide) rfl
          rw [hQ9]
          exact endI X hr hlocks hP hD hS dX0_termHere_97 ⟨um, rv_6, rfl, rfl⟩
        · skip
          refine lv_aload_n hx hb dX0_termHere_77 rfl (lv_at hl 1 rfl) ?_
          refine lv_aload_n hx hb dX0_termHere_78 rfl (lv_at hl 1 rfl) ?_
          refine k_get (C := RX0) (T := TX0) (N := 18) (ci := 0) (v := .ref qa) X hE hP 0 rfl rfl iX0 0 (by decide) w_394 rfl dX0_termHere_79 ?_
          refine k_getN (C := RX7) (T := TX7) (N := 9) (ci := 7) (v := .int (nI pl)) X hE hP 5 rfl rfl iX7 5 (by decide) nw_17 rfl dX0_termHere_82 ?_
          refine k_put (C := RX0) (T := TX0) (N := 18) (ci := 0) (v := .int (nI pl)) (ty := .int) X hE hP hD hS 0 rfl rfl iX0 tyX0 tyX0_ok nmX0 16 (by decide) w_502 rfl (by decide +kernel) rfl rfl (Nat.le_of_ble_eq_true rfl) [(h0, .inr (0, [.ref qa, .ref qmi, .ref qmt, .ref qms, .int ua, .int ub, .int uc, .int ud, .int ue, .int uf, .int (nI ug), .int uh, .int ui, .int uj, .int uk, .int ul, .int (nI pl), .int un])), (qmi, .inl (cA, 4096, .inl im)), (hc9, .inl (cA, 60, .inl nc)), (hd9, .inl (cA, 60, .inl nd)), (qmt, .inr (2, [.ref ha, .ref hb9, .ref hc9, .ref hd9, .int (nI cn)])), (qa, .inr (7, [.ref htb, .int (nI ln), .int (nI le), .int (nI ax), .int kd, .int (nI pl), .int (nI lt), .int vl, .int ms])), (ha, .inl (cA, 60, .inl na)), (hb9, .inl (cA, 60, .inl nb)), (htb, .inl (cA, 6000, .inl tz))] rfl dX0_termHere_85 (fun H locs hP hD hS => ?_)
          refine lv_aload_n hx hb dX0_termHere_88 rfl (lv_at hl 1 rfl) ?_
          refine k_get (C := RX0) (T := TX0) (N := 18) (ci := 0) (v := .ref qmt) X hE hP 0 rfl rfl iX0 2 (by decide) w_400 rfl dX0_termHere_89 ?_
          refine lv_iload_n hx hb dX0_termHere_92 rfl (lv_at hl 0 rfl) ?_
          refine lv_iconst (v := 0) hx hb dX0_termHere_93 (by decide) ?_
          refine kVi (n3 := 2) (As := [.int rv_1, .int 0]) (rest := []) X hl.1 hE hP hD hS hA [(qmt, .inr (2, [.ref ha, .ref hb9, .ref hc9, .ref hd9, .int (nI cn)])), (ha, .inl (cA, 60, .inl na)), (hb9, .inl (cA, 60, .inl nb)), (hc9, .inl (cA, 60, .inl nc)), (hd9, .inl (cA, 60, .inl nd))] [(h0, .inr (0, [.ref qa, .ref qmi, .ref qmt, .ref qms, .int ua, .int ub, .int uc, .int ud, .int ue, .int uf, .int (nI ug), .int uh, .int ui, .int uj, .int uk, .int ul, .int (nI pl), .int un])), (qmi, .inl (cA, 4096, .inl im)), (qa, .inr (7, [.ref htb, .int (nI ln), .int (nI le), .int (nI ax), .int kd, .int (nI pl), .int (nI lt), .int vl, .int ms])), (htb, .inl (cA, 6000, .inl tz))] [4, 6, 7, 2, 3] [0, 1, 5, 8] rfl rfl rfl (by decide +kernel) (by decide +kernel) (by decide +kernel) (c_s_tell l D cA cB qmt ha hb9 hc9 hd9 cn na nb nc nd rv_1 0 hcn) w_361 w_362 w_501 w_363 w_364 0 (ci := 2) (T := TX2) (N := 5) rfl rfl (by decide +kernel) rfl rfl (Nat.le_of_ble_eq_true rfl) ⟨(Nat.le_of_ble_eq_true rfl), (Nat.le_of_ble_eq_true rfl)⟩ ⟨(Nat.le_of_ble_eq_true rfl), (Nat.le_of_ble_eq_true rfl)⟩ dX0_termHere_94 (fun r W1 H locs hw hP hD hS => ?_)
          obtain ⟨rv_8, er_9, rfl⟩ := hw
          have hP : va_P D classes [(h0, .inr (0, [.ref qa, .ref qmi, .ref qmt, .ref qms, .int ua, .int ub, .int uc, .int ud, .int ue, .int uf, .int (nI ug), .int uh, .int ui, .int uj, .int uk, .int ul, .int (nI pl), .int un])), (qmi, .inl (cA, 4096, .inl im)), (qa, .inr (7, [.ref htb, .int (nI ln), .int (nI le), .int (nI ax), .int kd, .int (nI pl), .int (nI lt), .int vl, .int ms])), (htb, .inl (cA, 6000, .inl tz)), (qmt, .inr (2, [.ref ha, .ref hb9, .ref hc9, .ref hd9, .int (nI cn)])), (ha, .inl (cA, 60, .inl na)), (hb9, .inl (cA, 60, .inl nb)), (hc9, .inl (cA, 60, .inl nc)), (hd9, .inl (cA, 60, .inl nd))] H := hP
          have hD : va_D A [(h0, .inr (0, [.ref qa, .ref qmi, .ref qmt, .ref qms, .int ua, .int ub, .int uc, .int ud, .int ue, .int uf, .int (nI ug), .int uh, .int ui, .int uj, .int uk, .int ul, .int (nI pl), .int un])), (qmi, .inl (cA, 4096, .inl im)), (qa, .inr (7, [.ref htb, .int (nI ln), .int (nI le), .int (nI ax), .int kd, .int (nI pl), .int (nI lt), .int vl, .int ms])), (htb, .inl (cA, 6000, .inl tz)), (qmt, .inr (2, [.ref ha, .ref hb9, .ref hc9, .ref hd9, .int (nI cn)])), (ha, .inl (cA, 60, .inl na)), (hb9, .inl (cA, 60, .inl nb)), (hc9, .inl (cA, 60, .inl nc)), (hd9, .inl (cA, 60, .inl nd))] := hD
          refine tk (y := rv_8) er_9 ?_
          have hP : va_P D classes [(h0, .inr (0, [.ref qa, .ref qmi, .ref qmt, .ref qms, .int ua, .int ub, .int uc, .int ud, .int ue, .int uf, .int (nI ug), .int uh, .int ui, .int uj, .int uk, .int ul, .int (nI pl), .int un])), (qa, .inr (7, [.ref htb, .int (nI ln), .int (nI le), .int (nI ax), .int kd, .int (nI pl), .int (nI lt), .int vl, .int ms])), (qmt, .inr (2, [.ref ha, .ref hb9, .ref hc9, .ref hd9, .int (nI cn)])), (qmi, .inl (cA, 4096, .inl im)), (htb, .inl (cA, 6000, .inl tz)), (ha, .inl (cA, 60, .inl na)), (hb9, .inl (cA, 60, .inl nb)), (hc9, .inl (cA, 60, .inl nc)), (hd9, .inl (cA, 60, .inl nd))] _ := hP.sub [0, 2, 4, 1, 3, 5, 6, 7, 8] rfl
          have hD : va_D A [(h0, .inr (0, [.ref qa, .ref qmi, .ref qmt, .ref qms, .int ua, .int ub, .int uc, .int ud, .int ue, .int uf, .int (nI ug), .int uh, .int ui, .int uj, .int uk, .int ul, .int (nI pl), .int un])), (qa, .inr (7, [.ref htb, .int (nI ln), .int (nI le), .int (nI ax), .int kd, .int (nI pl), .int (nI lt), .int vl, .int ms])), (qmt, .inr (2, [.ref ha, .ref hb9, .ref hc9, .ref hd9, .int (nI cn)])), (qmi, .inl (cA, 4096, .inl im)), (htb, .inl (cA, 6000, .inl tz)), (ha, .inl (cA, 60, .inl na)), (hb9, .inl (cA, 60, .inl nb)), (hc9, .inl (cA, 60, .inl nc)), (hd9, .inl (cA, 60, .inl nd))] := hD.sub [0, 2, 4, 1, 3, 5, 6, 7, 8] (by decide) rfl
          rw [hQ9]
          exact endI X hr hlocks hP hD hS dX0_termHere_97 ⟨(nI pl), rv_8, rfl, rfl⟩
    · skip
      refine lv_aload_n hx hb dX0_termHere_33 rfl (lv_at hl 0 rfl) ?_
      refine k_get (C := RX0) (T := TX0) (N := 18) (ci := 0) (v := .int uc) X hE hP 0 rfl rfl iX0 6 (by decide) w_391 rfl dX0_termHere_34 ?_
      rw [hQ9]
      exact endI X hr hlocks hP hD hS dX0_termHere_37 ⟨um, uc, rfl, rfl⟩
  · skip
    refine lv_aload_n hx hb dX0_termHere_13 rfl (lv_at hl 0 rfl) ?_
    refine k_get (C := RX0) (T := TX0) (N := 18) (ci := 0) (v := .ref qa) X hE hP 0 rfl rfl iX0 0 (by decide) w_394 rfl dX0_termHere_14 ?_
    refine k_getN (C := RX7) (T := TX7) (N := 9) (ci := 7) (v := .int vl) X hE hP 1 rfl rfl iX7 7 (by decide) nw_19 rfl dX0_termHere_17 ?_
    rw [hQ9]
    exact endI X hr hlocks hP hD hS dX0_termHere_20 ⟨um, vl, rfl, rfl⟩
set_option maxHeartbeats 4000000 in
set_option maxRecDepth 100000 in
theorem c_s_areadSum (l : Launch) (D : va_G) (cA cB : ClassId) (h0 : Nat) (qa : Nat) (qmi : Nat) (qmt : Nat) (qms : Nat) (htb : Nat) (ha : Nat) (hb9 : Nat) (hc9 : Nat) (hd9 : Nat) (ua : Int32) (ub : Int32) (uc : Int32) (ud : Int32) (ue : Int32) (uf : Int32) (ug : Nat) (uh : Int32) (ui : Int32) (uj : Int32) (uk : Int32) (ul : Int32) (um : Int32) (un : Int32) (ln : Nat) (le : Nat) (ax : Nat) (kd : Int32) (pl : Nat) (lt : Nat) (vl : Int32) (ms : Int32) (cn : Nat) (im : Nat → Int32) (tz : Nat → Int32) (na : Nat → Int32) (nb : Nat → Int32) (nc : Nat → Int32) (nd : Nat → Int32) (hug : ug < 2) (hln : ln < 6001) (hle : le < 6001) (hax : ax < 6001) (hpl : pl < 6010) (hlt : lt < 6010) (hcn : cn < 61) (him : ∀ j, j < 4096 → ∃ k : Nat, k < 256 ∧ im j = nI k) (htz : ∀ j, j < 6000 → ∃ k : Nat, k < 256 ∧ tz j = nI k) (hal : ax ≤ le) (hkd : kd = 257 → pl + lt ≤ 6000) (hT : okT na nb cn) : CI l yX0_readSum cX0_readSum 5 (some .boolean) 6 131 0 0 D cA cB [.ref h0] [(h0, .inr (0, [.ref qa, .ref qmi, .ref qmt, .ref qms, .int ua, .int ub, .int uc, .int ud, .int ue, .int uf, .int (nI ug), .int uh, .int ui, .int uj, .int uk, .int ul, .int um, .int un])), (qa, .inr (7, [.ref htb, .int (nI ln), .int (nI le), .int (nI ax), .int kd, .int (nI pl), .int (nI lt), .int vl, .int ms])), (qmt, .inr (2, [.ref ha, .ref hb9, .ref hc9, .ref hd9, .int (nI cn)])), (qmi, .inl (cA, 4096, .inl im)), (htb, .inl (cA, 6000, .inl tz)), (ha, .inl (cA, 60, .inl na)), (hb9, .inl (cA, 60, .inl nb)), (hc9, .inl (cA, 60, .inl nc)), (hd9, .inl (cA, 60, .inl nd))] (fun r W1 => ∃ (ua2 : Int32) (ub2 : Int32) (uk2 : Int32) (ul2 : Int32) (um2 : Int32) (ax2 : Nat) (kd2 : Int32) (pl2 : Nat) (lt2 : Nat) (vl2 : Int32) (ms2 : Int32) (rk : Nat), r = nI rk ∧ (ax2 < 6001) ∧ (pl2 < 6010) ∧ (lt2 < 6010) ∧ (rk < 2) ∧ (ax2 ≤ le) ∧ (kd2 = 257 → pl2 + lt2 ≤ 6000) ∧ W1 = [(h0, .inr (0, [.ref qa, .ref qmi, .ref qmt, .ref qms, .int ua2, .int ub2, .int uc, .int ud, .int ue, .int uf, .int (nI ug), .int uh, .int ui, .int uj, .int uk2, .int ul2, .int um2, .int un])), (qa, .inr (7, [.ref htb, .int (nI ln), .int (nI le), .int (nI ax2), .int kd2, .int (nI pl2), .int (nI lt2), .int vl2, .int ms2])), (qmt, .inr (2, [.ref ha, .ref hb9, .ref hc9, .ref hd9, .int (nI cn)])), (qmi, .inl (cA, 4096, .inl im)), (htb, .inl (cA, 6000, .inl tz)), (ha, .inl (cA, 60, .inl na)), (hb9, .inl (cA, 60, .inl nb)), (hc9, .inl (cA, 60, .inl nc)), (hd9, .inl (cA, 60, .inl nd))]) := by
  refine mkI (lv0 := [(0, .ref h0)]) (by decide) (Nat.le_of_ble_eq_true rfl) rfl ?_
  intro p e s m below meth c A ls X hr hlocks hnm hE hA hP hD hS hl
  have hx := X.1
  have hb := X.2.1
  refine qW (fun Q9 hQ9 => ?_)
  refine lv_aload_n hx hb dX0_readSum_0 rfl (lv_at hl 0 rfl) ?_
  refine lv_iconst (v := 0) hx hb dX0_readSum_1 (by decide) ?_
  refine k_put (C := RX0) (T := TX0) (N := 18) (ci := 0) (v := .int 0) (ty := .int) X hE hP hD hS 0 rfl rfl iX0 tyX0 tyX0_ok nmX0 14 (by decide) w_387 rfl (by decide +kernel) rfl rfl (Nat.le_of_ble_eq_true rfl) [(h0, .inr (0, [.ref qa, .ref qmi, .ref qmt, .ref qms, .int ua, .int ub, .int uc, .int ud, .int ue, .int uf, .int (nI ug), .int uh, .int ui, .int uj, .int 0, .int ul, .int um, .int un])), (qa, .inr (7, [.ref htb, .int (nI ln), .int (nI le), .int (nI ax), .int kd, .int (nI pl), .int (nI lt), .int vl, .int ms])), (qmt, .inr (2, [.ref ha, .ref hb9, .ref hc9, .ref hd9, .int (nI cn)])), (qmi, .inl (cA, 4096, .inl im)), (htb, .inl (cA, 6000, .inl tz)), (ha, .inl (cA, 60, .inl na)), (hb9, .inl (cA, 60, .inl nb)), (hc9, .inl (cA, 60, .inl nc)), (hd9, .inl (cA, 60, .inl nd))] rfl dX0_readSum_2 (fun H locs hP hD hS => ?_)
  refine lv_aload_n hx hb dX0_readSum_5 rfl (lv_at hl 0 rfl) ?_
  refine lv_aload_n hx hb dX0_readSum_6 rfl (lv_at hl 0 rfl) ?_
  refine k_get (C := RX0) (T := TX0) (N := 18) (ci := 0) (v := .ref qa) X hE hP 0 rfl rfl iX0 0 (by decide) w_394 rfl dX0_readSum_7 ?_
  refine k_getN (C := RX7) (T := TX7) (N := 9) (ci := 7) (v := .int (nI pl)) X hE hP 1 rfl rfl iX7 5 (by decide) nw_17 rfl dX0_readSum_10 ?_
  refine k_put (C := RX0) (T := TX0) (N := 18) (ci := 0) (v := .int (nI pl)) (ty := .int) X hE hP hD hS 0 rfl rfl iX0 tyX0 tyX0_ok nmX0 15 (by decide) w_388 rfl (by decide +kernel) rfl rfl (Nat.le_of_ble_eq_true rfl) [(h0, .inr (0, [.ref qa, .ref qmi, .ref qmt, .ref qms, .int ua, .int ub, .int uc, .int ud, .int ue, .int uf, .int (nI ug), .int uh, .int ui, .int uj, .int 0, .int (nI pl), .int um, .int un])), (qa, .inr (7, [.ref htb, .int (nI ln), .int (nI le), .int (nI ax), .int kd, .int (nI pl), .int (nI lt), .int vl, .int ms])), (qmt, .inr (2, [.ref ha, .ref hb9, .ref hc9, .ref hd9, .int (nI cn)])), (qmi, .inl (cA, 4096, .inl im)), (htb, .inl (cA, 6000, .inl tz)), (ha, .inl (cA, 60, .inl na)), (hb9, .inl (cA, 60, .inl nb)), (hc9, .inl (cA, 60, .inl nc)), (hd9, .inl (cA, 60, .inl nd))] rfl dX0_readSum_13 (fun H locs hP hD hS => ?_)
  have join_45 : ∀ (axp : Nat) (kdp : Int32) (plp : Nat) (ltp : Nat) (vlp : Int32) (msp : Int32) (m1 : Nat) (H : Heap) (locs : List Loc), (axp < 6001) → (plp < 6010) → (ltp < 6010) → (m1 < 2) → (axp ≤ le) → (kdp = 257 → plp + ltp ≤ 6000) → va_P D classes [(h0, .inr (0, [.ref qa, .ref qmi, .ref qmt, .ref qms, .int ua, .int ub, .int uc, .int ud, .int ue, .int uf, .int (nI ug), .int uh, .int ui, .int uj, .int 0, .int (nI pl), .int um, .int un])), (qa, .inr (7, [.ref htb, .int (nI ln), .int (nI le), .int (nI axp), .int kdp, .int (nI plp), .int (nI ltp), .int vlp, .int msp])), (qmt, .inr (2, [.ref ha, .ref hb9, .ref hc9, .ref hd9, .int (nI cn)])), (qmi, .inl (cA, 4096, .inl im)), (htb, .inl (cA, 6000, .inl tz)), (ha, .inl (cA, 60, .inl na)), (hb9, .inl (cA, 60, .inl nb)), (hc9, .inl (cA, 60, .inl nc)), (hd9, .inl (cA, 60, .inl nd))] H → va_D A [(h0, .inr (0, [.ref qa, .ref qmi, .ref qmt, .ref qms, .int ua, .int ub, .int uc, .int ud, .int ue, .int uf, .int (nI ug), .int uh, .int ui, .int uj, .int 0, .int (nI pl), .int um, .int un])), (qa, .inr (7, [.ref htb, .int (nI ln), .int (nI le), .int (nI axp), .int kdp, .int (nI plp), .int (nI ltp), .int vlp, .int msp])), (qmt, .inr (2, [.ref ha, .ref hb9, .ref hc9, .ref hd9, .int (nI cn)])), (qmi, .inl (cA, 4096, .inl im)), (htb, .inl (cA, 6000, .inl tz)), (ha, .inl (cA, 60, .inl na)), (hb9, .inl (cA, 60, .inl nb)), (hc9, .inl (cA, 60, .inl nc)), (hd9, .inl (cA, 60, .inl nd))] → va_S A s.heap H locs → ∀ ls : Array Slot, lv_has ls 5 [(0, .ref h0), (1, .int (nI m1))] → W p l e { frames := 6, cells := 0, slots := 0, locals := 131 } s m (List.toArray [.ref h0]) below meth c H locs 0 0 Q9 (F0 m 45 ls []) := by
    intro axp kdp plp ltp vlp msp m1 H locs haxp hplp hltp hm1 halp hkdp hP hD hS ls hl
    refine lv_iconst (v := 0) hx hb dX0_readSum_45 (by decide) ?_
    refine lv_istore_n (lv' := [(2, .int 0), (0, .ref h0), (1, .int (nI m1))]) hx hb dX0_readSum_46 rfl hl (by decide) rfl (fun ls hl => ?_)
    have loop_47 : ∀ (n : Nat) (ukv : Int32) (umv : Int32) (axv : Nat) (kdv : Int32) (plv : Nat) (ltv : Nat) (vlv : Int32) (msv : Int32) (mi : Nat) (i2 : Nat), (axv < 6001) → (plv < 6010) → (ltv < 6010) → (mi < 2) → (i2 < 6002) → (axv ≤ le) → (kdv = 257 → plv + ltv ≤ 6000) → 6001 - i2 < n → ∀ (H : Heap) (locs : List Loc), va_P D classes [(h0, .inr (0, [.ref qa, .ref qmi, .ref qmt, .ref qms, .int ua, .int ub, .int uc, .int ud, .int ue, .int uf, .int (nI ug), .int uh, .int ui, .int uj, .int ukv, .int (nI pl), .int umv, .int un])), (qa, .inr (7, [.ref htb, .int (nI ln), .int (nI le), .int (nI axv), .int kdv, .int (nI plv), .int (nI ltv), .int vlv, .int msv])), (qmt, .inr (2, [.ref ha, .ref hb9, .ref hc9, .ref hd9, .int (nI cn)])), (qmi, .inl (cA, 4096, .inl im)), (htb, .inl (cA, 6000, .inl tz)), (ha, .inl (cA, 60, .inl na)), (hb9, .inl (cA, 60, .inl nb)), (hc9, .inl (cA, 60, .inl nc)), (hd9, .inl (cA, 60, .inl nd))] H → va_D A [(h0, .inr (0, [.ref qa, .ref qmi, .ref qmt, .ref qms, .int ua, .int ub, .int uc, .int ud, .int ue, .int uf, .int (nI ug), .int uh, .int ui, .int uj, .int ukv, .int (nI pl), .int umv, .int un])), (qa, .inr (7, [.ref htb, .int (nI ln), .int (nI le), .int (nI axv), .int kdv, .int (nI plv), .int (nI ltv), .int vlv, .int msv])), (qmt, .inr (2, [.ref ha, .ref hb9, .ref hc9, .ref hd9, .int (nI cn)])), (qmi, .inl (cA, 4096, .inl im)), (htb, .inl (cA, 6000, .inl tz)), (ha, .inl (cA, 60, .inl na)), (hb9, .inl (cA, 60, .inl nb)), (hc9, .inl (cA, 60, .inl nc)), (hd9, .inl (cA, 60, .inl nd))] → va_S A s.heap H locs → ∀ ls : Array Slot, lv_has ls 5 [(0, .ref h0), (1, .int (nI mi)), (2, .int (nI i2))] → W p l e { frames := 6, cells := 0, slots := 0, locals := 131 } s m (List.toArray [.ref h0]) below meth c H locs 0 0 Q9 (F0 m 47 ls []) := by
      intro n
      induction n with
      | zero => intro ukv umv axv kdv plv ltv vlv msv mi i2 haxv hplv hltv hmi hi2 halv hkdv hfuel; exact absurd hfuel (by omega)
      | succ n ih_47 =>
        intro ukv umv axv kdv plv ltv vlv msv mi i2 haxv hplv hltv hmi hi2 halv hkdv hfuel H locs hP hD hS ls hl
        refine lv_iload_n hx hb dX0_readSum_47 rfl (lv_at hl 2 rfl) ?_
        refine lv_sipush (v := 6000) hx hb dX0_readSum_48 (by decide) ?_
        refine lv_icmp_ge (tgt := 243) hx hb dX0_readSum_51 (by decide) (fun c_51_1 => ?_) (fun c_51_1 => ?_)
        · have nc_51_1 : 6000 ≤ i2 := (nI_leI (a := 6000) (b := i2) (by omega) (by omega)).mp c_51_1
          refine lv_aload_n hx hb dX0_readSum_243 rfl (lv_at hl 0 rfl) ?_
          refine kVi (n3 := 0) (As := []) (rest := []) X hl.1 hE hP hD hS hA [(h0, .inr (0, [.ref qa, .ref qmi, .ref qmt, .ref qms, .int ua, .int ub, .int uc, .int ud, .int ue, .int uf, .int (nI ug), .int uh, .int ui, .int uj, .int ukv, .int (nI pl), .int umv, .int un])), (qa, .inr (7, [.ref htb, .int (nI ln), .int (nI le), .int (nI axv), .int kdv, .int (nI plv), .int (nI ltv), .int vlv, .int msv]))] [(qmt, .inr (2, [.ref ha, .ref hb9, .ref hc9, .ref hd9, .int (nI cn)])), (qmi, .inl (cA, 4096, .inl im)), (htb, .inl (cA, 6000, .inl tz)), (ha, .inl (cA, 60, .inl na)), (hb9, .inl (cA, 60, .inl nb)), (hc9, .inl (cA, 60, .inl nc)), (hd9, .inl (cA, 60, .inl nd))] [0, 1] [2, 3, 4, 5, 6, 7, 8] rfl rfl rfl (by decide +kernel) (by decide +kernel) (by decide +kernel) (c_s_failHere l D cA cB h0 qa qmi qmt qms htb ua ub uc ud ue uf (nI ug) uh ui uj ukv (nI pl) umv un (nI ln) (nI le) (nI axv) kdv (nI plv) (nI ltv) vlv msv ) w_504 w_397 w_503 w_505 w_506 0 (ci := 0) (T := TX0) (N := 18) rfl rfl (by decide +kernel) rfl rfl (Nat.le_of_ble_eq_true rfl) ⟨(Nat.le_of_ble_eq_true rfl), (Nat.le_of_ble_eq_true rfl)⟩ ⟨(Nat.le_of_ble_eq_true rfl), (Nat.le_of_ble_eq_true rfl)⟩ dX0_readSum_244 (fun r W1 H locs hw hP hD hS => ?_)
          obtain ⟨ua2_2, ub2_3, rk_4, rfl, hf_5, rfl⟩ := hw
          have hP : va_P D classes [(qmt, .inr (2, [.ref ha, .ref hb9, .ref hc9, .ref hd9, .int (nI cn)])), (qmi, .inl (cA, 4096, .inl im)), (htb, .inl (cA, 6000, .inl tz)), (ha, .inl (cA, 60, .inl na)), (hb9, .inl (cA, 60, .inl nb)), (hc9, .inl (cA, 60, .inl nc)), (hd9, .inl (cA, 60, .inl nd)), (h0, .inr (0, [.ref qa, .ref qmi, .ref qmt, .ref qms, .int ua2_2, .int ub2_3, .int uc, .int ud, .int ue, .int uf, .int (nI ug), .int uh, .int ui, .int uj, .int ukv, .int (nI pl), .int umv, .int un])), (qa, .inr (7, [.ref htb, .int (nI ln), .int (nI le), .int (nI axv), .int kdv, .int (nI plv), .int (nI ltv), .int vlv, .int msv]))] H := hP
          have hD : va_D A [(qmt, .inr (2, [.ref ha, .ref hb9, .ref hc9, .ref hd9, .int (nI cn)])), (qmi, .inl (cA, 4096, .inl im)), (htb, .inl (cA, 6000, .inl tz)), (ha, .inl (cA, 60, .inl na)), (hb9, .inl (cA, 60, .inl nb)), (hc9, .inl (cA, 60, .inl nc)), (hd9, .inl (cA, 60, .inl nd)), (h0, .inr (0, [.ref qa, .ref qmi, .ref qmt, .ref qms, .int ua2_2, .int ub2_3, .int uc, .int ud, .int ue, .int uf, .int (nI ug), .int uh, .int ui, .int uj, .int ukv, .int (nI pl), .int umv, .int un])), (qa, .inr (7, [.ref htb, .int (nI ln), .int (nI le), .int (nI axv), .int kdv, .int (nI plv), .int (nI ltv), .int vlv, .int msv]))] := hD
          have hP : va_P D classes [(h0, .inr (0, [.ref qa, .ref qmi, .ref qmt, .ref qms, .int ua2_2, .int ub2_3, .int uc, .int ud, .int ue, .int uf, .int (nI ug), .int uh, .int ui, .int uj, .int ukv, .int (nI pl), .int umv, .int un])), (qa, .inr (7, [.ref htb, .int (nI ln), .int (nI le), .int (nI axv), .int kdv, .int (nI plv), .int (nI ltv), .int vlv, .int msv])), (qmt, .inr (2, [.ref ha, .ref hb9, .ref hc9, .ref hd9, .int (nI cn)])), (qmi, .inl (cA, 4096, .inl im)), (htb, .inl (cA, 6000, .inl tz)), (ha, .inl (cA, 60, .inl na)), (hb9, .inl (cA, 60, .inl nb)), (hc9, .inl (cA, 60, .inl nc)), (hd9, .inl (cA, 60, .inl nd))] _ := hP.sub [7, 8, 0, 1, 2, 3, 4, 5, 6] rfl
          have hD : va_D A [(h0, .inr (0, [.ref qa, .ref qmi, .ref qmt, .ref qms, .int ua2_2, .int ub2_3, .int uc, .int ud, .int ue, .int uf, .int (nI ug), .int uh, .int ui, .int uj, .int ukv, .int (nI pl), .int umv, .int un])), (qa, .inr (7, [.ref htb, .int (nI ln), .int (nI le), .int (nI axv), .int kdv, .int (nI plv), .int (nI ltv), .int vlv, .int msv])), (qmt, .inr (2, [.ref ha, .ref hb9, .ref hc9, .ref hd9, .int (nI cn)])), (qmi, .inl (cA, 4096, .inl im)), (htb, .inl (cA, 6000, .inl tz)), (ha, .inl (cA, 60, .inl na)), (hb9, .inl (cA, 60, .inl nb)), (hc9, .inl (cA, 60, .inl nc)), (hd9, .inl (cA, 60, .inl nd))] := hD.sub [7, 8, 0, 1, 2, 3, 4, 5, 6] (by decide) rfl
          rw [hQ9]
          exact endZ X hr (nar_b (by omega)) hlocks hP hD hS dX0_readSum_247 ⟨ua2_2, ub2_3, ukv, (nI pl), umv, axv, kdv, plv, ltv, vlv, msv, rk_4, rfl, haxv, hplv, hltv, hf_5, (by first | assumption | omega), (by first | assumption | omega), rfl⟩
        · have nc_51_1 : i2 < 6000 := Nat.not_le.mp (fun q => c_51_1 ((nI_leI (a := 6000) (b := i2) (by omega) (by omega)).mpr q))
          refine lv_aload_n hx hb dX0_readSum_54 rfl (lv_at hl 0 rfl) ?_
          refine k_get (C := RX0) (T := TX0) (N := 18) (ci := 0) (v := .ref qa) X hE hP 0 rfl rfl iX0 0 (by decide) w_394 rfl dX0_readSum_55 ?_
          refine k_getN (C := RX7) (T := TX7) (N := 9) (ci := 7) (v := .int kdv) X hE hP 1 rfl rfl iX7 4 (by decide) nw_16 rfl dX0_readSum_58 ?_
          refine lv_istore_n (lv' := [(3, .int kdv), (0, .ref h0), (1, .int (nI mi)), (2, .int (nI i2))]) hx hb dX0_readSum_61 rfl hl (by decide) rfl (fun ls hl => ?_)
          have join_81 : ∀ (axq : Nat) (kdq : Int32) (plq : Nat) (ltq : Nat) (vlq : Int32) (msq : Int32) (H : Heap) (locs : List Loc), (axq < 6001) → (plq < 6010) → (ltq < 6010) → (axq ≤ le) → (kdq = 257 → plq + ltq ≤ 6000) → va_P D classes [(h0, .inr (0, [.ref qa, .ref qmi, .ref qmt, .ref qms, .int ua, .int ub, .int uc, .int ud, .int ue, .int uf, .int (nI ug), .int uh, .int ui, .int uj, .int ukv, .int (nI pl), .int umv, .int un])), (qa, .inr (7, [.ref htb, .int (nI ln), .int (nI le), .int (nI axq), .int kdq, .int (nI plq), .int (nI ltq), .int vlq, .int msq])), (qmt, .inr (2, [.ref ha, .ref hb9, .ref hc9, .ref hd9, .int (nI cn)])), (qmi, .inl (cA, 4096, .inl im)), (htb, .inl (cA, 6000, .inl tz)), (ha, .inl (cA, 60, .inl na)), (hb9, .inl (cA, 60, .inl nb)), (hc9, .inl (cA, 60, .inl nc)), (hd9, .inl (cA, 60, .inl nd))] H → va_D A [(h0, .inr (0, [.ref qa, .ref qmi, .ref qmt, .ref qms, .int ua, .int ub, .int uc, .int ud, .int ue, .int uf, .int (nI ug), .int uh, .int ui, .int uj, .int ukv, .int (nI pl), .int umv, .int un])), (qa, .inr (7, [.ref htb, .int (nI ln), .int (nI le), .int (nI axq), .int kdq, .int (nI plq), .int (nI ltq), .int vlq, .int msq])), (qmt, .inr (2, [.ref ha, .ref hb9, .ref hc9, .ref hd9, .int (nI cn)])), (qmi, .inl (cA, 4096, .inl im)), (htb, .inl (cA, 6000, .inl tz)), (ha, .inl (cA, 60, .inl na)), (hb9, .inl (cA, 60, .inl nb)), (hc9, .inl (cA, 60, .inl nc)), (hd9, .inl (cA, 60, .inl nd))] → va_S A s.heap H locs → ∀ ls : Array Slot, lv_has ls 5 [(0, .ref h0), (1, .int (nI mi)), (2, .int (nI i2)), (3, .int kdv)] → W p l e { frames := 6, cells := 0, slots := 0, locals := 131 } s m (List.toArray [.ref h0]) below meth c H locs 0 0 Q9 (F0 m 81 ls []) := by
            intro axq kdq plq ltq vlq msq H locs haxq hplq hltq halq hkdq hP hD hS ls hl
            refine lv_aload_n hx hb dX0_readSum_81 rfl (lv_at hl 0 rfl) ?_
            refine k_get (C := RX0) (T := TX0) (N := 18) (ci := 0) (v := .ref qa) X hE hP 0 rfl rfl iX0 0 (by decide) w_394 rfl dX0_readSum_82 ?_
            refine k_getN (C := RX7) (T := TX7) (N := 9) (ci := 7) (v := .int msq) X hE hP 1 rfl rfl iX7 8 (by decide) nw_20 rfl dX0_readSum_85 ?_
            refine lv_iconst (v := (-1)) hx hb dX0_readSum_88 (by decide) ?_
            refine lv_icmp_eq (tgt := 105) hx hb dX0_readSum_89 (by decide) (fun c_89 => ?_) (fun c_89 => ?_)
            · skip
              have join_148 : ∀ (H : Heap) (locs : List Loc), (kdq = 259 ∨ kdq = 257 ∨ kdq = 46) → va_P D classes [(h0, .inr (0, [.ref qa, .ref qmi, .ref qmt, .ref qms, .int ua, .int ub, .int uc, .int ud, .int ue, .int uf, .int (nI ug), .int uh, .int ui, .int uj, .int ukv, .int (nI pl), .int umv, .int un])), (qa, .inr (7, [.ref htb, .int (nI ln), .int (nI le), .int (nI axq), .int kdq, .int (nI plq), .int (nI ltq), .int vlq, .int msq])), (qmt, .inr (2, [.ref ha, .ref hb9, .ref hc9, .ref hd9, .int (nI cn)])), (qmi, .inl (cA, 4096, .inl im)), (htb, .inl (cA, 6000, .inl tz)), (ha, .inl (cA, 60, .inl na)), (hb9, .inl (cA, 60, .inl nb)), (hc9, .inl (cA, 60, .inl nc)), (hd9, .inl (cA, 60, .inl nd))] H → va_D A [(h0, .inr (0, [.ref qa, .ref qmi, .ref qmt, .ref qms, .int ua, .int ub, .int uc, .int ud, .int ue, .int uf, .int (nI ug), .int uh, .int ui, .int uj, .int ukv, .int (nI pl), .int umv, .int un])), (qa, .inr (7, [.ref htb, .int (nI ln), .int (nI le), .int (nI axq), .int kdq, .int (nI plq), .int (nI ltq), .int vlq, .int msq])), (qmt, .inr (2, [.ref ha, .ref hb9, .ref hc9, .ref hd9, .int (nI cn)])), (qmi, .inl (cA, 4096, .inl im)), (htb, .inl (cA, 6000, .inl tz)), (ha, .inl (cA, 60, .inl na)), (hb9, .inl (cA, 60, .inl nb)), (hc9, .inl (cA, 60, .inl nc)), (hd9, .inl (cA, 60, .inl nd))] → va_S A s.heap H locs → ∀ ls : Array Slot, lv_has ls 5 [(0, .ref h0), (1, .int (nI mi)), (2, .int (nI i2)), (3, .int kdv)] → W p l e { frames := 6, cells := 0, slots := 0, locals := 131 } s m (List.toArray [.ref h0]) below meth c H locs 0 0 Q9 (F0 m 148 ls []) := by
                intro H locs hk3 hP hD hS ls hl
                refine lv_iload_n hx hb dX0_readSum_148 rfl (lv_at hl 3 rfl) ?_
                refine lv_aload_n hx hb dX0_readSum_149 rfl (lv_at hl 0 rfl) ?_
                refine kVi (n3 := 0) (As := []) (rest := [.int kdv]) X hl.1 hE hP hD hS hA [(h0, .inr (0, [.ref qa, .ref qmi, .ref qmt, .ref qms, .int ua, .int ub, .int uc, .int ud, .int ue, .int uf, .int (nI ug), .int uh, .int ui, .int uj, .int ukv, .int (nI pl), .int umv, .int un])), (qa, .inr (7, [.ref htb, .int (nI ln), .int (nI le), .int (nI axq), .int kdq, .int (nI plq), .int (nI ltq), .int vlq, .int msq])), (qmt, .inr (2, [.ref ha, .ref hb9, .ref hc9, .ref hd9, .int (nI cn)])), (qmi, .inl (cA, 4096, .inl im)), (htb, .inl (cA, 6000, .inl tz)), (ha, .inl (cA, 60, .inl na)), (hb9, .inl (cA, 60, .inl nb)), (hc9, .inl (cA, 60, .inl nc)), (hd9, .inl (cA, 60, .inl nd))] [] [0, 1, 2, 3, 4, 5, 6, 7, 8] [] rfl rfl rfl (by decide +kernel) (by decide +kernel) (by decide +kernel) (c_s_atermHere l D cA cB h0 qa qmi qmt qms htb ha hb9 hc9 hd9 ua ub uc ud ue uf ug uh ui uj ukv (nI pl) umv un ln le axq kdq plq ltq vlq msq cn im tz na nb nc nd hug hln hle haxq hplq hltq hcn him htz (by first | assumption | omega | decide | rfl) (by first | assumption | omega | decide | rfl) (by first | assumption | omega | decide | rfl) (by first | assumption | omega | decide | rfl)) w_508 w_397 w_507 w_509 w_510 0 (ci := 0) (T := TX0) (N := 18) rfl rfl (by decide +kernel) rfl rfl (Nat.le_of_ble_eq_true rfl) ⟨(Nat.le_of_ble_eq_true rfl), (Nat.le_of_ble_eq_true rfl)⟩ ⟨(Nat.le_of_ble_eq_true rfl), (Nat.le_of_ble_eq_true rfl)⟩ dX0_readSum_150 (fun r W1 H locs hw hP hD hS => ?_)
                obtain ⟨um2_6, rv_7, er_8, rfl⟩ := hw
                have hP : va_P D classes [(h0, .inr (0, [.ref qa, .ref qmi, .ref qmt, .ref qms, .int ua, .int ub, .int uc, .int ud, .int ue, .int uf, .int (nI ug), .int uh, .int ui, .int uj, .int ukv, .int (nI pl), .int um2_6, .int un])), (qa, .inr (7, [.ref htb, .int (nI ln), .int (nI le), .int (nI axq), .int kdq, .int (nI plq), .int (nI ltq), .int vlq, .int msq])), (qmt, .inr (2, [.ref ha, .ref hb9, .ref hc9, .ref hd9, .int (nI cn)])), (qmi, .inl (cA, 4096, .inl im)), (htb, .inl (cA, 6000, .inl tz)), (ha, .inl (cA, 60, .inl na)), (hb9, .inl (cA, 60, .inl nb)), (hc9, .inl (cA, 60, .inl nc)), (hd9, .inl (cA, 60, .inl nd))] H := hP
                have hD : va_D A [(h0, .inr (0, [.ref qa, .ref qmi, .ref qmt, .ref qms, .int ua, .int ub, .int uc, .int ud, .int ue, .int uf, .int (nI ug), .int uh, .int ui, .int uj, .int ukv, .int (nI pl), .int um2_6, .int un])), (qa, .inr (7, [.ref htb, .int (nI ln), .int (nI le), .int (nI axq), .int kdq, .int (nI plq), .int (nI ltq), .int vlq, .int msq])), (qmt, .inr (2, [.ref ha, .ref hb9, .ref hc9, .ref hd9, .int (nI cn)])), (qmi, .inl (cA, 4096, .inl im)), (htb, .inl (cA, 6000, .inl tz)), (ha, .inl (cA, 60, .inl na)), (hb9, .inl (cA, 60, .inl nb)), (hc9, .inl (cA, 60, .inl nc)), (hd9, .inl (cA, 60, .inl nd))] := hD
                refine tk (y := rv_7) er_8 ?_
                refine kSi (n3 := 2) (As := [.int kdv, .int rv_7]) (rest := []) X hl.1 hE hP hD hS hA [] [(h0, .inr (0, [.ref qa, .ref qmi, .ref qmt, .ref qms, .int ua, .int ub, .int uc, .int ud, .int ue, .int uf, .int (nI ug), .int uh, .int ui, .int uj, .int ukv, .int (nI pl), .int um2_6, .int un])), (qa, .inr (7, [.ref htb, .int (nI ln), .int (nI le), .int (nI axq), .int kdq, .int (nI plq), .int (nI ltq), .int vlq, .int msq])), (qmt, .inr (2, [.ref ha, .ref hb9, .ref hc9, .ref hd9, .int (nI cn)])), (qmi, .inl (cA, 4096, .inl im)), (htb, .inl (cA, 6000, .inl tz)), (ha, .inl (cA, 60, .inl na)), (hb9, .inl (cA, 60, .inl nb)), (hc9, .inl (cA, 60, .inl nc)), (hd9, .inl (cA, 60, .inl nd))] [] [0, 1, 2, 3, 4, 5, 6, 7, 8] rfl rfl rfl (by decide +kernel) (by decide +kernel) (by decide +kernel) (c_s_partOf l D cA cB kdv rv_7 ) w_512 w_397 w_511 w_513 (by decide +kernel) rfl rfl (Nat.le_of_ble_eq_true rfl) ⟨(Nat.le_of_ble_eq_true rfl), (Nat.le_of_ble_eq_true rfl)⟩ ⟨(Nat.le_of_ble_eq_true rfl), (Nat.le_of_ble_eq_true rfl)⟩ dX0_readSum_153 (fun r W1 H locs hw hP hD hS => ?_)
                obtain ⟨rv_9, er_10, rfl⟩ := hw
                have hP : va_P D classes [(h0, .inr (0, [.ref qa, .ref qmi, .ref qmt, .ref qms, .int ua, .int ub, .int uc, .int ud, .int ue, .int uf, .int (nI ug), .int uh, .int ui, .int uj, .int ukv, .int (nI pl), .int um2_6, .int un])), (qa, .inr (7, [.ref htb, .int (nI ln), .int (nI le), .int (nI axq), .int kdq, .int (nI plq), .int (nI ltq), .int vlq, .int msq])), (qmt, .inr (2, [.ref ha, .ref hb9, .ref hc9, .ref hd9, .int (nI cn)])), (qmi, .inl (cA, 4096, .inl im)), (htb, .inl (cA, 6000, .inl tz)), (ha, .inl (cA, 60, .inl na)), (hb9, .inl (cA, 60, .inl nb)), (hc9, .inl (cA, 60, .inl nc)), (hd9, .inl (cA, 60, .inl nd))] H := hP
                have hD : va_D A [(h0, .inr (0, [.ref qa, .ref qmi, .ref qmt, .ref qms, .int ua, .int ub, .int uc, .int ud, .int ue, .int uf, .int (nI ug), .int uh, .int ui, .int uj, .int ukv, .int (nI pl), .int um2_6, .int un])), (qa, .inr (7, [.ref htb, .int (nI ln), .int (nI le), .int (nI axq), .int kdq, .int (nI plq), .int (nI ltq), .int vlq, .int msq])), (qmt, .inr (2, [.ref ha, .ref hb9, .ref hc9, .ref hd9, .int (nI cn)])), (qmi, .inl (cA, 4096, .inl im)), (htb, .inl (cA, 6000, .inl tz)), (ha, .inl (cA, 60, .inl na)), (hb9, .inl (cA, 60, .inl nb)), (hc9, .inl (cA, 60, .inl nc)), (hd9, .inl (cA, 60, .inl nd))] := hD
                refine tk (y := rv_9) er_10 ?_
                refine lv_istore (lv' := [(4, .int rv_9), (0, .ref h0), (1, .int (nI mi)), (2, .int (nI i2)), (3, .int kdv)]) hx hb dX0_readSum_156 hl (by decide) rfl (fun ls hl => ?_)
                have join_179 : ∀ (ukr : Int32) (H : Heap) (locs : List Loc), va_P D classes [(h0, .inr (0, [.ref qa, .ref qmi, .ref qmt, .ref qms, .int ua, .int ub, .int uc, .int ud, .int ue, .int uf, .int (nI ug), .int uh, .int ui, .int uj, .int ukr, .int (nI pl), .int um2_6, .int un])), (qa, .inr (7, [.ref htb, .int (nI ln), .int (nI le), .int (nI axq), .int kdq, .int (nI plq), .int (nI ltq), .int vlq, .int msq])), (qmt, .inr (2, [.ref ha, .ref hb9, .ref hc9, .ref hd9, .int (nI cn)])), (qmi, .inl (cA, 4096, .inl im)), (htb, .inl (cA, 6000, .inl tz)), (ha, .inl (cA, 60, .inl na)), (hb9, .inl (cA, 60, .inl nb)), (hc9, .inl (cA, 60, .inl nc)), (hd9, .inl (cA, 60, .inl nd))] H → va_D A [(h0, .inr (0, [.ref qa, .ref qmi, .ref qmt, .ref qms, .int ua, .int ub, .int uc, .int ud, .int ue, .int uf, .int (nI ug), .int uh, .int ui, .int uj, .int ukr, .int (nI pl), .int um2_6, .int un])), (qa, .inr (7, [.ref htb, .int (nI ln), .int (nI le), .int (nI axq), .int kdq, .int (nI plq), .int (nI ltq), .int vlq, .int msq])), (qmt, .inr (2, [.ref ha, .ref hb9, .ref hc9, .ref hd9, .int (nI cn)])), (qmi, .inl (cA, 4096, .inl im)), (htb, .inl (cA, 6000, .inl tz)), (ha, .inl (cA, 60, .inl na)), (hb9, .inl (cA, 60, .inl nb)), (hc9, .inl (cA, 60, .inl nc)), (hd9, .inl (cA, 60, .inl nd))] → va_S A s.heap H locs → ∀ ls : Array Slot, lv_has ls 5 [(0, .ref h0), (1, .int (nI mi)), (2, .int (nI i2)), (3, .int kdv), (4, .int rv_9)] → W p l e { frames := 6, cells := 0, slots := 0, locals := 131 } s m (List.toArray [.ref h0]) below meth c H locs 0 0 Q9 (F0 m 179 ls []) := by
                  intro ukr H locs hP hD hS ls hl
                  refine lv_aload_n hx hb dX0_readSum_179 rfl (lv_at hl 0 rfl) ?_
                  refine k_get (C := RX0) (T := TX0) (N := 18) (ci := 0) (v := .ref qa) X hE hP 0 rfl rfl iX0 0 (by decide) w_394 rfl dX0_readSum_180 ?_
                  refine kVv (n3 := 0) (As := []) (rest := []) X hl.1 hE hP hD hS hA [(qa, .inr (7, [.ref htb, .int (nI ln), .int (nI le), .int (nI axq), .int kdq, .int (nI plq), .int (nI ltq), .int vlq, .int msq])), (htb, .inl (cA, 6000, .inl tz))] [(h0, .inr (0, [.ref qa, .ref qmi, .ref qmt, .ref qms, .int ua, .int ub, .int uc, .int ud, .int ue, .int uf, .int (nI ug), .int uh, .int ui, .int uj, .int ukr, .int (nI pl), .int um2_6, .int un])), (qmt, .inr (2, [.ref ha, .ref hb9, .ref hc9, .ref hd9, .int (nI cn)])), (qmi, .inl (cA, 4096, .inl im)), (ha, .inl (cA, 60, .inl na)), (hb9, .inl (cA, 60, .inl nb)), (hc9, .inl (cA, 60, .inl nc)), (hd9, .inl (cA, 60, .inl nd))] [1, 4] [0, 2, 3, 5, 6, 7, 8] rfl rfl rfl (by decide +kernel) (by decide +kernel) (by decide +kernel) (c_s_next l D cA cB qa htb ln le axq kdq plq ltq vlq msq tz hln hle haxq hplq hltq htz (by first | assumption | omega | decide | rfl)) w_515 w_374 w_514 w_516 w_517 0 (ci := 7) (T := TX7) (N := 9) rfl rfl (by decide +kernel) rfl rfl (Nat.le_of_ble_eq_true rfl) ⟨(Nat.le_of_ble_eq_true rfl), (Nat.le_of_ble_eq_true rfl)⟩ ⟨(Nat.le_of_ble_eq_true rfl), (Nat.le_of_ble_eq_true rfl)⟩ dX0_readSum_183 (fun W1 H locs hw hP hD hS => ?_)
                  obtain ⟨ax2_11, kd2_12, pl2_13, lt2_14, vl2_15, ms2_16, hf_17, hf_18, hf_19, hf_20, hf_21, rfl⟩ := hw
                  have hP : va_P D classes [(h0, .inr (0, [.ref qa, .ref qmi, .ref qmt, .ref qms, .int ua, .int ub, .int uc, .int ud, .int ue, .int uf, .int (nI ug), .int uh, .int ui, .int uj, .int ukr, .int (nI pl), .int um2_6, .int un])), (qmt, .inr (2, [.ref ha, .ref hb9, .ref hc9, .ref hd9, .int (nI cn)])), (qmi, .inl (cA, 4096, .inl im)), (ha, .inl (cA, 60, .inl na)), (hb9, .inl (cA, 60, .inl nb)), (hc9, .inl (cA, 60, .inl nc)), (hd9, .inl (cA, 60, .inl nd)), (qa, .inr (7, [.ref htb, .int (nI ln), .int (nI le), .int (nI ax2_11), .int kd2_12, .int (nI pl2_13), .int (nI lt2_14), .int vl2_15, .int ms2_16])), (htb, .inl (cA, 6000, .inl tz))] H := hP
                  have hD : va_D A [(h0, .inr (0, [.ref qa, .ref qmi, .ref qmt, .ref qms, .int ua, .int ub, .int uc, .int ud, .int ue, .int uf, .int (nI ug), .int uh, .int ui, .int uj, .int ukr, .int (nI pl), .int um2_6, .int un])), (qmt, .inr (2, [.ref ha, .ref hb9, .ref hc9, .ref hd9, .int (nI cn)])), (qmi, .inl (cA, 4096, .inl im)), (ha, .inl (cA, 60, .inl na)), (hb9, .inl (cA, 60, .inl nb)), (hc9, .inl (cA, 60, .inl nc)), (hd9, .inl (cA, 60, .inl nd)), (qa, .inr (7, [.ref htb, .int (nI ln), .int (nI le), .int (nI ax2_11), .int kd2_12, .int (nI pl2_13), .int (nI lt2_14), .int vl2_15, .int ms2_16])), (htb, .inl (cA, 6000, .inl tz))] := hD
                  refine lv_aload_n hx hb dX0_readSum_186 rfl (lv_at hl 0 rfl) ?_
                  refine k_get (C := RX0) (T := TX0) (N := 18) (ci := 0) (v := .ref qa) X hE hP 0 rfl rfl iX0 0 (by decide) w_394 rfl dX0_readSum_187 ?_
                  refine k_getN (C := RX7) (T := TX7) (N := 9) (ci := 7) (v := .int kd2_12) X hE hP 7 rfl rfl iX7 4 (by decide) nw_16 rfl dX0_readSum_190 ?_
                  refine lv_bipush (v := 43) hx hb dX0_readSum_193 (by decide) ?_
                  refine lv_icmp_eq (tgt := 212) hx hb dX0_readSum_195 (by decide) (fun c_195 => ?_) (fun c_195 => ?_)
                  · skip
                    refine lv_aload_n hx hb dX0_readSum_212 rfl (lv_at hl 0 rfl) ?_
                    refine k_get (C := RX0) (T := TX0) (N := 18) (ci := 0) (v := .ref qa) X hE hP 0 rfl rfl iX0 0 (by decide) w_394 rfl dX0_readSum_213 ?_
                    refine k_getN (C := RX7) (T := TX7) (N := 9) (ci := 7) (v := .int kd2_12) X hE hP 7 rfl rfl iX7 4 (by decide) nw_16 rfl dX0_readSum_216 ?_
                    refine lv_bipush (v := 45) hx hb dX0_readSum_219 (by decide) ?_
                    refine lv_icmp_ne (tgt := 228) hx hb dX0_readSum_221 (by decide) (fun c_221 => ?_) (fun c_221 => ?_)
                    · skip
                      refine lv_iconst (v := 0) hx hb dX0_readSum_228 (by decide) ?_
                      refine lv_istore_n (lv' := [(1, .int 0), (0, .ref h0), (2, .int (nI i2)), (3, .int kdv), (4, .int rv_9)]) hx hb dX0_readSum_229 rfl hl (by decide) rfl (fun ls hl => ?_)
                      refine lv_aload_n hx hb dX0_readSum_230 rfl (lv_at hl 1 rfl) ?_
                      refine k_get (C := RX0) (T := TX0) (N := 18) (ci := 0) (v := .ref qa) X hE hP 0 rfl rfl iX0 0 (by decide) w_394 rfl dX0_readSum_231 ?_
                      refine kVv (n3 := 0) (As := []) (rest := []) X hl.1 hE hP hD hS hA [(qa, .inr (7, [.ref htb, .int (nI ln), .int (nI le), .int (nI ax2_11), .int kd2_12, .int (nI pl2_13), .int (nI lt2_14), .int vl2_15, .int ms2_16])), (htb, .inl (cA, 6000, .inl tz))] [(h0, .inr (0, [.ref qa, .ref qmi, .ref qmt, .ref qms, .int ua, .int ub, .int uc, .int ud, .int ue, .int uf, .int (nI ug), .int uh, .int ui, .int uj, .int ukr, .int (nI pl), .int um2_6, .int un])), (qmt, .inr (2, [.ref ha, .ref hb9, .ref hc9, .ref hd9, .int (nI cn)])), (qmi, .inl (cA, 4096, .inl im)), (ha, .inl (cA, 60, .inl na)), (hb9, .inl (cA, 60, .inl nb)), (hc9, .inl (cA, 60, .inl nc)), (hd9, .inl (cA, 60, .inl nd))] [7, 8] [0, 1, 2, 3, 4, 5, 6] rfl rfl rfl (by decide +kernel) (by decide +kernel) (by decide +kernel) (c_s_next l D cA cB qa htb ln le ax2_11 kd2_12 pl2_13 lt2_14 vl2_15 ms2_16 tz hln hle hf_17 hf_18 hf_19 htz (by first | assumption | omega | decide | rfl)) w_515 w_374 w_514 w_516 w_517 0 (ci := 7) (T := TX7) (N := 9) rfl rfl (by decide +kernel) rfl rfl (Nat.le_of_ble_eq_true rfl) ⟨(Nat.le_of_ble_eq_true rfl), (Nat.le_of_ble_eq_true rfl)⟩ ⟨(Nat.le_of_ble_eq_true rfl), (Nat.le_of_ble_eq_true rfl)⟩ dX0_readSum_234 (fun W1 H locs hw hP hD hS => ?_)
                      obtain ⟨ax2_22, kd2_23, pl2_24, lt2_25, vl2_26, ms2_27, hf_28, hf_29, hf_30, hf_31, hf_32, rfl⟩ := hw
                      have hP : va_P D classes [(h0, .inr (0, [.ref qa, .ref qmi, .ref qmt, .ref qms, .int ua, .int ub, .int uc, .int ud, .int ue, .int uf, .int (nI ug), .int uh, .int ui, .int uj, .int ukr, .int (nI pl), .int um2_6, .int un])), (qmt, .inr (2, [.ref ha, .ref hb9, .ref hc9, .ref hd9, .int (nI cn)])), (qmi, .inl (cA, 4096, .inl im)), (ha, .inl (cA, 60, .inl na)), (hb9, .inl (cA, 60, .inl nb)), (hc9, .inl (cA, 60, .inl nc)), (hd9, .inl (cA, 60, .inl nd)), (qa, .inr (7, [.ref htb, .int (nI ln), .int (nI le), .int (nI ax2_22), .int kd2_23, .int (nI pl2_24), .int (nI lt2_25), .int vl2_26, .int ms2_27])), (htb, .inl (cA, 6000, .inl tz))] H := hP
                      have hD : va_D A [(h0, .inr (0, [.ref qa, .ref qmi, .ref qmt, .ref qms, .int ua, .int ub, .int uc, .int ud, .int ue, .int uf, .int (nI ug), .int uh, .int ui, .int uj, .int ukr, .int (nI pl), .int um2_6, .int un])), (qmt, .inr (2, [.ref ha, .ref hb9, .ref hc9, .ref hd9, .int (nI cn)])), (qmi, .inl (cA, 4096, .inl im)), (ha, .inl (cA, 60, .inl na)), (hb9, .inl (cA, 60, .inl nb)), (hc9, .inl (cA, 60, .inl nc)), (hd9, .inl (cA, 60, .inl nd)), (qa, .inr (7, [.ref htb, .int (nI ln), .int (nI le), .int (nI ax2_22), .int kd2_23, .int (nI pl2_24), .int (nI lt2_25), .int vl2_26, .int ms2_27])), (htb, .inl (cA, 6000, .inl tz))] := hD
                      refine lv_iinc (v := nI (i2 + 1)) (lv' := [(2, .int (nI (i2 + 1))), (1, .int 0), (0, .ref h0), (3, .int kdv), (4, .int rv_9)]) hx hb dX0_readSum_237 hl (k := 2) rfl (nI_1 i2) (by decide) rfl (fun ls hl => ?_)
                      refine lv_goto (tgt := 47) hx hb dX0_readSum_240 (by decide) ?_
                      exact ih_47 ukr um2_6 ax2_22 kd2_23 pl2_24 lt2_25 vl2_26 ms2_27 0 (i2 + 1) hf_28 hf_29 hf_30 (by omega) (by omega) (by first | assumption | omega) (by first | assumption | omega) (by omega) _ _ (hP.sub [0, 7, 1, 2, 8, 3, 4, 5, 6] rfl) (hD.sub [0, 7, 1, 2, 8, 3, 4, 5, 6] (by decide) rfl) hS ls (lv_sub hl [2, 1, 0] rfl)
                    · skip
                      refine lv_iconst (v := 1) hx hb dX0_readSum_224 (by decide) ?_
                      refine lv_goto (tgt := 229) hx hb dX0_readSum_225 (by decide) ?_
                      refine lv_istore_n (lv' := [(1, .int 1), (0, .ref h0), (2, .int (nI i2)), (3, .int kdv), (4, .int rv_9)]) hx hb dX0_readSum_229 rfl hl (by decide) rfl (fun ls hl => ?_)
                      refine lv_aload_n hx hb dX0_readSum_230 rfl (lv_at hl 1 rfl) ?_
                      refine k_get (C := RX0) (T := TX0) (N := 18) (ci := 0) (v := .ref qa) X hE hP 0 rfl rfl iX0 0 (by decide) w_394 rfl dX0_readSum_231 ?_
                      refine kVv (n3 := 0) (As := []) (rest := []) X hl.1 hE hP hD hS hA [(qa, .inr (7, [.ref htb, .int (nI ln), .int (nI le), .int (nI ax2_11), .int kd2_12, .int (nI pl2_13), .int (nI lt2_14), .int vl2_15, .int ms2_16])), (htb, .inl (cA, 6000, .inl tz))] [(h0, .inr (0, [.ref qa, .ref qmi, .ref qmt, .ref qms, .int ua, .int ub, .int uc, .int ud, .int ue, .int uf, .int (nI ug), .int uh, .int ui, .int uj, .int ukr, .int (nI pl), .int um2_6, .int un])), (qmt, .inr (2, [.ref ha, .ref hb9, .ref hc9, .ref hd9, .int (nI cn)])), (qmi, .inl (cA, 4096, .inl im)), (ha, .inl (cA, 60, .inl na)), (hb9, .inl (cA, 60, .inl nb)), (hc9, .inl (cA, 60, .inl nc)), (hd9, .inl (cA, 60, .inl nd))] [7, 8] [0, 1, 2, 3, 4, 5, 6] rfl rfl rfl (by decide +kernel) (by decide +kernel) (by decide +kernel) (c_s_next l D cA cB qa htb ln le ax2_11 kd2_12 pl2_13 lt2_14 vl2_15 ms2_16 tz hln hle hf_17 hf_18 hf_19 htz (by first | assumption | omega | decide | rfl)) w_515 w_374 w_514 w_516 w_517 0 (ci := 7) (T := TX7) (N := 9) rfl rfl (by decide +kernel) rfl rfl (Nat.le_of_ble_eq_true rfl) ⟨(Nat.le_of_ble_eq_true rfl), (Nat.le_of_ble_eq_true rfl)⟩ ⟨(Nat.le_of_ble_eq_true rfl), (Nat.le_of_ble_eq_true rfl)⟩ dX0_readSum_234 (fun W1 H locs hw hP hD hS => ?_)
                      obtain ⟨ax2_33, kd2_34, pl2_35, lt2_36, vl2_37, ms2_38, hf_39, hf_40, hf_41, hf_42, hf_43, rfl⟩ := hw
                      have hP : va_P D classes [(h0, .inr (0, [.ref qa, .ref qmi, .ref qmt, .ref qms, .int ua, .int ub, .int uc, .int ud, .int ue, .int uf, .int (nI ug), .int uh, .int ui, .int uj, .int ukr, .int (nI pl), .int um2_6, .int un])), (qmt, .inr (2, [.ref ha, .ref hb9, .ref hc9, .ref hd9, .int (nI cn)])), (qmi, .inl (cA, 4096, .inl im)), (ha, .inl (cA, 60, .inl na)), (hb9, .inl (cA, 60, .inl nb)), (hc9, .inl (cA, 60, .inl nc)), (hd9, .inl (cA, 60, .inl nd)), (qa, .inr (7, [.ref htb, .int (nI ln), .int (nI le), .int (nI ax2_33), .int kd2_34, .int (nI pl2_35), .int (nI lt2_36), .int vl2_37, .int ms2_38])), (htb, .inl (cA, 6000, .inl tz))] H := hP
                      have hD : va_D A [(h0, .inr (0, [.ref qa, .ref qmi, .ref qmt, .ref qms, .int ua, .int ub, .int uc, .int ud, .int ue, .int uf, .int (nI ug), .int uh, .int ui, .int uj, .int ukr, .int (nI pl), .int um2_6, .int un])), (qmt, .inr (2, [.ref ha, .ref hb9, .ref hc9, .ref hd9, .int (nI cn)])), (qmi, .inl (cA, 4096, .inl im)), (ha, .inl (cA, 60, .inl na)), (hb9, .inl (cA, 60, .inl nb)), (hc9, .inl (cA, 60, .inl nc)), (hd9, .inl (cA, 60, .inl nd)), (qa, .inr (7, [.ref htb, .int (nI ln), .int (nI le), .int (nI ax2_33), .int kd2_34, .int (nI pl2_35), .int (nI lt2_36), .int vl2_37, .int ms2_38])), (htb, .inl (cA, 6000, .inl tz))] := hD
                      refine lv_iinc (v := nI (i2 + 1)) (lv' := [(2, .int (nI (i2 + 1))), (1, .int 1), (0, .ref h0), (3, .int kdv), (4, .int rv_9)]) hx hb dX0_readSum_237 hl (k := 2) rfl (nI_1 i2) (by decide) rfl (fun ls hl => ?_)
                      refine lv_goto (tgt := 47) hx hb dX0_readSum_240 (by decide) ?_
                      exact ih_47 ukr um2_6 ax2_33 kd2_34 pl2_35 lt2_36 vl2_37 ms2_38 1 (i2 + 1) hf_39 hf_40 hf_41 (by omega) (by omega) (by first | assumption | omega) (by first | assumption | omega) (by omega) _ _ (hP.sub [0, 7, 1, 2, 8, 3, 4, 5, 6] rfl) (hD.sub [0, 7, 1, 2, 8, 3, 4, 5, 6] (by decide) rfl) hS ls (lv_sub hl [2, 1, 0] rfl)
                  · skip
                    refine lv_aload_n hx hb dX0_readSum_198 rfl (lv_at hl 0 rfl) ?_
                    refine k_get (C := RX0) (T := TX0) (N := 18) (ci := 0) (v := .ref qa) X hE hP 0 rfl rfl iX0 0 (by decide) w_394 rfl dX0_readSum_199 ?_
                    refine k_getN (C := RX7) (T := TX7) (N := 9) (ci := 7) (v := .int kd2_12) X hE hP 7 rfl rfl iX7 4 (by decide) nw_16 rfl dX0_readSum_202 ?_
                    refine lv_bipush (v := 45) hx hb dX0_readSum_205 (by decide) ?_
                    refine lv_icmp_eq (tgt := 212) hx hb dX0_readSum_207 (by decide) (fun c_207 => ?_) (fun c_207 => ?_)
                    · skip
                      refine lv_aload_n hx hb dX0_readSum_212 rfl (lv_at hl 0 rfl) ?_
                      refine k_get (C := RX0) (T := TX0) (N := 18) (ci := 0) (v := .ref qa) X hE hP 0 rfl rfl iX0 0 (by decide) w_394 rfl dX0_readSum_213 ?_
                      refine k_getN (C := RX7) (T := TX7) (N := 9) (ci := 7) (v := .int kd2_12) X hE hP 7 rfl rfl iX7 4 (by decide) nw_16 rfl dX0_readSum_216 ?_
                      refine lv_bipush (v := 45) hx hb dX0_readSum_219 (by decide) ?_
                      refine lv_icmp_ne (tgt := 228) hx hb dX0_readSum_221 (by decide) (fun c_221 => ?_) (fun c_221 => ?_)
                      · skip
                        refine lv_iconst (v := 0) hx hb dX0_readSum_228 (by decide) ?_
                        refine lv_istore_n (lv' := [(1, .int 0), (0, .ref h0), (2, .int (nI i2)), (3, .int kdv), (4, .int rv_9)]) hx hb dX0_readSum_229 rfl hl (by decide) rfl (fun ls hl => ?_)
                        refine lv_aload_n hx hb dX0_readSum_230 rfl (lv_at hl 1 rfl) ?_
                        refine k_get (C := RX0) (T := TX0) (N := 18) (ci := 0) (v := .ref qa) X hE hP 0 rfl rfl iX0 0 (by decide) w_394 rfl dX0_readSum_231 ?_
                        refine kVv (n3 := 0) (As := []) (rest := []) X hl.1 hE hP hD hS hA [(qa, .inr (7, [.ref htb, .int (nI ln), .int (nI le), .int (nI ax2_11), .int kd2_12, .int (nI pl2_13), .int (nI lt2_14), .int vl2_15, .int ms2_16])), (htb, .inl (cA, 6000, .inl tz))] [(h0, .inr (0, [.ref qa, .ref qmi, .ref qmt, .ref qms, .int ua, .int ub, .int uc, .int ud, .int ue, .int uf, .int (nI ug), .int uh, .int ui, .int uj, .int ukr, .int (nI pl), .int um2_6, .int un])), (qmt, .inr (2, [.ref ha, .ref hb9, .ref hc9, .ref hd9, .int (nI cn)])), (qmi, .inl (cA, 4096, .inl im)), (ha, .inl (cA, 60, .inl na)), (hb9, .inl (cA, 60, .inl nb)), (hc9, .inl (cA, 60, .inl nc)), (hd9, .inl (cA, 60, .inl nd))] [7, 8] [0, 1, 2, 3, 4, 5, 6] rfl rfl rfl (by decide +kernel) (by decide +kernel) (by decide +kernel) (c_s_next l D cA cB qa htb ln le ax2_11 kd2_12 pl2_13 lt2_14 vl2_15 ms2_16 tz hln hle hf_17 hf_18 hf_19 htz (by first | assumption | omega | decide | rfl)) w_515 w_374 w_514 w_516 w_517 0 (ci := 7) (T := TX7) (N := 9) rfl rfl (by decide +kernel) rfl rfl (Nat.le_of_ble_eq_true rfl) ⟨(Nat.le_of_ble_eq_true rfl), (Nat.le_of_ble_eq_true rfl)⟩ ⟨(Nat.le_of_ble_eq_true rfl), (Nat.le_of_ble_eq_true rfl)⟩ dX0_readSum_234 (fun W1 H locs hw hP hD hS => ?_)
                        obtain ⟨ax2_44, kd2_45, pl2_46, lt2_47, vl2_48, ms2_49, hf_50, hf_51, hf_52, hf_53, hf_54, rfl⟩ := hw
                        have hP : va_P D classes [(h0, .inr (0, [.ref qa, .ref qmi, .ref qmt, .ref qms, .int ua, .int ub, .int uc, .int ud, .int ue, .int uf, .int (nI ug), .int uh, .int ui, .int uj, .int ukr, .int (nI pl), .int um2_6, .int un])), (qmt, .inr (2, [.ref ha, .ref hb9, .ref hc9, .ref hd9, .int (nI cn)])), (qmi, .inl (cA, 4096, .inl im)), (ha, .inl (cA, 60, .inl na)), (hb9, .inl (cA, 60, .inl nb)), (hc9, .inl (cA, 60, .inl nc)), (hd9, .inl (cA, 60, .inl nd)), (qa, .inr (7, [.ref htb, .int (nI ln), .int (nI le), .int (nI ax2_44), .int kd2_45, .int (nI pl2_46), .int (nI lt2_47), .int vl2_48, .int ms2_49])), (htb, .inl (cA, 6000, .inl tz))] H := hP
                        have hD : va_D A [(h0, .inr (0, [.ref qa, .ref qmi, .ref qmt, .ref qms, .int ua, .int ub, .int uc, .int ud, .int ue, .int uf, .int (nI ug), .int uh, .int ui, .int uj, .int ukr, .int (nI pl), .int um2_6, .int un])), (qmt, .inr (2, [.ref ha, .ref hb9, .ref hc9, .ref hd9, .int (nI cn)])), (qmi, .inl (cA, 4096, .inl im)), (ha, .inl (cA, 60, .inl na)), (hb9, .inl (cA, 60, .inl nb)), (hc9, .inl (cA, 60, .inl nc)), (hd9, .inl (cA, 60, .inl nd)), (qa, .inr (7, [.ref htb, .int (nI ln), .int (nI le), .int (nI ax2_44), .int kd2_45, .int (nI pl2_46), .int (nI lt2_47), .int vl2_48, .int ms2_49])), (htb, .inl (cA, 6000, .inl tz))] := hD
                        refine lv_iinc (v := nI (i2 + 1)) (lv' := [(2, .int (nI (i2 + 1))), (1, .int 0), (0, .ref h0), (3, .int kdv), (4, .int rv_9)]) hx hb dX0_readSum_237 hl (k := 2) rfl (nI_1 i2) (by decide) rfl (fun ls hl => ?_)
                        refine lv_goto (tgt := 47) hx hb dX0_readSum_240 (by decide) ?_
                        exact ih_47 ukr um2_6 ax2_44 kd2_45 pl2_46 lt2_47 vl2_48 ms2_49 0 (i2 + 1) hf_50 hf_51 hf_52 (by omega) (by omega) (by first | assumption | omega) (by first | assumption | omega) (by omega) _ _ (hP.sub [0, 7, 1, 2, 8, 3, 4, 5, 6] rfl) (hD.sub [0, 7, 1, 2, 8, 3, 4, 5, 6] (by decide) rfl) hS ls (lv_sub hl [2, 1, 0] rfl)
                      · skip
                        refine lv_iconst (v := 1) hx hb dX0_readSum_224 (by decide) ?_
                        refine lv_goto (tgt := 229) hx hb dX0_readSum_225 (by decide) ?_
                        refine lv_istore_n (lv' := [(1, .int 1), (0, .ref h0), (2, .int (nI i2)), (3, .int kdv), (4, .int rv_9)]) hx hb dX0_readSum_229 rfl hl (by decide) rfl (fun ls hl => ?_)
                        refine lv_aload_n hx hb dX0_readSum_230 rfl (lv_at hl 1 rfl) ?_
                        refine k_get (C := RX0) (T := TX0) (N := 18) (ci := 0) (v := .ref qa) X hE hP 0 rfl rfl iX0 0 (by decide) w_394 rfl dX0_readSum_231 ?_
                        refine kVv (n3 := 0) (As := []) (rest := []) X hl.1 hE hP hD hS hA [(qa, .inr (7, [.ref htb, .int (nI ln), .int (nI le), .int (nI ax2_11), .int kd2_12, .int (nI pl2_13), .int (nI lt2_14), .int vl2_15, .int ms2_16])), (htb, .inl (cA, 6000, .inl tz))] [(h0, .inr (0, [.ref qa, .ref qmi, .ref qmt, .ref qms, .int ua, .int ub, .int uc, .int ud, .int ue, .int uf, .int (nI ug), .int uh, .int ui, .int uj, .int ukr, .int (nI pl), .int um2_6, .int un])), (qmt, .inr (2, [.ref ha, .ref hb9, .ref hc9, .ref hd9, .int (nI cn)])), (qmi, .inl (cA, 4096, .inl im)), (ha, .inl (cA, 60, .inl na)), (hb9, .inl (cA, 60, .inl nb)), (hc9, .inl (cA, 60, .inl nc)), (hd9, .inl (cA, 60, .inl nd))] [7, 8] [0, 1, 2, 3, 4, 5, 6] rfl rfl rfl (by decide +kernel) (by decide +kernel) (by decide +kernel) (c_s_next l D cA cB qa htb ln le ax2_11 kd2_12 pl2_13 lt2_14 vl2_15 ms2_16 tz hln hle hf_17 hf_18 hf_19 htz (by first | assumption | omega | decide | rfl)) w_515 w_374 w_514 w_516 w_517 0 (ci := 7) (T := TX7) (N := 9) rfl rfl (by decide +kernel) rfl rfl (Nat.le_of_ble_eq_true rfl) ⟨(Nat.le_of_ble_eq_true rfl), (Nat.le_of_ble_eq_true rfl)⟩ ⟨(Nat.le_of_ble_eq_true rfl), (Nat.le_of_ble_eq_true rfl)⟩ dX0_readSum_234 (fun W1 H locs hw hP hD hS => ?_)
                        obtain ⟨ax2_55, kd2_56, pl2_57, lt2_58, vl2_59, ms2_60, hf_61, hf_62, hf_63, hf_64, hf_65, rfl⟩ := hw
                        have hP : va_P D classes [(h0, .inr (0, [.ref qa, .ref qmi, .ref qmt, .ref qms, .int ua, .int ub, .int uc, .int ud, .int ue, .int uf, .int (nI ug), .int uh, .int ui, .int uj, .int ukr, .int (nI pl), .int um2_6, .int un])), (qmt, .inr (2, [.ref ha, .ref hb9, .ref hc9, .ref hd9, .int (nI cn)])), (qmi, .inl (cA, 4096, .inl im)), (ha, .inl (cA, 60, .inl na)), (hb9, .inl (cA, 60, .inl nb)), (hc9, .inl (cA, 60, .inl nc)), (hd9, .inl (cA, 60, .inl nd)), (qa, .inr (7, [.ref htb, .int (nI ln), .int (nI le), .int (nI ax2_55), .int kd2_56, .int (nI pl2_57), .int (nI lt2_58), .int vl2_59, .int ms2_60])), (htb, .inl (cA, 6000, .inl tz))] H := hP
                        have hD : va_D A [(h0, .inr (0, [.ref qa, .ref qmi, .ref qmt, .ref qms, .int ua, .int ub, .int uc, .int ud, .int ue, .int uf, .int (nI ug), .int uh, .int ui, .int uj, .int ukr, .int (nI pl), .int um2_6, .int un])), (qmt, .inr (2, [.ref ha, .ref hb9, .ref hc9, .ref hd9, .int (nI cn)])), (qmi, .inl (cA, 4096, .inl im)), (ha, .inl (cA, 60, .inl na)), (hb9, .inl (cA, 60, .inl nb)), (hc9, .inl (cA, 60, .inl nc)), (hd9, .inl (cA, 60, .inl nd)), (qa, .inr (7, [.ref htb, .int (nI ln), .int (nI le), .int (nI ax2_55), .int kd2_56, .int (nI pl2_57), .int (nI lt2_58), .int vl2_59, .int ms2_60])), (htb, .inl (cA, 6000, .inl tz))] := hD
                        refine lv_iinc (v := nI (i2 + 1)) (lv' := [(2, .int (nI (i2 + 1))), (1, .int 1), (0, .ref h0), (3, .int kdv), (4, .int rv_9)]) hx hb dX0_readSum_237 hl (k := 2) rfl (nI_1 i2) (by decide) rfl (fun ls hl => ?_)
                        refine lv_goto (tgt := 47) hx hb dX0_readSum_240 (by decide) ?_
                        exact ih_47 ukr um2_6 ax2_55 kd2_56 pl2_57 lt2_58 vl2_59 ms2_60 1 (i2 + 1) hf_61 hf_62 hf_63 (by omega) (by omega) (by first | assumption | omega) (by first | assumption | omega) (by omega) _ _ (hP.sub [0, 7, 1, 2, 8, 3, 4, 5, 6] rfl) (hD.sub [0, 7, 1, 2, 8, 3, 4, 5, 6] (by decide) rfl) hS ls (lv_sub hl [2, 1, 0] rfl)
                    · skip
                      refine lv_iconst (v := 1) hx hb dX0_readSum_210 (by decide) ?_
                      have hP : va_P D classes [(h0, .inr (0, [.ref qa, .ref qmi, .ref qmt, .ref qms, .int ua, .int ub, .int uc, .int ud, .int ue, .int uf, .int (nI ug), .int uh, .int ui, .int uj, .int ukr, .int (nI pl), .int um2_6, .int un])), (qa, .inr (7, [.ref htb, .int (nI ln), .int (nI le), .int (nI ax2_11), .int kd2_12, .int (nI pl2_13), .int (nI lt2_14), .int vl2_15, .int ms2_16])), (qmt, .inr (2, [.ref ha, .ref hb9, .ref hc9, .ref hd9, .int (nI cn)])), (qmi, .inl (cA, 4096, .inl im)), (htb, .inl (cA, 6000, .inl tz)), (ha, .inl (cA, 60, .inl na)), (hb9, .inl (cA, 60, .inl nb)), (hc9, .inl (cA, 60, .inl nc)), (hd9, .inl (cA, 60, .inl nd))] _ := hP.sub [0, 7, 1, 2, 8, 3, 4, 5, 6] rfl
                      have hD : va_D A [(h0, .inr (0, [.ref qa, .ref qmi, .ref qmt, .ref qms, .int ua, .int ub, .int uc, .int ud, .int ue, .int uf, .int (nI ug), .int uh, .int ui, .int uj, .int ukr, .int (nI pl), .int um2_6, .int un])), (qa, .inr (7, [.ref htb, .int (nI ln), .int (nI le), .int (nI ax2_11), .int kd2_12, .int (nI pl2_13), .int (nI lt2_14), .int vl2_15, .int ms2_16])), (qmt, .inr (2, [.ref ha, .ref hb9, .ref hc9, .ref hd9, .int (nI cn)])), (qmi, .inl (cA, 4096, .inl im)), (htb, .inl (cA, 6000, .inl tz)), (ha, .inl (cA, 60, .inl na)), (hb9, .inl (cA, 60, .inl nb)), (hc9, .inl (cA, 60, .inl nc)), (hd9, .inl (cA, 60, .inl nd))] := hD.sub [0, 7, 1, 2, 8, 3, 4, 5, 6] (by decide) rfl
                      rw [hQ9]
                      exact endZ X hr rfl hlocks hP hD hS dX0_readSum_211 ⟨ua, ub, ukr, (nI pl), um2_6, ax2_11, kd2_12, pl2_13, lt2_14, vl2_15, ms2_16, 1, rfl, hf_17, hf_18, hf_19, (by decide), (by first | assumption | omega), (by first | assumption | omega), rfl⟩
                refine lv_aload_n hx hb dX0_readSum_158 rfl (lv_at hl 1 rfl) ?_
                refine lv_dup hx hb dX0_readSum_159 rfl ?_
                refine k_get (C := RX0) (T := TX0) (N := 18) (ci := 0) (v := .int ukv) X hE hP 0 rfl rfl iX0 14 (by decide) w_387 rfl dX0_readSum_160 ?_
                refine lv_iload_n hx hb dX0_readSum_163 rfl (lv_at hl 2 rfl) ?_
                refine lv_if_eq (tgt := 173) hx hb dX0_readSum_164 (by decide) (fun c_164_66 => ?_) (fun c_164_66 => ?_)
                · have nc_164_66 : mi = 0 := (nI_eq (a := mi) (b := 0) (by omega) (by omega)).mp c_164_66
                  refine lv_iload hx hb dX0_readSum_173 (lv_at hl 0 rfl) ?_
                  refine lv_iadd hx hb dX0_readSum_175 ?_
                  refine k_put (C := RX0) (T := TX0) (N := 18) (ci := 0) (v := .int (ukv + rv_9)) (ty := .int) X hE hP hD hS 0 rfl rfl iX0 tyX0 tyX0_ok nmX0 14 (by decide) w_387 rfl (by decide +kernel) rfl rfl (Nat.le_of_ble_eq_true rfl) [(h0, .inr (0, [.ref qa, .ref qmi, .ref qmt, .ref qms, .int ua, .int ub, .int uc, .int ud, .int ue, .int uf, .int (nI ug), .int uh, .int ui, .int uj, .int (ukv + rv_9), .int (nI pl), .int um2_6, .int un])), (qa, .inr (7, [.ref htb, .int (nI ln), .int (nI le), .int (nI axq), .int kdq, .int (nI plq), .int (nI ltq), .int vlq, .int msq])), (qmt, .inr (2, [.ref ha, .ref hb9, .ref hc9, .ref hd9, .int (nI cn)])), (qmi, .inl (cA, 4096, .inl im)), (htb, .inl (cA, 6000, .inl tz)), (ha, .inl (cA, 60, .inl na)), (hb9, .inl (cA, 60, .inl nb)), (hc9, .inl (cA, 60, .inl nc)), (hd9, .inl (cA, 60, .inl nd))] rfl dX0_readSum_176 (fun H locs hP hD hS => ?_)
                  exact join_179 (ukv + rv_9) _ _  hP hD hS ls (lv_sub hl [1, 2, 3, 4, 0] rfl)
                · have nc_164_66 : ¬ mi = 0 := fun q => c_164_66 ((nI_eq (a := mi) (b := 0) (by omega) (by omega)).mpr q)
                  refine lv_iload hx hb dX0_readSum_167 (lv_at hl 0 rfl) ?_
                  refine lv_ineg hx hb dX0_readSum_169 ?_
                  refine lv_goto (tgt := 175) hx hb dX0_readSum_170 (by decide) ?_
                  refine lv_iadd hx hb dX0_readSum_175 ?_
                  refine k_put (C := RX0) (T := TX0) (N := 18) (ci := 0) (v := .int (ukv + (-rv_9))) (ty := .int) X hE hP hD hS 0 rfl rfl iX0 tyX0 tyX0_ok nmX0 14 (by decide) w_387 rfl (by decide +kernel) rfl rfl (Nat.le_of_ble_eq_true rfl) [(h0, .inr (0, [.ref qa, .ref qmi, .ref qmt, .ref qms, .int ua, .int ub, .int uc, .int ud, .int ue, .int uf, .int (nI ug), .int uh, .int ui, .int uj, .int (ukv + (-rv_9)), .int (nI pl), .int um2_6, .int un])), (qa, .inr (7, [.ref htb, .int (nI ln), .int (nI le), .int (nI axq), .int kdq, .int (nI plq), .int (nI ltq), .int vlq, .int msq])), (qmt, .inr (2, [.ref ha, .ref hb9, .ref hc9, .ref hd9, .int (nI cn)])), (qmi, .inl (cA, 4096, .inl im)), (htb, .inl (cA, 6000, .inl tz)), (ha, .inl (cA, 60, .inl na)), (hb9, .inl (cA, 60, .inl nb)), (hc9, .inl (cA, 60, .inl nc)), (hd9, .inl (cA, 60, .inl nd))] rfl dX0_readSum_176 (fun H locs hP hD hS => ?_)
                  exact join_179 (ukv + (-rv_9)) _ _  hP hD hS ls (lv_sub hl [1, 2, 3, 4, 0] rfl)
              refine lv_aload_n hx hb dX0_readSum_105 rfl (lv_at hl 0 rfl) ?_
              refine k_get (C := RX0) (T := TX0) (N := 18) (ci := 0) (v := .ref qa) X hE hP 0 rfl rfl iX0 0 (by decide) w_394 rfl dX0_readSum_106 ?_
              refine k_getN (C := RX7) (T := TX7) (N := 9) (ci := 7) (v := .int kdq) X hE hP 1 rfl rfl iX7 4 (by decide) nw_16 rfl dX0_readSum_109 ?_
              refine lv_sipush (v := 259) hx hb dX0_readSum_112 (by decide) ?_
              refine lv_icmp_eq (tgt := 148) hx hb dX0_readSum_115 (by decide) (fun c_115 => ?_) (fun c_115 => ?_)
              · skip
                exact join_148  _ _ (by first | exact Or.inl (by assumption) | exact Or.inr (Or.inl (by assumption)) | exact Or.inr (Or.inr (by assumption))) hP hD hS ls hl
              · skip
                refine lv_aload_n hx hb dX0_readSum_118 rfl (lv_at hl 0 rfl) ?_
                refine k_get (C := RX0) (T := TX0) (N := 18) (ci := 0) (v := .ref qa) X hE hP 0 rfl rfl iX0 0 (by decide) w_394 rfl dX0_readSum_119 ?_
                refine k_getN (C := RX7) (T := TX7) (N := 9) (ci := 7) (v := .int kdq) X hE hP 1 rfl rfl iX7 4 (by decide) nw_16 rfl dX0_readSum_122 ?_
                refine lv_sipush (v := 257) hx hb dX0_readSum_125 (by decide) ?_
                refine lv_icmp_eq (tgt := 148) hx hb dX0_readSum_128 (by decide) (fun c_128 => ?_) (fun c_128 => ?_)
                · skip
                  exact join_148  _ _ (by first | exact Or.inl (by assumption) | exact Or.inr (Or.inl (by assumption)) | exact Or.inr (Or.inr (by assumption))) hP hD hS ls hl
                · skip
                  refine lv_aload_n hx hb dX0_readSum_131 rfl (lv_at hl 0 rfl) ?_
                  refine k_get (C := RX0) (T := TX0) (N := 18) (ci := 0) (v := .ref qa) X hE hP 0 rfl rfl iX0 0 (by decide) w_394 rfl dX0_readSum_132 ?_
                  refine k_getN (C := RX7) (T := TX7) (N := 9) (ci := 7) (v := .int kdq) X hE hP 1 rfl rfl iX7 4 (by decide) nw_16 rfl dX0_readSum_135 ?_
                  refine lv_bipush (v := 46) hx hb dX0_readSum_138 (by decide) ?_
                  refine lv_icmp_eq (tgt := 148) hx hb dX0_readSum_140 (by decide) (fun c_140 => ?_) (fun c_140 => ?_)
                  · skip
                    exact join_148  _ _ (by first | exact Or.inl (by assumption) | exact Or.inr (Or.inl (by assumption)) | exact Or.inr (Or.inr (by assumption))) hP hD hS ls hl
                  · skip
                    refine lv_aload_n hx hb dX0_readSum_143 rfl (lv_at hl 0 rfl) ?_
                    refine kVi (n3 := 0) (As := []) (rest := []) X hl.1 hE hP hD hS hA [(h0, .inr (0, [.ref qa, .ref qmi, .ref qmt, .ref qms, .int ua, .int ub, .int uc, .int ud, .int ue, .int uf, .int (nI ug), .int uh, .int ui, .int uj, .int ukv, .int (nI pl), .int umv, .int un])), (qa, .inr (7, [.ref htb, .int (nI ln), .int (nI le), .int (nI axq), .int kdq, .int (nI plq), .int (nI ltq), .int vlq, .int msq]))] [(qmt, .inr (2, [.ref ha, .ref hb9, .ref hc9, .ref hd9, .int (nI cn)])), (qmi, .inl (cA, 4096, .inl im)), (htb, .inl (cA, 6000, .inl tz)), (ha, .inl (cA, 60, .inl na)), (hb9, .inl (cA, 60, .inl nb)), (hc9, .inl (cA, 60, .inl nc)), (hd9, .inl (cA, 60, .inl nd))] [0, 1] [2, 3, 4, 5, 6, 7, 8] rfl rfl rfl (by decide +kernel) (by decide +kernel) (by decide +kernel) (c_s_failHere l D cA cB h0 qa qmi qmt qms htb ua ub uc ud ue uf (nI ug) uh ui uj ukv (nI pl) umv un (nI ln) (nI le) (nI axq) kdq (nI plq) (nI ltq) vlq msq ) w_504 w_397 w_503 w_505 w_506 0 (ci := 0) (T := TX0) (N := 18) rfl rfl (by decide +kernel) rfl rfl (Nat.le_of_ble_eq_true rfl) ⟨(Nat.le_of_ble_eq_true rfl), (Nat.le_of_ble_eq_true rfl)⟩ ⟨(Nat.le_of_ble_eq_true rfl), (Nat.le_of_ble_eq_true rfl)⟩ dX0_readSum_144 (fun r W1 H locs hw hP hD hS => ?_)
                    obtain ⟨ua2_67, ub2_68, rk_69, rfl, hf_70, rfl⟩ := hw
                    have hP : va_P D classes [(qmt, .inr (2, [.ref ha, .ref hb9, .ref hc9, .ref hd9, .int (nI cn)])), (qmi, .inl (cA, 4096, .inl im)), (htb, .inl (cA, 6000, .inl tz)), (ha, .inl (cA, 60, .inl na)), (hb9, .inl (cA, 60, .inl nb)), (hc9, .inl (cA, 60, .inl nc)), (hd9, .inl (cA, 60, .inl nd)), (h0, .inr (0, [.ref qa, .ref qmi, .ref qmt, .ref qms, .int ua2_67, .int ub2_68, .int uc, .int ud, .int ue, .int uf, .int (nI ug), .int uh, .int ui, .int uj, .int ukv, .int (nI pl), .int umv, .int un])), (qa, .inr (7, [.ref htb, .int (nI ln), .int (nI le), .int (nI axq), .int kdq, .int (nI plq), .int (nI ltq), .int vlq, .int msq]))] H := hP
                    have hD : va_D A [(qmt, .inr (2, [.ref ha, .ref hb9, .ref hc9, .ref hd9, .int (nI cn)])), (qmi, .inl (cA, 4096, .inl im)), (htb, .inl (cA, 6000, .inl tz)), (ha, .inl (cA, 60, .inl na)), (hb9, .inl (cA, 60, .inl nb)), (hc9, .inl (cA, 60, .inl nc)), (hd9, .inl (cA, 60, .inl nd)), (h0, .inr (0, [.ref qa, .ref qmi, .ref qmt, .ref qms, .int ua2_67, .int ub2_68, .int uc, .int ud, .int ue, .int uf, .int (nI ug), .int uh, .int ui, .int uj, .int ukv, .int (nI pl), .int umv, .int un])), (qa, .inr (7, [.ref htb, .int (nI ln), .int (nI le), .int (nI axq), .int kdq, .int (nI plq), .int (nI ltq), .int vlq, .int msq]))] := hD
                    have hP : va_P D classes [(h0, .inr (0, [.ref qa, .ref qmi, .ref qmt, .ref qms, .int ua2_67, .int ub2_68, .int uc, .int ud, .int ue, .int uf, .int (nI ug), .int uh, .int ui, .int uj, .int ukv, .int (nI pl), .int umv, .int un])), (qa, .inr (7, [.ref htb, .int (nI ln), .int (nI le), .int (nI axq), .int kdq, .int (nI plq), .int (nI ltq), .int vlq, .int msq])), (qmt, .inr (2, [.ref ha, .ref hb9, .ref hc9, .ref hd9, .int (nI cn)])), (qmi, .inl (cA, 4096, .inl im)), (htb, .inl (cA, 6000, .inl tz)), (ha, .inl (cA, 60, .inl na)), (hb9, .inl (cA, 60, .inl nb)), (hc9, .inl (cA, 60, .inl nc)), (hd9, .inl (cA, 60, .inl nd))] _ := hP.sub [7, 8, 0, 1, 2, 3, 4, 5, 6] rfl
                    have hD : va_D A [(h0, .inr (0, [.ref qa, .ref qmi, .ref qmt, .ref qms, .int ua2_67, .int ub2_68, .int uc, .int ud, .int ue, .int uf, .int (nI ug), .int uh, .int ui, .int uj, .int ukv, .int (nI pl), .int umv, .int un])), (qa, .inr (7, [.ref htb, .int (nI ln), .int (nI le), .int (nI axq), .int kdq, .int (nI plq), .int (nI ltq), .int vlq, .int msq])), (qmt, .inr (2, [.ref ha, .ref hb9, .ref hc9, .ref hd9, .int (nI cn)])), (qmi, .inl (cA, 4096, .inl im)), (htb, .inl (cA, 6000, .inl tz)), (ha, .inl (cA, 60, .inl na)), (hb9, .inl (cA, 60, .inl nb)), (hc9, .inl (cA, 60, .inl nc)), (hd9, .inl (cA, 60, .inl nd))] := hD.sub [7, 8, 0, 1, 2, 3, 4, 5, 6] (by decide) rfl
                    rw [hQ9]
                    exact endZ X hr (nar_b (by omega)) hlocks hP hD hS dX0_readSum_147 ⟨ua2_67, ub2_68, ukv, (nI pl), umv, axq, kdq, plq, ltq, vlq, msq, rk_69, rfl, haxq, hplq, hltq, hf_70, (by first | assumption | omega), (by first | assumption | omega), rfl⟩
            · skip
              refine lv_aload_n hx hb dX0_readSum_92 rfl (lv_at hl 0 rfl) ?_
              refine lv_iconst (v := 1) hx hb dX0_readSum_93 (by decide) ?_
              refine lv_aload_n hx hb dX0_readSum_94 rfl (lv_at hl 0 rfl) ?_
              refine k_get (C := RX0) (T := TX0) (N := 18) (ci := 0) (v := .ref qa) X hE hP 0 rfl rfl iX0 0 (by decide) w_394 rfl dX0_readSum_95 ?_
              refine k_getN (C := RX7) (T := TX7) (N := 9) (ci := 7) (v := .int msq) X hE hP 1 rfl rfl iX7 8 (by decide) nw_20 rfl dX0_readSum_98 ?_
              refine kVi (n3 := 2) (As := [.int 1, .int msq]) (rest := []) X hl.1 hE hP hD hS hA [(h0, .inr (0, [.ref qa, .ref qmi, .ref qmt, .ref qms, .int ua, .int ub, .int uc, .int ud, .int ue, .int uf, .int (nI ug), .int uh, .int ui, .int uj, .int ukv, .int (nI pl), .int umv, .int un]))] [(qa, .inr (7, [.ref htb, .int (nI ln), .int (nI le), .int (nI axq), .int kdq, .int (nI plq), .int (nI ltq), .int vlq, .int msq])), (qmt, .inr (2, [.ref ha, .ref hb9, .ref hc9, .ref hd9, .int (nI cn)])), (qmi, .inl (cA, 4096, .inl im)), (htb, .inl (cA, 6000, .inl tz)), (ha, .inl (cA, 60, .inl na)), (hb9, .inl (cA, 60, .inl nb)), (hc9, .inl (cA, 60, .inl nc)), (hd9, .inl (cA, 60, .inl nd))] [0] [1, 2, 3, 4, 5, 6, 7, 8] rfl rfl rfl (by decide +kernel) (by decide +kernel) (by decide +kernel) (c_s_fail l D cA cB h0 qa qmi qmt qms ua ub uc ud ue uf (nI ug) uh ui uj ukv (nI pl) umv un 1 msq ) w_396 w_397 w_395 w_398 w_399 0 (ci := 0) (T := TX0) (N := 18) rfl rfl (by decide +kernel) rfl rfl (Nat.le_of_ble_eq_true rfl) ⟨(Nat.le_of_ble_eq_true rfl), (Nat.le_of_ble_eq_true rfl)⟩ ⟨(Nat.le_of_ble_eq_true rfl), (Nat.le_of_ble_eq_true rfl)⟩ dX0_readSum_101 (fun r W1 H locs hw hP hD hS => ?_)
              obtain ⟨ua2_71, ub2_72, rk_73, rfl, hf_74, rfl⟩ := hw
              have hP : va_P D classes [(qa, .inr (7, [.ref htb, .int (nI ln), .int (nI le), .int (nI axq), .int kdq, .int (nI plq), .int (nI ltq), .int vlq, .int msq])), (qmt, .inr (2, [.ref ha, .ref hb9, .ref hc9, .ref hd9, .int (nI cn)])), (qmi, .inl (cA, 4096, .inl im)), (htb, .inl (cA, 6000, .inl tz)), (ha, .inl (cA, 60, .inl na)), (hb9, .inl (cA, 60, .inl nb)), (hc9, .inl (cA, 60, .inl nc)), (hd9, .inl (cA, 60, .inl nd)), (h0, .inr (0, [.ref qa, .ref qmi, .ref qmt, .ref qms, .int ua2_71, .int ub2_72, .int uc, .int ud, .int ue, .int uf, .int (nI ug), .int uh, .int ui, .int uj, .int ukv, .int (nI pl), .int umv, .int un]))] H := hP
              have hD : va_D A [(qa, .inr (7, [.ref htb, .int (nI ln), .int (nI le), .int (nI axq), .int kdq, .int (nI plq), .int (nI ltq), .int vlq, .int msq])), (qmt, .inr (2, [.ref ha, .ref hb9, .ref hc9, .ref hd9, .int (nI cn)])), (qmi, .inl (cA, 4096, .inl im)), (htb, .inl (cA, 6000, .inl tz)), (ha, .inl (cA, 60, .inl na)), (hb9, .inl (cA, 60, .inl nb)), (hc9, .inl (cA, 60, .inl nc)), (hd9, .inl (cA, 60, .inl nd)), (h0, .inr (0, [.ref qa, .ref qmi, .ref qmt, .ref qms, .int ua2_71, .int ub2_72, .int uc, .int ud, .int ue, .int uf, .int (nI ug), .int uh, .int ui, .int uj, .int ukv, .int (nI pl), .int umv, .int un]))] := hD
              have hP : va_P D classes [(h0, .inr (0, [.ref qa, .ref qmi, .ref qmt, .ref qms, .int ua2_71, .int ub2_72, .int uc, .int ud, .int ue, .int uf, .int (nI ug), .int uh, .int ui, .int uj, .int ukv, .int (nI pl), .int umv, .int un])), (qa, .inr (7, [.ref htb, .int (nI ln), .int (nI le), .int (nI axq), .int kdq, .int (nI plq), .int (nI ltq), .int vlq, .int msq])), (qmt, .inr (2, [.ref ha, .ref hb9, .ref hc9, .ref hd9, .int (nI cn)])), (qmi, .inl (cA, 4096, .inl im)), (htb, .inl (cA, 6000, .inl tz)), (ha, .inl (cA, 60, .inl na)), (hb9, .inl (cA, 60, .inl nb)), (hc9, .inl (cA, 60, .inl nc)), (hd9, .inl (cA, 60, .inl nd))] _ := hP.sub [8, 0, 1, 2, 3, 4, 5, 6, 7] rfl
              have hD : va_D A [(h0, .inr (0, [.ref qa, .ref qmi, .ref qmt, .ref qms, .int ua2_71, .int ub2_72, .int uc, .int ud, .int ue, .int uf, .int (nI ug), .int uh, .int ui, .int uj, .int ukv, .int (nI pl), .int umv, .int un])), (qa, .inr (7, [.ref htb, .int (nI ln), .int (nI le), .int (nI axq), .int kdq, .int (nI plq), .int (nI ltq), .int vlq, .int msq])), (qmt, .inr (2, [.ref ha, .ref hb9, .ref hc9, .ref hd9, .int (nI cn)])), (qmi, .inl (cA, 4096, .inl im)), (htb, .inl (cA, 6000, .inl tz)), (ha, .inl (cA, 60, .inl na)), (hb9, .inl (cA, 60, .inl nb)), (hc9, .inl (cA, 60, .inl nc)), (hd9, .inl (cA, 60, .inl nd))] := hD.sub [8, 0, 1, 2, 3, 4, 5, 6, 7] (by decide) rfl
              rw [hQ9]
              exact endZ X hr (nar_b (by omega)) hlocks hP hD hS dX0_readSum_104 ⟨ua2_71, ub2_72, ukv, (nI pl), umv, axq, kdq, plq, ltq, vlq, msq, rk_73, rfl, haxq, hplq, hltq, hf_74, (by first | assumption | omega), (by first | assumption | omega), rfl⟩
          refine lv_iload_n hx hb dX0_readSum_62 rfl (lv_at hl 0 rfl) ?_
          refine lv_bipush (v := 37) hx hb dX0_readSum_63 (by decide) ?_
          refine lv_icmp_eq (tgt := 74) hx hb dX0_readSum_65 (by decide) (fun c_65 => ?_) (fun c_65 => ?_)
          · skip
            refine lv_aload_n hx hb dX0_readSum_74 rfl (lv_at hl 1 rfl) ?_
            refine k_get (C := RX0) (T := TX0) (N := 18) (ci := 0) (v := .ref qa) X hE hP 0 rfl rfl iX0 0 (by decide) w_394 rfl dX0_readSum_75 ?_
            refine kVv (n3 := 0) (As := []) (rest := []) X hl.1 hE hP hD hS hA [(qa, .inr (7, [.ref htb, .int (nI ln), .int (nI le), .int (nI axv), .int kdv, .int (nI plv), .int (nI ltv), .int vlv, .int msv])), (htb, .inl (cA, 6000, .inl tz))] [(h0, .inr (0, [.ref qa, .ref qmi, .ref qmt, .ref qms, .int ua, .int ub, .int uc, .int ud, .int ue, .int uf, .int (nI ug), .int uh, .int ui, .int uj, .int ukv, .int (nI pl), .int umv, .int un])), (qmt, .inr (2, [.ref ha, .ref hb9, .ref hc9, .ref hd9, .int (nI cn)])), (qmi, .inl (cA, 4096, .inl im)), (ha, .inl (cA, 60, .inl na)), (hb9, .inl (cA, 60, .inl nb)), (hc9, .inl (cA, 60, .inl nc)), (hd9, .inl (cA, 60, .inl nd))] [1, 4] [0, 2, 3, 5, 6, 7, 8] rfl rfl rfl (by decide +kernel) (by decide +kernel) (by decide +kernel) (c_s_next l D cA cB qa htb ln le axv kdv plv ltv vlv msv tz hln hle haxv hplv hltv htz (by first | assumption | omega | decide | rfl)) w_515 w_374 w_514 w_516 w_517 0 (ci := 7) (T := TX7) (N := 9) rfl rfl (by decide +kernel) rfl rfl (Nat.le_of_ble_eq_true rfl) ⟨(Nat.le_of_ble_eq_true rfl), (Nat.le_of_ble_eq_true rfl)⟩ ⟨(Nat.le_of_ble_eq_true rfl), (Nat.le_of_ble_eq_true rfl)⟩ dX0_readSum_78 (fun W1 H locs hw hP hD hS => ?_)
            obtain ⟨ax2_75, kd2_76, pl2_77, lt2_78, vl2_79, ms2_80, hf_81, hf_82, hf_83, hf_84, hf_85, rfl⟩ := hw
            have hP : va_P D classes [(h0, .inr (0, [.ref qa, .ref qmi, .ref qmt, .ref qms, .int ua, .int ub, .int uc, .int ud, .int ue, .int uf, .int (nI ug), .int uh, .int ui, .int uj, .int ukv, .int (nI pl), .int umv, .int un])), (qmt, .inr (2, [.ref ha, .ref hb9, .ref hc9, .ref hd9, .int (nI cn)])), (qmi, .inl (cA, 4096, .inl im)), (ha, .inl (cA, 60, .inl na)), (hb9, .inl (cA, 60, .inl nb)), (hc9, .inl (cA, 60, .inl nc)), (hd9, .inl (cA, 60, .inl nd)), (qa, .inr (7, [.ref htb, .int (nI ln), .int (nI le), .int (nI ax2_75), .int kd2_76, .int (nI pl2_77), .int (nI lt2_78), .int vl2_79, .int ms2_80])), (htb, .inl (cA, 6000, .inl tz))] H := hP
            have hD : va_D A [(h0, .inr (0, [.ref qa, .ref qmi, .ref qmt, .ref qms, .int ua, .int ub, .int uc, .int ud, .int ue, .int uf, .int (nI ug), .int uh, .int ui, .int uj, .int ukv, .int (nI pl), .int umv, .int un])), (qmt, .inr (2, [.ref ha, .ref hb9, .ref hc9, .ref hd9, .int (nI cn)])), (qmi, .inl (cA, 4096, .inl im)), (ha, .inl (cA, 60, .inl na)), (hb9, .inl (cA, 60, .inl nb)), (hc9, .inl (cA, 60, .inl nc)), (hd9, .inl (cA, 60, .inl nd)), (qa, .inr (7, [.ref htb, .int (nI ln), .int (nI le), .int (nI ax2_75), .int kd2_76, .int (nI pl2_77), .int (nI lt2_78), .int vl2_79, .int ms2_80])), (htb, .inl (cA, 6000, .inl tz))] := hD
            exact join_81 ax2_75 kd2_76 pl2_77 lt2_78 vl2_79 ms2_80 _ _ hf_81 hf_82 hf_83 (by first | assumption | omega) (by first | assumption | omega) (hP.sub [0, 7, 1, 2, 8, 3, 4, 5, 6] rfl) (hD.sub [0, 7, 1, 2, 8, 3, 4, 5, 6] (by decide) rfl) hS ls (lv_sub hl [1, 2, 3, 0] rfl)
          · skip
            refine lv_iload_n hx hb dX0_readSum_68 rfl (lv_at hl 0 rfl) ?_
            refine lv_bipush (v := 38) hx hb dX0_readSum_69 (by decide) ?_
            refine lv_icmp_ne (tgt := 81) hx hb dX0_readSum_71 (by decide) (fun c_71 => ?_) (fun c_71 => ?_)
            · skip
              exact join_81 axv kdv plv ltv vlv msv _ _ haxv hplv hltv (by first | assumption | omega) (by first | assumption | omega) hP hD hS ls (lv_sub hl [1, 2, 3, 0] rfl)
            · skip
              refine lv_aload_n hx hb dX0_readSum_74 rfl (lv_at hl 1 rfl) ?_
              refine k_get (C := RX0) (T := TX0) (N := 18) (ci := 0) (v := .ref qa) X hE hP 0 rfl rfl iX0 0 (by decide) w_394 rfl dX0_readSum_75 ?_
              refine kVv (n3 := 0) (As := []) (rest := []) X hl.1 hE hP hD hS hA [(qa, .inr (7, [.ref htb, .int (nI ln), .int (nI le), .int (nI axv), .int kdv, .int (nI plv), .int (nI ltv), .int vlv, .int msv])), (htb, .inl (cA, 6000, .inl tz))] [(h0, .inr (0, [.ref qa, .ref qmi, .ref qmt, .ref qms, .int ua, .int ub, .int uc, .int ud, .int ue, .int uf, .int (nI ug), .int uh, .int ui, .int uj, .int ukv, .int (nI pl), .int umv, .int un])), (qmt, .inr (2, [.ref ha, .ref hb9, .ref hc9, .ref hd9, .int (nI cn)])), (qmi, .inl (cA, 4096, .inl im)), (ha, .inl (cA, 60, .inl na)), (hb9, .inl (cA, 60, .inl nb)), (hc9, .inl (cA, 60, .inl nc)), (hd9, .inl (cA, 60, .inl nd))] [1, 4] [0, 2, 3, 5, 6, 7, 8] rfl rfl rfl (by decide +kernel) (by decide +kernel) (by decide +kernel) (c_s_next l D cA cB qa htb ln le axv kdv plv ltv vlv msv tz hln hle haxv hplv hltv htz (by first | assumption | omega | decide | rfl)) w_515 w_374 w_514 w_516 w_517 0 (ci := 7) (T := TX7) (N := 9) rfl rfl (by decide +kernel) rfl rfl (Nat.le_of_ble_eq_true rfl) ⟨(Nat.le_of_ble_eq_true rfl), (Nat.le_of_ble_eq_true rfl)⟩ ⟨(Nat.le_of_ble_eq_true rfl), (Nat.le_of_ble_eq_true rfl)⟩ dX0_readSum_78 (fun W1 H locs hw hP hD hS => ?_)
              obtain ⟨ax2_86, kd2_87, pl2_88, lt2_89, vl2_90, ms2_91, hf_92, hf_93, hf_94, hf_95, hf_96, rfl⟩ := hw
              have hP : va_P D classes [(h0, .inr (0, [.ref qa, .ref qmi, .ref qmt, .ref qms, .int ua, .int ub, .int uc, .int ud, .int ue, .int uf, .int (nI ug), .int uh, .int ui, .int uj, .int ukv, .int (nI pl), .int umv, .int un])), (qmt, .inr (2, [.ref ha, .ref hb9, .ref hc9, .ref hd9, .int (nI cn)])), (qmi, .inl (cA, 4096, .inl im)), (ha, .inl (cA, 60, .inl na)), (hb9, .inl (cA, 60, .inl nb)), (hc9, .inl (cA, 60, .inl nc)), (hd9, .inl (cA, 60, .inl nd)), (qa, .inr (7, [.ref htb, .int (nI ln), .int (nI le), .int (nI ax2_86), .int kd2_87, .int (nI pl2_88), .int (nI lt2_89), .int vl2_90, .int ms2_91])), (htb, .inl (cA, 6000, .inl tz))] H := hP
              have hD : va_D A [(h0, .inr (0, [.ref qa, .ref qmi, .ref qmt, .ref qms, .int ua, .int ub, .int uc, .int ud, .int ue, .int uf, .int (nI ug), .int uh, .int ui, .int uj, .int ukv, .int (nI pl), .int umv, .int un])), (qmt, .inr (2, [.ref ha, .ref hb9, .ref hc9, .ref hd9, .int (nI cn)])), (qmi, .inl (cA, 4096, .inl im)), (ha, .inl (cA, 60, .inl na)), (hb9, .inl (cA, 60, .inl nb)), (hc9, .inl (cA, 60, .inl nc)), (hd9, .inl (cA, 60, .inl nd)), (qa, .inr (7, [.ref htb, .int (nI ln), .int (nI le), .int (nI ax2_86), .int kd2_87, .int (nI pl2_88), .int (nI lt2_89), .int vl2_90, .int ms2_91])), (htb, .inl (cA, 6000, .inl tz))] := hD
              exact join_81 ax2_86 kd2_87 pl2_88 lt2_89 vl2_90 ms2_91 _ _ hf_92 hf_93 hf_94 (by first | assumption | omega) (by first | assumption | omega) (hP.sub [0, 7, 1, 2, 8, 3, 4, 5, 6] rfl) (hD.sub [0, 7, 1, 2, 8, 3, 4, 5, 6] (by decide) rfl) hS ls (lv_sub hl [1, 2, 3, 0] rfl)
    exact loop_47 6003 0 um axp kdp plp ltp vlp msp m1 0 haxp hplp hltp (by omega) (by omega) (by first | assumption | omega) (by first | assumption | omega) (by omega) _ _ hP hD hS ls (lv_sub hl [1, 2, 0] rfl)
  refine lv_aload_n hx hb dX0_readSum_16 rfl (lv_at hl 0 rfl) ?_
  refine k_get (C := RX0) (T := TX0) (N := 18) (ci := 0) (v := .ref qa) X hE hP 0 rfl rfl iX0 0 (by decide) w_394 rfl dX0_readSum_17 ?_
  refine k_getN (C := RX7) (T := TX7) (N := 9) (ci := 7) (v := .int kd) X hE hP 1 rfl rfl iX7 4 (by decide) nw_16 rfl dX0_readSum_20 ?_
  refine lv_bipush (v := 45) hx hb dX0_readSum_23 (by decide) ?_
  refine lv_icmp_ne (tgt := 32) hx hb dX0_readSum_25 (by decide) (fun c_25 => ?_) (fun c_25 => ?_)
  · skip
    refine lv_iconst (v := 0) hx hb dX0_readSum_32 (by decide) ?_
    refine lv_istore_n (lv' := [(1, .int 0), (0, .ref h0)]) hx hb dX0_readSum_33 rfl hl (by decide) rfl (fun ls hl => ?_)
    refine lv_iload_n hx hb dX0_readSum_34 rfl (lv_at hl 0 rfl) ?_
    refine lv_if_eq (tgt := 45) hx hb dX0_readSum_35 (by decide) (fun c_35 => ?_) (fun c_35 => absurd (by decide) c_35)
    exact join_45 ax kd pl lt vl ms 0 _ _ hax hpl hlt (by omega) (by first | assumption | omega) (by first | assumption | omega) hP hD hS ls (lv_sub hl [1, 0] rfl)
  · skip
    refine lv_iconst (v := 1) hx hb dX0_readSum_28 (by decide) ?_
    refine lv_goto (tgt := 33) hx hb dX0_readSum_29 (by decide) ?_
    refine lv_istore_n (lv' := [(1, .int 1), (0, .ref h0)]) hx hb dX0_readSum_33 rfl hl (by decide) rfl (fun ls hl => ?_)
    refine lv_iload_n hx hb dX0_readSum_34 rfl (lv_at hl 0 rfl) ?_
    refine lv_if_eq (tgt := 45) hx hb dX0_readSum_35 (by decide) (fun c_35 => absurd c_35 (by decide)) (fun c_35 => ?_)
    refine lv_aload_n hx hb dX0_readSum_38 rfl (lv_at hl 1 rfl) ?_
    refine k_get (C := RX0) (T := TX0) (N := 18) (ci := 0) (v := .ref qa) X hE hP 0 rfl rfl iX0 0 (by decide) w_394 rfl dX0_readSum_39 ?_
    refine kVv (n3 := 0) (As := []) (rest := []) X hl.1 hE hP hD hS hA [(qa, .inr (7, [.ref htb, .int (nI ln), .int (nI le), .int (nI ax), .int kd, .int (nI pl), .int (nI lt), .int vl, .int ms])), (htb, .inl (cA, 6000, .inl tz))] [(h0, .inr (0, [.ref qa, .ref qmi, .ref qmt, .ref qms, .int ua, .int ub, .int uc, .int ud, .int ue, .int uf, .int (nI ug), .int uh, .int ui, .int uj, .int 0, .int (nI pl), .int um, .int un])), (qmt, .inr (2, [.ref ha, .ref hb9, .ref hc9, .ref hd9, .int (nI cn)])), (qmi, .inl (cA, 4096, .inl im)), (ha, .inl (cA, 60, .inl na)), (hb9, .inl (cA, 60, .inl nb)), (hc9, .inl (cA, 60, .inl nc)), (hd9, .inl (cA, 60, .inl nd))] [1, 4] [0, 2, 3, 5, 6, 7, 8] rfl rfl rfl (by decide +kernel) (by decide +kernel) (by decide +kernel) (c_s_next l D cA cB qa htb ln le ax kd pl lt vl ms tz hln hle hax hpl hlt htz (by first | assumption | omega | decide | rfl)) w_515 w_374 w_514 w_516 w_517 0 (ci := 7) (T := TX7) (N := 9) rfl rfl (by decide +kernel) rfl rfl (Nat.le_of_ble_eq_true rfl) ⟨(Nat.le_of_ble_eq_true rfl), (Nat.le_of_ble_eq_true rfl)⟩ ⟨(Nat.le_of_ble_eq_true rfl), (Nat.le_of_ble_eq_true rfl)⟩ dX0_readSum_42 (fun W1 H locs hw hP hD hS => ?_)
    obtain ⟨ax2_97, kd2_98, pl2_99, lt2_100, vl2_101, ms2_102, hf_103, hf_104, hf_105, hf_106, hf_107, rfl⟩ := hw
    have hP : va_P D classes [(h0, .inr (0, [.ref qa, .ref qmi, .ref qmt, .ref qms, .int ua, .int ub, .int uc, .int ud, .int ue, .int uf, .int (nI ug), .int uh, .int ui, .int uj, .int 0, .int (nI pl), .int um, .int un])), (qmt, .inr (2, [.ref ha, .ref hb9, .ref hc9, .ref hd9, .int (nI cn)])), (qmi, .inl (cA, 4096, .inl im)), (ha, .inl (cA, 60, .inl na)), (hb9, .inl (cA, 60, .inl nb)), (hc9, .inl (cA, 60, .inl nc)), (hd9, .inl (cA, 60, .inl nd)), (qa, .inr (7, [.ref htb, .int (nI ln), .int (nI le), .int (nI ax2_97), .int kd2_98, .int (nI pl2_99), .int (nI lt2_100), .int vl2_101, .int ms2_102])), (htb, .inl (cA, 6000, .inl tz))] H := hP
    have hD : va_D A [(h0, .inr (0, [.ref qa, .ref qmi, .ref qmt, .ref qms, .int ua, .int ub, .int uc, .int ud, .int ue, .int uf, .int (nI ug), .int uh, .int ui, .int uj, .int 0, .int (nI pl), .int um, .int un])), (qmt, .inr (2, [.ref ha, .ref hb9, .ref hc9, .ref hd9, .int (nI cn)])), (qmi, .inl (cA, 4096, .inl im)), (ha, .inl (cA, 60, .inl na)), (hb9, .inl (cA, 60, .inl nb)), (hc9, .inl (cA, 60, .inl nc)), (hd9, .inl (cA, 60, .inl nd)), (qa, .inr (7, [.ref htb, .int (nI ln), .int (nI le), .int (nI ax2_97), .int kd2_98, .int (nI pl2_99), .int (nI lt2_100), .int vl2_101, .int ms2_102])), (htb, .inl (cA, 6000, .inl tz))] := hD
    exact join_45 ax2_97 kd2_98 pl2_99 lt2_100 vl2_101 ms2_102 1 _ _ hf_103 hf_104 hf_105 (by omega) (by first | assumption | omega) (by first | assumption | omega) (hP.sub [0, 7, 1, 2, 8, 3, 4, 5, 6] rfl) (hD.sub [0, 7, 1, 2, 8, 3, 4, 5, 6] (by decide) rfl) hS ls (lv_sub hl [1, 0] rfl)
set_option maxHeartbeats 4000000 in
set_option maxRecDepth 100000 in
theorem c_s_abeginLine (l : Launch) (D : va_G) (cA cB : ClassId) (h0 : Nat) (qa : Nat) (qmi : Nat) (qmt : Nat) (qms : Nat) (htb : Nat) (ua : Int32) (ub : Int32) (uc : Int32) (ud : Int32) (ue : Int32) (uf : Int32) (ug : Nat) (uh : Int32) (ui : Int32) (uj : Int32) (uk : Int32) (ul : Int32) (um : Int32) (un : Int32) (ln : Nat) (le : Nat) (ax : Nat) (kd : Int32) (pl : Nat) (lt : Nat) (vl : Int32) (ms : Int32) (tz : Nat → Int32) (sa : Nat) (hug : ug < 2) (hln : ln < 6001) (hle : le < 6001) (hax : ax < 6001) (hpl : pl < 6010) (hlt : lt < 6010) (htz : ∀ j, j < 6000 → ∃ k : Nat, k < 256 ∧ tz j = nI k) (hsa : sa < 6001) (hsl : sa ≤ ln) : CV l yX0_beginLine cX0_beginLine 2 none 6 131 0 0 D cA cB [.ref h0, .int (nI sa)] [(h0, .inr (0, [.ref qa, .ref qmi, .ref qmt, .ref qms, .int ua, .int ub, .int uc, .int ud, .int ue, .int uf, .int (nI ug), .int uh, .int ui, .int uj, .int uk, .int ul, .int um, .int un])), (qa, .inr (7, [.ref htb, .int (nI ln), .int (nI le), .int (nI ax), .int kd, .int (nI pl), .int (nI lt), .int vl, .int ms])), (htb, .inl (cA, 6000, .inl tz))] (fun W1 => ∃ (ue2 : Int32) (ug2 : Nat) (uh2 : Int32) (uj2 : Int32) (um2 : Int32) (un2 : Int32) (le2 : Nat) (ax2 : Nat) (kd2 : Int32) (pl2 : Nat) (lt2 : Nat) (vl2 : Int32) (ms2 : Int32), (ug2 < 2) ∧ (le2 < 6001) ∧ (ax2 < 6001) ∧ (pl2 < 6010) ∧ (lt2 < 6010) ∧ (ax2 ≤ le2) ∧ (kd2 = 257 → pl2 + lt2 ≤ 6000) ∧ (le2 ≤ ln) ∧ (okP ue2 uf) ∧ W1 = [(h0, .inr (0, [.ref qa, .ref qmi, .ref qmt, .ref qms, .int ua, .int ub, .int uc, .int ud, .int ue2, .int uf, .int (nI ug2), .int uh2, .int ui, .int uj2, .int uk, .int ul, .int um2, .int un2])), (qa, .inr (7, [.ref htb, .int (nI ln), .int (nI le2), .int (nI ax2), .int kd2, .int (nI pl2), .int (nI lt2), .int vl2, .int ms2])), (htb, .inl (cA, 6000, .inl tz))]) := by
  refine mkV (lv0 := [(0, .ref h0), (1, .int (nI sa))]) (by decide) (Nat.le_of_ble_eq_true rfl) rfl ?_
  intro p e s m below meth c A ls X hr hlocks hnm hE hA hP hD hS hl
  have hx := X.1
  have hb := X.2.1
  refine qW (fun Q9 hQ9 => ?_)
  refine lv_aload_n hx hb dX0_beginLine_0 rfl (lv_at hl 0 rfl) ?_
  refine lv_iconst (v := (-1)) hx hb dX0_beginLine_1 (by decide) ?_
  refine k_put (C := RX0) (T := TX0) (N := 18) (ci := 0) (v := .int (-1)) (ty := .int) X hE hP hD hS 0 rfl rfl iX0 tyX0 tyX0_ok nmX0 8 (by decide) w_518 rfl (by decide +kernel) rfl rfl (Nat.le_of_ble_eq_true rfl) [(h0, .inr (0, [.ref qa, .ref qmi, .ref qmt, .ref qms, .int ua, .int ub, .int uc, .int ud, .int (-1), .int uf, .int (nI ug), .int uh, .int ui, .int uj, .int uk, .int ul, .int um, .int un])), (qa, .inr (7, [.ref htb, .int (nI ln), .int (nI le), .int (nI ax), .int kd, .int (nI pl), .int (nI lt), .int vl, .int ms])), (htb, .inl (cA, 6000, .inl tz))] rfl dX0_beginLine_2 (fun H locs hP hD hS => ?_)
  refine lv_aload_n hx hb dX0_beginLine_5 rfl (lv_at hl 0 rfl) ?_
  refine lv_iconst (v := 0) hx hb dX0_beginLine_6 (by decide) ?_
  refine k_put (C := RX0) (T := TX0) (N := 18) (ci := 0) (v := .int 0) (ty := .boolean) X hE hP hD hS 0 rfl rfl iX0 tyX0 tyX0_ok nmX0 10 (by decide) w_519 rfl (by decide +kernel) rfl rfl (Nat.le_of_ble_eq_true rfl) [(h0, .inr (0, [.ref qa, .ref qmi, .ref qmt, .ref qms, .int ua, .int ub, .int uc, .int ud, .int (-1), .int uf, .int 0, .int uh, .int ui, .int uj, .int uk, .int ul, .int um, .int un])), (qa, .inr (7, [.ref htb, .int (nI ln), .int (nI le), .int (nI ax), .int kd, .int (nI pl), .int (nI lt), .int vl, .int ms])), (htb, .inl (cA, 6000, .inl tz))] rfl dX0_beginLine_7 (fun H locs hP hD hS => ?_)
  refine lv_aload_n hx hb dX0_beginLine_10 rfl (lv_at hl 0 rfl) ?_
  refine lv_iconst (v := (-1)) hx hb dX0_beginLine_11 (by decide) ?_
  refine k_put (C := RX0) (T := TX0) (N := 18) (ci := 0) (v := .int (-1)) (ty := .int) X hE hP hD hS 0 rfl rfl iX0 tyX0 tyX0_ok nmX0 11 (by decide) w_389 rfl (by decide +kernel) rfl rfl (Nat.le_of_ble_eq_true rfl) [(h0, .inr (0, [.ref qa, .ref qmi, .ref qmt, .ref qms, .int ua, .int ub, .int uc, .int ud, .int (-1), .int uf, .int 0, .int (-1), .int ui, .int uj, .int uk, .int ul, .int um, .int un])), (qa, .inr (7, [.ref htb, .int (nI ln), .int (nI le), .int (nI ax), .int kd, .int (nI pl), .int (nI lt), .int vl, .int ms])), (htb, .inl (cA, 6000, .inl tz))] rfl dX0_beginLine_12 (fun H locs hP hD hS => ?_)
  refine lv_aload_n hx hb dX0_beginLine_15 rfl (lv_at hl 0 rfl) ?_
  refine lv_iconst (v := 0) hx hb dX0_beginLine_16 (by decide) ?_
  refine k_put (C := RX0) (T := TX0) (N := 18) (ci := 0) (v := .int 0) (ty := .int) X hE hP hD hS 0 rfl rfl iX0 tyX0 tyX0_ok nmX0 13 (by decide) w_390 rfl (by decide +kernel) rfl rfl (Nat.le_of_ble_eq_true rfl) [(h0, .inr (0, [.ref qa, .ref qmi, .ref qmt, .ref qms, .int ua, .int ub, .int uc, .int ud, .int (-1), .int uf, .int 0, .int (-1), .int ui, .int 0, .int uk, .int ul, .int um, .int un])), (qa, .inr (7, [.ref htb, .int (nI ln), .int (nI le), .int (nI ax), .int kd, .int (nI pl), .int (nI lt), .int vl, .int ms])), (htb, .inl (cA, 6000, .inl tz))] rfl dX0_beginLine_17 (fun H locs hP hD hS => ?_)
  refine lv_aload_n hx hb dX0_beginLine_20 rfl (lv_at hl 0 rfl) ?_
  refine lv_iconst (v := (-1)) hx hb dX0_beginLine_21 (by decide) ?_
  refine k_put (C := RX0) (T := TX0) (N := 18) (ci := 0) (v := .int (-1)) (ty := .int) X hE hP hD hS 0 rfl rfl iX0 tyX0 tyX0_ok nmX0 16 (by decide) w_502 rfl (by decide +kernel) rfl rfl (Nat.le_of_ble_eq_true rfl) [(h0, .inr (0, [.ref qa, .ref qmi, .ref qmt, .ref qms, .int ua, .int ub, .int uc, .int ud, .int (-1), .int uf, .int 0, .int (-1), .int ui, .int 0, .int uk, .int ul, .int (-1), .int un])), (qa, .inr (7, [.ref htb, .int (nI ln), .int (nI le), .int (nI ax), .int kd, .int (nI pl), .int (nI lt), .int vl, .int ms])), (htb, .inl (cA, 6000, .inl tz))] rfl dX0_beginLine_22 (fun H locs hP hD hS => ?_)
  refine lv_aload_n hx hb dX0_beginLine_25 rfl (lv_at hl 0 rfl) ?_
  refine lv_iconst (v := (-1)) hx hb dX0_beginLine_26 (by decide) ?_
  refine k_put (C := RX0) (T := TX0) (N := 18) (ci := 0) (v := .int (-1)) (ty := .int) X hE hP hD hS 0 rfl rfl iX0 tyX0 tyX0_ok nmX0 17 (by decide) w_386 rfl (by decide +kernel) rfl rfl (Nat.le_of_ble_eq_true rfl) [(h0, .inr (0, [.ref qa, .ref qmi, .ref qmt, .ref qms, .int ua, .int ub, .int uc, .int ud, .int (-1), .int uf, .int 0, .int (-1), .int ui, .int 0, .int uk, .int ul, .int (-1), .int (-1)])), (qa, .inr (7, [.ref htb, .int (nI ln), .int (nI le), .int (nI ax), .int kd, .int (nI pl), .int (nI lt), .int vl, .int ms])), (htb, .inl (cA, 6000, .inl tz))] rfl dX0_beginLine_27 (fun H locs hP hD hS => ?_)
  refine lv_aload_n hx hb dX0_beginLine_30 rfl (lv_at hl 0 rfl) ?_
  refine k_get (C := RX0) (T := TX0) (N := 18) (ci := 0) (v := .ref qa) X hE hP 0 rfl rfl iX0 0 (by decide) w_394 rfl dX0_beginLine_31 ?_
  refine lv_iload_n hx hb dX0_beginLine_34 rfl (lv_at hl 1 rfl) ?_
  refine kVv (n3 := 1) (As := [.int (nI sa)]) (rest := []) X hl.1 hE hP hD hS hA [(qa, .inr (7, [.ref htb, .int (nI ln), .int (nI le), .int (nI ax), .int kd, .int (nI pl), .int (nI lt), .int vl, .int ms])), (htb, .inl (cA, 6000, .inl tz))] [(h0, .inr (0, [.ref qa, .ref qmi, .ref qmt, .ref qms, .int ua, .int ub, .int uc, .int ud, .int (-1), .int uf, .int 0, .int (-1), .int ui, .int 0, .int uk, .int ul, .int (-1), .int (-1)]))] [1, 2] [0] rfl rfl rfl (by decide +kernel) (by decide +kernel) (by decide +kernel) (c_s_tbeginLine l D cA cB qa htb ln (nI le) (nI ax) kd (nI pl) (nI lt) vl ms tz sa hln (by first | assumption | omega | decide | rfl)) w_521 w_374 w_520 w_522 w_523 0 (ci := 7) (T := TX7) (N := 9) rfl rfl (by decide +kernel) rfl rfl (Nat.le_of_ble_eq_true rfl) ⟨(Nat.le_of_ble_eq_true rfl), (Nat.le_of_ble_eq_true rfl)⟩ ⟨(Nat.le_of_ble_eq_true rfl), (Nat.le_of_ble_eq_true rfl)⟩ dX0_beginLine_35 (fun W1 H locs hw hP hD hS => ?_)
  obtain ⟨le2_1, hf_2, hf_3, rfl⟩ := hw
  have hP : va_P D classes [(h0, .inr (0, [.ref qa, .ref qmi, .ref qmt, .ref qms, .int ua, .int ub, .int uc, .int ud, .int (-1), .int uf, .int 0, .int (-1), .int ui, .int 0, .int uk, .int ul, .int (-1), .int (-1)])), (qa, .inr (7, [.ref htb, .int (nI ln), .int (nI le2_1), .int (nI sa), .int kd, .int (nI pl), .int (nI lt), .int vl, .int ms])), (htb, .inl (cA, 6000, .inl tz))] H := hP
  have hD : va_D A [(h0, .inr (0, [.ref qa, .ref qmi, .ref qmt, .ref qms, .int ua, .int ub, .int uc, .int ud, .int (-1), .int uf, .int 0, .int (-1), .int ui, .int 0, .int uk, .int ul, .int (-1), .int (-1)])), (qa, .inr (7, [.ref htb, .int (nI ln), .int (nI le2_1), .int (nI sa), .int kd, .int (nI pl), .int (nI lt), .int vl, .int ms])), (htb, .inl (cA, 6000, .inl tz))] := hD
  refine lv_aload_n hx hb dX0_beginLine_38 rfl (lv_at hl 0 rfl) ?_
  refine k_get (C := RX0) (T := TX0) (N := 18) (ci := 0) (v := .ref qa) X hE hP 0 rfl rfl iX0 0 (by decide) w_394 rfl dX0_beginLine_39 ?_
  refine kVv (n3 := 0) (As := []) (rest := []) X hl.1 hE hP hD hS hA [(qa, .inr (7, [.ref htb, .int (nI ln), .int (nI le2_1), .int (nI sa), .int kd, .int (nI pl), .int (nI lt), .int vl, .int ms])), (htb, .inl (cA, 6000, .inl tz))] [(h0, .inr (0, [.ref qa, .ref qmi, .ref qmt, .ref qms, .int ua, .int ub, .int uc, .int ud, .int (-1), .int uf, .int 0, .int (-1), .int ui, .int 0, .int uk, .int ul, .int (-1), .int (-1)]))] [1, 2] [0] rfl rfl rfl (by decide +kernel) (by decide +kernel) (by decide +kernel) (c_s_next l D cA cB qa htb ln le2_1 sa kd pl lt vl ms tz hln (by first | assumption | omega | decide | rfl) (by first | assumption | omega | decide | rfl) hpl hlt htz (by first | assumption | omega | decide | rfl)) w_515 w_374 w_514 w_516 w_517 0 (ci := 7) (T := TX7) (N := 9) rfl rfl (by decide +kernel) rfl rfl (Nat.le_of_ble_eq_true rfl) ⟨(Nat.le_of_ble_eq_true rfl), (Nat.le_of_ble_eq_true rfl)⟩ ⟨(Nat.le_of_ble_eq_true rfl), (Nat.le_of_ble_eq_true rfl)⟩ dX0_beginLine_42 (fun W1 H locs hw hP hD hS => ?_)
  obtain ⟨ax2_4, kd2_5, pl2_6, lt2_7, vl2_8, ms2_9, hf_10, hf_11, hf_12, hf_13, hf_14, rfl⟩ := hw
  have hP : va_P D classes [(h0, .inr (0, [.ref qa, .ref qmi, .ref qmt, .ref qms, .int ua, .int ub, .int uc, .int ud, .int (-1), .int uf, .int 0, .int (-1), .int ui, .int 0, .int uk, .int ul, .int (-1), .int (-1)])), (qa, .inr (7, [.ref htb, .int (nI ln), .int (nI le2_1), .int (nI ax2_4), .int kd2_5, .int (nI pl2_6), .int (nI lt2_7), .int vl2_8, .int ms2_9])), (htb, .inl (cA, 6000, .inl tz))] H := hP
  have hD : va_D A [(h0, .inr (0, [.ref qa, .ref qmi, .ref qmt, .ref qms, .int ua, .int ub, .int uc, .int ud, .int (-1), .int uf, .int 0, .int (-1), .int ui, .int 0, .int uk, .int ul, .int (-1), .int (-1)])), (qa, .inr (7, [.ref htb, .int (nI ln), .int (nI le2_1), .int (nI ax2_4), .int kd2_5, .int (nI pl2_6), .int (nI lt2_7), .int vl2_8, .int ms2_9])), (htb, .inl (cA, 6000, .inl tz))] := hD
  rw [hQ9]
  exact endV X hr hlocks hP hD hS dX0_beginLine_45 ⟨(-1), 0, (-1), 0, (-1), (-1), le2_1, ax2_4, kd2_5, pl2_6, lt2_7, vl2_8, ms2_9, (by decide), (by omega), hf_10, hf_11, hf_12, (by first | assumption | omega), (by first | assumption | omega), (by first | assumption | omega), (Or.inl rfl), rfl⟩
set_option maxHeartbeats 4000000 in
set_option maxRecDepth 100000 in
theorem c_s_areadName (l : Launch) (D : va_G) (cA cB : ClassId) (h0 : Nat) (qa : Nat) (qmi : Nat) (qmt : Nat) (qms : Nat) (htb : Nat) (ua : Int32) (ub : Int32) (uc : Int32) (ud : Int32) (ue : Int32) (uf : Int32) (ug : Nat) (uh : Int32) (ui : Int32) (uj : Int32) (uk : Int32) (ul : Int32) (um : Int32) (un : Int32) (ln : Nat) (le : Nat) (ax : Nat) (kd : Int32) (pl : Nat) (lt : Nat) (vl : Int32) (ms : Int32) (tz : Nat → Int32) (hug : ug < 2) (hln : ln < 6001) (hle : le < 6001) (hax : ax < 6001) (hpl : pl < 6010) (hlt : lt < 6010) (htz : ∀ j, j < 6000 → ∃ k : Nat, k < 256 ∧ tz j = nI k) (hal : ax ≤ le) (hkd : kd = 257 → pl + lt ≤ 6000) (hnp : okP ue uf) : CI l yX0_readName cX0_readName 1 (some .boolean) 6 131 0 0 D cA cB [.ref h0] [(h0, .inr (0, [.ref qa, .ref qmi, .ref qmt, .ref qms, .int ua, .int ub, .int uc, .int ud, .int ue, .int uf, .int (nI ug), .int uh, .int ui, .int uj, .int uk, .int ul, .int um, .int un])), (qa, .inr (7, [.ref htb, .int (nI ln), .int (nI le), .int (nI ax), .int kd, .int (nI pl), .int (nI lt), .int vl, .int ms])), (htb, .inl (cA, 6000, .inl tz))] (fun r W1 => ∃ (ua2 : Int32) (ub2 : Int32) (ue2 : Int32) (uf2 : Int32) (ug2 : Nat) (ax2 : Nat) (kd2 : Int32) (pl2 : Nat) (lt2 : Nat) (vl2 : Int32) (ms2 : Int32) (rk : Nat), r = nI rk ∧ (ug2 < 2) ∧ (ax2 < 6001) ∧ (pl2 < 6010) ∧ (lt2 < 6010) ∧ (rk < 2) ∧ (ax2 ≤ le) ∧ (kd2 = 257 → pl2 + lt2 ≤ 6000) ∧ (okP ue2 uf2) ∧ W1 = [(h0, .inr (0, [.ref qa, .ref qmi, .ref qmt, .ref qms, .int ua2, .int ub2, .int uc, .int ud, .int ue2, .int uf2, .int (nI ug2), .int uh, .int ui, .int uj, .int uk, .int ul, .int um, .int un])), (qa, .inr (7, [.ref htb, .int (nI ln), .int (nI le), .int (nI ax2), .int kd2, .int (nI pl2), .int (nI lt2), .int vl2, .int ms2])), (htb, .inl (cA, 6000, .inl tz))]) := by
  refine mkI (lv0 := [(0, .ref h0)]) (by decide) (Nat.le_of_ble_eq_true rfl) rfl ?_
  intro p e s m below meth c A ls X hr hlocks hnm hE hA hP hD hS hl
  have hx := X.1
  have hb := X.2.1
  refine qW (fun Q9 hQ9 => ?_)
  refine lv_aload_n hx hb dX0_readName_0 rfl (lv_at hl 0 rfl) ?_
  refine k_get (C := RX0) (T := TX0) (N := 18) (ci := 0) (v := .ref qa) X hE hP 0 rfl rfl iX0 0 (by decide) w_394 rfl dX0_readName_1 ?_
  refine k_getN (C := RX7) (T := TX7) (N := 9) (ci := 7) (v := .int kd) X hE hP 1 rfl rfl iX7 4 (by decide) nw_16 rfl dX0_readName_4 ?_
  refine lv_sipush (v := 257) hx hb dX0_readName_7 (by decide) ?_
  refine lv_icmp_eq (tgt := 15) hx hb dX0_readName_10 (by decide) (fun c_10 => ?_) (fun c_10 => ?_)
  · skip
    refine lv_aload_n hx hb dX0_readName_15 rfl (lv_at hl 0 rfl) ?_
    refine lv_aload_n hx hb dX0_readName_16 rfl (lv_at hl 0 rfl) ?_
    refine k_get (C := RX0) (T := TX0) (N := 18) (ci := 0) (v := .ref qa) X hE hP 0 rfl rfl iX0 0 (by decide) w_394 rfl dX0_readName_17 ?_
    refine k_getN (C := RX7) (T := TX7) (N := 9) (ci := 7) (v := .int (nI pl)) X hE hP 1 rfl rfl iX7 5 (by decide) nw_17 rfl dX0_readName_20 ?_
    refine k_put (C := RX0) (T := TX0) (N := 18) (ci := 0) (v := .int (nI pl)) (ty := .int) X hE hP hD hS 0 rfl rfl iX0 tyX0 tyX0_ok nmX0 8 (by decide) w_518 rfl (by decide +kernel) rfl rfl (Nat.le_of_ble_eq_true rfl) [(h0, .inr (0, [.ref qa, .ref qmi, .ref qmt, .ref qms, .int ua, .int ub, .int uc, .int ud, .int (nI pl), .int uf, .int (nI ug), .int uh, .int ui, .int uj, .int uk, .int ul, .int um, .int un])), (qa, .inr (7, [.ref htb, .int (nI ln), .int (nI le), .int (nI ax), .int kd, .int (nI pl), .int (nI lt), .int vl, .int ms])), (htb, .inl (cA, 6000, .inl tz))] rfl dX0_readName_23 (fun H locs hP hD hS => ?_)
    refine lv_aload_n hx hb dX0_readName_26 rfl (lv_at hl 0 rfl) ?_
    refine lv_aload_n hx hb dX0_readName_27 rfl (lv_at hl 0 rfl) ?_
    refine k_get (C := RX0) (T := TX0) (N := 18) (ci := 0) (v := .ref qa) X hE hP 0 rfl rfl iX0 0 (by decide) w_394 rfl dX0_readName_28 ?_
    refine k_getN (C := RX7) (T := TX7) (N := 9) (ci := 7) (v := .int (nI lt)) X hE hP 1 rfl rfl iX7 6 (by decide) nw_18 rfl dX0_readName_31 ?_
    refine k_put (C := RX0) (T := TX0) (N := 18) (ci := 0) (v := .int (nI lt)) (ty := .int) X hE hP hD hS 0 rfl rfl iX0 tyX0 tyX0_ok nmX0 9 (by decide) w_524 rfl (by decide +kernel) rfl rfl (Nat.le_of_ble_eq_true rfl) [(h0, .inr (0, [.ref qa, .ref qmi, .ref qmt, .ref qms, .int ua, .int ub, .int uc, .int ud, .int (nI pl), .int (nI lt), .int (nI ug), .int uh, .int ui, .int uj, .int uk, .int ul, .int um, .int un])), (qa, .inr (7, [.ref htb, .int (nI ln), .int (nI le), .int (nI ax), .int kd, .int (nI pl), .int (nI lt), .int vl, .int ms])), (htb, .inl (cA, 6000, .inl tz))] rfl dX0_readName_34 (fun H locs hP hD hS => ?_)
    refine lv_aload_n hx hb dX0_readName_37 rfl (lv_at hl 0 rfl) ?_
    refine k_get (C := RX0) (T := TX0) (N := 18) (ci := 0) (v := .ref qa) X hE hP 0 rfl rfl iX0 0 (by decide) w_394 rfl dX0_readName_38 ?_
    refine kVv (n3 := 0) (As := []) (rest := []) X hl.1 hE hP hD hS hA [(qa, .inr (7, [.ref htb, .int (nI ln), .int (nI le), .int (nI ax), .int kd, .int (nI pl), .int (nI lt), .int vl, .int ms])), (htb, .inl (cA, 6000, .inl tz))] [(h0, .inr (0, [.ref qa, .ref qmi, .ref qmt, .ref qms, .int ua, .int ub, .int uc, .int ud, .int (nI pl), .int (nI lt), .int (nI ug), .int uh, .int ui, .int uj, .int uk, .int ul, .int um, .int un]))] [1, 2] [0] rfl rfl rfl (by decide +kernel) (by decide +kernel) (by decide +kernel) (c_s_next l D cA cB qa htb ln le ax kd pl lt vl ms tz hln hle hax hpl hlt htz (by first | assumption | omega | decide | rfl)) w_515 w_374 w_514 w_516 w_517 0 (ci := 7) (T := TX7) (N := 9) rfl rfl (by decide +kernel) rfl rfl (Nat.le_of_ble_eq_true rfl) ⟨(Nat.le_of_ble_eq_true rfl), (Nat.le_of_ble_eq_true rfl)⟩ ⟨(Nat.le_of_ble_eq_true rfl), (Nat.le_of_ble_eq_true rfl)⟩ dX0_readName_41 (fun W1 H locs hw hP hD hS => ?_)
    obtain ⟨ax2_1, kd2_2, pl2_3, lt2_4, vl2_5, ms2_6, hf_7, hf_8, hf_9, hf_10, hf_11, rfl⟩ := hw
    have hP : va_P D classes [(h0, .inr (0, [.ref qa, .ref qmi, .ref qmt, .ref qms, .int ua, .int ub, .int uc, .int ud, .int (nI pl), .int (nI lt), .int (nI ug), .int uh, .int ui, .int uj, .int uk, .int ul, .int um, .int un])), (qa, .inr (7, [.ref htb, .int (nI ln), .int (nI le), .int (nI ax2_1), .int kd2_2, .int (nI pl2_3), .int (nI lt2_4), .int vl2_5, .int ms2_6])), (htb, .inl (cA, 6000, .inl tz))] H := hP
    have hD : va_D A [(h0, .inr (0, [.ref qa, .ref qmi, .ref qmt, .ref qms, .int ua, .int ub, .int uc, .int ud, .int (nI pl), .int (nI lt), .int (nI ug), .int uh, .int ui, .int uj, .int uk, .int ul, .int um, .int un])), (qa, .inr (7, [.ref htb, .int (nI ln), .int (nI le), .int (nI ax2_1), .int kd2_2, .int (nI pl2_3), .int (nI lt2_4), .int vl2_5, .int ms2_6])), (htb, .inl (cA, 6000, .inl tz))] := hD
    refine lv_aload_n hx hb dX0_readName_44 rfl (lv_at hl 0 rfl) ?_
    refine lv_aload_n hx hb dX0_readName_45 rfl (lv_at hl 0 rfl) ?_
    refine k_get (C := RX0) (T := TX0) (N := 18) (ci := 0) (v := .ref qa) X hE hP 0 rfl rfl iX0 0 (by decide) w_394 rfl dX0_readName_46 ?_
    refine k_getN (C := RX7) (T := TX7) (N := 9) (ci := 7) (v := .int kd2_2) X hE hP 1 rfl rfl iX7 4 (by decide) nw_16 rfl dX0_readName_49 ?_
    refine lv_bipush (v := 61) hx hb dX0_readName_52 (by decide) ?_
    refine lv_icmp_ne (tgt := 61) hx hb dX0_readName_54 (by decide) (fun c_54 => ?_) (fun c_54 => ?_)
    · skip
      refine lv_iconst (v := 0) hx hb dX0_readName_61 (by decide) ?_
      refine k_put (C := RX0) (T := TX0) (N := 18) (ci := 0) (v := .int 0) (ty := .boolean) X hE hP hD hS 0 rfl rfl iX0 tyX0 tyX0_ok nmX0 10 (by decide) w_519 rfl (by decide +kernel) rfl rfl (Nat.le_of_ble_eq_true rfl) [(h0, .inr (0, [.ref qa, .ref qmi, .ref qmt, .ref qms, .int ua, .int ub, .int uc, .int ud, .int (nI pl), .int (nI lt), .int 0, .int uh, .int ui, .int uj, .int uk, .int ul, .int um, .int un])), (qa, .inr (7, [.ref htb, .int (nI ln), .int (nI le), .int (nI ax2_1), .int kd2_2, .int (nI pl2_3), .int (nI lt2_4), .int vl2_5, .int ms2_6])), (htb, .inl (cA, 6000, .inl tz))] rfl dX0_readName_62 (fun H locs hP hD hS => ?_)
      refine lv_aload_n hx hb dX0_readName_65 rfl (lv_at hl 0 rfl) ?_
      refine k_get (C := RX0) (T := TX0) (N := 18) (ci := 0) (v := .int 0) X hE hP 0 rfl rfl iX0 10 (by decide) w_519 rfl dX0_readName_66 ?_
      refine lv_if_ne (tgt := 89) hx hb dX0_readName_69 (by decide) (fun c_69 => absurd (by decide) c_69) (fun c_69 => ?_)
      refine lv_aload_n hx hb dX0_readName_72 rfl (lv_at hl 0 rfl) ?_
      refine k_get (C := RX0) (T := TX0) (N := 18) (ci := 0) (v := .ref qa) X hE hP 0 rfl rfl iX0 0 (by decide) w_394 rfl dX0_readName_73 ?_
      refine k_getN (C := RX7) (T := TX7) (N := 9) (ci := 7) (v := .int kd2_2) X hE hP 1 rfl rfl iX7 4 (by decide) nw_16 rfl dX0_readName_76 ?_
      refine lv_bipush (v := 58) hx hb dX0_readName_79 (by decide) ?_
      refine lv_icmp_eq (tgt := 89) hx hb dX0_readName_81 (by decide) (fun c_81 => ?_) (fun c_81 => ?_)
      · skip
        refine lv_aload_n hx hb dX0_readName_89 rfl (lv_at hl 0 rfl) ?_
        refine k_get (C := RX0) (T := TX0) (N := 18) (ci := 0) (v := .ref qa) X hE hP 0 rfl rfl iX0 0 (by decide) w_394 rfl dX0_readName_90 ?_
        refine kVv (n3 := 0) (As := []) (rest := []) X hl.1 hE hP hD hS hA [(qa, .inr (7, [.ref htb, .int (nI ln), .int (nI le), .int (nI ax2_1), .int kd2_2, .int (nI pl2_3), .int (nI lt2_4), .int vl2_5, .int ms2_6])), (htb, .inl (cA, 6000, .inl tz))] [(h0, .inr (0, [.ref qa, .ref qmi, .ref qmt, .ref qms, .int ua, .int ub, .int uc, .int ud, .int (nI pl), .int (nI lt), .int 0, .int uh, .int ui, .int uj, .int uk, .int ul, .int um, .int un]))] [1, 2] [0] rfl rfl rfl (by decide +kernel) (by decide +kernel) (by decide +kernel) (c_s_next l D cA cB qa htb ln le ax2_1 kd2_2 pl2_3 lt2_4 vl2_5 ms2_6 tz hln hle hf_7 hf_8 hf_9 htz (by first | assumption | omega | decide | rfl)) w_515 w_374 w_514 w_516 w_517 0 (ci := 7) (T := TX7) (N := 9) rfl rfl (by decide +kernel) rfl rfl (Nat.le_of_ble_eq_true rfl) ⟨(Nat.le_of_ble_eq_true rfl), (Nat.le_of_ble_eq_true rfl)⟩ ⟨(Nat.le_of_ble_eq_true rfl), (Nat.le_of_ble_eq_true rfl)⟩ dX0_readName_93 (fun W1 H locs hw hP hD hS => ?_)
        obtain ⟨ax2_12, kd2_13, pl2_14, lt2_15, vl2_16, ms2_17, hf_18, hf_19, hf_20, hf_21, hf_22, rfl⟩ := hw
        have hP : va_P D classes [(h0, .inr (0, [.ref qa, .ref qmi, .ref qmt, .ref qms, .int ua, .int ub, .int uc, .int ud, .int (nI pl), .int (nI lt), .int 0, .int uh, .int ui, .int uj, .int uk, .int ul, .int um, .int un])), (qa, .inr (7, [.ref htb, .int (nI ln), .int (nI le), .int (nI ax2_12), .int kd2_13, .int (nI pl2_14), .int (nI lt2_15), .int vl2_16, .int ms2_17])), (htb, .inl (cA, 6000, .inl tz))] H := hP
        have hD : va_D A [(h0, .inr (0, [.ref qa, .ref qmi, .ref qmt, .ref qms, .int ua, .int ub, .int uc, .int ud, .int (nI pl), .int (nI lt), .int 0, .int uh, .int ui, .int uj, .int uk, .int ul, .int um, .int un])), (qa, .inr (7, [.ref htb, .int (nI ln), .int (nI le), .int (nI ax2_12), .int kd2_13, .int (nI pl2_14), .int (nI lt2_15), .int vl2_16, .int ms2_17])), (htb, .inl (cA, 6000, .inl tz))] := hD
        refine lv_iconst (v := 1) hx hb dX0_readName_96 (by decide) ?_
        rw [hQ9]
        exact endZ X hr rfl hlocks hP hD hS dX0_readName_97 ⟨ua, ub, (nI pl), (nI lt), 0, ax2_12, kd2_13, pl2_14, lt2_15, vl2_16, ms2_17, 1, rfl, (by decide), hf_18, hf_19, hf_20, (by decide), (by first | assumption | omega), (by first | assumption | omega), (Or.inr ⟨pl, lt, hkd c_10, rfl, rfl⟩), rfl⟩
      · skip
        refine lv_aload_n hx hb dX0_readName_84 rfl (lv_at hl 0 rfl) ?_
        refine kVi (n3 := 0) (As := []) (rest := []) X hl.1 hE hP hD hS hA [(h0, .inr (0, [.ref qa, .ref qmi, .ref qmt, .ref qms, .int ua, .int ub, .int uc, .int ud, .int (nI pl), .int (nI lt), .int 0, .int uh, .int ui, .int uj, .int uk, .int ul, .int um, .int un])), (qa, .inr (7, [.ref htb, .int (nI ln), .int (nI le), .int (nI ax2_1), .int kd2_2, .int (nI pl2_3), .int (nI lt2_4), .int vl2_5, .int ms2_6]))] [(htb, .inl (cA, 6000, .inl tz))] [0, 1] [2] rfl rfl rfl (by decide +kernel) (by decide +kernel) (by decide +kernel) (c_s_failHere l D cA cB h0 qa qmi qmt qms htb ua ub uc ud (nI pl) (nI lt) 0 uh ui uj uk ul um un (nI ln) (nI le) (nI ax2_1) kd2_2 (nI pl2_3) (nI lt2_4) vl2_5 ms2_6 ) w_504 w_397 w_503 w_505 w_506 0 (ci := 0) (T := TX0) (N := 18) rfl rfl (by decide +kernel) rfl rfl (Nat.le_of_ble_eq_true rfl) ⟨(Nat.le_of_ble_eq_true rfl), (Nat.le_of_ble_eq_true rfl)⟩ ⟨(Nat.le_of_ble_eq_true rfl), (Nat.le_of_ble_eq_true rfl)⟩ dX0_readName_85 (fun r W1 H locs hw hP hD hS => ?_)
        obtain ⟨ua2_23, ub2_24, rk_25, rfl, hf_26, rfl⟩ := hw
        have hP : va_P D classes [(htb, .inl (cA, 6000, .inl tz)), (h0, .inr (0, [.ref qa, .ref qmi, .ref qmt, .ref qms, .int ua2_23, .int ub2_24, .int uc, .int ud, .int (nI pl), .int (nI lt), .int 0, .int uh, .int ui, .int uj, .int uk, .int ul, .int um, .int un])), (qa, .inr (7, [.ref htb, .int (nI ln), .int (nI le), .int (nI ax2_1), .int kd2_2, .int (nI pl2_3), .int (nI lt2_4), .int vl2_5, .int ms2_6]))] H := hP
        have hD : va_D A [(htb, .inl (cA, 6000, .inl tz)), (h0, .inr (0, [.ref qa, .ref qmi, .ref qmt, .ref qms, .int ua2_23, .int ub2_24, .int uc, .int ud, .int (nI pl), .int (nI lt), .int 0, .int uh, .int ui, .int uj, .int uk, .int ul, .int um, .int un])), (qa, .inr (7, [.ref htb, .int (nI ln), .int (nI le), .int (nI ax2_1), .int kd2_2, .int (nI pl2_3), .int (nI lt2_4), .int vl2_5, .int ms2_6]))] := hD
        have hP : va_P D classes [(h0, .inr (0, [.ref qa, .ref qmi, .ref qmt, .ref qms, .int ua2_23, .int ub2_24, .int uc, .int ud, .int (nI pl), .int (nI lt), .int 0, .int uh, .int ui, .int uj, .int uk, .int ul, .int um, .int un])), (qa, .inr (7, [.ref htb, .int (nI ln), .int (nI le), .int (nI ax2_1), .int kd2_2, .int (nI pl2_3), .int (nI lt2_4), .int vl2_5, .int ms2_6])), (htb, .inl (cA, 6000, .inl tz))] _ := hP.sub [1, 2, 0] rfl
        have hD : va_D A [(h0, .inr (0, [.ref qa, .ref qmi, .ref qmt, .ref qms, .int ua2_23, .int ub2_24, .int uc, .int ud, .int (nI pl), .int (nI lt), .int 0, .int uh, .int ui, .int uj, .int uk, .int ul, .int um, .int un])), (qa, .inr (7, [.ref htb, .int (nI ln), .int (nI le), .int (nI ax2_1), .int kd2_2, .int (nI pl2_3), .int (nI lt2_4), .int vl2_5, .int ms2_6])), (htb, .inl (cA, 6000, .inl tz))] := hD.sub [1, 2, 0] (by decide) rfl
        rw [hQ9]
        exact endZ X hr (nar_b (by omega)) hlocks hP hD hS dX0_readName_88 ⟨ua2_23, ub2_24, (nI pl), (nI lt), 0, ax2_1, kd2_2, pl2_3, lt2_4, vl2_5, ms2_6, rk_25, rfl, (by decide), hf_7, hf_8, hf_9, hf_26, (by first | assumption | omega), (by first | assumption | omega), (Or.inr ⟨pl, lt, hkd c_10, rfl, rfl⟩), rfl⟩
    · skip
      refine lv_iconst (v := 1) hx hb dX0_readName_57 (by decide) ?_
      refine lv_goto (tgt := 62) hx hb dX0_readName_58 (by decide) ?_
      refine k_put (C := RX0) (T := TX0) (N := 18) (ci := 0) (v := .int 1) (ty := .boolean) X hE hP hD hS 0 rfl rfl iX0 tyX0 tyX0_ok nmX0 10 (by decide) w_519 rfl (by decide +kernel) rfl rfl (Nat.le_of_ble_eq_true rfl) [(h0, .inr (0, [.ref qa, .ref qmi, .ref qmt, .ref qms, .int ua, .int ub, .int uc, .int ud, .int (nI pl), .int (nI lt), .int 1, .int uh, .int ui, .int uj, .int uk, .int ul, .int um, .int un])), (qa, .inr (7, [.ref htb, .int (nI ln), .int (nI le), .int (nI ax2_1), .int kd2_2, .int (nI pl2_3), .int (nI lt2_4), .int vl2_5, .int ms2_6])), (htb, .inl (cA, 6000, .inl tz))] rfl dX0_readName_62 (fun H locs hP hD hS => ?_)
      refine lv_aload_n hx hb dX0_readName_65 rfl (lv_at hl 0 rfl) ?_
      refine k_get (C := RX0) (T := TX0) (N := 18) (ci := 0) (v := .int 1) X hE hP 0 rfl rfl iX0 10 (by decide) w_519 rfl dX0_readName_66 ?_
      refine lv_if_ne (tgt := 89) hx hb dX0_readName_69 (by decide) (fun c_69 => ?_) (fun c_69 => absurd c_69 (by decide))
      refine lv_aload_n hx hb dX0_readName_89 rfl (lv_at hl 0 rfl) ?_
      refine k_get (C := RX0) (T := TX0) (N := 18) (ci := 0) (v := .ref qa) X hE hP 0 rfl rfl iX0 0 (by decide) w_394 rfl dX0_readName_90 ?_
      refine kVv (n3 := 0) (As := []) (rest := []) X hl.1 hE hP hD hS hA [(qa, .inr (7, [.ref htb, .int (nI ln), .int (nI le), .int (nI ax2_1), .int kd2_2, .int (nI pl2_3), .int (nI lt2_4), .int vl2_5, .int ms2_6])), (htb, .inl (cA, 6000, .inl tz))] [(h0, .inr (0, [.ref qa, .ref qmi, .ref qmt, .ref qms, .int ua, .int ub, .int uc, .int ud, .int (nI pl), .int (nI lt), .int 1, .int uh, .int ui, .int uj, .int uk, .int ul, .int um, .int un]))] [1, 2] [0] rfl rfl rfl (by decide +kernel) (by decide +kernel) (by decide +kernel) (c_s_next l D cA cB qa htb ln le ax2_1 kd2_2 pl2_3 lt2_4 vl2_5 ms2_6 tz hln hle hf_7 hf_8 hf_9 htz (by first | assumption | omega | decide | rfl)) w_515 w_374 w_514 w_516 w_517 0 (ci := 7) (T := TX7) (N := 9) rfl rfl (by decide +kernel) rfl rfl (Nat.le_of_ble_eq_true rfl) ⟨(Nat.le_of_ble_eq_true rfl), (Nat.le_of_ble_eq_true rfl)⟩ ⟨(Nat.le_of_ble_eq_true rfl), (Nat.le_of_ble_eq_true rfl)⟩ dX0_readName_93 (fun W1 H locs hw hP hD hS => ?_)
      obtain ⟨ax2_27, kd2_28, pl2_29, lt2_30, vl2_31, ms2_32, hf_33, hf_34, hf_35, hf_36, hf_37, rfl⟩ := hw
      have hP : va_P D classes [(h0, .inr (0, [.ref qa, .ref qmi, .ref qmt, .ref qms, .int ua, .int ub, .int uc, .int ud, .int (nI pl), .int (nI lt), .int 1, .int uh, .int ui, .int uj, .int uk, .int ul, .int um, .int un])), (qa, .inr (7, [.ref htb, .int (nI ln), .int (nI le), .int (nI ax2_27), .int kd2_28, .int (nI pl2_29), .int (nI lt2_30), .int vl2_31, .int ms2_32])), (htb, .inl (cA, 6000, .inl tz))] H := hP
      have hD : va_D A [(h0, .inr (0, [.ref qa, .ref qmi, .ref qmt, .ref qms, .int ua, .int ub, .int uc, .int ud, .int (nI pl), .int (nI lt), .int 1, .int uh, .int ui, .int uj, .int uk, .int ul, .int um, .int un])), (qa, .inr (7, [.ref htb, .int (nI ln), .int (nI le), .int (nI ax2_27), .int kd2_28, .int (nI pl2_29), .int (nI lt2_30), .int vl2_31, .int ms2_32])), (htb, .inl (cA, 6000, .inl tz))] := hD
      refine lv_iconst (v := 1) hx hb dX0_readName_96 (by decide) ?_
      rw [hQ9]
      exact endZ X hr rfl hlocks hP hD hS dX0_readName_97 ⟨ua, ub, (nI pl), (nI lt), 1, ax2_27, kd2_28, pl2_29, lt2_30, vl2_31, ms2_32, 1, rfl, (by decide), hf_33, hf_34, hf_35, (by decide), (by first | assumption | omega), (by first | assumption | omega), (Or.inr ⟨pl, lt, hkd c_10, rfl, rfl⟩), rfl⟩
  · skip
    refine lv_iconst (v := 1) hx hb dX0_readName_13 (by decide) ?_
    rw [hQ9]
    exact endZ X hr rfl hlocks hP hD hS dX0_readName_14 ⟨ua, ub, ue, uf, ug, ax, kd, pl, lt, vl, ms, 1, rfl, hug, hax, hpl, hlt, (by decide), (by first | assumption | omega), (by first | assumption | omega), hnp, rfl⟩
