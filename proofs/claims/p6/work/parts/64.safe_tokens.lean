abbrev cX7_readQuoted : ByteArray := prog_9_method_8_code
def yX7_readQuoted : MethodName := ⟨RX7, "readQuoted", "()V"⟩
abbrev cX7_readDigits : ByteArray := prog_9_method_9_code
def yX7_readDigits : MethodName := ⟨RX7, "readDigits", "(II)V"⟩
abbrev cX7_readLetters : ByteArray := prog_9_method_6_code
def yX7_readLetters : MethodName := ⟨RX7, "readLetters", "()V"⟩
set_option maxRecDepth 100000 in
theorem w_369 : (Cond.fieldLink "BelfryBox$Tape" 31 "BelfryBox$Tape" "kind" "I" : Cond) ∈ gw := List.mem_filter.mpr ⟨List.mem_append_right _ (tb1 (List.mem_of_getElem? (i := 130) rfl)), rfl⟩
set_option maxRecDepth 100000 in
theorem w_370 : (Cond.fieldLink "BelfryBox$Tape" 28 "BelfryBox$Tape" "missing" "I" : Cond) ∈ gw := List.mem_filter.mpr ⟨List.mem_append_right _ (tb1 (List.mem_of_getElem? (i := 138) rfl)), rfl⟩
set_option maxRecDepth 100000 in
theorem w_371 : (Cond.fieldLink "BelfryBox$Tape" 55 "BelfryBox$Tape" "value" "I" : Cond) ∈ gw := List.mem_filter.mpr ⟨List.mem_append_right _ (tb1 (List.mem_of_getElem? (i := 136) rfl)), rfl⟩
set_option maxRecDepth 100000 in
theorem w_372 : (Cond.methodLink "BelfryBox$Tape" 69 yX7_digit : Cond) ∈ gw := List.mem_filter.mpr ⟨List.mem_append_right _ (tb2 (List.mem_of_getElem? (i := 192) rfl)), rfl⟩
set_option maxRecDepth 100000 in
theorem w_373 : (Cond.code yX7_digit prog_9_method_13_code 1 (Option.some Jvm.ClassFile.FieldType.int) : Cond) ∈ gw := List.mem_filter.mpr ⟨List.mem_append_right _ (tb2 (List.mem_of_getElem? (i := 194) rfl)), rfl⟩
set_option maxRecDepth 100000 in
theorem w_374 : (Cond.initialized "BelfryBox$Tape" : Cond) ∈ gw := List.mem_filter.mpr ⟨List.mem_append_right _ (tb1 (List.mem_of_getElem? (i := 6) rfl)), rfl⟩
set_option maxRecDepth 100000 in
theorem w_375 : (Cond.static yX7_digit : Cond) ∈ gw := List.mem_filter.mpr ⟨List.mem_append_right _ (tb2 (List.mem_of_getElem? (i := 193) rfl)), rfl⟩
set_option maxRecDepth 100000 in
theorem w_376 : (Cond.fieldLink "BelfryBox$Tape" 25 "BelfryBox$Tape" "place" "I" : Cond) ∈ gw := List.mem_filter.mpr ⟨List.mem_append_right _ (tb1 (List.mem_of_getElem? (i := 132) rfl)), rfl⟩
set_option maxRecDepth 100000 in
theorem w_377 : (Cond.fieldLink "BelfryBox$Tape" 83 "BelfryBox$Tape" "letters" "I" : Cond) ∈ gw := List.mem_filter.mpr ⟨List.mem_append_right _ (tb1 (List.mem_of_getElem? (i := 134) rfl)), rfl⟩
set_option maxRecDepth 100000 in
theorem w_378 : (Cond.methodLink "BelfryBox$Tape" 34 yX7_isLetter : Cond) ∈ gw := List.mem_filter.mpr ⟨List.mem_append_right _ (tb2 (List.mem_of_getElem? (i := 115) rfl)), rfl⟩
set_option maxRecDepth 100000 in
theorem w_379 : (Cond.code yX7_isLetter prog_9_method_11_code 1 (Option.some Jvm.ClassFile.FieldType.boolean) : Cond) ∈ gw := List.mem_filter.mpr ⟨List.mem_append_right _ (tb2 (List.mem_of_getElem? (i := 117) rfl)), rfl⟩
set_option maxRecDepth 100000 in
theorem w_380 : (Cond.static yX7_isLetter : Cond) ∈ gw := List.mem_filter.mpr ⟨List.mem_append_right _ (tb2 (List.mem_of_getElem? (i := 116) rfl)), rfl⟩
set_option maxRecDepth 100000 in
theorem w_381 : (Cond.methodLink "BelfryBox$Tape" 80 yX7_isDecimal : Cond) ∈ gw := List.mem_filter.mpr ⟨List.mem_append_right _ (tb2 (List.mem_of_getElem? (i := 122) rfl)), rfl⟩
set_option maxRecDepth 100000 in
theorem w_382 : (Cond.code yX7_isDecimal prog_9_method_12_code 1 (Option.some Jvm.ClassFile.FieldType.boolean) : Cond) ∈ gw := List.mem_filter.mpr ⟨List.mem_append_right _ (tb2 (List.mem_of_getElem? (i := 124) rfl)), rfl⟩
set_option maxRecDepth 100000 in
theorem w_383 : (Cond.static yX7_isDecimal : Cond) ∈ gw := List.mem_filter.mpr ⟨List.mem_append_right _ (tb2 (List.mem_of_getElem? (i := 123) rfl)), rfl⟩
theorem dX7_readQuoted_0 : decode cX7_readQuoted 0 = .ok (.aload_n 0, 1) := by decide +kernel
theorem dX7_readQuoted_1 : decode cX7_readQuoted 1 = .ok (.sipush 259, 3) := by decide +kernel
theorem dX7_readQuoted_4 : decode cX7_readQuoted 4 = .ok (.putfield 31, 3) := by decide +kernel
theorem dX7_readQuoted_7 : decode cX7_readQuoted 7 = .ok (.aload_n 0, 1) := by decide +kernel
theorem dX7_readQuoted_8 : decode cX7_readQuoted 8 = .ok (.dup, 1) := by decide +kernel
theorem dX7_readQuoted_9 : decode cX7_readQuoted 9 = .ok (.getfield 19, 3) := by decide +kernel
theorem dX7_readQuoted_12 : decode cX7_readQuoted 12 = .ok (.iconst 1, 1) := by decide +kernel
theorem dX7_readQuoted_13 : decode cX7_readQuoted 13 = .ok (.iadd, 1) := by decide +kernel
theorem dX7_readQuoted_14 : decode cX7_readQuoted 14 = .ok (.putfield 19, 3) := by decide +kernel
theorem dX7_readQuoted_17 : decode cX7_readQuoted 17 = .ok (.aload_n 0, 1) := by decide +kernel
theorem dX7_readQuoted_18 : decode cX7_readQuoted 18 = .ok (.getfield 19, 3) := by decide +kernel
theorem dX7_readQuoted_21 : decode cX7_readQuoted 21 = .ok (.aload_n 0, 1) := by decide +kernel
theorem dX7_readQuoted_22 : decode cX7_readQuoted 22 = .ok (.getfield 22, 3) := by decide +kernel
theorem dX7_readQuoted_25 : decode cX7_readQuoted 25 = .ok (.if_icmp .ge 57, 3) := by decide +kernel
theorem dX7_readQuoted_82 : decode cX7_readQuoted 82 = .ok (.aload_n 0, 1) := by decide +kernel
theorem dX7_readQuoted_83 : decode cX7_readQuoted 83 = .ok (.aload_n 0, 1) := by decide +kernel
theorem dX7_readQuoted_84 : decode cX7_readQuoted 84 = .ok (.getfield 19, 3) := by decide +kernel
theorem dX7_readQuoted_87 : decode cX7_readQuoted 87 = .ok (.putfield 28, 3) := by decide +kernel
theorem dX7_readQuoted_90 : decode cX7_readQuoted 90 = .ok (.return_, 1) := by decide +kernel
theorem dX7_readQuoted_28 : decode cX7_readQuoted 28 = .ok (.aload_n 0, 1) := by decide +kernel
theorem dX7_readQuoted_29 : decode cX7_readQuoted 29 = .ok (.getfield 11, 3) := by decide +kernel
theorem dX7_readQuoted_32 : decode cX7_readQuoted 32 = .ok (.aload_n 0, 1) := by decide +kernel
theorem dX7_readQuoted_33 : decode cX7_readQuoted 33 = .ok (.getfield 19, 3) := by decide +kernel
theorem dX7_readQuoted_36 : decode cX7_readQuoted 36 = .ok (.iaload, 1) := by decide +kernel
theorem dX7_readQuoted_37 : decode cX7_readQuoted 37 = .ok (.bipush 32, 2) := by decide +kernel
theorem dX7_readQuoted_39 : decode cX7_readQuoted 39 = .ok (.if_icmp .lt 43, 3) := by decide +kernel
theorem dX7_readQuoted_42 : decode cX7_readQuoted 42 = .ok (.aload_n 0, 1) := by decide +kernel
theorem dX7_readQuoted_43 : decode cX7_readQuoted 43 = .ok (.getfield 11, 3) := by decide +kernel
theorem dX7_readQuoted_46 : decode cX7_readQuoted 46 = .ok (.aload_n 0, 1) := by decide +kernel
theorem dX7_readQuoted_47 : decode cX7_readQuoted 47 = .ok (.getfield 19, 3) := by decide +kernel
theorem dX7_readQuoted_50 : decode cX7_readQuoted 50 = .ok (.iaload, 1) := by decide +kernel
theorem dX7_readQuoted_51 : decode cX7_readQuoted 51 = .ok (.bipush 126, 2) := by decide +kernel
theorem dX7_readQuoted_53 : decode cX7_readQuoted 53 = .ok (.if_icmp .gt 29, 3) := by decide +kernel
theorem dX7_readQuoted_56 : decode cX7_readQuoted 56 = .ok (.aload_n 0, 1) := by decide +kernel
theorem dX7_readQuoted_57 : decode cX7_readQuoted 57 = .ok (.aload_n 0, 1) := by decide +kernel
theorem dX7_readQuoted_58 : decode cX7_readQuoted 58 = .ok (.getfield 11, 3) := by decide +kernel
theorem dX7_readQuoted_61 : decode cX7_readQuoted 61 = .ok (.aload_n 0, 1) := by decide +kernel
theorem dX7_readQuoted_62 : decode cX7_readQuoted 62 = .ok (.getfield 19, 3) := by decide +kernel
theorem dX7_readQuoted_65 : decode cX7_readQuoted 65 = .ok (.iaload, 1) := by decide +kernel
theorem dX7_readQuoted_66 : decode cX7_readQuoted 66 = .ok (.putfield 55, 3) := by decide +kernel
theorem dX7_readQuoted_69 : decode cX7_readQuoted 69 = .ok (.aload_n 0, 1) := by decide +kernel
theorem dX7_readQuoted_70 : decode cX7_readQuoted 70 = .ok (.dup, 1) := by decide +kernel
theorem dX7_readQuoted_71 : decode cX7_readQuoted 71 = .ok (.getfield 19, 3) := by decide +kernel
theorem dX7_readQuoted_74 : decode cX7_readQuoted 74 = .ok (.iconst 1, 1) := by decide +kernel
theorem dX7_readQuoted_75 : decode cX7_readQuoted 75 = .ok (.iadd, 1) := by decide +kernel
theorem dX7_readQuoted_76 : decode cX7_readQuoted 76 = .ok (.putfield 19, 3) := by decide +kernel
theorem dX7_readQuoted_79 : decode cX7_readQuoted 79 = .ok (.goto 11, 3) := by decide +kernel
theorem dX7_readDigits_0 : decode cX7_readDigits 0 = .ok (.aload_n 0, 1) := by decide +kernel
theorem dX7_readDigits_1 : decode cX7_readDigits 1 = .ok (.sipush 259, 3) := by decide +kernel
theorem dX7_readDigits_4 : decode cX7_readDigits 4 = .ok (.putfield 31, 3) := by decide +kernel
theorem dX7_readDigits_7 : decode cX7_readDigits 7 = .ok (.aload_n 0, 1) := by decide +kernel
theorem dX7_readDigits_8 : decode cX7_readDigits 8 = .ok (.iconst 0, 1) := by decide +kernel
theorem dX7_readDigits_9 : decode cX7_readDigits 9 = .ok (.putfield 55, 3) := by decide +kernel
theorem dX7_readDigits_12 : decode cX7_readDigits 12 = .ok (.aload_n 0, 1) := by decide +kernel
theorem dX7_readDigits_13 : decode cX7_readDigits 13 = .ok (.getfield 19, 3) := by decide +kernel
theorem dX7_readDigits_16 : decode cX7_readDigits 16 = .ok (.istore_n 3, 1) := by decide +kernel
theorem dX7_readDigits_17 : decode cX7_readDigits 17 = .ok (.aload_n 0, 1) := by decide +kernel
theorem dX7_readDigits_18 : decode cX7_readDigits 18 = .ok (.getfield 19, 3) := by decide +kernel
theorem dX7_readDigits_21 : decode cX7_readDigits 21 = .ok (.aload_n 0, 1) := by decide +kernel
theorem dX7_readDigits_22 : decode cX7_readDigits 22 = .ok (.getfield 22, 3) := by decide +kernel
theorem dX7_readDigits_25 : decode cX7_readDigits 25 = .ok (.if_icmp .ge 68, 3) := by decide +kernel
theorem dX7_readDigits_93 : decode cX7_readDigits 93 = .ok (.aload_n 0, 1) := by decide +kernel
theorem dX7_readDigits_94 : decode cX7_readDigits 94 = .ok (.getfield 19, 3) := by decide +kernel
theorem dX7_readDigits_97 : decode cX7_readDigits 97 = .ok (.iload_n 3, 1) := by decide +kernel
theorem dX7_readDigits_98 : decode cX7_readDigits 98 = .ok (.if_icmp .ne 11, 3) := by decide +kernel
theorem dX7_readDigits_109 : decode cX7_readDigits 109 = .ok (.return_, 1) := by decide +kernel
theorem dX7_readDigits_101 : decode cX7_readDigits 101 = .ok (.aload_n 0, 1) := by decide +kernel
theorem dX7_readDigits_102 : decode cX7_readDigits 102 = .ok (.aload_n 0, 1) := by decide +kernel
theorem dX7_readDigits_103 : decode cX7_readDigits 103 = .ok (.getfield 19, 3) := by decide +kernel
theorem dX7_readDigits_106 : decode cX7_readDigits 106 = .ok (.putfield 28, 3) := by decide +kernel
theorem dX7_readDigits_28 : decode cX7_readDigits 28 = .ok (.aload_n 0, 1) := by decide +kernel
theorem dX7_readDigits_29 : decode cX7_readDigits 29 = .ok (.getfield 19, 3) := by decide +kernel
theorem dX7_readDigits_32 : decode cX7_readDigits 32 = .ok (.iload_n 3, 1) := by decide +kernel
theorem dX7_readDigits_33 : decode cX7_readDigits 33 = .ok (.iload_n 2, 1) := by decide +kernel
theorem dX7_readDigits_34 : decode cX7_readDigits 34 = .ok (.iadd, 1) := by decide +kernel
theorem dX7_readDigits_35 : decode cX7_readDigits 35 = .ok (.if_icmp .ge 58, 3) := by decide +kernel
theorem dX7_readDigits_38 : decode cX7_readDigits 38 = .ok (.aload_n 0, 1) := by decide +kernel
theorem dX7_readDigits_39 : decode cX7_readDigits 39 = .ok (.getfield 11, 3) := by decide +kernel
theorem dX7_readDigits_42 : decode cX7_readDigits 42 = .ok (.aload_n 0, 1) := by decide +kernel
theorem dX7_readDigits_43 : decode cX7_readDigits 43 = .ok (.getfield 19, 3) := by decide +kernel
theorem dX7_readDigits_46 : decode cX7_readDigits 46 = .ok (.iaload, 1) := by decide +kernel
theorem dX7_readDigits_47 : decode cX7_readDigits 47 = .ok (.invokestatic 69, 3) := by decide +kernel
theorem dX7_readDigits_50 : decode cX7_readDigits 50 = .ok (.istore 4, 2) := by decide +kernel
theorem dX7_readDigits_52 : decode cX7_readDigits 52 = .ok (.iload 4, 2) := by decide +kernel
theorem dX7_readDigits_54 : decode cX7_readDigits 54 = .ok (.iconst (-1), 1) := by decide +kernel
theorem dX7_readDigits_55 : decode cX7_readDigits 55 = .ok (.if_icmp .eq 38, 3) := by decide +kernel
theorem dX7_readDigits_58 : decode cX7_readDigits 58 = .ok (.iload 4, 2) := by decide +kernel
theorem dX7_readDigits_60 : decode cX7_readDigits 60 = .ok (.iload_n 1, 1) := by decide +kernel
theorem dX7_readDigits_61 : decode cX7_readDigits 61 = .ok (.if_icmp .lt 6, 3) := by decide +kernel
theorem dX7_readDigits_67 : decode cX7_readDigits 67 = .ok (.aload_n 0, 1) := by decide +kernel
theorem dX7_readDigits_68 : decode cX7_readDigits 68 = .ok (.aload_n 0, 1) := by decide +kernel
theorem dX7_readDigits_69 : decode cX7_readDigits 69 = .ok (.getfield 55, 3) := by decide +kernel
theorem dX7_readDigits_72 : decode cX7_readDigits 72 = .ok (.iload_n 1, 1) := by decide +kernel
theorem dX7_readDigits_73 : decode cX7_readDigits 73 = .ok (.imul, 1) := by decide +kernel
theorem dX7_readDigits_74 : decode cX7_readDigits 74 = .ok (.iload 4, 2) := by decide +kernel
theorem dX7_readDigits_76 : decode cX7_readDigits 76 = .ok (.iadd, 1) := by decide +kernel
theorem dX7_readDigits_77 : decode cX7_readDigits 77 = .ok (.putfield 55, 3) := by decide +kernel
theorem dX7_readDigits_80 : decode cX7_readDigits 80 = .ok (.aload_n 0, 1) := by decide +kernel
theorem dX7_readDigits_81 : decode cX7_readDigits 81 = .ok (.dup, 1) := by decide +kernel
theorem dX7_readDigits_82 : decode cX7_readDigits 82 = .ok (.getfield 19, 3) := by decide +kernel
theorem dX7_readDigits_85 : decode cX7_readDigits 85 = .ok (.iconst 1, 1) := by decide +kernel
theorem dX7_readDigits_86 : decode cX7_readDigits 86 = .ok (.iadd, 1) := by decide +kernel
theorem dX7_readDigits_87 : decode cX7_readDigits 87 = .ok (.putfield 19, 3) := by decide +kernel
theorem dX7_readDigits_90 : decode cX7_readDigits 90 = .ok (.goto (-73), 3) := by decide +kernel
theorem dX7_readDigits_64 : decode cX7_readDigits 64 = .ok (.goto 29, 3) := by decide +kernel
theorem dX7_readLetters_0 : decode cX7_readLetters 0 = .ok (.aload_n 0, 1) := by decide +kernel
theorem dX7_readLetters_1 : decode cX7_readLetters 1 = .ok (.getfield 11, 3) := by decide +kernel
theorem dX7_readLetters_4 : decode cX7_readLetters 4 = .ok (.aload_n 0, 1) := by decide +kernel
theorem dX7_readLetters_5 : decode cX7_readLetters 5 = .ok (.getfield 19, 3) := by decide +kernel
theorem dX7_readLetters_8 : decode cX7_readLetters 8 = .ok (.iaload, 1) := by decide +kernel
theorem dX7_readLetters_9 : decode cX7_readLetters 9 = .ok (.istore_n 1, 1) := by decide +kernel
theorem dX7_readLetters_10 : decode cX7_readLetters 10 = .ok (.aload_n 0, 1) := by decide +kernel
theorem dX7_readLetters_11 : decode cX7_readLetters 11 = .ok (.getfield 19, 3) := by decide +kernel
theorem dX7_readLetters_14 : decode cX7_readLetters 14 = .ok (.aload_n 0, 1) := by decide +kernel
theorem dX7_readLetters_15 : decode cX7_readLetters 15 = .ok (.getfield 22, 3) := by decide +kernel
theorem dX7_readLetters_18 : decode cX7_readLetters 18 = .ok (.if_icmp .ge 46, 3) := by decide +kernel
theorem dX7_readLetters_64 : decode cX7_readLetters 64 = .ok (.aload_n 0, 1) := by decide +kernel
theorem dX7_readLetters_65 : decode cX7_readLetters 65 = .ok (.aload_n 0, 1) := by decide +kernel
theorem dX7_readLetters_66 : decode cX7_readLetters 66 = .ok (.getfield 19, 3) := by decide +kernel
theorem dX7_readLetters_69 : decode cX7_readLetters 69 = .ok (.aload_n 0, 1) := by decide +kernel
theorem dX7_readLetters_70 : decode cX7_readLetters 70 = .ok (.getfield 25, 3) := by decide +kernel
theorem dX7_readLetters_73 : decode cX7_readLetters 73 = .ok (.isub, 1) := by decide +kernel
theorem dX7_readLetters_74 : decode cX7_readLetters 74 = .ok (.putfield 83, 3) := by decide +kernel
theorem dX7_readLetters_77 : decode cX7_readLetters 77 = .ok (.aload_n 0, 1) := by decide +kernel
theorem dX7_readLetters_78 : decode cX7_readLetters 78 = .ok (.getfield 83, 3) := by decide +kernel
theorem dX7_readLetters_81 : decode cX7_readLetters 81 = .ok (.bipush 8, 2) := by decide +kernel
theorem dX7_readLetters_83 : decode cX7_readLetters 83 = .ok (.if_icmp .le 22, 3) := by decide +kernel
theorem dX7_readLetters_105 : decode cX7_readLetters 105 = .ok (.aload_n 0, 1) := by decide +kernel
theorem dX7_readLetters_106 : decode cX7_readLetters 106 = .ok (.getfield 83, 3) := by decide +kernel
theorem dX7_readLetters_109 : decode cX7_readLetters 109 = .ok (.iconst 1, 1) := by decide +kernel
theorem dX7_readLetters_110 : decode cX7_readLetters 110 = .ok (.if_icmp .ne 21, 3) := by decide +kernel
theorem dX7_readLetters_131 : decode cX7_readLetters 131 = .ok (.aload_n 0, 1) := by decide +kernel
theorem dX7_readLetters_132 : decode cX7_readLetters 132 = .ok (.sipush 257, 3) := by decide +kernel
theorem dX7_readLetters_135 : decode cX7_readLetters 135 = .ok (.putfield 31, 3) := by decide +kernel
theorem dX7_readLetters_138 : decode cX7_readLetters 138 = .ok (.return_, 1) := by decide +kernel
theorem dX7_readLetters_113 : decode cX7_readLetters 113 = .ok (.iload_n 1, 1) := by decide +kernel
theorem dX7_readLetters_114 : decode cX7_readLetters 114 = .ok (.bipush 120, 2) := by decide +kernel
theorem dX7_readLetters_116 : decode cX7_readLetters 116 = .ok (.if_icmp .eq 9, 3) := by decide +kernel
theorem dX7_readLetters_125 : decode cX7_readLetters 125 = .ok (.aload_n 0, 1) := by decide +kernel
theorem dX7_readLetters_126 : decode cX7_readLetters 126 = .ok (.iload_n 1, 1) := by decide +kernel
theorem dX7_readLetters_127 : decode cX7_readLetters 127 = .ok (.putfield 31, 3) := by decide +kernel
theorem dX7_readLetters_130 : decode cX7_readLetters 130 = .ok (.return_, 1) := by decide +kernel
theorem dX7_readLetters_119 : decode cX7_readLetters 119 = .ok (.iload_n 1, 1) := by decide +kernel
theorem dX7_readLetters_120 : decode cX7_readLetters 120 = .ok (.bipush 121, 2) := by decide +kernel
theorem dX7_readLetters_122 : decode cX7_readLetters 122 = .ok (.if_icmp .ne 9, 3) := by decide +kernel
theorem dX7_readLetters_86 : decode cX7_readLetters 86 = .ok (.aload_n 0, 1) := by decide +kernel
theorem dX7_readLetters_87 : decode cX7_readLetters 87 = .ok (.sipush 260, 3) := by decide +kernel
theorem dX7_readLetters_90 : decode cX7_readLetters 90 = .ok (.putfield 31, 3) := by decide +kernel
theorem dX7_readLetters_93 : decode cX7_readLetters 93 = .ok (.aload_n 0, 1) := by decide +kernel
theorem dX7_readLetters_94 : decode cX7_readLetters 94 = .ok (.dup, 1) := by decide +kernel
theorem dX7_readLetters_95 : decode cX7_readLetters 95 = .ok (.getfield 25, 3) := by decide +kernel
theorem dX7_readLetters_98 : decode cX7_readLetters 98 = .ok (.bipush 8, 2) := by decide +kernel
theorem dX7_readLetters_100 : decode cX7_readLetters 100 = .ok (.iadd, 1) := by decide +kernel
theorem dX7_readLetters_101 : decode cX7_readLetters 101 = .ok (.putfield 25, 3) := by decide +kernel
theorem dX7_readLetters_104 : decode cX7_readLetters 104 = .ok (.return_, 1) := by decide +kernel
theorem dX7_readLetters_21 : decode cX7_readLetters 21 = .ok (.aload_n 0, 1) := by decide +kernel
theorem dX7_readLetters_22 : decode cX7_readLetters 22 = .ok (.getfield 11, 3) := by decide +kernel
theorem dX7_readLetters_25 : decode cX7_readLetters 25 = .ok (.aload_n 0, 1) := by decide +kernel
theorem dX7_readLetters_26 : decode cX7_readLetters 26 = .ok (.getfield 19, 3) := by decide +kernel
theorem dX7_readLetters_29 : decode cX7_readLetters 29 = .ok (.iaload, 1) := by decide +kernel
theorem dX7_readLetters_30 : decode cX7_readLetters 30 = .ok (.invokestatic 34, 3) := by decide +kernel
theorem dX7_readLetters_33 : decode cX7_readLetters 33 = .ok (.ifCond .ne 18, 3) := by decide +kernel
theorem dX7_readLetters_51 : decode cX7_readLetters 51 = .ok (.aload_n 0, 1) := by decide +kernel
theorem dX7_readLetters_52 : decode cX7_readLetters 52 = .ok (.dup, 1) := by decide +kernel
theorem dX7_readLetters_53 : decode cX7_readLetters 53 = .ok (.getfield 19, 3) := by decide +kernel
theorem dX7_readLetters_56 : decode cX7_readLetters 56 = .ok (.iconst 1, 1) := by decide +kernel
theorem dX7_readLetters_57 : decode cX7_readLetters 57 = .ok (.iadd, 1) := by decide +kernel
theorem dX7_readLetters_58 : decode cX7_readLetters 58 = .ok (.putfield 19, 3) := by decide +kernel
theorem dX7_readLetters_61 : decode cX7_readLetters 61 = .ok (.goto (-51), 3) := by decide +kernel
theorem dX7_readLetters_36 : decode cX7_readLetters 36 = .ok (.aload_n 0, 1) := by decide +kernel
theorem dX7_readLetters_37 : decode cX7_readLetters 37 = .ok (.getfield 11, 3) := by decide +kernel
theorem dX7_readLetters_40 : decode cX7_readLetters 40 = .ok (.aload_n 0, 1) := by decide +kernel
theorem dX7_readLetters_41 : decode cX7_readLetters 41 = .ok (.getfield 19, 3) := by decide +kernel
theorem dX7_readLetters_44 : decode cX7_readLetters 44 = .ok (.iaload, 1) := by decide +kernel
theorem dX7_readLetters_45 : decode cX7_readLetters 45 = .ok (.invokestatic 80, 3) := by decide +kernel
theorem dX7_readLetters_48 : decode cX7_readLetters 48 = .ok (.ifCond .eq 16, 3) := by decide +kernel
set_option maxHeartbeats 4000000 in
set_option maxRecDepth 100000 in
theorem c_s_readQuoted (l : Launch) (D : va_G) (cA cB : ClassId) (h0 : Nat) (htb : Nat) (ln : Nat) (le : Nat) (ax : Nat) (kd : Int32) (pl : Nat) (lt : Nat) (vl : Int32) (ms : Int32) (tb : Nat → Int32) (hle : le < 6001) (hax : ax < le) (hpl : pl < 6010) (hlt : lt < 6010) (hln : ln < 6001) : CV l yX7_readQuoted cX7_readQuoted 1 none 0 0 0 0 D cA cB [.ref h0] [(h0, .inr (7, [.ref htb, .int (nI ln), .int (nI le), .int (nI ax), .int kd, .int (nI pl), .int (nI lt), .int vl, .int ms])), (htb, .inl (cA, 6000, .inl tb))] (fun W1 => ∃ (ax2 : Nat) (vl2 : Int32) (ms2 : Int32), (ax ≤ ax2) ∧ (ax2 ≤ le) ∧ W1 = [(h0, .inr (7, [.ref htb, .int (nI ln), .int (nI le), .int (nI ax2), .int 259, .int (nI pl), .int (nI lt), .int vl2, .int ms2])), (htb, .inl (cA, 6000, .inl tb))]) := by
  refine mkV (lv0 := [(0, .ref h0)]) (by decide) (Nat.le_of_ble_eq_true rfl) rfl ?_
  intro p e s m below meth c A ls X hr hlocks hnm hE hA hP hD hS hl
  have hx := X.1
  have hb := X.2.1
  refine qW (fun Q9 hQ9 => ?_)
  refine lv_aload_n hx hb dX7_readQuoted_0 rfl (lv_at hl 0 rfl) ?_
  refine lv_sipush (v := 259) hx hb dX7_readQuoted_1 (by decide) ?_
  refine k_put (C := RX7) (T := TX7) (N := 9) (ci := 7) (v := .int 259) (ty := .int) X hE hP hD hS 0 rfl rfl iX7 tyX7 tyX7_ok nmX7 4 (by decide) w_369 rfl (by decide +kernel) rfl rfl (Nat.le_of_ble_eq_true rfl) [(h0, .inr (7, [.ref htb, .int (nI ln), .int (nI le), .int (nI ax), .int 259, .int (nI pl), .int (nI lt), .int vl, .int ms])), (htb, .inl (cA, 6000, .inl tb))] rfl dX7_readQuoted_4 (fun H locs hP hD hS => ?_)
  refine lv_aload_n hx hb dX7_readQuoted_7 rfl (lv_at hl 0 rfl) ?_
  refine lv_dup hx hb dX7_readQuoted_8 rfl ?_
  refine k_get (C := RX7) (T := TX7) (N := 9) (ci := 7) (v := .int (nI ax)) X hE hP 0 rfl rfl iX7 3 (by decide) w_366 rfl dX7_readQuoted_9 ?_
  refine lv_iconst (v := 1) hx hb dX7_readQuoted_12 (by decide) ?_
  refine lv_iadd hx hb dX7_readQuoted_13 ?_
  refine tk (y := nI (ax + 1)) (nI_add ax 1) ?_
  refine k_put (C := RX7) (T := TX7) (N := 9) (ci := 7) (v := .int (nI (ax + 1))) (ty := .int) X hE hP hD hS 0 rfl rfl iX7 tyX7 tyX7_ok nmX7 3 (by decide) w_366 rfl (by decide +kernel) rfl rfl (Nat.le_of_ble_eq_true rfl) [(h0, .inr (7, [.ref htb, .int (nI ln), .int (nI le), .int (nI (ax + 1)), .int 259, .int (nI pl), .int (nI lt), .int vl, .int ms])), (htb, .inl (cA, 6000, .inl tb))] rfl dX7_readQuoted_14 (fun H locs hP hD hS => ?_)
  refine lv_aload_n hx hb dX7_readQuoted_17 rfl (lv_at hl 0 rfl) ?_
  refine k_get (C := RX7) (T := TX7) (N := 9) (ci := 7) (v := .int (nI (ax + 1))) X hE hP 0 rfl rfl iX7 3 (by decide) w_366 rfl dX7_readQuoted_18 ?_
  refine lv_aload_n hx hb dX7_readQuoted_21 rfl (lv_at hl 0 rfl) ?_
  refine k_get (C := RX7) (T := TX7) (N := 9) (ci := 7) (v := .int (nI le)) X hE hP 0 rfl rfl iX7 2 (by decide) w_367 rfl dX7_readQuoted_22 ?_
  refine lv_icmp_ge (tgt := 82) hx hb dX7_readQuoted_25 (by decide) (fun c_25_1 => ?_) (fun c_25_1 => ?_)
  · have nc_25_1 : le ≤ (ax + 1) := (nI_leI (a := le) (b := ax + 1) (by omega) (by omega)).mp c_25_1
    refine lv_aload_n hx hb dX7_readQuoted_82 rfl (lv_at hl 0 rfl) ?_
    refine lv_aload_n hx hb dX7_readQuoted_83 rfl (lv_at hl 0 rfl) ?_
    refine k_get (C := RX7) (T := TX7) (N := 9) (ci := 7) (v := .int (nI (ax + 1))) X hE hP 0 rfl rfl iX7 3 (by decide) w_366 rfl dX7_readQuoted_84 ?_
    refine k_put (C := RX7) (T := TX7) (N := 9) (ci := 7) (v := .int (nI (ax + 1))) (ty := .int) X hE hP hD hS 0 rfl rfl iX7 tyX7 tyX7_ok nmX7 8 (by decide) w_370 rfl (by decide +kernel) rfl rfl (Nat.le_of_ble_eq_true rfl) [(h0, .inr (7, [.ref htb, .int (nI ln), .int (nI le), .int (nI (ax + 1)), .int 259, .int (nI pl), .int (nI lt), .int vl, .int (nI (ax + 1))])), (htb, .inl (cA, 6000, .inl tb))] rfl dX7_readQuoted_87 (fun H locs hP hD hS => ?_)
    rw [hQ9]
    exact endV X hr hlocks hP hD hS dX7_readQuoted_90 ⟨(ax + 1), vl, (nI (ax + 1)), (by omega), (by omega), rfl⟩
  · have nc_25_1 : (ax + 1) < le := Nat.not_le.mp (fun q => c_25_1 ((nI_leI (a := le) (b := ax + 1) (by omega) (by omega)).mpr q))
    refine lv_aload_n hx hb dX7_readQuoted_28 rfl (lv_at hl 0 rfl) ?_
    refine k_get (C := RX7) (T := TX7) (N := 9) (ci := 7) (v := .ref htb) X hE hP 0 rfl rfl iX7 0 (by decide) w_368 rfl dX7_readQuoted_29 ?_
    refine lv_aload_n hx hb dX7_readQuoted_32 rfl (lv_at hl 0 rfl) ?_
    refine k_get (C := RX7) (T := TX7) (N := 9) (ci := 7) (v := .int (nI (ax + 1))) X hE hP 0 rfl rfl iX7 3 (by decide) w_366 rfl dX7_readQuoted_33 ?_
    refine k_ald (v := tb (ax + 1)) X hE hP 1 rfl (ax + 1) rfl (by omega) (by decide) rfl dX7_readQuoted_36 ?_
    refine lv_bipush (v := 32) hx hb dX7_readQuoted_37 (by decide) ?_
    refine lv_icmp_lt (tgt := 82) hx hb dX7_readQuoted_39 (by decide) (fun c_39 => ?_) (fun c_39 => ?_)
    · skip
      refine lv_aload_n hx hb dX7_readQuoted_82 rfl (lv_at hl 0 rfl) ?_
      refine lv_aload_n hx hb dX7_readQuoted_83 rfl (lv_at hl 0 rfl) ?_
      refine k_get (C := RX7) (T := TX7) (N := 9) (ci := 7) (v := .int (nI (ax + 1))) X hE hP 0 rfl rfl iX7 3 (by decide) w_366 rfl dX7_readQuoted_84 ?_
      refine k_put (C := RX7) (T := TX7) (N := 9) (ci := 7) (v := .int (nI (ax + 1))) (ty := .int) X hE hP hD hS 0 rfl rfl iX7 tyX7 tyX7_ok nmX7 8 (by decide) w_370 rfl (by decide +kernel) rfl rfl (Nat.le_of_ble_eq_true rfl) [(h0, .inr (7, [.ref htb, .int (nI ln), .int (nI le), .int (nI (ax + 1)), .int 259, .int (nI pl), .int (nI lt), .int vl, .int (nI (ax + 1))])), (htb, .inl (cA, 6000, .inl tb))] rfl dX7_readQuoted_87 (fun H locs hP hD hS => ?_)
      rw [hQ9]
      exact endV X hr hlocks hP hD hS dX7_readQuoted_90 ⟨(ax + 1), vl, (nI (ax + 1)), (by omega), (by omega), rfl⟩
    · skip
      refine lv_aload_n hx hb dX7_readQuoted_42 rfl (lv_at hl 0 rfl) ?_
      refine k_get (C := RX7) (T := TX7) (N := 9) (ci := 7) (v := .ref htb) X hE hP 0 rfl rfl iX7 0 (by decide) w_368 rfl dX7_readQuoted_43 ?_
      refine lv_aload_n hx hb dX7_readQuoted_46 rfl (lv_at hl 0 rfl) ?_
      refine k_get (C := RX7) (T := TX7) (N := 9) (ci := 7) (v := .int (nI (ax + 1))) X hE hP 0 rfl rfl iX7 3 (by decide) w_366 rfl dX7_readQuoted_47 ?_
      refine k_ald (v := tb (ax + 1)) X hE hP 1 rfl (ax + 1) rfl (by omega) (by decide) rfl dX7_readQuoted_50 ?_
      refine lv_bipush (v := 126) hx hb dX7_readQuoted_51 (by decide) ?_
      refine lv_icmp_gt (tgt := 82) hx hb dX7_readQuoted_53 (by decide) (fun c_53 => ?_) (fun c_53 => ?_)
      · skip
        refine lv_aload_n hx hb dX7_readQuoted_82 rfl (lv_at hl 0 rfl) ?_
        refine lv_aload_n hx hb dX7_readQuoted_83 rfl (lv_at hl 0 rfl) ?_
        refine k_get (C := RX7) (T := TX7) (N := 9) (ci := 7) (v := .int (nI (ax + 1))) X hE hP 0 rfl rfl iX7 3 (by decide) w_366 rfl dX7_readQuoted_84 ?_
        refine k_put (C := RX7) (T := TX7) (N := 9) (ci := 7) (v := .int (nI (ax + 1))) (ty := .int) X hE hP hD hS 0 rfl rfl iX7 tyX7 tyX7_ok nmX7 8 (by decide) w_370 rfl (by decide +kernel) rfl rfl (Nat.le_of_ble_eq_true rfl) [(h0, .inr (7, [.ref htb, .int (nI ln), .int (nI le), .int (nI (ax + 1)), .int 259, .int (nI pl), .int (nI lt), .int vl, .int (nI (ax + 1))])), (htb, .inl (cA, 6000, .inl tb))] rfl dX7_readQuoted_87 (fun H locs hP hD hS => ?_)
        rw [hQ9]
        exact endV X hr hlocks hP hD hS dX7_readQuoted_90 ⟨(ax + 1), vl, (nI (ax + 1)), (by omega), (by omega), rfl⟩
      · skip
        refine lv_aload_n hx hb dX7_readQuoted_56 rfl (lv_at hl 0 rfl) ?_
        refine lv_aload_n hx hb dX7_readQuoted_57 rfl (lv_at hl 0 rfl) ?_
        refine k_get (C := RX7) (T := TX7) (N := 9) (ci := 7) (v := .ref htb) X hE hP 0 rfl rfl iX7 0 (by decide) w_368 rfl dX7_readQuoted_58 ?_
        refine lv_aload_n hx hb dX7_readQuoted_61 rfl (lv_at hl 0 rfl) ?_
        refine k_get (C := RX7) (T := TX7) (N := 9) (ci := 7) (v := .int (nI (ax + 1))) X hE hP 0 rfl rfl iX7 3 (by decide) w_366 rfl dX7_readQuoted_62 ?_
        refine k_ald (v := tb (ax + 1)) X hE hP 1 rfl (ax + 1) rfl (by omega) (by decide) rfl dX7_readQuoted_65 ?_
        refine k_put (C := RX7) (T := TX7) (N := 9) (ci := 7) (v := .int (tb (ax + 1))) (ty := .int) X hE hP hD hS 0 rfl rfl iX7 tyX7 tyX7_ok nmX7 7 (by decide) w_371 rfl (by decide +kernel) rfl rfl (Nat.le_of_ble_eq_true rfl) [(h0, .inr (7, [.ref htb, .int (nI ln), .int (nI le), .int (nI (ax + 1)), .int 259, .int (nI pl), .int (nI lt), .int (tb (ax + 1)), .int ms])), (htb, .inl (cA, 6000, .inl tb))] rfl dX7_readQuoted_66 (fun H locs hP hD hS => ?_)
        refine lv_aload_n hx hb dX7_readQuoted_69 rfl (lv_at hl 0 rfl) ?_
        refine lv_dup hx hb dX7_readQuoted_70 rfl ?_
        refine k_get (C := RX7) (T := TX7) (N := 9) (ci := 7) (v := .int (nI (ax + 1))) X hE hP 0 rfl rfl iX7 3 (by decide) w_366 rfl dX7_readQuoted_71 ?_
        refine lv_iconst (v := 1) hx hb dX7_readQuoted_74 (by decide) ?_
        refine lv_iadd hx hb dX7_readQuoted_75 ?_
        refine tk (y := nI (ax + 1 + 1)) (nI_add (ax + 1) 1) ?_
        refine k_put (C := RX7) (T := TX7) (N := 9) (ci := 7) (v := .int (nI (ax + 1 + 1))) (ty := .int) X hE hP hD hS 0 rfl rfl iX7 tyX7 tyX7_ok nmX7 3 (by decide) w_366 rfl (by decide +kernel) rfl rfl (Nat.le_of_ble_eq_true rfl) [(h0, .inr (7, [.ref htb, .int (nI ln), .int (nI le), .int (nI (ax + 1 + 1)), .int 259, .int (nI pl), .int (nI lt), .int (tb (ax + 1)), .int ms])), (htb, .inl (cA, 6000, .inl tb))] rfl dX7_readQuoted_76 (fun H locs hP hD hS => ?_)
        refine lv_goto (tgt := 90) hx hb dX7_readQuoted_79 (by decide) ?_
        rw [hQ9]
        exact endV X hr hlocks hP hD hS dX7_readQuoted_90 ⟨(ax + 1 + 1), (tb (ax + 1)), ms, (by omega), (by omega), rfl⟩
set_option maxHeartbeats 4000000 in
set_option maxRecDepth 100000 in
theorem c_s_readDigits (l : Launch) (D : va_G) (cA cB : ClassId) (h0 : Nat) (htb : Nat) (ln : Nat) (le : Nat) (ax : Nat) (kd : Int32) (pl : Nat) (lt : Nat) (vl : Int32) (ms : Int32) (tb : Nat → Int32) (x0 : Int32) (q0 : Nat) (hle : le < 6001) (hax : ax ≤ le) (hpl : pl < 6010) (hlt : lt < 6010) (hln : ln < 6001) (hq0 : q0 < 10) : CV l yX7_readDigits cX7_readDigits 5 none 1 20 0 0 D cA cB [.ref h0, .int x0, .int (nI q0)] [(h0, .inr (7, [.ref htb, .int (nI ln), .int (nI le), .int (nI ax), .int kd, .int (nI pl), .int (nI lt), .int vl, .int ms])), (htb, .inl (cA, 6000, .inl tb))] (fun W1 => ∃ (ax2 : Nat) (vl2 : Int32) (ms2 : Int32), (ax ≤ ax2) ∧ (ax2 ≤ le) ∧ W1 = [(h0, .inr (7, [.ref htb, .int (nI ln), .int (nI le), .int (nI ax2), .int 259, .int (nI pl), .int (nI lt), .int vl2, .int ms2])), (htb, .inl (cA, 6000, .inl tb))]) := by
  refine mkV (lv0 := [(0, .ref h0), (1, .int x0), (2, .int (nI q0))]) (by decide) (Nat.le_of_ble_eq_true rfl) rfl ?_
  intro p e s m below meth c A ls X hr hlocks hnm hE hA hP hD hS hl
  have hx := X.1
  have hb := X.2.1
  refine qW (fun Q9 hQ9 => ?_)
  refine lv_aload_n hx hb dX7_readDigits_0 rfl (lv_at hl 0 rfl) ?_
  refine lv_sipush (v := 259) hx hb dX7_readDigits_1 (by decide) ?_
  refine k_put (C := RX7) (T := TX7) (N := 9) (ci := 7) (v := .int 259) (ty := .int) X hE hP hD hS 0 rfl rfl iX7 tyX7 tyX7_ok nmX7 4 (by decide) w_369 rfl (by decide +kernel) rfl rfl (Nat.le_of_ble_eq_true rfl) [(h0, .inr (7, [.ref htb, .int (nI ln), .int (nI le), .int (nI ax), .int 259, .int (nI pl), .int (nI lt), .int vl, .int ms])), (htb, .inl (cA, 6000, .inl tb))] rfl dX7_readDigits_4 (fun H locs hP hD hS => ?_)
  refine lv_aload_n hx hb dX7_readDigits_7 rfl (lv_at hl 0 rfl) ?_
  refine lv_iconst (v := 0) hx hb dX7_readDigits_8 (by decide) ?_
  refine k_put (C := RX7) (T := TX7) (N := 9) (ci := 7) (v := .int 0) (ty := .int) X hE hP hD hS 0 rfl rfl iX7 tyX7 tyX7_ok nmX7 7 (by decide) w_371 rfl (by decide +kernel) rfl rfl (Nat.le_of_ble_eq_true rfl) [(h0, .inr (7, [.ref htb, .int (nI ln), .int (nI le), .int (nI ax), .int 259, .int (nI pl), .int (nI lt), .int 0, .int ms])), (htb, .inl (cA, 6000, .inl tb))] rfl dX7_readDigits_9 (fun H locs hP hD hS => ?_)
  refine lv_aload_n hx hb dX7_readDigits_12 rfl (lv_at hl 0 rfl) ?_
  refine k_get (C := RX7) (T := TX7) (N := 9) (ci := 7) (v := .int (nI ax)) X hE hP 0 rfl rfl iX7 3 (by decide) w_366 rfl dX7_readDigits_13 ?_
  refine lv_istore_n (lv' := [(3, .int (nI ax)), (0, .ref h0), (1, .int x0), (2, .int (nI q0))]) hx hb dX7_readDigits_16 rfl hl (by decide) rfl (fun ls hl => ?_)
  have loop_17 : ∀ (n : Nat) (ay : Nat) (vy : Int32), (ay ≤ le) → (ax ≤ ay) → le < ay + n → ∀ (H : Heap) (locs : List Loc), va_P D classes [(h0, .inr (7, [.ref htb, .int (nI ln), .int (nI le), .int (nI ay), .int 259, .int (nI pl), .int (nI lt), .int vy, .int ms])), (htb, .inl (cA, 6000, .inl tb))] H → va_D A [(h0, .inr (7, [.ref htb, .int (nI ln), .int (nI le), .int (nI ay), .int 259, .int (nI pl), .int (nI lt), .int vy, .int ms])), (htb, .inl (cA, 6000, .inl tb))] → va_S A s.heap H locs → ∀ ls : Array Slot, lv_has ls 5 [(3, .int (nI ax)), (0, .ref h0), (1, .int x0), (2, .int (nI q0))] → W p l e { frames := 1, cells := 0, slots := 0, locals := 20 } s m (List.toArray [.ref h0, .int x0, .int (nI q0)]) below meth c H locs 0 0 Q9 (F0 m 17 ls []) := by
    intro n
    induction n with
    | zero => intro ay vy hay hay2 hfuel; exact absurd hfuel (by omega)
    | succ n ih_17 =>
      intro ay vy hay hay2 hfuel H locs hP hD hS ls hl
      refine lv_aload_n hx hb dX7_readDigits_17 rfl (lv_at hl 1 rfl) ?_
      refine k_get (C := RX7) (T := TX7) (N := 9) (ci := 7) (v := .int (nI ay)) X hE hP 0 rfl rfl iX7 3 (by decide) w_366 rfl dX7_readDigits_18 ?_
      refine lv_aload_n hx hb dX7_readDigits_21 rfl (lv_at hl 1 rfl) ?_
      refine k_get (C := RX7) (T := TX7) (N := 9) (ci := 7) (v := .int (nI le)) X hE hP 0 rfl rfl iX7 2 (by decide) w_367 rfl dX7_readDigits_22 ?_
      refine lv_icmp_ge (tgt := 93) hx hb dX7_readDigits_25 (by decide) (fun c_25_1 => ?_) (fun c_25_1 => ?_)
      · have nc_25_1 : le ≤ ay := (nI_leI (a := le) (b := ay) (by omega) (by omega)).mp c_25_1
        refine lv_aload_n hx hb dX7_readDigits_93 rfl (lv_at hl 1 rfl) ?_
        refine k_get (C := RX7) (T := TX7) (N := 9) (ci := 7) (v := .int (nI ay)) X hE hP 0 rfl rfl iX7 3 (by decide) w_366 rfl dX7_readDigits_94 ?_
        refine lv_iload_n hx hb dX7_readDigits_97 rfl (lv_at hl 0 rfl) ?_
        refine lv_icmp_ne (tgt := 109) hx hb dX7_readDigits_98 (by decide) (fun c_98_2 => ?_) (fun c_98_2 => ?_)
        · have nc_98_2 : ¬ ay = ax := fun q => c_98_2 ((nI_eq (a := ay) (b := ax) (by omega) (by omega)).mpr q)
          rw [hQ9]
          exact endV X hr hlocks hP hD hS dX7_readDigits_109 ⟨ay, vy, ms, (by omega), (by omega), rfl⟩
        · have nc_98_2 : ay = ax := (nI_eq (a := ay) (b := ax) (by omega) (by omega)).mp c_98_2
          refine lv_aload_n hx hb dX7_readDigits_101 rfl (lv_at hl 1 rfl) ?_
          refine lv_aload_n hx hb dX7_readDigits_102 rfl (lv_at hl 1 rfl) ?_
          refine k_get (C := RX7) (T := TX7) (N := 9) (ci := 7) (v := .int (nI ay)) X hE hP 0 rfl rfl iX7 3 (by decide) w_366 rfl dX7_readDigits_103 ?_
          refine k_put (C := RX7) (T := TX7) (N := 9) (ci := 7) (v := .int (nI ay)) (ty := .int) X hE hP hD hS 0 rfl rfl iX7 tyX7 tyX7_ok nmX7 8 (by decide) w_370 rfl (by decide +kernel) rfl rfl (Nat.le_of_ble_eq_true rfl) [(h0, .inr (7, [.ref htb, .int (nI ln), .int (nI le), .int (nI ay), .int 259, .int (nI pl), .int (nI lt), .int vy, .int (nI ay)])), (htb, .inl (cA, 6000, .inl tb))] rfl dX7_readDigits_106 (fun H locs hP hD hS => ?_)
          rw [hQ9]
          exact endV X hr hlocks hP hD hS dX7_readDigits_109 ⟨ay, vy, (nI ay), (by omega), (by omega), rfl⟩
      · have nc_25_1 : ay < le := Nat.not_le.mp (fun q => c_25_1 ((nI_leI (a := le) (b := ay) (by omega) (by omega)).mpr q))
        refine lv_aload_n hx hb dX7_readDigits_28 rfl (lv_at hl 1 rfl) ?_
        refine k_get (C := RX7) (T := TX7) (N := 9) (ci := 7) (v := .int (nI ay)) X hE hP 0 rfl rfl iX7 3 (by decide) w_366 rfl dX7_readDigits_29 ?_
        refine lv_iload_n hx hb dX7_readDigits_32 rfl (lv_at hl 0 rfl) ?_
        refine lv_iload_n hx hb dX7_readDigits_33 rfl (lv_at hl 3 rfl) ?_
        refine lv_iadd hx hb dX7_readDigits_34 ?_
        refine tk (y := nI (ax + q0)) (nI_add ax q0) ?_
        refine lv_icmp_ge (tgt := 93) hx hb dX7_readDigits_35 (by decide) (fun c_35_3 => ?_) (fun c_35_3 => ?_)
        · have nc_35_3 : (ax + q0) ≤ ay := (nI_leI (a := ax + q0) (b := ay) (by omega) (by omega)).mp c_35_3
          refine lv_aload_n hx hb dX7_readDigits_93 rfl (lv_at hl 1 rfl) ?_
          refine k_get (C := RX7) (T := TX7) (N := 9) (ci := 7) (v := .int (nI ay)) X hE hP 0 rfl rfl iX7 3 (by decide) w_366 rfl dX7_readDigits_94 ?_
          refine lv_iload_n hx hb dX7_readDigits_97 rfl (lv_at hl 0 rfl) ?_
          refine lv_icmp_ne (tgt := 109) hx hb dX7_readDigits_98 (by decide) (fun c_98_4 => ?_) (fun c_98_4 => ?_)
          · have nc_98_4 : ¬ ay = ax := fun q => c_98_4 ((nI_eq (a := ay) (b := ax) (by omega) (by omega)).mpr q)
            rw [hQ9]
            exact endV X hr hlocks hP hD hS dX7_readDigits_109 ⟨ay, vy, ms, (by omega), (by omega), rfl⟩
          · have nc_98_4 : ay = ax := (nI_eq (a := ay) (b := ax) (by omega) (by omega)).mp c_98_4
            refine lv_aload_n hx hb dX7_readDigits_101 rfl (lv_at hl 1 rfl) ?_
            refine lv_aload_n hx hb dX7_readDigits_102 rfl (lv_at hl 1 rfl) ?_
            refine k_get (C := RX7) (T := TX7) (N := 9) (ci := 7) (v := .int (nI ay)) X hE hP 0 rfl rfl iX7 3 (by decide) w_366 rfl dX7_readDigits_103 ?_
            refine k_put (C := RX7) (T := TX7) (N := 9) (ci := 7) (v := .int (nI ay)) (ty := .int) X hE hP hD hS 0 rfl rfl iX7 tyX7 tyX7_ok nmX7 8 (by decide) w_370 rfl (by decide +kernel) rfl rfl (Nat.le_of_ble_eq_true rfl) [(h0, .inr (7, [.ref htb, .int (nI ln), .int (nI le), .int (nI ay), .int 259, .int (nI pl), .int (nI lt), .int vy, .int (nI ay)])), (htb, .inl (cA, 6000, .inl tb))] rfl dX7_readDigits_106 (fun H locs hP hD hS => ?_)
            rw [hQ9]
            exact endV X hr hlocks hP hD hS dX7_readDigits_109 ⟨ay, vy, (nI ay), (by omega), (by omega), rfl⟩
        · have nc_35_3 : ay < (ax + q0) := Nat.not_le.mp (fun q => c_35_3 ((nI_leI (a := ax + q0) (b := ay) (by omega) (by omega)).mpr q))
          refine lv_aload_n hx hb dX7_readDigits_38 rfl (lv_at hl 1 rfl) ?_
          refine k_get (C := RX7) (T := TX7) (N := 9) (ci := 7) (v := .ref htb) X hE hP 0 rfl rfl iX7 0 (by decide) w_368 rfl dX7_readDigits_39 ?_
          refine lv_aload_n hx hb dX7_readDigits_42 rfl (lv_at hl 1 rfl) ?_
          refine k_get (C := RX7) (T := TX7) (N := 9) (ci := 7) (v := .int (nI ay)) X hE hP 0 rfl rfl iX7 3 (by decide) w_366 rfl dX7_readDigits_43 ?_
          refine k_ald (v := tb ay) X hE hP 1 rfl ay rfl (by omega) (by decide) rfl dX7_readDigits_46 ?_
          refine kSi (n3 := 1) (As := [.int (tb ay)]) (rest := []) X hl.1 hE hP hD hS hA [] [(h0, .inr (7, [.ref htb, .int (nI ln), .int (nI le), .int (nI ay), .int 259, .int (nI pl), .int (nI lt), .int vy, .int ms])), (htb, .inl (cA, 6000, .inl tb))] [] [0, 1] rfl rfl rfl (by decide +kernel) (by decide +kernel) (by decide +kernel) (c_s_digit l D cA cB (tb ay) ) w_373 w_374 w_372 w_375 (by decide +kernel) rfl rfl (Nat.le_of_ble_eq_true rfl) ⟨(Nat.le_of_ble_eq_true rfl), (Nat.le_of_ble_eq_true rfl)⟩ ⟨(Nat.le_of_ble_eq_true rfl), (Nat.le_of_ble_eq_true rfl)⟩ dX7_readDigits_47 (fun r W1 H locs hw hP hD hS => ?_)
          obtain ⟨rv_5, er_6, rfl⟩ := hw
          have hP : va_P D classes [(h0, .inr (7, [.ref htb, .int (nI ln), .int (nI le), .int (nI ay), .int 259, .int (nI pl), .int (nI lt), .int vy, .int ms])), (htb, .inl (cA, 6000, .inl tb))] H := hP
          have hD : va_D A [(h0, .inr (7, [.ref htb, .int (nI ln), .int (nI le), .int (nI ay), .int 259, .int (nI pl), .int (nI lt), .int vy, .int ms])), (htb, .inl (cA, 6000, .inl tb))] := hD
          refine tk (y := rv_5) er_6 ?_
          refine lv_istore (lv' := [(4, .int rv_5), (3, .int (nI ax)), (0, .ref h0), (1, .int x0), (2, .int (nI q0))]) hx hb dX7_readDigits_50 hl (by decide) rfl (fun ls hl => ?_)
          refine lv_iload hx hb dX7_readDigits_52 (lv_at hl 0 rfl) ?_
          refine lv_iconst (v := (-1)) hx hb dX7_readDigits_54 (by decide) ?_
          refine lv_icmp_eq (tgt := 93) hx hb dX7_readDigits_55 (by decide) (fun c_55 => ?_) (fun c_55 => ?_)
          · skip
            refine lv_aload_n hx hb dX7_readDigits_93 rfl (lv_at hl 2 rfl) ?_
            refine k_get (C := RX7) (T := TX7) (N := 9) (ci := 7) (v := .int (nI ay)) X hE hP 0 rfl rfl iX7 3 (by decide) w_366 rfl dX7_readDigits_94 ?_
            refine lv_iload_n hx hb dX7_readDigits_97 rfl (lv_at hl 1 rfl) ?_
            refine lv_icmp_ne (tgt := 109) hx hb dX7_readDigits_98 (by decide) (fun c_98_7 => ?_) (fun c_98_7 => ?_)
            · have nc_98_7 : ¬ ay = ax := fun q => c_98_7 ((nI_eq (a := ay) (b := ax) (by omega) (by omega)).mpr q)
              rw [hQ9]
              exact endV X hr hlocks hP hD hS dX7_readDigits_109 ⟨ay, vy, ms, (by omega), (by omega), rfl⟩
            · have nc_98_7 : ay = ax := (nI_eq (a := ay) (b := ax) (by omega) (by omega)).mp c_98_7
              refine lv_aload_n hx hb dX7_readDigits_101 rfl (lv_at hl 2 rfl) ?_
              refine lv_aload_n hx hb dX7_readDigits_102 rfl (lv_at hl 2 rfl) ?_
              refine k_get (C := RX7) (T := TX7) (N := 9) (ci := 7) (v := .int (nI ay)) X hE hP 0 rfl rfl iX7 3 (by decide) w_366 rfl dX7_readDigits_103 ?_
              refine k_put (C := RX7) (T := TX7) (N := 9) (ci := 7) (v := .int (nI ay)) (ty := .int) X hE hP hD hS 0 rfl rfl iX7 tyX7 tyX7_ok nmX7 8 (by decide) w_370 rfl (by decide +kernel) rfl rfl (Nat.le_of_ble_eq_true rfl) [(h0, .inr (7, [.ref htb, .int (nI ln), .int (nI le), .int (nI ay), .int 259, .int (nI pl), .int (nI lt), .int vy, .int (nI ay)])), (htb, .inl (cA, 6000, .inl tb))] rfl dX7_readDigits_106 (fun H locs hP hD hS => ?_)
              rw [hQ9]
              exact endV X hr hlocks hP hD hS dX7_readDigits_109 ⟨ay, vy, (nI ay), (by omega), (by omega), rfl⟩
          · skip
            refine lv_iload hx hb dX7_readDigits_58 (lv_at hl 0 rfl) ?_
            refine lv_iload_n hx hb dX7_readDigits_60 rfl (lv_at hl 3 rfl) ?_
            refine lv_icmp_lt (tgt := 67) hx hb dX7_readDigits_61 (by decide) (fun c_61 => ?_) (fun c_61 => ?_)
            · skip
              refine lv_aload_n hx hb dX7_readDigits_67 rfl (lv_at hl 2 rfl) ?_
              refine lv_aload_n hx hb dX7_readDigits_68 rfl (lv_at hl 2 rfl) ?_
              refine k_get (C := RX7) (T := TX7) (N := 9) (ci := 7) (v := .int vy) X hE hP 0 rfl rfl iX7 7 (by decide) w_371 rfl dX7_readDigits_69 ?_
              refine lv_iload_n hx hb dX7_readDigits_72 rfl (lv_at hl 3 rfl) ?_
              refine lv_imul hx hb dX7_readDigits_73 ?_
              refine lv_iload hx hb dX7_readDigits_74 (lv_at hl 0 rfl) ?_
              refine lv_iadd hx hb dX7_readDigits_76 ?_
              refine k_put (C := RX7) (T := TX7) (N := 9) (ci := 7) (v := .int ((vy * x0) + rv_5)) (ty := .int) X hE hP hD hS 0 rfl rfl iX7 tyX7 tyX7_ok nmX7 7 (by decide) w_371 rfl (by decide +kernel) rfl rfl (Nat.le_of_ble_eq_true rfl) [(h0, .inr (7, [.ref htb, .int (nI ln), .int (nI le), .int (nI ay), .int 259, .int (nI pl), .int (nI lt), .int ((vy * x0) + rv_5), .int ms])), (htb, .inl (cA, 6000, .inl tb))] rfl dX7_readDigits_77 (fun H locs hP hD hS => ?_)
              refine lv_aload_n hx hb dX7_readDigits_80 rfl (lv_at hl 2 rfl) ?_
              refine lv_dup hx hb dX7_readDigits_81 rfl ?_
              refine k_get (C := RX7) (T := TX7) (N := 9) (ci := 7) (v := .int (nI ay)) X hE hP 0 rfl rfl iX7 3 (by decide) w_366 rfl dX7_readDigits_82 ?_
              refine lv_iconst (v := 1) hx hb dX7_readDigits_85 (by decide) ?_
              refine lv_iadd hx hb dX7_readDigits_86 ?_
              refine tk (y := nI (ay + 1)) (nI_add ay 1) ?_
              refine k_put (C := RX7) (T := TX7) (N := 9) (ci := 7) (v := .int (nI (ay + 1))) (ty := .int) X hE hP hD hS 0 rfl rfl iX7 tyX7 tyX7_ok nmX7 3 (by decide) w_366 rfl (by decide +kernel) rfl rfl (Nat.le_of_ble_eq_true rfl) [(h0, .inr (7, [.ref htb, .int (nI ln), .int (nI le), .int (nI (ay + 1)), .int 259, .int (nI pl), .int (nI lt), .int ((vy * x0) + rv_5), .int ms])), (htb, .inl (cA, 6000, .inl tb))] rfl dX7_readDigits_87 (fun H locs hP hD hS => ?_)
              refine lv_goto (tgt := 17) hx hb dX7_readDigits_90 (by decide) ?_
              exact ih_17 (ay + 1) ((vy * x0) + rv_5) (by omega) (by omega) (by omega) _ _ hP hD hS ls (lv_sub hl [1, 2, 3, 4] rfl)
            · skip
              refine lv_goto (tgt := 93) hx hb dX7_readDigits_64 (by decide) ?_
              refine lv_aload_n hx hb dX7_readDigits_93 rfl (lv_at hl 2 rfl) ?_
              refine k_get (C := RX7) (T := TX7) (N := 9) (ci := 7) (v := .int (nI ay)) X hE hP 0 rfl rfl iX7 3 (by decide) w_366 rfl dX7_readDigits_94 ?_
              refine lv_iload_n hx hb dX7_readDigits_97 rfl (lv_at hl 1 rfl) ?_
              refine lv_icmp_ne (tgt := 109) hx hb dX7_readDigits_98 (by decide) (fun c_98_8 => ?_) (fun c_98_8 => ?_)
              · have nc_98_8 : ¬ ay = ax := fun q => c_98_8 ((nI_eq (a := ay) (b := ax) (by omega) (by omega)).mpr q)
                rw [hQ9]
                exact endV X hr hlocks hP hD hS dX7_readDigits_109 ⟨ay, vy, ms, (by omega), (by omega), rfl⟩
              · have nc_98_8 : ay = ax := (nI_eq (a := ay) (b := ax) (by omega) (by omega)).mp c_98_8
                refine lv_aload_n hx hb dX7_readDigits_101 rfl (lv_at hl 2 rfl) ?_
                refine lv_aload_n hx hb dX7_readDigits_102 rfl (lv_at hl 2 rfl) ?_
                refine k_get (C := RX7) (T := TX7) (N := 9) (ci := 7) (v := .int (nI ay)) X hE hP 0 rfl rfl iX7 3 (by decide) w_366 rfl dX7_readDigits_103 ?_
                refine k_put (C := RX7) (T := TX7) (N := 9) (ci := 7) (v := .int (nI ay)) (ty := .int) X hE hP hD hS 0 rfl rfl iX7 tyX7 tyX7_ok nmX7 8 (by decide) w_370 rfl (by decide +kernel) rfl rfl (Nat.le_of_ble_eq_true rfl) [(h0, .inr (7, [.ref htb, .int (nI ln), .int (nI le), .int (nI ay), .int 259, .int (nI pl), .int (nI lt), .int vy, .int (nI ay)])), (htb, .inl (cA, 6000, .inl tb))] rfl dX7_readDigits_106 (fun H locs hP hD hS => ?_)
                rw [hQ9]
                exact endV X hr hlocks hP hD hS dX7_readDigits_109 ⟨ay, vy, (nI ay), (by omega), (by omega), rfl⟩
  exact loop_17 (le + 1) ax 0 (by omega) (by omega) (by omega) _ _ hP hD hS ls hl
set_option maxHeartbeats 4000000 in
set_option maxRecDepth 100000 in
theorem c_s_readLetters (l : Launch) (D : va_G) (cA cB : ClassId) (h0 : Nat) (htb : Nat) (ln : Nat) (le : Nat) (ax : Nat) (kd : Int32) (pl : Nat) (lt : Nat) (vl : Int32) (ms : Int32) (tb : Nat → Int32) (hle : le < 6001) (hax : ax < le) (hpl : pl < 6010) (hlt : lt < 6010) (hln : ln < 6001) (hpa : pl = ax) : CV l yX7_readLetters cX7_readLetters 2 none 1 20 0 0 D cA cB [.ref h0] [(h0, .inr (7, [.ref htb, .int (nI ln), .int (nI le), .int (nI ax), .int kd, .int (nI pl), .int (nI lt), .int vl, .int ms])), (htb, .inl (cA, 6000, .inl tb))] (fun W1 => ∃ (ax2 : Nat) (kd2 : Int32) (pl2 : Nat) (lt2 : Nat), (ax ≤ ax2) ∧ (ax2 ≤ le) ∧ (pl2 < 6010) ∧ (lt2 < 6010) ∧ (kd2 = 257 → pl2 + lt2 ≤ 6000) ∧ W1 = [(h0, .inr (7, [.ref htb, .int (nI ln), .int (nI le), .int (nI ax2), .int kd2, .int (nI pl2), .int (nI lt2), .int vl, .int ms])), (htb, .inl (cA, 6000, .inl tb))]) := by
  refine mkV (lv0 := [(0, .ref h0)]) (by decide) (Nat.le_of_ble_eq_true rfl) rfl ?_
  intro p e s m below meth c A ls X hr hlocks hnm hE hA hP hD hS hl
  have hx := X.1
  have hb := X.2.1
  refine qW (fun Q9 hQ9 => ?_)
  refine lv_aload_n hx hb dX7_readLetters_0 rfl (lv_at hl 0 rfl) ?_
  refine k_get (C := RX7) (T := TX7) (N := 9) (ci := 7) (v := .ref htb) X hE hP 0 rfl rfl iX7 0 (by decide) w_368 rfl dX7_readLetters_1 ?_
  refine lv_aload_n hx hb dX7_readLetters_4 rfl (lv_at hl 0 rfl) ?_
  refine k_get (C := RX7) (T := TX7) (N := 9) (ci := 7) (v := .int (nI ax)) X hE hP 0 rfl rfl iX7 3 (by decide) w_366 rfl dX7_readLetters_5 ?_
  refine k_ald (v := tb ax) X hE hP 1 rfl ax rfl (by omega) (by decide) rfl dX7_readLetters_8 ?_
  refine lv_istore_n (lv' := [(1, .int (tb ax)), (0, .ref h0)]) hx hb dX7_readLetters_9 rfl hl (by decide) rfl (fun ls hl => ?_)
  have loop_10 : ∀ (n : Nat) (ay : Nat), (ay ≤ le) → (ax ≤ ay) → le < ay + n → ∀ (H : Heap) (locs : List Loc), va_P D classes [(h0, .inr (7, [.ref htb, .int (nI ln), .int (nI le), .int (nI ay), .int kd, .int (nI pl), .int (nI lt), .int vl, .int ms])), (htb, .inl (cA, 6000, .inl tb))] H → va_D A [(h0, .inr (7, [.ref htb, .int (nI ln), .int (nI le), .int (nI ay), .int kd, .int (nI pl), .int (nI lt), .int vl, .int ms])), (htb, .inl (cA, 6000, .inl tb))] → va_S A s.heap H locs → ∀ ls : Array Slot, lv_has ls 2 [(1, .int (tb ax)), (0, .ref h0)] → W p l e { frames := 1, cells := 0, slots := 0, locals := 20 } s m (List.toArray [.ref h0]) below meth c H locs 0 0 Q9 (F0 m 10 ls []) := by
    intro n
    induction n with
    | zero => intro ay hay hay2 hfuel; exact absurd hfuel (by omega)
    | succ n ih_10 =>
      intro ay hay hay2 hfuel H locs hP hD hS ls hl
      refine lv_aload_n hx hb dX7_readLetters_10 rfl (lv_at hl 1 rfl) ?_
      refine k_get (C := RX7) (T := TX7) (N := 9) (ci := 7) (v := .int (nI ay)) X hE hP 0 rfl rfl iX7 3 (by decide) w_366 rfl dX7_readLetters_11 ?_
      refine lv_aload_n hx hb dX7_readLetters_14 rfl (lv_at hl 1 rfl) ?_
      refine k_get (C := RX7) (T := TX7) (N := 9) (ci := 7) (v := .int (nI le)) X hE hP 0 rfl rfl iX7 2 (by decide) w_367 rfl dX7_readLetters_15 ?_
      refine lv_icmp_ge (tgt := 64) hx hb dX7_readLetters_18 (by decide) (fun c_18_1 => ?_) (fun c_18_1 => ?_)
      · have nc_18_1 : le ≤ ay := (nI_leI (a := le) (b := ay) (by omega) (by omega)).mp c_18_1
        refine lv_aload_n hx hb dX7_readLetters_64 rfl (lv_at hl 1 rfl) ?_
        refine lv_aload_n hx hb dX7_readLetters_65 rfl (lv_at hl 1 rfl) ?_
        refine k_get (C := RX7) (T := TX7) (N := 9) (ci := 7) (v := .int (nI ay)) X hE hP 0 rfl rfl iX7 3 (by decide) w_366 rfl dX7_readLetters_66 ?_
        refine lv_aload_n hx hb dX7_readLetters_69 rfl (lv_at hl 1 rfl) ?_
        refine k_get (C := RX7) (T := TX7) (N := 9) (ci := 7) (v := .int (nI pl)) X hE hP 0 rfl rfl iX7 5 (by decide) w_376 rfl dX7_readLetters_70 ?_
        refine lv_isub hx hb dX7_readLetters_73 ?_
        refine tk (y := nI (ay - pl)) (pk_sub (a := ay) (b := pl) (by omega)) ?_
        refine k_put (C := RX7) (T := TX7) (N := 9) (ci := 7) (v := .int (nI (ay - pl))) (ty := .int) X hE hP hD hS 0 rfl rfl iX7 tyX7 tyX7_ok nmX7 6 (by decide) w_377 rfl (by decide +kernel) rfl rfl (Nat.le_of_ble_eq_true rfl) [(h0, .inr (7, [.ref htb, .int (nI ln), .int (nI le), .int (nI ay), .int kd, .int (nI pl), .int (nI (ay - pl)), .int vl, .int ms])), (htb, .inl (cA, 6000, .inl tb))] rfl dX7_readLetters_74 (fun H locs hP hD hS => ?_)
        refine lv_aload_n hx hb dX7_readLetters_77 rfl (lv_at hl 1 rfl) ?_
        refine k_get (C := RX7) (T := TX7) (N := 9) (ci := 7) (v := .int (nI (ay - pl))) X hE hP 0 rfl rfl iX7 6 (by decide) w_377 rfl dX7_readLetters_78 ?_
        refine lv_bipush (v := 8) hx hb dX7_readLetters_81 (by decide) ?_
        refine lv_icmp_le (tgt := 105) hx hb dX7_readLetters_83 (by decide) (fun c_83_2 => ?_) (fun c_83_2 => ?_)
        · have nc_83_2 : (ay - pl) ≤ 8 := (nI_leI (a := ay - pl) (b := 8) (by omega) (by omega)).mp c_83_2
          refine lv_aload_n hx hb dX7_readLetters_105 rfl (lv_at hl 1 rfl) ?_
          refine k_get (C := RX7) (T := TX7) (N := 9) (ci := 7) (v := .int (nI (ay - pl))) X hE hP 0 rfl rfl iX7 6 (by decide) w_377 rfl dX7_readLetters_106 ?_
          refine lv_iconst (v := 1) hx hb dX7_readLetters_109 (by decide) ?_
          refine lv_icmp_ne (tgt := 131) hx hb dX7_readLetters_110 (by decide) (fun c_110_3 => ?_) (fun c_110_3 => ?_)
          · have nc_110_3 : ¬ (ay - pl) = 1 := fun q => c_110_3 ((nI_eq (a := ay - pl) (b := 1) (by omega) (by omega)).mpr q)
            refine lv_aload_n hx hb dX7_readLetters_131 rfl (lv_at hl 1 rfl) ?_
            refine lv_sipush (v := 257) hx hb dX7_readLetters_132 (by decide) ?_
            refine k_put (C := RX7) (T := TX7) (N := 9) (ci := 7) (v := .int 257) (ty := .int) X hE hP hD hS 0 rfl rfl iX7 tyX7 tyX7_ok nmX7 4 (by decide) w_369 rfl (by decide +kernel) rfl rfl (Nat.le_of_ble_eq_true rfl) [(h0, .inr (7, [.ref htb, .int (nI ln), .int (nI le), .int (nI ay), .int 257, .int (nI pl), .int (nI (ay - pl)), .int vl, .int ms])), (htb, .inl (cA, 6000, .inl tb))] rfl dX7_readLetters_135 (fun H locs hP hD hS => ?_)
            rw [hQ9]
            exact endV X hr hlocks hP hD hS dX7_readLetters_138 ⟨ay, 257, pl, (ay - pl), (by omega), (by omega), (by omega), (by omega), (fun _ => by omega), rfl⟩
          · have nc_110_3 : (ay - pl) = 1 := (nI_eq (a := ay - pl) (b := 1) (by omega) (by omega)).mp c_110_3
            refine lv_iload_n hx hb dX7_readLetters_113 rfl (lv_at hl 0 rfl) ?_
            refine lv_bipush (v := 120) hx hb dX7_readLetters_114 (by decide) ?_
            refine lv_icmp_eq (tgt := 125) hx hb dX7_readLetters_116 (by decide) (fun c_116 => ?_) (fun c_116 => ?_)
            · skip
              refine lv_aload_n hx hb dX7_readLetters_125 rfl (lv_at hl 1 rfl) ?_
              refine lv_iload_n hx hb dX7_readLetters_126 rfl (lv_at hl 0 rfl) ?_
              refine k_put (C := RX7) (T := TX7) (N := 9) (ci := 7) (v := .int (tb ax)) (ty := .int) X hE hP hD hS 0 rfl rfl iX7 tyX7 tyX7_ok nmX7 4 (by decide) w_369 rfl (by decide +kernel) rfl rfl (Nat.le_of_ble_eq_true rfl) [(h0, .inr (7, [.ref htb, .int (nI ln), .int (nI le), .int (nI ay), .int (tb ax), .int (nI pl), .int (nI (ay - pl)), .int vl, .int ms])), (htb, .inl (cA, 6000, .inl tb))] rfl dX7_readLetters_127 (fun H locs hP hD hS => ?_)
              rw [hQ9]
              exact endV X hr hlocks hP hD hS dX7_readLetters_130 ⟨ay, (tb ax), pl, (ay - pl), (by omega), (by omega), (by omega), (by omega), (fun _ => by omega), rfl⟩
            · skip
              refine lv_iload_n hx hb dX7_readLetters_119 rfl (lv_at hl 0 rfl) ?_
              refine lv_bipush (v := 121) hx hb dX7_readLetters_120 (by decide) ?_
              refine lv_icmp_ne (tgt := 131) hx hb dX7_readLetters_122 (by decide) (fun c_122 => ?_) (fun c_122 => ?_)
              · skip
                refine lv_aload_n hx hb dX7_readLetters_131 rfl (lv_at hl 1 rfl) ?_
                refine lv_sipush (v := 257) hx hb dX7_readLetters_132 (by decide) ?_
                refine k_put (C := RX7) (T := TX7) (N := 9) (ci := 7) (v := .int 257) (ty := .int) X hE hP hD hS 0 rfl rfl iX7 tyX7 tyX7_ok nmX7 4 (by decide) w_369 rfl (by decide +kernel) rfl rfl (Nat.le_of_ble_eq_true rfl) [(h0, .inr (7, [.ref htb, .int (nI ln), .int (nI le), .int (nI ay), .int 257, .int (nI pl), .int (nI (ay - pl)), .int vl, .int ms])), (htb, .inl (cA, 6000, .inl tb))] rfl dX7_readLetters_135 (fun H locs hP hD hS => ?_)
                rw [hQ9]
                exact endV X hr hlocks hP hD hS dX7_readLetters_138 ⟨ay, 257, pl, (ay - pl), (by omega), (by omega), (by omega), (by omega), (fun _ => by omega), rfl⟩
              · skip
                refine lv_aload_n hx hb dX7_readLetters_125 rfl (lv_at hl 1 rfl) ?_
                refine lv_iload_n hx hb dX7_readLetters_126 rfl (lv_at hl 0 rfl) ?_
                refine k_put (C := RX7) (T := TX7) (N := 9) (ci := 7) (v := .int (tb ax)) (ty := .int) X hE hP hD hS 0 rfl rfl iX7 tyX7 tyX7_ok nmX7 4 (by decide) w_369 rfl (by decide +kernel) rfl rfl (Nat.le_of_ble_eq_true rfl) [(h0, .inr (7, [.ref htb, .int (nI ln), .int (nI le), .int (nI ay), .int (tb ax), .int (nI pl), .int (nI (ay - pl)), .int vl, .int ms])), (htb, .inl (cA, 6000, .inl tb))] rfl dX7_readLetters_127 (fun H locs hP hD hS => ?_)
                rw [hQ9]
                exact endV X hr hlocks hP hD hS dX7_readLetters_130 ⟨ay, (tb ax), pl, (ay - pl), (by omega), (by omega), (by omega), (by omega), (fun _ => by omega), rfl⟩
        · have nc_83_2 : 8 < (ay - pl) := Nat.not_le.mp (fun q => c_83_2 ((nI_leI (a := ay - pl) (b := 8) (by omega) (by omega)).mpr q))
          refine lv_aload_n hx hb dX7_readLetters_86 rfl (lv_at hl 1 rfl) ?_
          refine lv_sipush (v := 260) hx hb dX7_readLetters_87 (by decide) ?_
          refine k_put (C := RX7) (T := TX7) (N := 9) (ci := 7) (v := .int 260) (ty := .int) X hE hP hD hS 0 rfl rfl iX7 tyX7 tyX7_ok nmX7 4 (by decide) w_369 rfl (by decide +kernel) rfl rfl (Nat.le_of_ble_eq_true rfl) [(h0, .inr (7, [.ref htb, .int (nI ln), .int (nI le), .int (nI ay), .int 260, .int (nI pl), .int (nI (ay - pl)), .int vl, .int ms])), (htb, .inl (cA, 6000, .inl tb))] rfl dX7_readLetters_90 (fun H locs hP hD hS => ?_)
          refine lv_aload_n hx hb dX7_readLetters_93 rfl (lv_at hl 1 rfl) ?_
          refine lv_dup hx hb dX7_readLetters_94 rfl ?_
          refine k_get (C := RX7) (T := TX7) (N := 9) (ci := 7) (v := .int (nI pl)) X hE hP 0 rfl rfl iX7 5 (by decide) w_376 rfl dX7_readLetters_95 ?_
          refine lv_bipush (v := 8) hx hb dX7_readLetters_98 (by decide) ?_
          refine lv_iadd hx hb dX7_readLetters_100 ?_
          refine tk (y := nI (pl + 8)) (nI_add pl 8) ?_
          refine k_put (C := RX7) (T := TX7) (N := 9) (ci := 7) (v := .int (nI (pl + 8))) (ty := .int) X hE hP hD hS 0 rfl rfl iX7 tyX7 tyX7_ok nmX7 5 (by decide) w_376 rfl (by decide +kernel) rfl rfl (Nat.le_of_ble_eq_true rfl) [(h0, .inr (7, [.ref htb, .int (nI ln), .int (nI le), .int (nI ay), .int 260, .int (nI (pl + 8)), .int (nI (ay - pl)), .int vl, .int ms])), (htb, .inl (cA, 6000, .inl tb))] rfl dX7_readLetters_101 (fun H locs hP hD hS => ?_)
          rw [hQ9]
          exact endV X hr hlocks hP hD hS dX7_readLetters_104 ⟨ay, 260, (pl + 8), (ay - pl), (by omega), (by omega), (by omega), (by omega), (fun q => absurd q (by decide)), rfl⟩
      · have nc_18_1 : ay < le := Nat.not_le.mp (fun q => c_18_1 ((nI_leI (a := le) (b := ay) (by omega) (by omega)).mpr q))
        refine lv_aload_n hx hb dX7_readLetters_21 rfl (lv_at hl 1 rfl) ?_
        refine k_get (C := RX7) (T := TX7) (N := 9) (ci := 7) (v := .ref htb) X hE hP 0 rfl rfl iX7 0 (by decide) w_368 rfl dX7_readLetters_22 ?_
        refine lv_aload_n hx hb dX7_readLetters_25 rfl (lv_at hl 1 rfl) ?_
        refine k_get (C := RX7) (T := TX7) (N := 9) (ci := 7) (v := .int (nI ay)) X hE hP 0 rfl rfl iX7 3 (by decide) w_366 rfl dX7_readLetters_26 ?_
        refine k_ald (v := tb ay) X hE hP 1 rfl ay rfl (by omega) (by decide) rfl dX7_readLetters_29 ?_
        refine kSi (n3 := 1) (As := [.int (tb ay)]) (rest := []) X hl.1 hE hP hD hS hA [] [(h0, .inr (7, [.ref htb, .int (nI ln), .int (nI le), .int (nI ay), .int kd, .int (nI pl), .int (nI lt), .int vl, .int ms])), (htb, .inl (cA, 6000, .inl tb))] [] [0, 1] rfl rfl rfl (by decide +kernel) (by decide +kernel) (by decide +kernel) (c_s_isLetter l D cA cB (tb ay) ) w_379 w_374 w_378 w_380 (by decide +kernel) rfl rfl (Nat.le_of_ble_eq_true rfl) ⟨(Nat.le_of_ble_eq_true rfl), (Nat.le_of_ble_eq_true rfl)⟩ ⟨(Nat.le_of_ble_eq_true rfl), (Nat.le_of_ble_eq_true rfl)⟩ dX7_readLetters_30 (fun r W1 H locs hw hP hD hS => ?_)
        obtain ⟨rk_4, rfl, hf_5, rfl⟩ := hw
        have hP : va_P D classes [(h0, .inr (7, [.ref htb, .int (nI ln), .int (nI le), .int (nI ay), .int kd, .int (nI pl), .int (nI lt), .int vl, .int ms])), (htb, .inl (cA, 6000, .inl tb))] H := hP
        have hD : va_D A [(h0, .inr (7, [.ref htb, .int (nI ln), .int (nI le), .int (nI ay), .int kd, .int (nI pl), .int (nI lt), .int vl, .int ms])), (htb, .inl (cA, 6000, .inl tb))] := hD
        refine lv_if_ne (tgt := 51) hx hb dX7_readLetters_33 (by decide) (fun c_33_6 => ?_) (fun c_33_6 => ?_)
        · have nc_33_6 : ¬ rk_4 = 0 := fun q => c_33_6 ((nI_eq (a := rk_4) (b := 0) (by omega) (by omega)).mpr q)
          refine lv_aload_n hx hb dX7_readLetters_51 rfl (lv_at hl 1 rfl) ?_
          refine lv_dup hx hb dX7_readLetters_52 rfl ?_
          refine k_get (C := RX7) (T := TX7) (N := 9) (ci := 7) (v := .int (nI ay)) X hE hP 0 rfl rfl iX7 3 (by decide) w_366 rfl dX7_readLetters_53 ?_
          refine lv_iconst (v := 1) hx hb dX7_readLetters_56 (by decide) ?_
          refine lv_iadd hx hb dX7_readLetters_57 ?_
          refine tk (y := nI (ay + 1)) (nI_add ay 1) ?_
          refine k_put (C := RX7) (T := TX7) (N := 9) (ci := 7) (v := .int (nI (ay + 1))) (ty := .int) X hE hP hD hS 0 rfl rfl iX7 tyX7 tyX7_ok nmX7 3 (by decide) w_366 rfl (by decide +kernel) rfl rfl (Nat.le_of_ble_eq_true rfl) [(h0, .inr (7, [.ref htb, .int (nI ln), .int (nI le), .int (nI (ay + 1)), .int kd, .int (nI pl), .int (nI lt), .int vl, .int ms])), (htb, .inl (cA, 6000, .inl tb))] rfl dX7_readLetters_58 (fun H locs hP hD hS => ?_)
          refine lv_goto (tgt := 10) hx hb dX7_readLetters_61 (by decide) ?_
          exact ih_10 (ay + 1) (by omega) (by omega) (by omega) _ _ hP hD hS ls hl
        · have nc_33_6 : rk_4 = 0 := (nI_eq (a := rk_4) (b := 0) (by omega) (by omega)).mp c_33_6
          refine lv_aload_n hx hb dX7_readLetters_36 rfl (lv_at hl 1 rfl) ?_
          refine k_get (C := RX7) (T := TX7) (N := 9) (ci := 7) (v := .ref htb) X hE hP 0 rfl rfl iX7 0 (by decide) w_368 rfl dX7_readLetters_37 ?_
          refine lv_aload_n hx hb dX7_readLetters_40 rfl (lv_at hl 1 rfl) ?_
          refine k_get (C := RX7) (T := TX7) (N := 9) (ci := 7) (v := .int (nI ay)) X hE hP 0 rfl rfl iX7 3 (by decide) w_366 rfl dX7_readLetters_41 ?_
          refine k_ald (v := tb ay) X hE hP 1 rfl ay rfl (by omega) (by decide) rfl dX7_readLetters_44 ?_
          refine kSi (n3 := 1) (As := [.int (tb ay)]) (rest := []) X hl.1 hE hP hD hS hA [] [(h0, .inr (7, [.ref htb, .int (nI ln), .int (nI le), .int (nI ay), .int kd, .int (nI pl), .int (nI lt), .int vl, .int ms])), (htb, .inl (cA, 6000, .inl tb))] [] [0, 1] rfl rfl rfl (by decide +kernel) (by decide +kernel) (by decide +kernel) (c_s_isDecimal l D cA cB (tb ay) ) w_382 w_374 w_381 w_383 (by decide +kernel) rfl rfl (Nat.le_of_ble_eq_true rfl) ⟨(Nat.le_of_ble_eq_true rfl), (Nat.le_of_ble_eq_true rfl)⟩ ⟨(Nat.le_of_ble_eq_true rfl), (Nat.le_of_ble_eq_true rfl)⟩ dX7_readLetters_45 (fun r W1 H locs hw hP hD hS => ?_)
          obtain ⟨rk_7, rfl, hf_8, rfl⟩ := hw
          have hP : va_P D classes [(h0, .inr (7, [.ref htb, .int (nI ln), .int (nI le), .int (nI ay), .int kd, .int (nI pl), .int (nI lt), .int vl, .int ms])), (htb, .inl (cA, 6000, .inl tb))] H := hP
          have hD : va_D A [(h0, .inr (7, [.ref htb, .int (nI ln), .int (nI le), .int (nI ay), .int kd, .int (nI pl), .int (nI lt), .int vl, .int ms])), (htb, .inl (cA, 6000, .inl tb))] := hD
          refine lv_if_eq (tgt := 64) hx hb dX7_readLetters_48 (by decide) (fun c_48_9 => ?_) (fun c_48_9 => ?_)
          · have nc_48_9 : rk_7 = 0 := (nI_eq (a := rk_7) (b := 0) (by omega) (by omega)).mp c_48_9
            refine lv_aload_n hx hb dX7_readLetters_64 rfl (lv_at hl 1 rfl) ?_
            refine lv_aload_n hx hb dX7_readLetters_65 rfl (lv_at hl 1 rfl) ?_
            refine k_get (C := RX7) (T := TX7) (N := 9) (ci := 7) (v := .int (nI ay)) X hE hP 0 rfl rfl iX7 3 (by decide) w_366 rfl dX7_readLetters_66 ?_
            refine lv_aload_n hx hb dX7_readLetters_69 rfl (lv_at hl 1 rfl) ?_
            refine k_get (C := RX7) (T := TX7) (N := 9) (ci := 7) (v := .int (nI pl)) X hE hP 0 rfl rfl iX7 5 (by decide) w_376 rfl dX7_readLetters_70 ?_
            refine lv_isub hx hb dX7_readLetters_73 ?_
            refine tk (y := nI (ay - pl)) (pk_sub (a := ay) (b := pl) (by omega)) ?_
            refine k_put (C := RX7) (T := TX7) (N := 9) (ci := 7) (v := .int (nI (ay - pl))) (ty := .int) X hE hP hD hS 0 rfl rfl iX7 tyX7 tyX7_ok nmX7 6 (by decide) w_377 rfl (by decide +kernel) rfl rfl (Nat.le_of_ble_eq_true rfl) [(h0, .inr (7, [.ref htb, .int (nI ln), .int (nI le), .int (nI ay), .int kd, .int (nI pl), .int (nI (ay - pl)), .int vl, .int ms])), (htb, .inl (cA, 6000, .inl tb))] rfl dX7_readLetters_74 (fun H locs hP hD hS => ?_)
            refine lv_aload_n hx hb dX7_readLetters_77 rfl (lv_at hl 1 rfl) ?_
            refine k_get (C := RX7) (T := TX7) (N := 9) (ci := 7) (v := .int (nI (ay - pl))) X hE hP 0 rfl rfl iX7 6 (by decide) w_377 rfl dX7_readLetters_78 ?_
            refine lv_bipush (v := 8) hx hb dX7_readLetters_81 (by decide) ?_
            refine lv_icmp_le (tgt := 105) hx hb dX7_readLetters_83 (by decide) (fun c_83_10 => ?_) (fun c_83_10 => ?_)
            · have nc_83_10 : (ay - pl) ≤ 8 := (nI_leI (a := ay - pl) (b := 8) (by omega) (by omega)).mp c_83_10
              refine lv_aload_n hx hb dX7_readLetters_105 rfl (lv_at hl 1 rfl) ?_
              refine k_get (C := RX7) (T := TX7) (N := 9) (ci := 7) (v := .int (nI (ay - pl))) X hE hP 0 rfl rfl iX7 6 (by decide) w_377 rfl dX7_readLetters_106 ?_
              refine lv_iconst (v := 1) hx hb dX7_readLetters_109 (by decide) ?_
              refine lv_icmp_ne (tgt := 131) hx hb dX7_readLetters_110 (by decide) (fun c_110_11 => ?_) (fun c_110_11 => ?_)
              · have nc_110_11 : ¬ (ay - pl) = 1 := fun q => c_110_11 ((nI_eq (a := ay - pl) (b := 1) (by omega) (by omega)).mpr q)
                refine lv_aload_n hx hb dX7_readLetters_131 rfl (lv_at hl 1 rfl) ?_
                refine lv_sipush (v := 257) hx hb dX7_readLetters_132 (by decide) ?_
                refine k_put (C := RX7) (T := TX7) (N := 9) (ci := 7) (v := .int 257) (ty := .int) X hE hP hD hS 0 rfl rfl iX7 tyX7 tyX7_ok nmX7 4 (by decide) w_369 rfl (by decide +kernel) rfl rfl (Nat.le_of_ble_eq_true rfl) [(h0, .inr (7, [.ref htb, .int (nI ln), .int (nI le), .int (nI ay), .int 257, .int (nI pl), .int (nI (ay - pl)), .int vl, .int ms])), (htb, .inl (cA, 6000, .inl tb))] rfl dX7_readLetters_135 (fun H locs hP hD hS => ?_)
                rw [hQ9]
                exact endV X hr hlocks hP hD hS dX7_readLetters_138 ⟨ay, 257, pl, (ay - pl), (by omega), (by omega), (by omega), (by omega), (fun _ => by omega), rfl⟩
              · have nc_110_11 : (ay - pl) = 1 := (nI_eq (a := ay - pl) (b := 1) (by omega) (by omega)).mp c_110_11
                refine lv_iload_n hx hb dX7_readLetters_113 rfl (lv_at hl 0 rfl) ?_
                refine lv_bipush (v := 120) hx hb dX7_readLetters_114 (by decide) ?_
                refine lv_icmp_eq (tgt := 125) hx hb dX7_readLetters_116 (by decide) (fun c_116 => ?_) (fun c_116 => ?_)
                · skip
                  refine lv_aload_n hx hb dX7_readLetters_125 rfl (lv_at hl 1 rfl) ?_
                  refine lv_iload_n hx hb dX7_readLetters_126 rfl (lv_at hl 0 rfl) ?_
                  refine k_put (C := RX7) (T := TX7) (N := 9) (ci := 7) (v := .int (tb ax)) (ty := .int) X hE hP hD hS 0 rfl rfl iX7 tyX7 tyX7_ok nmX7 4 (by decide) w_369 rfl (by decide +kernel) rfl rfl (Nat.le_of_ble_eq_true rfl) [(h0, .inr (7, [.ref htb, .int (nI ln), .int (nI le), .int (nI ay), .int (tb ax), .int (nI pl), .int (nI (ay - pl)), .int vl, .int ms])), (htb, .inl (cA, 6000, .inl tb))] rfl dX7_readLetters_127 (fun H locs hP hD hS => ?_)
                  rw [hQ9]
                  exact endV X hr hlocks hP hD hS dX7_readLetters_130 ⟨ay, (tb ax), pl, (ay - pl), (by omega), (by omega), (by omega), (by omega), (fun _ => by omega), rfl⟩
                · skip
                  refine lv_iload_n hx hb dX7_readLetters_119 rfl (lv_at hl 0 rfl) ?_
                  refine lv_bipush (v := 121) hx hb dX7_readLetters_120 (by decide) ?_
                  refine lv_icmp_ne (tgt := 131) hx hb dX7_readLetters_122 (by decide) (fun c_122 => ?_) (fun c_122 => ?_)
                  · skip
                    refine lv_aload_n hx hb dX7_readLetters_131 rfl (lv_at hl 1 rfl) ?_
                    refine lv_sipush (v := 257) hx hb dX7_readLetters_132 (by decide) ?_
                    refine k_put (C := RX7) (T := TX7) (N := 9) (ci := 7) (v := .int 257) (ty := .int) X hE hP hD hS 0 rfl rfl iX7 tyX7 tyX7_ok nmX7 4 (by decide) w_369 rfl (by decide +kernel) rfl rfl (Nat.le_of_ble_eq_true rfl) [(h0, .inr (7, [.ref htb, .int (nI ln), .int (nI le), .int (nI ay), .int 257, .int (nI pl), .int (nI (ay - pl)), .int vl, .int ms])), (htb, .inl (cA, 6000, .inl tb))] rfl dX7_readLetters_135 (fun H locs hP hD hS => ?_)
                    rw [hQ9]
                    exact endV X hr hlocks hP hD hS dX7_readLetters_138 ⟨ay, 257, pl, (ay - pl), (by omega), (by omega), (by omega), (by omega), (fun _ => by omega), rfl⟩
                  · skip
                    refine lv_aload_n hx hb dX7_readLetters_125 rfl (lv_at hl 1 rfl) ?_
                    refine lv_iload_n hx hb dX7_readLetters_126 rfl (lv_at hl 0 rfl) ?_
                    refine k_put (C := RX7) (T := TX7) (N := 9) (ci := 7) (v := .int (tb ax)) (ty := .int) X hE hP hD hS 0 rfl rfl iX7 tyX7 tyX7_ok nmX7 4 (by decide) w_369 rfl (by decide +kernel) rfl rfl (Nat.le_of_ble_eq_true rfl) [(h0, .inr (7, [.ref htb, .int (nI ln), .int (nI le), .int (nI ay), .int (tb ax), .int (nI pl), .int (nI (ay - pl)), .int vl, .int ms])), (htb, .inl (cA, 6000, .inl tb))] rfl dX7_readLetters_127 (fun H locs hP hD hS => ?_)
                    rw [hQ9]
                    exact endV X hr hlocks hP hD hS dX7_readLetters_130 ⟨ay, (tb ax), pl, (ay - pl), (by omega), (by omega), (by omega), (by omega), (fun _ => by omega), rfl⟩
            · have nc_83_10 : 8 < (ay - pl) := Nat.not_le.mp (fun q => c_83_10 ((nI_leI (a := ay - pl) (b := 8) (by omega) (by omega)).mpr q))
              refine lv_aload_n hx hb dX7_readLetters_86 rfl (lv_at hl 1 rfl) ?_
              refine lv_sipush (v := 260) hx hb dX7_readLetters_87 (by decide) ?_
              refine k_put (C := RX7) (T := TX7) (N := 9) (ci := 7) (v := .int 260) (ty := .int) X hE hP hD hS 0 rfl rfl iX7 tyX7 tyX7_ok nmX7 4 (by decide) w_369 rfl (by decide +kernel) rfl rfl (Nat.le_of_ble_eq_true rfl) [(h0, .inr (7, [.ref htb, .int (nI ln), .int (nI le), .int (nI ay), .int 260, .int (nI pl), .int (nI (ay - pl)), .int vl, .int ms])), (htb, .inl (cA, 6000, .inl tb))] rfl dX7_readLetters_90 (fun H locs hP hD hS => ?_)
              refine lv_aload_n hx hb dX7_readLetters_93 rfl (lv_at hl 1 rfl) ?_
              refine lv_dup hx hb dX7_readLetters_94 rfl ?_
              refine k_get (C := RX7) (T := TX7) (N := 9) (ci := 7) (v := .int (nI pl)) X hE hP 0 rfl rfl iX7 5 (by decide) w_376 rfl dX7_readLetters_95 ?_
              refine lv_bipush (v := 8) hx hb dX7_readLetters_98 (by decide) ?_
              refine lv_iadd hx hb dX7_readLetters_100 ?_
              refine tk (y := nI (pl + 8)) (nI_add pl 8) ?_
              refine k_put (C := RX7) (T := TX7) (N := 9) (ci := 7) (v := .int (nI (pl + 8))) (ty := .int) X hE hP hD hS 0 rfl rfl iX7 tyX7 tyX7_ok nmX7 5 (by decide) w_376 rfl (by decide +kernel) rfl rfl (Nat.le_of_ble_eq_true rfl) [(h0, .inr (7, [.ref htb, .int (nI ln), .int (nI le), .int (nI ay), .int 260, .int (nI (pl + 8)), .int (nI (ay - pl)), .int vl, .int ms])), (htb, .inl (cA, 6000, .inl tb))] rfl dX7_readLetters_101 (fun H locs hP hD hS => ?_)
              rw [hQ9]
              exact endV X hr hlocks hP hD hS dX7_readLetters_104 ⟨ay, 260, (pl + 8), (ay - pl), (by omega), (by omega), (by omega), (by omega), (fun q => absurd q (by decide)), rfl⟩
          · have nc_48_9 : ¬ rk_7 = 0 := fun q => c_48_9 ((nI_eq (a := rk_7) (b := 0) (by omega) (by omega)).mpr q)
            refine lv_aload_n hx hb dX7_readLetters_51 rfl (lv_at hl 1 rfl) ?_
            refine lv_dup hx hb dX7_readLetters_52 rfl ?_
            refine k_get (C := RX7) (T := TX7) (N := 9) (ci := 7) (v := .int (nI ay)) X hE hP 0 rfl rfl iX7 3 (by decide) w_366 rfl dX7_readLetters_53 ?_
            refine lv_iconst (v := 1) hx hb dX7_readLetters_56 (by decide) ?_
            refine lv_iadd hx hb dX7_readLetters_57 ?_
            refine tk (y := nI (ay + 1)) (nI_add ay 1) ?_
            refine k_put (C := RX7) (T := TX7) (N := 9) (ci := 7) (v := .int (nI (ay + 1))) (ty := .int) X hE hP hD hS 0 rfl rfl iX7 tyX7 tyX7_ok nmX7 3 (by decide) w_366 rfl (by decide +kernel) rfl rfl (Nat.le_of_ble_eq_true rfl) [(h0, .inr (7, [.ref htb, .int (nI ln), .int (nI le), .int (nI (ay + 1)), .int kd, .int (nI pl), .int (nI lt), .int vl, .int ms])), (htb, .inl (cA, 6000, .inl tb))] rfl dX7_readLetters_58 (fun H locs hP hD hS => ?_)
            refine lv_goto (tgt := 10) hx hb dX7_readLetters_61 (by decide) ?_
            exact ih_10 (ay + 1) (by omega) (by omega) (by omega) _ _ hP hD hS ls hl
  exact loop_10 (le + 1) ax (by omega) (by omega) (by omega) _ _ hP hD hS ls hl
