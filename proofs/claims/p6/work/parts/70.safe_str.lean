def RJ0 : String := "java/lang/String"
abbrev cJ0_coder_7d493 : ByteArray := prog_14_method_152_code
def yJ0_coder_7d493 : MethodName := ⟨RJ0, "coder", "()B"⟩
abbrev cJ0_length_8abf5 : ByteArray := prog_14_method_54_code
def yJ0_length_8abf5 : MethodName := ⟨RJ0, "length", "()I"⟩
abbrev cJ0_isLatin1_aae02 : ByteArray := prog_14_method_154_code
def yJ0_isLatin1_aae02 : MethodName := ⟨RJ0, "isLatin1", "()Z"⟩
def RJ3 : String := "jdk/internal/util/Preconditions"
abbrev cJ3_checkIndex_8e157 : ByteArray := prog_19_method_11_code
def yJ3_checkIndex_8e157 : MethodName := ⟨RJ3, "checkIndex", "(IILjava/util/function/BiFunction;)I"⟩
abbrev cJ0_checkIndex_df160 : ByteArray := prog_14_method_155_code
def yJ0_checkIndex_df160 : MethodName := ⟨RJ0, "checkIndex", "(II)V"⟩
def RJ1 : String := "java/lang/StringLatin1"
abbrev cJ1_charAt_3b067 : ByteArray := prog_15_method_2_code
def yJ1_charAt_3b067 : MethodName := ⟨RJ1, "charAt", "([BI)C"⟩
abbrev cJ0_charAt_5068e : ByteArray := prog_14_method_56_code
def yJ0_charAt_5068e : MethodName := ⟨RJ0, "charAt", "(I)C"⟩
abbrev cJ1_canEncode_9a6ad : ByteArray := prog_15_method_4_code
def yJ1_canEncode_9a6ad : MethodName := ⟨RJ1, "canEncode", "(I)Z"⟩
abbrev cJ1_indexOfChar_4cfef : ByteArray := prog_15_method_23_code
def yJ1_indexOfChar_4cfef : MethodName := ⟨RJ1, "indexOfChar", "([BIII)I"⟩
abbrev cJ1_indexOf_4cfef : ByteArray := prog_15_method_22_code
def yJ1_indexOf_4cfef : MethodName := ⟨RJ1, "indexOf", "([BIII)I"⟩
abbrev cJ0_indexOf_7cf53 : ByteArray := prog_14_method_80_code
def yJ0_indexOf_7cf53 : MethodName := ⟨RJ0, "indexOf", "(II)I"⟩
abbrev cJ0_indexOf_0f7a4 : ByteArray := prog_14_method_79_code
def yJ0_indexOf_0f7a4 : MethodName := ⟨RJ0, "indexOf", "(I)I"⟩
set_option maxRecDepth 100000 in
theorem w_416 : (Cond.fieldLink "java/lang/String" 38 "java/lang/String" "COMPACT_STRINGS" "Z" : Cond) ∈ gw := List.mem_filter.mpr ⟨List.mem_append_right _ (tb2 (List.mem_of_getElem? (i := 138) rfl)), rfl⟩
set_option maxRecDepth 100000 in
theorem w_417 : (Cond.fieldLink "java/lang/String" 15 "java/lang/String" "coder" "B" : Cond) ∈ gw := List.mem_filter.mpr ⟨List.mem_append_right _ (tb7 (List.mem_of_getElem? (i := 214) rfl)), rfl⟩
set_option maxRecDepth 100000 in
theorem w_418 : (Cond.fieldLink "java/lang/String" 9 "java/lang/String" "value" "[B" : Cond) ∈ gw := List.mem_filter.mpr ⟨List.mem_append_right _ (tb7 (List.mem_of_getElem? (i := 213) rfl)), rfl⟩
set_option maxRecDepth 100000 in
theorem w_419 : (Cond.methodLink "java/lang/String" 335 yJ0_coder_7d493 : Cond) ∈ gw := List.mem_filter.mpr ⟨List.mem_append_right _ (tb2 (List.mem_of_getElem? (i := 134) rfl)), rfl⟩
set_option maxRecDepth 100000 in
theorem w_420 : (Cond.code yJ0_coder_7d493 prog_14_method_152_code 1 (Option.some Jvm.ClassFile.FieldType.byte) : Cond) ∈ gw := List.mem_filter.mpr ⟨List.mem_append_right _ (tb2 (List.mem_of_getElem? (i := 137) rfl)), rfl⟩
set_option maxRecDepth 100000 in
theorem w_421 : (Cond.initialized "java/lang/String" : Cond) ∈ gw := List.mem_filter.mpr ⟨List.mem_append_right _ (tb1 (List.mem_of_getElem? (i := 12) rfl)), rfl⟩
set_option maxRecDepth 100000 in
theorem w_422 : (Cond.instanceMethod yJ0_coder_7d493 : Cond) ∈ gw := List.mem_filter.mpr ⟨List.mem_append_right _ (tb2 (List.mem_of_getElem? (i := 135) rfl)), rfl⟩
set_option maxRecDepth 100000 in
theorem w_423 : (Cond.selects "java/lang/String" yJ0_coder_7d493 yJ0_coder_7d493 : Cond) ∈ gw := List.mem_filter.mpr ⟨List.mem_append_right _ (tb2 (List.mem_of_getElem? (i := 136) rfl)), rfl⟩
set_option maxRecDepth 100000 in
theorem w_424 : (Cond.fieldLink "java/lang/String" 1053 "jdk/internal/util/Preconditions" "SIOOBE_FORMATTER" "Ljava/util/function/BiFunction;" : Cond) ∈ gw := List.mem_filter.mpr ⟨List.mem_append_right _ (tb2 (List.mem_of_getElem? (i := 154) rfl)), rfl⟩
set_option maxRecDepth 100000 in
theorem w_425 : (Cond.methodLink "java/lang/String" 1059 yJ3_checkIndex_8e157 : Cond) ∈ gw := List.mem_filter.mpr ⟨List.mem_append_right _ (tb2 (List.mem_of_getElem? (i := 156) rfl)), rfl⟩
set_option maxRecDepth 100000 in
theorem w_426 : (Cond.code yJ3_checkIndex_8e157 prog_19_method_11_code 3 (Option.some Jvm.ClassFile.FieldType.int) : Cond) ∈ gw := List.mem_filter.mpr ⟨List.mem_append_right _ (tb2 (List.mem_of_getElem? (i := 158) rfl)), rfl⟩
set_option maxRecDepth 100000 in
theorem w_427 : (Cond.initialized "jdk/internal/util/Preconditions" : Cond) ∈ gw := List.mem_filter.mpr ⟨List.mem_append_right _ (tb1 (List.mem_of_getElem? (i := 14) rfl)), rfl⟩
set_option maxRecDepth 100000 in
theorem w_428 : (Cond.static yJ3_checkIndex_8e157 : Cond) ∈ gw := List.mem_filter.mpr ⟨List.mem_append_right _ (tb2 (List.mem_of_getElem? (i := 157) rfl)), rfl⟩
set_option maxRecDepth 100000 in
theorem w_429 : (Cond.methodLink "java/lang/StringLatin1" 9 yJ0_checkIndex_df160 : Cond) ∈ gw := List.mem_filter.mpr ⟨List.mem_append_right _ (tb2 (List.mem_of_getElem? (i := 151) rfl)), rfl⟩
set_option maxRecDepth 100000 in
theorem w_430 : (Cond.code yJ0_checkIndex_df160 prog_14_method_155_code 2 (Option.none : Option Jvm.ClassFile.FieldType) : Cond) ∈ gw := List.mem_filter.mpr ⟨List.mem_append_right _ (tb2 (List.mem_of_getElem? (i := 153) rfl)), rfl⟩
set_option maxRecDepth 100000 in
theorem w_431 : (Cond.static yJ0_checkIndex_df160 : Cond) ∈ gw := List.mem_filter.mpr ⟨List.mem_append_right _ (tb2 (List.mem_of_getElem? (i := 152) rfl)), rfl⟩
set_option maxRecDepth 100000 in
theorem w_432 : (Cond.methodLink "java/lang/String" 492 yJ0_isLatin1_aae02 : Cond) ∈ gw := List.mem_filter.mpr ⟨List.mem_append_right _ (tb2 (List.mem_of_getElem? (i := 144) rfl)), rfl⟩
set_option maxRecDepth 100000 in
theorem w_433 : (Cond.code yJ0_isLatin1_aae02 prog_14_method_154_code 1 (Option.some Jvm.ClassFile.FieldType.boolean) : Cond) ∈ gw := List.mem_filter.mpr ⟨List.mem_append_right _ (tb2 (List.mem_of_getElem? (i := 147) rfl)), rfl⟩
set_option maxRecDepth 100000 in
theorem w_434 : (Cond.instanceMethod yJ0_isLatin1_aae02 : Cond) ∈ gw := List.mem_filter.mpr ⟨List.mem_append_right _ (tb2 (List.mem_of_getElem? (i := 145) rfl)), rfl⟩
set_option maxRecDepth 100000 in
theorem w_435 : (Cond.selects "java/lang/String" yJ0_isLatin1_aae02 yJ0_isLatin1_aae02 : Cond) ∈ gw := List.mem_filter.mpr ⟨List.mem_append_right _ (tb2 (List.mem_of_getElem? (i := 146) rfl)), rfl⟩
set_option maxRecDepth 100000 in
theorem w_436 : (Cond.methodLink "java/lang/String" 495 yJ1_charAt_3b067 : Cond) ∈ gw := List.mem_filter.mpr ⟨List.mem_append_right _ (tb2 (List.mem_of_getElem? (i := 148) rfl)), rfl⟩
set_option maxRecDepth 100000 in
theorem w_437 : (Cond.code yJ1_charAt_3b067 prog_15_method_2_code 2 (Option.some Jvm.ClassFile.FieldType.char) : Cond) ∈ gw := List.mem_filter.mpr ⟨List.mem_append_right _ (tb2 (List.mem_of_getElem? (i := 150) rfl)), rfl⟩
set_option maxRecDepth 100000 in
theorem w_438 : (Cond.initialized "java/lang/StringLatin1" : Cond) ∈ gw := List.mem_filter.mpr ⟨List.mem_append_right _ (tb1 (List.mem_of_getElem? (i := 13) rfl)), rfl⟩
set_option maxRecDepth 100000 in
theorem w_439 : (Cond.static yJ1_charAt_3b067 : Cond) ∈ gw := List.mem_filter.mpr ⟨List.mem_append_right _ (tb2 (List.mem_of_getElem? (i := 149) rfl)), rfl⟩
set_option maxRecDepth 100000 in
theorem w_440 : (Cond.methodLink "java/lang/StringLatin1" 88 yJ1_canEncode_9a6ad : Cond) ∈ gw := List.mem_filter.mpr ⟨List.mem_append_right _ (tb2 (List.mem_of_getElem? (i := 208) rfl)), rfl⟩
set_option maxRecDepth 100000 in
theorem w_441 : (Cond.code yJ1_canEncode_9a6ad prog_15_method_4_code 1 (Option.some Jvm.ClassFile.FieldType.boolean) : Cond) ∈ gw := List.mem_filter.mpr ⟨List.mem_append_right _ (tb2 (List.mem_of_getElem? (i := 210) rfl)), rfl⟩
set_option maxRecDepth 100000 in
theorem w_442 : (Cond.static yJ1_canEncode_9a6ad : Cond) ∈ gw := List.mem_filter.mpr ⟨List.mem_append_right _ (tb2 (List.mem_of_getElem? (i := 209) rfl)), rfl⟩
set_option maxRecDepth 100000 in
theorem w_443 : (Cond.methodLink "java/lang/StringLatin1" 92 yJ9_max_7cf53 : Cond) ∈ gw := List.mem_filter.mpr ⟨List.mem_append_right _ (tb2 (List.mem_of_getElem? (i := 211) rfl)), rfl⟩
set_option maxRecDepth 100000 in
theorem w_444 : (Cond.methodLink "java/lang/StringLatin1" 38 yJ9_min_7cf53 : Cond) ∈ gw := List.mem_filter.mpr ⟨List.mem_append_right _ (tb2 (List.mem_of_getElem? (i := 212) rfl)), rfl⟩
set_option maxRecDepth 100000 in
theorem w_445 : (Cond.methodLink "java/lang/StringLatin1" 95 yJ1_indexOfChar_4cfef : Cond) ∈ gw := List.mem_filter.mpr ⟨List.mem_append_right _ (tb2 (List.mem_of_getElem? (i := 215) rfl)), rfl⟩
set_option maxRecDepth 100000 in
theorem w_446 : (Cond.code yJ1_indexOfChar_4cfef prog_15_method_23_code 6 (Option.some Jvm.ClassFile.FieldType.int) : Cond) ∈ gw := List.mem_filter.mpr ⟨List.mem_append_right _ (tb2 (List.mem_of_getElem? (i := 217) rfl)), rfl⟩
set_option maxRecDepth 100000 in
theorem w_447 : (Cond.static yJ1_indexOfChar_4cfef : Cond) ∈ gw := List.mem_filter.mpr ⟨List.mem_append_right _ (tb2 (List.mem_of_getElem? (i := 216) rfl)), rfl⟩
set_option maxRecDepth 100000 in
theorem w_448 : (Cond.methodLink "java/lang/String" 505 yJ0_length_8abf5 : Cond) ∈ gw := List.mem_filter.mpr ⟨List.mem_append_right _ (tb2 (List.mem_of_getElem? (i := 204) rfl)), rfl⟩
set_option maxRecDepth 100000 in
theorem w_449 : (Cond.code yJ0_length_8abf5 prog_14_method_54_code 1 (Option.some Jvm.ClassFile.FieldType.int) : Cond) ∈ gw := List.mem_filter.mpr ⟨List.mem_append_right _ (tb2 (List.mem_of_getElem? (i := 133) rfl)), rfl⟩
set_option maxRecDepth 100000 in
theorem w_450 : (Cond.instanceMethod yJ0_length_8abf5 : Cond) ∈ gw := List.mem_filter.mpr ⟨List.mem_append_right _ (tb2 (List.mem_of_getElem? (i := 131) rfl)), rfl⟩
set_option maxRecDepth 100000 in
theorem w_451 : (Cond.selects "java/lang/String" yJ0_length_8abf5 yJ0_length_8abf5 : Cond) ∈ gw := List.mem_filter.mpr ⟨List.mem_append_right _ (tb2 (List.mem_of_getElem? (i := 132) rfl)), rfl⟩
set_option maxRecDepth 100000 in
theorem w_452 : (Cond.methodLink "java/lang/String" 637 yJ1_indexOf_4cfef : Cond) ∈ gw := List.mem_filter.mpr ⟨List.mem_append_right _ (tb2 (List.mem_of_getElem? (i := 205) rfl)), rfl⟩
set_option maxRecDepth 100000 in
theorem w_453 : (Cond.code yJ1_indexOf_4cfef prog_15_method_22_code 4 (Option.some Jvm.ClassFile.FieldType.int) : Cond) ∈ gw := List.mem_filter.mpr ⟨List.mem_append_right _ (tb2 (List.mem_of_getElem? (i := 207) rfl)), rfl⟩
set_option maxRecDepth 100000 in
theorem w_454 : (Cond.static yJ1_indexOf_4cfef : Cond) ∈ gw := List.mem_filter.mpr ⟨List.mem_append_right _ (tb2 (List.mem_of_getElem? (i := 206) rfl)), rfl⟩
set_option maxRecDepth 100000 in
theorem w_455 : (Cond.methodLink "java/lang/String" 633 yJ0_indexOf_7cf53 : Cond) ∈ gw := List.mem_filter.mpr ⟨List.mem_append_right _ (tb2 (List.mem_of_getElem? (i := 200) rfl)), rfl⟩
set_option maxRecDepth 100000 in
theorem w_456 : (Cond.code yJ0_indexOf_7cf53 prog_14_method_80_code 3 (Option.some Jvm.ClassFile.FieldType.int) : Cond) ∈ gw := List.mem_filter.mpr ⟨List.mem_append_right _ (tb2 (List.mem_of_getElem? (i := 203) rfl)), rfl⟩
set_option maxRecDepth 100000 in
theorem w_457 : (Cond.instanceMethod yJ0_indexOf_7cf53 : Cond) ∈ gw := List.mem_filter.mpr ⟨List.mem_append_right _ (tb2 (List.mem_of_getElem? (i := 201) rfl)), rfl⟩
set_option maxRecDepth 100000 in
theorem w_458 : (Cond.selects "java/lang/String" yJ0_indexOf_7cf53 yJ0_indexOf_7cf53 : Cond) ∈ gw := List.mem_filter.mpr ⟨List.mem_append_right _ (tb2 (List.mem_of_getElem? (i := 202) rfl)), rfl⟩
theorem dJ0_coder_7d493_0 : decode cJ0_coder_7d493 0 = .ok (.getstatic 38, 3) := by decide +kernel
theorem dJ0_coder_7d493_3 : decode cJ0_coder_7d493 3 = .ok (.ifCond .eq 10, 3) := by decide +kernel
theorem dJ0_coder_7d493_6 : decode cJ0_coder_7d493 6 = .ok (.aload_n 0, 1) := by decide +kernel
theorem dJ0_coder_7d493_7 : decode cJ0_coder_7d493 7 = .ok (.getfield 15, 3) := by decide +kernel
theorem dJ0_coder_7d493_10 : decode cJ0_coder_7d493 10 = .ok (.goto 4, 3) := by decide +kernel
theorem dJ0_coder_7d493_14 : decode cJ0_coder_7d493 14 = .ok (.ireturn, 1) := by decide +kernel
theorem dJ0_length_8abf5_0 : decode cJ0_length_8abf5 0 = .ok (.aload_n 0, 1) := by decide +kernel
theorem dJ0_length_8abf5_1 : decode cJ0_length_8abf5 1 = .ok (.getfield 9, 3) := by decide +kernel
theorem dJ0_length_8abf5_4 : decode cJ0_length_8abf5 4 = .ok (.arraylength, 1) := by decide +kernel
theorem dJ0_length_8abf5_5 : decode cJ0_length_8abf5 5 = .ok (.aload_n 0, 1) := by decide +kernel
theorem dJ0_length_8abf5_6 : decode cJ0_length_8abf5 6 = .ok (.invokevirtual 335, 3) := by decide +kernel
theorem dJ0_length_8abf5_9 : decode cJ0_length_8abf5 9 = .ok (.ishr, 1) := by decide +kernel
theorem dJ0_length_8abf5_10 : decode cJ0_length_8abf5 10 = .ok (.ireturn, 1) := by decide +kernel
theorem dJ0_isLatin1_aae02_0 : decode cJ0_isLatin1_aae02 0 = .ok (.getstatic 38, 3) := by decide +kernel
theorem dJ0_isLatin1_aae02_3 : decode cJ0_isLatin1_aae02 3 = .ok (.ifCond .eq 14, 3) := by decide +kernel
theorem dJ0_isLatin1_aae02_6 : decode cJ0_isLatin1_aae02 6 = .ok (.aload_n 0, 1) := by decide +kernel
theorem dJ0_isLatin1_aae02_7 : decode cJ0_isLatin1_aae02 7 = .ok (.getfield 15, 3) := by decide +kernel
theorem dJ0_isLatin1_aae02_10 : decode cJ0_isLatin1_aae02 10 = .ok (.ifCond .ne 7, 3) := by decide +kernel
theorem dJ0_isLatin1_aae02_13 : decode cJ0_isLatin1_aae02 13 = .ok (.iconst 1, 1) := by decide +kernel
theorem dJ0_isLatin1_aae02_14 : decode cJ0_isLatin1_aae02 14 = .ok (.goto 4, 3) := by decide +kernel
theorem dJ0_isLatin1_aae02_18 : decode cJ0_isLatin1_aae02 18 = .ok (.ireturn, 1) := by decide +kernel
theorem dJ3_checkIndex_8e157_0 : decode cJ3_checkIndex_8e157 0 = .ok (.iload_n 0, 1) := by decide +kernel
theorem dJ3_checkIndex_8e157_1 : decode cJ3_checkIndex_8e157 1 = .ok (.ifCond .lt 8, 3) := by decide +kernel
theorem dJ3_checkIndex_8e157_4 : decode cJ3_checkIndex_8e157 4 = .ok (.iload_n 0, 1) := by decide +kernel
theorem dJ3_checkIndex_8e157_5 : decode cJ3_checkIndex_8e157 5 = .ok (.iload_n 1, 1) := by decide +kernel
theorem dJ3_checkIndex_8e157_6 : decode cJ3_checkIndex_8e157 6 = .ok (.if_icmp .lt 10, 3) := by decide +kernel
theorem dJ3_checkIndex_8e157_16 : decode cJ3_checkIndex_8e157 16 = .ok (.iload_n 0, 1) := by decide +kernel
theorem dJ3_checkIndex_8e157_17 : decode cJ3_checkIndex_8e157 17 = .ok (.ireturn, 1) := by decide +kernel
theorem dJ0_checkIndex_df160_0 : decode cJ0_checkIndex_df160 0 = .ok (.iload_n 0, 1) := by decide +kernel
theorem dJ0_checkIndex_df160_1 : decode cJ0_checkIndex_df160 1 = .ok (.iload_n 1, 1) := by decide +kernel
theorem dJ0_checkIndex_df160_2 : decode cJ0_checkIndex_df160 2 = .ok (.getstatic 1053, 3) := by decide +kernel
theorem dJ0_checkIndex_df160_5 : decode cJ0_checkIndex_df160 5 = .ok (.invokestatic 1059, 3) := by decide +kernel
theorem dJ0_checkIndex_df160_8 : decode cJ0_checkIndex_df160 8 = .ok (.pop, 1) := by decide +kernel
theorem dJ0_checkIndex_df160_9 : decode cJ0_checkIndex_df160 9 = .ok (.return_, 1) := by decide +kernel
theorem dJ1_charAt_3b067_0 : decode cJ1_charAt_3b067 0 = .ok (.iload_n 1, 1) := by decide +kernel
theorem dJ1_charAt_3b067_1 : decode cJ1_charAt_3b067 1 = .ok (.aload_n 0, 1) := by decide +kernel
theorem dJ1_charAt_3b067_2 : decode cJ1_charAt_3b067 2 = .ok (.arraylength, 1) := by decide +kernel
theorem dJ1_charAt_3b067_3 : decode cJ1_charAt_3b067 3 = .ok (.invokestatic 9, 3) := by decide +kernel
theorem dJ1_charAt_3b067_6 : decode cJ1_charAt_3b067 6 = .ok (.aload_n 0, 1) := by decide +kernel
theorem dJ1_charAt_3b067_7 : decode cJ1_charAt_3b067 7 = .ok (.iload_n 1, 1) := by decide +kernel
theorem dJ1_charAt_3b067_8 : decode cJ1_charAt_3b067 8 = .ok (.baload, 1) := by decide +kernel
theorem dJ1_charAt_3b067_9 : decode cJ1_charAt_3b067 9 = .ok (.sipush 255, 3) := by decide +kernel
theorem dJ1_charAt_3b067_12 : decode cJ1_charAt_3b067 12 = .ok (.iand, 1) := by decide +kernel
theorem dJ1_charAt_3b067_13 : decode cJ1_charAt_3b067 13 = .ok (.i2c, 1) := by decide +kernel
theorem dJ1_charAt_3b067_14 : decode cJ1_charAt_3b067 14 = .ok (.ireturn, 1) := by decide +kernel
theorem dJ0_charAt_5068e_0 : decode cJ0_charAt_5068e 0 = .ok (.aload_n 0, 1) := by decide +kernel
theorem dJ0_charAt_5068e_1 : decode cJ0_charAt_5068e 1 = .ok (.invokevirtual 492, 3) := by decide +kernel
theorem dJ0_charAt_5068e_4 : decode cJ0_charAt_5068e 4 = .ok (.ifCond .eq 12, 3) := by decide +kernel
theorem dJ0_charAt_5068e_7 : decode cJ0_charAt_5068e 7 = .ok (.aload_n 0, 1) := by decide +kernel
theorem dJ0_charAt_5068e_8 : decode cJ0_charAt_5068e 8 = .ok (.getfield 9, 3) := by decide +kernel
theorem dJ0_charAt_5068e_11 : decode cJ0_charAt_5068e 11 = .ok (.iload_n 1, 1) := by decide +kernel
theorem dJ0_charAt_5068e_12 : decode cJ0_charAt_5068e 12 = .ok (.invokestatic 495, 3) := by decide +kernel
theorem dJ0_charAt_5068e_15 : decode cJ0_charAt_5068e 15 = .ok (.ireturn, 1) := by decide +kernel
theorem dJ1_canEncode_9a6ad_0 : decode cJ1_canEncode_9a6ad 0 = .ok (.iload_n 0, 1) := by decide +kernel
theorem dJ1_canEncode_9a6ad_1 : decode cJ1_canEncode_9a6ad 1 = .ok (.ifCond .lt 14, 3) := by decide +kernel
theorem dJ1_canEncode_9a6ad_15 : decode cJ1_canEncode_9a6ad 15 = .ok (.iconst 0, 1) := by decide +kernel
theorem dJ1_canEncode_9a6ad_16 : decode cJ1_canEncode_9a6ad 16 = .ok (.ireturn, 1) := by decide +kernel
theorem dJ1_canEncode_9a6ad_4 : decode cJ1_canEncode_9a6ad 4 = .ok (.iload_n 0, 1) := by decide +kernel
theorem dJ1_canEncode_9a6ad_5 : decode cJ1_canEncode_9a6ad 5 = .ok (.sipush 255, 3) := by decide +kernel
theorem dJ1_canEncode_9a6ad_8 : decode cJ1_canEncode_9a6ad 8 = .ok (.if_icmp .gt 7, 3) := by decide +kernel
theorem dJ1_canEncode_9a6ad_11 : decode cJ1_canEncode_9a6ad 11 = .ok (.iconst 1, 1) := by decide +kernel
theorem dJ1_canEncode_9a6ad_12 : decode cJ1_canEncode_9a6ad 12 = .ok (.goto 4, 3) := by decide +kernel
theorem dJ1_indexOfChar_4cfef_0 : decode cJ1_indexOfChar_4cfef 0 = .ok (.iload_n 1, 1) := by decide +kernel
theorem dJ1_indexOfChar_4cfef_1 : decode cJ1_indexOfChar_4cfef 1 = .ok (.i2b, 1) := by decide +kernel
theorem dJ1_indexOfChar_4cfef_2 : decode cJ1_indexOfChar_4cfef 2 = .ok (.istore 4, 2) := by decide +kernel
theorem dJ1_indexOfChar_4cfef_4 : decode cJ1_indexOfChar_4cfef 4 = .ok (.iload_n 2, 1) := by decide +kernel
theorem dJ1_indexOfChar_4cfef_5 : decode cJ1_indexOfChar_4cfef 5 = .ok (.istore 5, 2) := by decide +kernel
theorem dJ1_indexOfChar_4cfef_7 : decode cJ1_indexOfChar_4cfef 7 = .ok (.iload 5, 2) := by decide +kernel
theorem dJ1_indexOfChar_4cfef_9 : decode cJ1_indexOfChar_4cfef 9 = .ok (.iload_n 3, 1) := by decide +kernel
theorem dJ1_indexOfChar_4cfef_10 : decode cJ1_indexOfChar_4cfef 10 = .ok (.if_icmp .ge 21, 3) := by decide +kernel
theorem dJ1_indexOfChar_4cfef_31 : decode cJ1_indexOfChar_4cfef 31 = .ok (.iconst (-1), 1) := by decide +kernel
theorem dJ1_indexOfChar_4cfef_32 : decode cJ1_indexOfChar_4cfef 32 = .ok (.ireturn, 1) := by decide +kernel
theorem dJ1_indexOfChar_4cfef_13 : decode cJ1_indexOfChar_4cfef 13 = .ok (.aload_n 0, 1) := by decide +kernel
theorem dJ1_indexOfChar_4cfef_14 : decode cJ1_indexOfChar_4cfef 14 = .ok (.iload 5, 2) := by decide +kernel
theorem dJ1_indexOfChar_4cfef_16 : decode cJ1_indexOfChar_4cfef 16 = .ok (.baload, 1) := by decide +kernel
theorem dJ1_indexOfChar_4cfef_17 : decode cJ1_indexOfChar_4cfef 17 = .ok (.iload 4, 2) := by decide +kernel
theorem dJ1_indexOfChar_4cfef_19 : decode cJ1_indexOfChar_4cfef 19 = .ok (.if_icmp .ne 6, 3) := by decide +kernel
theorem dJ1_indexOfChar_4cfef_25 : decode cJ1_indexOfChar_4cfef 25 = .ok (.iinc 5 1, 3) := by decide +kernel
theorem dJ1_indexOfChar_4cfef_28 : decode cJ1_indexOfChar_4cfef 28 = .ok (.goto (-21), 3) := by decide +kernel
theorem dJ1_indexOfChar_4cfef_22 : decode cJ1_indexOfChar_4cfef 22 = .ok (.iload 5, 2) := by decide +kernel
theorem dJ1_indexOfChar_4cfef_24 : decode cJ1_indexOfChar_4cfef 24 = .ok (.ireturn, 1) := by decide +kernel
theorem dJ1_indexOf_4cfef_0 : decode cJ1_indexOf_4cfef 0 = .ok (.iload_n 1, 1) := by decide +kernel
theorem dJ1_indexOf_4cfef_1 : decode cJ1_indexOf_4cfef 1 = .ok (.invokestatic 88, 3) := by decide +kernel
theorem dJ1_indexOf_4cfef_4 : decode cJ1_indexOf_4cfef 4 = .ok (.ifCond .ne 5, 3) := by decide +kernel
theorem dJ1_indexOf_4cfef_9 : decode cJ1_indexOf_4cfef 9 = .ok (.iload_n 2, 1) := by decide +kernel
theorem dJ1_indexOf_4cfef_10 : decode cJ1_indexOf_4cfef 10 = .ok (.iconst 0, 1) := by decide +kernel
theorem dJ1_indexOf_4cfef_11 : decode cJ1_indexOf_4cfef 11 = .ok (.invokestatic 92, 3) := by decide +kernel
theorem dJ1_indexOf_4cfef_14 : decode cJ1_indexOf_4cfef 14 = .ok (.istore_n 2, 1) := by decide +kernel
theorem dJ1_indexOf_4cfef_15 : decode cJ1_indexOf_4cfef 15 = .ok (.iload_n 3, 1) := by decide +kernel
theorem dJ1_indexOf_4cfef_16 : decode cJ1_indexOf_4cfef 16 = .ok (.aload_n 0, 1) := by decide +kernel
theorem dJ1_indexOf_4cfef_17 : decode cJ1_indexOf_4cfef 17 = .ok (.arraylength, 1) := by decide +kernel
theorem dJ1_indexOf_4cfef_18 : decode cJ1_indexOf_4cfef 18 = .ok (.invokestatic 38, 3) := by decide +kernel
theorem dJ1_indexOf_4cfef_21 : decode cJ1_indexOf_4cfef 21 = .ok (.istore_n 3, 1) := by decide +kernel
theorem dJ1_indexOf_4cfef_22 : decode cJ1_indexOf_4cfef 22 = .ok (.iload_n 2, 1) := by decide +kernel
theorem dJ1_indexOf_4cfef_23 : decode cJ1_indexOf_4cfef 23 = .ok (.iload_n 3, 1) := by decide +kernel
theorem dJ1_indexOf_4cfef_24 : decode cJ1_indexOf_4cfef 24 = .ok (.if_icmp .lt 5, 3) := by decide +kernel
theorem dJ1_indexOf_4cfef_29 : decode cJ1_indexOf_4cfef 29 = .ok (.aload_n 0, 1) := by decide +kernel
theorem dJ1_indexOf_4cfef_30 : decode cJ1_indexOf_4cfef 30 = .ok (.iload_n 1, 1) := by decide +kernel
theorem dJ1_indexOf_4cfef_31 : decode cJ1_indexOf_4cfef 31 = .ok (.iload_n 2, 1) := by decide +kernel
theorem dJ1_indexOf_4cfef_32 : decode cJ1_indexOf_4cfef 32 = .ok (.iload_n 3, 1) := by decide +kernel
theorem dJ1_indexOf_4cfef_33 : decode cJ1_indexOf_4cfef 33 = .ok (.invokestatic 95, 3) := by decide +kernel
theorem dJ1_indexOf_4cfef_36 : decode cJ1_indexOf_4cfef 36 = .ok (.ireturn, 1) := by decide +kernel
theorem dJ1_indexOf_4cfef_27 : decode cJ1_indexOf_4cfef 27 = .ok (.iconst (-1), 1) := by decide +kernel
theorem dJ1_indexOf_4cfef_28 : decode cJ1_indexOf_4cfef 28 = .ok (.ireturn, 1) := by decide +kernel
theorem dJ1_indexOf_4cfef_7 : decode cJ1_indexOf_4cfef 7 = .ok (.iconst (-1), 1) := by decide +kernel
theorem dJ1_indexOf_4cfef_8 : decode cJ1_indexOf_4cfef 8 = .ok (.ireturn, 1) := by decide +kernel
theorem dJ0_indexOf_7cf53_0 : decode cJ0_indexOf_7cf53 0 = .ok (.aload_n 0, 1) := by decide +kernel
theorem dJ0_indexOf_7cf53_1 : decode cJ0_indexOf_7cf53 1 = .ok (.invokevirtual 492, 3) := by decide +kernel
theorem dJ0_indexOf_7cf53_4 : decode cJ0_indexOf_7cf53 4 = .ok (.ifCond .eq 19, 3) := by decide +kernel
theorem dJ0_indexOf_7cf53_7 : decode cJ0_indexOf_7cf53 7 = .ok (.aload_n 0, 1) := by decide +kernel
theorem dJ0_indexOf_7cf53_8 : decode cJ0_indexOf_7cf53 8 = .ok (.getfield 9, 3) := by decide +kernel
theorem dJ0_indexOf_7cf53_11 : decode cJ0_indexOf_7cf53 11 = .ok (.iload_n 1, 1) := by decide +kernel
theorem dJ0_indexOf_7cf53_12 : decode cJ0_indexOf_7cf53 12 = .ok (.iload_n 2, 1) := by decide +kernel
theorem dJ0_indexOf_7cf53_13 : decode cJ0_indexOf_7cf53 13 = .ok (.aload_n 0, 1) := by decide +kernel
theorem dJ0_indexOf_7cf53_14 : decode cJ0_indexOf_7cf53 14 = .ok (.invokevirtual 505, 3) := by decide +kernel
theorem dJ0_indexOf_7cf53_17 : decode cJ0_indexOf_7cf53 17 = .ok (.invokestatic 637, 3) := by decide +kernel
theorem dJ0_indexOf_7cf53_20 : decode cJ0_indexOf_7cf53 20 = .ok (.goto 16, 3) := by decide +kernel
theorem dJ0_indexOf_7cf53_36 : decode cJ0_indexOf_7cf53 36 = .ok (.ireturn, 1) := by decide +kernel
theorem dJ0_indexOf_0f7a4_0 : decode cJ0_indexOf_0f7a4 0 = .ok (.aload_n 0, 1) := by decide +kernel
theorem dJ0_indexOf_0f7a4_1 : decode cJ0_indexOf_0f7a4 1 = .ok (.iload_n 1, 1) := by decide +kernel
theorem dJ0_indexOf_0f7a4_2 : decode cJ0_indexOf_0f7a4 2 = .ok (.iconst 0, 1) := by decide +kernel
theorem dJ0_indexOf_0f7a4_3 : decode cJ0_indexOf_0f7a4 3 = .ok (.invokevirtual 633, 3) := by decide +kernel
theorem dJ0_indexOf_0f7a4_6 : decode cJ0_indexOf_0f7a4 6 = .ok (.ireturn, 1) := by decide +kernel
theorem sf_shr0 (x : Int32) : x >>> ((0 : Int32) &&& 31) = x := by
  have h : ((0 : Int32) &&& 31) = 0 := by decide
  rw [h]
  apply Int32.toBitVec_inj.mp
  rw [Int32.toBitVec_shiftRight]
  simp
theorem nI_nneg {n : Nat} (h : n < 2 ^ 31) : ¬ nI n < 0 := fun q => by
  have h1 := (nI_ltI (a := n) (b := 0) h (by decide)).mp q
  omega
theorem sf_i2c {n : Nat} (h : n < 65536) : ((nI n).toUInt32 % 65536).toInt32 = nI n := by
  apply bv_nI
  have h1 : ((nI n).toUInt32 % 65536).toInt32.toBitVec = ((nI n).toUInt32 % 65536).toBitVec := rfl
  rw [h1, UInt32.toBitVec_mod, BitVec.toNat_umod]
  have h2 : (nI n).toUInt32.toBitVec = (nI n).toBitVec := rfl
  rw [h2, pk_tn (by omega)]
  show n % 65536 = n
  omega
theorem nar_c {n : Nat} (h : n < 65536) : narrow .char (.int (nI n)) = .int (nI n) := by
  show Value.int (nI n).toUInt32.toUInt16.toUInt32.toInt32 = _
  congr 1
  apply bv_nI
  show ((nI n).toUInt32.toUInt16.toUInt32).toNat = n
  rw [UInt16.toNat_toUInt32, UInt32.toNat_toUInt16]
  show (nI n).toBitVec.toNat % 2 ^ 16 = n
  rw [pk_tn (by omega)]
  omega
theorem nI_ne {a b : Nat} (ha : a < 2 ^ 31) (hb : b < 2 ^ 31) (h : ¬ a = b) : ¬ nI a = nI b := fun q => h ((nI_eq ha hb).mp q)
set_option maxHeartbeats 4000000 in
set_option maxRecDepth 100000 in
theorem c_s_coder (l : Launch) (D : va_G) (cA cB : ClassId) (i9 : Nat) (hi9 : i9 < 5) : CI l yJ0_coder_7d493 cJ0_coder_7d493 1 (some .byte) 0 0 0 0 D cA cB [.ref (aK D i9)] [] (fun r W1 => r = 0 ∧ W1 = []) := by
  refine mkI (lv0 := [(0, .ref (aK D i9))]) (by decide) (Nat.le_of_ble_eq_true rfl) rfl ?_
  intro p e s m below meth c A ls X hr hlocks hnm hE hA hP hD hS hl
  have hx := X.1
  have hb := X.2.1
  refine qW (fun Q9 hQ9 => ?_)
  refine va_gets (C := "java/lang/String") (n := "COMPACT_STRINGS") (d := "Z") hx hb (e_z3 hE) hS X.2.2.2.1 (X.2.2.2.2 _ w_416) (fun _ h9 => h9) dJ0_coder_7d493_0 ?_
  refine lv_if_eq (tgt := 13) hx hb dJ0_coder_7d493_3 (by decide) (fun c_3 => absurd c_3 (by decide)) (fun c_3 => ?_)
  refine lv_aload_n hx hb dJ0_coder_7d493_6 rfl (lv_at hl 0 rfl) ?_
  refine vk_getf hx hb ((e_str hE).1 i9 (by omega : i9 < 5)).2.1 hS X.2.2.2.1 (X.2.2.2.2 _ w_417) (fun _ h9 => h9) dJ0_coder_7d493_7 ?_
  refine lv_goto (tgt := 14) hx hb dJ0_coder_7d493_10 (by decide) ?_
  rw [hQ9]
  exact endT X hr rfl hlocks hP hD hS dJ0_coder_7d493_14 ⟨rfl, rfl⟩
set_option maxHeartbeats 4000000 in
set_option maxRecDepth 100000 in
theorem c_s_length (l : Launch) (D : va_G) (cA cB : ClassId) (i9 : Nat) (hi9 : i9 < 5) : CI l yJ0_length_8abf5 cJ0_length_8abf5 1 (some .int) 1 20 0 0 D cA cB [.ref (aK D i9)] [] (fun r W1 => r = nI (sl i9) ∧ W1 = []) := by
  refine mkI (lv0 := [(0, .ref (aK D i9))]) (by decide) (Nat.le_of_ble_eq_true rfl) rfl ?_
  intro p e s m below meth c A ls X hr hlocks hnm hE hA hP hD hS hl
  have hx := X.1
  have hb := X.2.1
  refine qW (fun Q9 hQ9 => ?_)
  have hsl := sl_le i9 (by omega)
  refine lv_aload_n hx hb dJ0_length_8abf5_0 rfl (lv_at hl 0 rfl) ?_
  refine vk_getf hx hb ((e_str hE).1 i9 (by omega : i9 < 5)).2.2.1 hS X.2.2.2.1 (X.2.2.2.2 _ w_418) (fun _ h9 => h9) dJ0_length_8abf5_1 ?_
  refine va_tlen (v := nI (sl i9)) hx hb ((e_str hE).1 i9 (by omega : i9 < 5)).2.2.2 hS rfl dJ0_length_8abf5_4 ?_
  refine lv_aload_n hx hb dJ0_length_8abf5_5 rfl (lv_at hl 0 rfl) ?_
  refine kVsi (n3 := 0) (As := []) (rest := [.int (nI (sl i9))]) X hl.1 hE hP hD hS hA [] rfl (by decide) (c_s_coder l D cA cB i9 (by first | assumption | omega | decide | rfl)) w_420 w_421 w_419 w_422 w_423 ((e_str hE).1 i9 (by omega : i9 < 5)).1 (by decide +kernel) rfl rfl (Nat.le_of_ble_eq_true rfl) ⟨(Nat.le_of_ble_eq_true rfl), (Nat.le_of_ble_eq_true rfl)⟩ ⟨(Nat.le_of_ble_eq_true rfl), (Nat.le_of_ble_eq_true rfl)⟩ dJ0_length_8abf5_6 (fun r W1 H locs hw hP hD hS => ?_)
  obtain ⟨rfl, rfl⟩ := hw
  have hP : va_P D classes [] H := hP
  have hD : va_D A [] := hD
  refine lv_ishr hx hb dJ0_length_8abf5_9 ?_
  refine tk (y := nI (sl i9)) (sf_shr0 _) ?_
  rw [hQ9]
  exact endI X hr hlocks hP hD hS dJ0_length_8abf5_10 ⟨rfl, rfl⟩
set_option maxHeartbeats 4000000 in
set_option maxRecDepth 100000 in
theorem c_s_isLatin1 (l : Launch) (D : va_G) (cA cB : ClassId) (i9 : Nat) (hi9 : i9 < 5) : CI l yJ0_isLatin1_aae02 cJ0_isLatin1_aae02 1 (some .boolean) 0 0 0 0 D cA cB [.ref (aK D i9)] [] (fun r W1 => r = 1 ∧ W1 = []) := by
  refine mkI (lv0 := [(0, .ref (aK D i9))]) (by decide) (Nat.le_of_ble_eq_true rfl) rfl ?_
  intro p e s m below meth c A ls X hr hlocks hnm hE hA hP hD hS hl
  have hx := X.1
  have hb := X.2.1
  refine qW (fun Q9 hQ9 => ?_)
  refine va_gets (C := "java/lang/String") (n := "COMPACT_STRINGS") (d := "Z") hx hb (e_z3 hE) hS X.2.2.2.1 (X.2.2.2.2 _ w_416) (fun _ h9 => h9) dJ0_isLatin1_aae02_0 ?_
  refine lv_if_eq (tgt := 17) hx hb dJ0_isLatin1_aae02_3 (by decide) (fun c_3 => absurd c_3 (by decide)) (fun c_3 => ?_)
  refine lv_aload_n hx hb dJ0_isLatin1_aae02_6 rfl (lv_at hl 0 rfl) ?_
  refine vk_getf hx hb ((e_str hE).1 i9 (by omega : i9 < 5)).2.1 hS X.2.2.2.1 (X.2.2.2.2 _ w_417) (fun _ h9 => h9) dJ0_isLatin1_aae02_7 ?_
  refine lv_if_ne (tgt := 17) hx hb dJ0_isLatin1_aae02_10 (by decide) (fun c_10 => absurd (by decide) c_10) (fun c_10 => ?_)
  refine lv_iconst (v := 1) hx hb dJ0_isLatin1_aae02_13 (by decide) ?_
  refine lv_goto (tgt := 18) hx hb dJ0_isLatin1_aae02_14 (by decide) ?_
  rw [hQ9]
  exact endZ X hr rfl hlocks hP hD hS dJ0_isLatin1_aae02_18 ⟨rfl, rfl⟩
set_option maxHeartbeats 4000000 in
set_option maxRecDepth 100000 in
theorem c_s_pci0 (l : Launch) (D : va_G) (cA cB : ClassId) (j : Nat) (q : Nat) (hj : j < q) (hq : q < 97) : CI l yJ3_checkIndex_8e157 cJ3_checkIndex_8e157 3 (some .int) 0 0 0 0 D cA cB [.int (nI j), .int (nI q), .null] [] (fun r W1 => r = nI j ∧ W1 = []) := by
  refine mkI (lv0 := [(0, .int (nI j)), (1, .int (nI q)), (2, .null)]) (by decide) (Nat.le_of_ble_eq_true rfl) rfl ?_
  intro p e s m below meth c A ls X hr hlocks hnm hE hA hP hD hS hl
  have hx := X.1
  have hb := X.2.1
  refine qW (fun Q9 hQ9 => ?_)
  refine lv_iload_n hx hb dJ3_checkIndex_8e157_0 rfl (lv_at hl 0 rfl) ?_
  refine lv_if_lt (tgt := 9) hx hb dJ3_checkIndex_8e157_1 (by decide) (fun c_1 => absurd c_1 (nI_nneg (by omega))) (fun c_1 => ?_)
  refine lv_iload_n hx hb dJ3_checkIndex_8e157_4 rfl (lv_at hl 0 rfl) ?_
  refine lv_iload_n hx hb dJ3_checkIndex_8e157_5 rfl (lv_at hl 1 rfl) ?_
  refine lv_icmp_lt (tgt := 16) hx hb dJ3_checkIndex_8e157_6 (by decide) (fun c_6 => ?_) (fun c_6 => absurd (nI_lt (by omega) (by omega)) c_6)
  refine lv_iload_n hx hb dJ3_checkIndex_8e157_16 rfl (lv_at hl 0 rfl) ?_
  rw [hQ9]
  exact endI X hr hlocks hP hD hS dJ3_checkIndex_8e157_17 ⟨rfl, rfl⟩
set_option maxHeartbeats 4000000 in
set_option maxRecDepth 100000 in
theorem c_s_pci1 (l : Launch) (D : va_G) (cA cB : ClassId) (t0 : Nat) (j : Nat) (q : Nat) (hj : j < q) (hq : q < 97) : CI l yJ3_checkIndex_8e157 cJ3_checkIndex_8e157 3 (some .int) 0 0 0 0 D cA cB [.int (nI j), .int (nI q), .ref t0] [] (fun r W1 => r = nI j ∧ W1 = []) := by
  refine mkI (lv0 := [(0, .int (nI j)), (1, .int (nI q)), (2, .ref t0)]) (by decide) (Nat.le_of_ble_eq_true rfl) rfl ?_
  intro p e s m below meth c A ls X hr hlocks hnm hE hA hP hD hS hl
  have hx := X.1
  have hb := X.2.1
  refine qW (fun Q9 hQ9 => ?_)
  refine lv_iload_n hx hb dJ3_checkIndex_8e157_0 rfl (lv_at hl 0 rfl) ?_
  refine lv_if_lt (tgt := 9) hx hb dJ3_checkIndex_8e157_1 (by decide) (fun c_1 => absurd c_1 (nI_nneg (by omega))) (fun c_1 => ?_)
  refine lv_iload_n hx hb dJ3_checkIndex_8e157_4 rfl (lv_at hl 0 rfl) ?_
  refine lv_iload_n hx hb dJ3_checkIndex_8e157_5 rfl (lv_at hl 1 rfl) ?_
  refine lv_icmp_lt (tgt := 16) hx hb dJ3_checkIndex_8e157_6 (by decide) (fun c_6 => ?_) (fun c_6 => absurd (nI_lt (by omega) (by omega)) c_6)
  refine lv_iload_n hx hb dJ3_checkIndex_8e157_16 rfl (lv_at hl 0 rfl) ?_
  rw [hQ9]
  exact endI X hr hlocks hP hD hS dJ3_checkIndex_8e157_17 ⟨rfl, rfl⟩
set_option maxHeartbeats 4000000 in
set_option maxRecDepth 100000 in
theorem c_s_checkIndex (l : Launch) (D : va_G) (cA cB : ClassId) (j : Nat) (q : Nat) (hj : j < q) (hq : q < 97) : CV l yJ0_checkIndex_df160 cJ0_checkIndex_df160 2 none 1 22 0 0 D cA cB [.int (nI j), .int (nI q)] [] (fun W1 => W1 = []) := by
  refine mkV (lv0 := [(0, .int (nI j)), (1, .int (nI q))]) (by decide) (Nat.le_of_ble_eq_true rfl) rfl ?_
  intro p e s m below meth c A ls X hr hlocks hnm hE hA hP hD hS hl
  have hx := X.1
  have hb := X.2.1
  refine qW (fun Q9 hQ9 => ?_)
  refine lv_iload_n hx hb dJ0_checkIndex_df160_0 rfl (lv_at hl 0 rfl) ?_
  refine lv_iload_n hx hb dJ0_checkIndex_df160_1 rfl (lv_at hl 1 rfl) ?_
  rcases (e_z4 hE) with hZq | ⟨t9, hZq⟩
  · refine va_gets (C := "jdk/internal/util/Preconditions") (n := "SIOOBE_FORMATTER") (d := "Ljava/util/function/BiFunction;") hx hb hZq hS X.2.2.2.1 (X.2.2.2.2 _ w_424) (fun _ h9 => h9) dJ0_checkIndex_df160_2 ?_
    refine kSi (n3 := 3) (As := [.int (nI j), .int (nI q), .null]) (rest := []) X hl.1 hE hP hD hS hA [] [] [] [] rfl rfl rfl (by decide +kernel) (by decide +kernel) (by decide +kernel) (c_s_pci0 l D cA cB j q (by first | assumption | omega | decide | rfl) (by first | assumption | omega | decide | rfl)) w_426 w_427 w_425 w_428 (by decide +kernel) rfl rfl (Nat.le_of_ble_eq_true rfl) ⟨(Nat.le_of_ble_eq_true rfl), (Nat.le_of_ble_eq_true rfl)⟩ ⟨(Nat.le_of_ble_eq_true rfl), (Nat.le_of_ble_eq_true rfl)⟩ dJ0_checkIndex_df160_5 (fun r W1 H locs hw hP hD hS => ?_)
    obtain ⟨rfl, rfl⟩ := hw
    have hP : va_P D classes [] H := hP
    have hD : va_D A [] := hD
    refine lv_pop hx hb dJ0_checkIndex_df160_8 rfl ?_
    rw [hQ9]
    exact endV X hr hlocks hP hD hS dJ0_checkIndex_df160_9 rfl
  · refine va_gets (C := "jdk/internal/util/Preconditions") (n := "SIOOBE_FORMATTER") (d := "Ljava/util/function/BiFunction;") hx hb hZq hS X.2.2.2.1 (X.2.2.2.2 _ w_424) (fun _ h9 => h9) dJ0_checkIndex_df160_2 ?_
    refine kSi (n3 := 3) (As := [.int (nI j), .int (nI q), .ref t9]) (rest := []) X hl.1 hE hP hD hS hA [] [] [] [] rfl rfl rfl (by decide +kernel) (by decide +kernel) (by decide +kernel) (c_s_pci1 l D cA cB t9 j q (by first | assumption | omega | decide | rfl) (by first | assumption | omega | decide | rfl)) w_426 w_427 w_425 w_428 (by decide +kernel) rfl rfl (Nat.le_of_ble_eq_true rfl) ⟨(Nat.le_of_ble_eq_true rfl), (Nat.le_of_ble_eq_true rfl)⟩ ⟨(Nat.le_of_ble_eq_true rfl), (Nat.le_of_ble_eq_true rfl)⟩ dJ0_checkIndex_df160_5 (fun r W1 H locs hw hP hD hS => ?_)
    obtain ⟨rfl, rfl⟩ := hw
    have hP : va_P D classes [] H := hP
    have hD : va_D A [] := hD
    refine lv_pop hx hb dJ0_checkIndex_df160_8 rfl ?_
    rw [hQ9]
    exact endV X hr hlocks hP hD hS dJ0_checkIndex_df160_9 rfl
set_option maxHeartbeats 4000000 in
set_option maxRecDepth 100000 in
theorem c_s_lcharAt (l : Launch) (D : va_G) (cA cB : ClassId) (i9 : Nat) (j : Nat) (hi9 : i9 < 5) (hj : j < sl i9) : CI l yJ1_charAt_3b067 cJ1_charAt_3b067 2 (some .char) 2 43 0 0 D cA cB [.ref (aU D i9), .int (nI j)] [] (fun r W1 => ∃ (rk : Nat), r = nI rk ∧ (rk < 256) ∧ W1 = []) := by
  refine mkI (lv0 := [(0, .ref (aU D i9)), (1, .int (nI j))]) (by decide) (Nat.le_of_ble_eq_true rfl) rfl ?_
  intro p e s m below meth c A ls X hr hlocks hnm hE hA hP hD hS hl
  have hx := X.1
  have hb := X.2.1
  refine qW (fun Q9 hQ9 => ?_)
  have hsl := sl_le i9 (by omega)
  refine lv_iload_n hx hb dJ1_charAt_3b067_0 rfl (lv_at hl 1 rfl) ?_
  refine lv_aload_n hx hb dJ1_charAt_3b067_1 rfl (lv_at hl 0 rfl) ?_
  refine va_tlen (v := nI (sl i9)) hx hb ((e_str hE).1 i9 (by omega : i9 < 5)).2.2.2 hS rfl dJ1_charAt_3b067_2 ?_
  refine kSv (n3 := 2) (As := [.int (nI j), .int (nI (sl i9))]) (rest := []) X hl.1 hE hP hD hS hA [] [] [] [] rfl rfl rfl (by decide +kernel) (by decide +kernel) (by decide +kernel) (c_s_checkIndex l D cA cB j (sl i9) (by first | assumption | omega | decide | rfl) (by first | assumption | omega | decide | rfl)) w_430 w_421 w_429 w_431 (by decide +kernel) rfl rfl (Nat.le_of_ble_eq_true rfl) ⟨(Nat.le_of_ble_eq_true rfl), (Nat.le_of_ble_eq_true rfl)⟩ ⟨(Nat.le_of_ble_eq_true rfl), (Nat.le_of_ble_eq_true rfl)⟩ dJ1_charAt_3b067_3 (fun W1 H locs hw hP hD hS => ?_)
  obtain rfl := hw
  have hP : va_P D classes [] H := hP
  have hD : va_D A [] := hD
  refine lv_aload_n hx hb dJ1_charAt_3b067_6 rfl (lv_at hl 0 rfl) ?_
  refine lv_iload_n hx hb dJ1_charAt_3b067_7 rfl (lv_at hl 1 rfl) ?_
  refine va_tb hx hb ((e_str hE).1 i9 (by omega : i9 < 5)).2.2.2 hS (vp_in_nI (n := j) (N := slen.getD i9 0) (by show _ < sl i9; omega) (by have h9 := sl_le i9 (by omega : i9 < 5); show sl i9 < 2 ^ 31; omega)) (v := .int (sby i9 (nI j))) rfl dJ1_charAt_3b067_8 ?_
  refine lv_sipush (v := 255) hx hb dJ1_charAt_3b067_9 (by decide) ?_
  refine lv_iand hx hb dJ1_charAt_3b067_12 ?_
  obtain ⟨k_1, hk_1, ek_1⟩ := pk_andE (sby i9 (nI j)) (m := 255) 8 (by decide)
  have hk_1 : k_1 < 256 := hk_1
  refine tk (y := nI k_1) ek_1 ?_
  refine lv_i2c (v := nI k_1) hx hb dJ1_charAt_3b067_13 (sf_i2c (by omega)) ?_
  rw [hQ9]
  exact endT X hr (nar_c (by omega)) hlocks hP hD hS dJ1_charAt_3b067_14 ⟨k_1, rfl, (by omega), rfl⟩
set_option maxHeartbeats 4000000 in
set_option maxRecDepth 100000 in
theorem c_s_charAt (l : Launch) (D : va_G) (cA cB : ClassId) (i9 : Nat) (j : Nat) (hi9 : i9 < 5) (hj : j < sl i9) : CI l yJ0_charAt_5068e cJ0_charAt_5068e 2 (some .char) 3 64 0 0 D cA cB [.ref (aK D i9), .int (nI j)] [] (fun r W1 => ∃ (rk : Nat), r = nI rk ∧ (rk < 256) ∧ W1 = []) := by
  refine mkI (lv0 := [(0, .ref (aK D i9)), (1, .int (nI j))]) (by decide) (Nat.le_of_ble_eq_true rfl) rfl ?_
  intro p e s m below meth c A ls X hr hlocks hnm hE hA hP hD hS hl
  have hx := X.1
  have hb := X.2.1
  refine qW (fun Q9 hQ9 => ?_)
  have hsl := sl_le i9 (by omega)
  refine lv_aload_n hx hb dJ0_charAt_5068e_0 rfl (lv_at hl 0 rfl) ?_
  refine kVsi (n3 := 0) (As := []) (rest := []) X hl.1 hE hP hD hS hA [] rfl (by decide) (c_s_isLatin1 l D cA cB i9 (by first | assumption | omega | decide | rfl)) w_433 w_421 w_432 w_434 w_435 ((e_str hE).1 i9 (by omega : i9 < 5)).1 (by decide +kernel) rfl rfl (Nat.le_of_ble_eq_true rfl) ⟨(Nat.le_of_ble_eq_true rfl), (Nat.le_of_ble_eq_true rfl)⟩ ⟨(Nat.le_of_ble_eq_true rfl), (Nat.le_of_ble_eq_true rfl)⟩ dJ0_charAt_5068e_1 (fun r W1 H locs hw hP hD hS => ?_)
  obtain ⟨rfl, rfl⟩ := hw
  have hP : va_P D classes [] H := hP
  have hD : va_D A [] := hD
  refine lv_if_eq (tgt := 16) hx hb dJ0_charAt_5068e_4 (by decide) (fun c_4 => absurd c_4 (by decide)) (fun c_4 => ?_)
  refine lv_aload_n hx hb dJ0_charAt_5068e_7 rfl (lv_at hl 0 rfl) ?_
  refine vk_getf hx hb ((e_str hE).1 i9 (by omega : i9 < 5)).2.2.1 hS X.2.2.2.1 (X.2.2.2.2 _ w_418) (fun _ h9 => h9) dJ0_charAt_5068e_8 ?_
  refine lv_iload_n hx hb dJ0_charAt_5068e_11 rfl (lv_at hl 1 rfl) ?_
  refine kSi (n3 := 2) (As := [.ref (aU D i9), .int (nI j)]) (rest := []) X hl.1 hE hP hD hS hA [] [] [] [] rfl rfl rfl (by decide +kernel) (by decide +kernel) (by decide +kernel) (c_s_lcharAt l D cA cB i9 j (by first | assumption | omega | decide | rfl) (by first | assumption | omega | decide | rfl)) w_437 w_438 w_436 w_439 (by decide +kernel) rfl rfl (Nat.le_of_ble_eq_true rfl) ⟨(Nat.le_of_ble_eq_true rfl), (Nat.le_of_ble_eq_true rfl)⟩ ⟨(Nat.le_of_ble_eq_true rfl), (Nat.le_of_ble_eq_true rfl)⟩ dJ0_charAt_5068e_12 (fun r W1 H locs hw hP hD hS => ?_)
  obtain ⟨rk_1, rfl, hf_2, rfl⟩ := hw
  have hP : va_P D classes [] H := hP
  have hD : va_D A [] := hD
  rw [hQ9]
  exact endT X hr (nar_c (by omega)) hlocks hP hD hS dJ0_charAt_5068e_15 ⟨rk_1, rfl, (by omega), rfl⟩
set_option maxHeartbeats 4000000 in
set_option maxRecDepth 100000 in
theorem c_s_canEncode (l : Launch) (D : va_G) (cA cB : ClassId) (v : Int32)  : CI l yJ1_canEncode_9a6ad cJ1_canEncode_9a6ad 1 (some .boolean) 0 0 0 0 D cA cB [.int v] [] (fun r W1 => ∃ (rk : Nat), r = nI rk ∧ (rk < 2) ∧ W1 = []) := by
  refine mkI (lv0 := [(0, .int v)]) (by decide) (Nat.le_of_ble_eq_true rfl) rfl ?_
  intro p e s m below meth c A ls X hr hlocks hnm hE hA hP hD hS hl
  have hx := X.1
  have hb := X.2.1
  refine qW (fun Q9 hQ9 => ?_)
  refine lv_iload_n hx hb dJ1_canEncode_9a6ad_0 rfl (lv_at hl 0 rfl) ?_
  refine lv_if_lt (tgt := 15) hx hb dJ1_canEncode_9a6ad_1 (by decide) (fun c_1 => ?_) (fun c_1 => ?_)
  · skip
    refine lv_iconst (v := 0) hx hb dJ1_canEncode_9a6ad_15 (by decide) ?_
    rw [hQ9]
    exact endZ X hr rfl hlocks hP hD hS dJ1_canEncode_9a6ad_16 ⟨0, rfl, (by decide), rfl⟩
  · skip
    refine lv_iload_n hx hb dJ1_canEncode_9a6ad_4 rfl (lv_at hl 0 rfl) ?_
    refine lv_sipush (v := 255) hx hb dJ1_canEncode_9a6ad_5 (by decide) ?_
    refine lv_icmp_gt (tgt := 15) hx hb dJ1_canEncode_9a6ad_8 (by decide) (fun c_8 => ?_) (fun c_8 => ?_)
    · skip
      refine lv_iconst (v := 0) hx hb dJ1_canEncode_9a6ad_15 (by decide) ?_
      rw [hQ9]
      exact endZ X hr rfl hlocks hP hD hS dJ1_canEncode_9a6ad_16 ⟨0, rfl, (by decide), rfl⟩
    · skip
      refine lv_iconst (v := 1) hx hb dJ1_canEncode_9a6ad_11 (by decide) ?_
      refine lv_goto (tgt := 16) hx hb dJ1_canEncode_9a6ad_12 (by decide) ?_
      rw [hQ9]
      exact endZ X hr rfl hlocks hP hD hS dJ1_canEncode_9a6ad_16 ⟨1, rfl, (by decide), rfl⟩
set_option maxHeartbeats 4000000 in
set_option maxRecDepth 100000 in
theorem c_s_indexOfChar (l : Launch) (D : va_G) (cA cB : ClassId) (i9 : Nat) (v : Int32) (hi9 : i9 < 5) : CI l yJ1_indexOfChar_4cfef cJ1_indexOfChar_4cfef 6 (some .int) 0 0 0 0 D cA cB [.ref (aU D i9), .int v, .int 0, .int (nI (sl i9))] [] (fun r W1 => ∃ (rv : Int32), r = rv ∧ W1 = []) := by
  refine mkI (lv0 := [(0, .ref (aU D i9)), (1, .int v), (2, .int 0), (3, .int (nI (sl i9)))]) (by decide) (Nat.le_of_ble_eq_true rfl) rfl ?_
  intro p e s m below meth c A ls X hr hlocks hnm hE hA hP hD hS hl
  have hx := X.1
  have hb := X.2.1
  refine qW (fun Q9 hQ9 => ?_)
  have hsl := sl_le i9 (by omega)
  refine lv_iload_n hx hb dJ1_indexOfChar_4cfef_0 rfl (lv_at hl 1 rfl) ?_
  refine lv_i2b (v := v.toInt8.toInt32) hx hb dJ1_indexOfChar_4cfef_1 rfl ?_
  refine lv_istore (lv' := [(4, .int v.toInt8.toInt32), (0, .ref (aU D i9)), (1, .int v), (2, .int 0), (3, .int (nI (sl i9)))]) hx hb dJ1_indexOfChar_4cfef_2 hl (by decide) rfl (fun ls hl => ?_)
  refine lv_iload_n hx hb dJ1_indexOfChar_4cfef_4 rfl (lv_at hl 3 rfl) ?_
  refine lv_istore (lv' := [(5, .int 0), (4, .int v.toInt8.toInt32), (0, .ref (aU D i9)), (1, .int v), (2, .int 0), (3, .int (nI (sl i9)))]) hx hb dJ1_indexOfChar_4cfef_5 hl (by decide) rfl (fun ls hl => ?_)
  have loop_7 : ∀ (n : Nat) (i : Nat), (i ≤ sl i9) → sl i9 < i + n → ∀ (H : Heap) (locs : List Loc), va_P D classes [] H → va_D A [] → va_S A s.heap H locs → ∀ ls : Array Slot, lv_has ls 6 [(0, .ref (aU D i9)), (1, .int v), (2, .int 0), (3, .int (nI (sl i9))), (4, .int v.toInt8.toInt32), (5, .int (nI i))] → W p l e { frames := 0, cells := 0, slots := 0, locals := 0 } s m (List.toArray [.ref (aU D i9), .int v, .int 0, .int (nI (sl i9))]) below meth c H locs 0 0 Q9 (F0 m 7 ls []) := by
    intro n
    induction n with
    | zero => intro i hi hfuel; exact absurd hfuel (by omega)
    | succ n ih_7 =>
      intro i hi hfuel H locs hP hD hS ls hl
      refine lv_iload hx hb dJ1_indexOfChar_4cfef_7 (lv_at hl 5 rfl) ?_
      refine lv_iload_n hx hb dJ1_indexOfChar_4cfef_9 rfl (lv_at hl 3 rfl) ?_
      refine lv_icmp_ge (tgt := 31) hx hb dJ1_indexOfChar_4cfef_10 (by decide) (fun c_10_1 => ?_) (fun c_10_1 => ?_)
      · have nc_10_1 : (sl i9) ≤ i := (nI_leI (a := sl i9) (b := i) (by omega) (by omega)).mp c_10_1
        refine lv_iconst (v := (-1)) hx hb dJ1_indexOfChar_4cfef_31 (by decide) ?_
        rw [hQ9]
        exact endI X hr hlocks hP hD hS dJ1_indexOfChar_4cfef_32 ⟨(-1), rfl, rfl⟩
      · have nc_10_1 : i < (sl i9) := Nat.not_le.mp (fun q => c_10_1 ((nI_leI (a := sl i9) (b := i) (by omega) (by omega)).mpr q))
        refine lv_aload_n hx hb dJ1_indexOfChar_4cfef_13 rfl (lv_at hl 0 rfl) ?_
        refine lv_iload hx hb dJ1_indexOfChar_4cfef_14 (lv_at hl 5 rfl) ?_
        refine va_tb hx hb ((e_str hE).1 i9 (by omega : i9 < 5)).2.2.2 hS (vp_in_nI (n := i) (N := slen.getD i9 0) (by show _ < sl i9; omega) (by have h9 := sl_le i9 (by omega : i9 < 5); show sl i9 < 2 ^ 31; omega)) (v := .int (sby i9 (nI i))) rfl dJ1_indexOfChar_4cfef_16 ?_
        refine lv_iload hx hb dJ1_indexOfChar_4cfef_17 (lv_at hl 4 rfl) ?_
        refine lv_icmp_ne (tgt := 25) hx hb dJ1_indexOfChar_4cfef_19 (by decide) (fun c_19 => ?_) (fun c_19 => ?_)
        · skip
          refine lv_iinc (v := nI (i + 1)) (lv' := [(5, .int (nI (i + 1))), (0, .ref (aU D i9)), (1, .int v), (2, .int 0), (3, .int (nI (sl i9))), (4, .int v.toInt8.toInt32)]) hx hb dJ1_indexOfChar_4cfef_25 hl (k := 5) rfl (nI_1 i) (by decide) rfl (fun ls hl => ?_)
          refine lv_goto (tgt := 7) hx hb dJ1_indexOfChar_4cfef_28 (by decide) ?_
          exact ih_7 (i + 1) (by omega) (by omega) _ _ hP hD hS ls (lv_sub hl [1, 2, 3, 4, 5, 0] rfl)
        · skip
          refine lv_iload hx hb dJ1_indexOfChar_4cfef_22 (lv_at hl 5 rfl) ?_
          rw [hQ9]
          exact endI X hr hlocks hP hD hS dJ1_indexOfChar_4cfef_24 ⟨(nI i), rfl, rfl⟩
  exact loop_7 (sl i9 + 1) 0 (by omega) (by omega) _ _ hP hD hS ls (lv_sub hl [2, 3, 4, 5, 1, 0] rfl)
set_option maxHeartbeats 4000000 in
set_option maxRecDepth 100000 in
theorem c_s_lindexOf (l : Launch) (D : va_G) (cA cB : ClassId) (i9 : Nat) (v : Int32) (hi9 : i9 < 5) : CI l yJ1_indexOf_4cfef cJ1_indexOf_4cfef 4 (some .int) 1 25 0 0 D cA cB [.ref (aU D i9), .int v, .int 0, .int (nI (sl i9))] [] (fun r W1 => ∃ (rv : Int32), r = rv ∧ W1 = []) := by
  refine mkI (lv0 := [(0, .ref (aU D i9)), (1, .int v), (2, .int 0), (3, .int (nI (sl i9)))]) (by decide) (Nat.le_of_ble_eq_true rfl) rfl ?_
  intro p e s m below meth c A ls X hr hlocks hnm hE hA hP hD hS hl
  have hx := X.1
  have hb := X.2.1
  refine qW (fun Q9 hQ9 => ?_)
  have hsl := sl_le i9 (by omega)
  refine lv_iload_n hx hb dJ1_indexOf_4cfef_0 rfl (lv_at hl 1 rfl) ?_
  refine kSi (n3 := 1) (As := [.int v]) (rest := []) X hl.1 hE hP hD hS hA [] [] [] [] rfl rfl rfl (by decide +kernel) (by decide +kernel) (by decide +kernel) (c_s_canEncode l D cA cB v ) w_441 w_438 w_440 w_442 (by decide +kernel) rfl rfl (Nat.le_of_ble_eq_true rfl) ⟨(Nat.le_of_ble_eq_true rfl), (Nat.le_of_ble_eq_true rfl)⟩ ⟨(Nat.le_of_ble_eq_true rfl), (Nat.le_of_ble_eq_true rfl)⟩ dJ1_indexOf_4cfef_1 (fun r W1 H locs hw hP hD hS => ?_)
  obtain ⟨rk_1, rfl, hf_2, rfl⟩ := hw
  have hP : va_P D classes [] H := hP
  have hD : va_D A [] := hD
  refine lv_if_ne (tgt := 9) hx hb dJ1_indexOf_4cfef_4 (by decide) (fun c_4_3 => ?_) (fun c_4_3 => ?_)
  · have nc_4_3 : ¬ rk_1 = 0 := fun q => c_4_3 ((nI_eq (a := rk_1) (b := 0) (by omega) (by omega)).mpr q)
    refine lv_iload_n hx hb dJ1_indexOf_4cfef_9 rfl (lv_at hl 2 rfl) ?_
    refine lv_iconst (v := 0) hx hb dJ1_indexOf_4cfef_10 (by decide) ?_
    refine va_mmax hx hb (X.2.2.1.trans hl.1.symm) X.2.2.2.1 (X.2.2.2.2 _ w_443) (X.2.2.2.2 _ w_42) (X.2.2.2.2 _ w_43) (X.2.2.2.2 _ w_44) (Nat.le_of_ble_eq_true rfl) (Nat.le_of_ble_eq_true rfl) (Nat.le_of_ble_eq_true rfl) (Nat.le_of_ble_eq_true rfl) dJ1_indexOf_4cfef_11 ?_
    refine tk (y := 0) (by decide) ?_
    refine lv_istore_n (lv' := [(2, .int 0), (0, .ref (aU D i9)), (1, .int v), (3, .int (nI (sl i9)))]) hx hb dJ1_indexOf_4cfef_14 rfl hl (by decide) rfl (fun ls hl => ?_)
    refine lv_iload_n hx hb dJ1_indexOf_4cfef_15 rfl (lv_at hl 3 rfl) ?_
    refine lv_aload_n hx hb dJ1_indexOf_4cfef_16 rfl (lv_at hl 1 rfl) ?_
    refine va_tlen (v := nI (sl i9)) hx hb ((e_str hE).1 i9 (by omega : i9 < 5)).2.2.2 hS rfl dJ1_indexOf_4cfef_17 ?_
    refine va_mmin hx hb (X.2.2.1.trans hl.1.symm) X.2.2.2.1 (X.2.2.2.2 _ w_444) (X.2.2.2.2 _ w_57) (X.2.2.2.2 _ w_43) (X.2.2.2.2 _ w_58) (Nat.le_of_ble_eq_true rfl) (Nat.le_of_ble_eq_true rfl) (Nat.le_of_ble_eq_true rfl) (Nat.le_of_ble_eq_true rfl) dJ1_indexOf_4cfef_18 ?_
    refine tk (y := nI (sl i9)) (by split <;> rfl) ?_
    refine lv_istore_n (lv' := [(3, .int (nI (sl i9))), (2, .int 0), (0, .ref (aU D i9)), (1, .int v)]) hx hb dJ1_indexOf_4cfef_21 rfl hl (by decide) rfl (fun ls hl => ?_)
    refine lv_iload_n hx hb dJ1_indexOf_4cfef_22 rfl (lv_at hl 1 rfl) ?_
    refine lv_iload_n hx hb dJ1_indexOf_4cfef_23 rfl (lv_at hl 0 rfl) ?_
    refine lv_icmp_lt (tgt := 29) hx hb dJ1_indexOf_4cfef_24 (by decide) (fun c_24_4 => ?_) (fun c_24_4 => ?_)
    · have nc_24_4 : 0 < (sl i9) := (nI_ltI (a := 0) (b := sl i9) (by omega) (by omega)).mp c_24_4
      refine lv_aload_n hx hb dJ1_indexOf_4cfef_29 rfl (lv_at hl 2 rfl) ?_
      refine lv_iload_n hx hb dJ1_indexOf_4cfef_30 rfl (lv_at hl 3 rfl) ?_
      refine lv_iload_n hx hb dJ1_indexOf_4cfef_31 rfl (lv_at hl 1 rfl) ?_
      refine lv_iload_n hx hb dJ1_indexOf_4cfef_32 rfl (lv_at hl 0 rfl) ?_
      refine kSi (n3 := 4) (As := [.ref (aU D i9), .int v, .int 0, .int (nI (sl i9))]) (rest := []) X hl.1 hE hP hD hS hA [] [] [] [] rfl rfl rfl (by decide +kernel) (by decide +kernel) (by decide +kernel) (c_s_indexOfChar l D cA cB i9 v (by first | assumption | omega | decide | rfl)) w_446 w_438 w_445 w_447 (by decide +kernel) rfl rfl (Nat.le_of_ble_eq_true rfl) ⟨(Nat.le_of_ble_eq_true rfl), (Nat.le_of_ble_eq_true rfl)⟩ ⟨(Nat.le_of_ble_eq_true rfl), (Nat.le_of_ble_eq_true rfl)⟩ dJ1_indexOf_4cfef_33 (fun r W1 H locs hw hP hD hS => ?_)
      obtain ⟨rv_5, er_6, rfl⟩ := hw
      have hP : va_P D classes [] H := hP
      have hD : va_D A [] := hD
      refine tk (y := rv_5) er_6 ?_
      rw [hQ9]
      exact endI X hr hlocks hP hD hS dJ1_indexOf_4cfef_36 ⟨rv_5, rfl, rfl⟩
    · have nc_24_4 : (sl i9) ≤ 0 := Nat.not_lt.mp (fun q => c_24_4 ((nI_ltI (a := 0) (b := sl i9) (by omega) (by omega)).mpr q))
      refine lv_iconst (v := (-1)) hx hb dJ1_indexOf_4cfef_27 (by decide) ?_
      rw [hQ9]
      exact endI X hr hlocks hP hD hS dJ1_indexOf_4cfef_28 ⟨(-1), rfl, rfl⟩
  · have nc_4_3 : rk_1 = 0 := (nI_eq (a := rk_1) (b := 0) (by omega) (by omega)).mp c_4_3
    refine lv_iconst (v := (-1)) hx hb dJ1_indexOf_4cfef_7 (by decide) ?_
    rw [hQ9]
    exact endI X hr hlocks hP hD hS dJ1_indexOf_4cfef_8 ⟨(-1), rfl, rfl⟩
set_option maxHeartbeats 4000000 in
set_option maxRecDepth 100000 in
theorem c_s_indexOf2 (l : Launch) (D : va_G) (cA cB : ClassId) (i9 : Nat) (v : Int32) (hi9 : i9 < 5) : CI l yJ0_indexOf_7cf53 cJ0_indexOf_7cf53 3 (some .int) 2 48 0 0 D cA cB [.ref (aK D i9), .int v, .int 0] [] (fun r W1 => ∃ (rv : Int32), r = rv ∧ W1 = []) := by
  refine mkI (lv0 := [(0, .ref (aK D i9)), (1, .int v), (2, .int 0)]) (by decide) (Nat.le_of_ble_eq_true rfl) rfl ?_
  intro p e s m below meth c A ls X hr hlocks hnm hE hA hP hD hS hl
  have hx := X.1
  have hb := X.2.1
  refine qW (fun Q9 hQ9 => ?_)
  refine lv_aload_n hx hb dJ0_indexOf_7cf53_0 rfl (lv_at hl 0 rfl) ?_
  refine kVsi (n3 := 0) (As := []) (rest := []) X hl.1 hE hP hD hS hA [] rfl (by decide) (c_s_isLatin1 l D cA cB i9 (by first | assumption | omega | decide | rfl)) w_433 w_421 w_432 w_434 w_435 ((e_str hE).1 i9 (by omega : i9 < 5)).1 (by decide +kernel) rfl rfl (Nat.le_of_ble_eq_true rfl) ⟨(Nat.le_of_ble_eq_true rfl), (Nat.le_of_ble_eq_true rfl)⟩ ⟨(Nat.le_of_ble_eq_true rfl), (Nat.le_of_ble_eq_true rfl)⟩ dJ0_indexOf_7cf53_1 (fun r W1 H locs hw hP hD hS => ?_)
  obtain ⟨rfl, rfl⟩ := hw
  have hP : va_P D classes [] H := hP
  have hD : va_D A [] := hD
  refine lv_if_eq (tgt := 23) hx hb dJ0_indexOf_7cf53_4 (by decide) (fun c_4 => absurd c_4 (by decide)) (fun c_4 => ?_)
  refine lv_aload_n hx hb dJ0_indexOf_7cf53_7 rfl (lv_at hl 0 rfl) ?_
  refine vk_getf hx hb ((e_str hE).1 i9 (by omega : i9 < 5)).2.2.1 hS X.2.2.2.1 (X.2.2.2.2 _ w_418) (fun _ h9 => h9) dJ0_indexOf_7cf53_8 ?_
  refine lv_iload_n hx hb dJ0_indexOf_7cf53_11 rfl (lv_at hl 1 rfl) ?_
  refine lv_iload_n hx hb dJ0_indexOf_7cf53_12 rfl (lv_at hl 2 rfl) ?_
  refine lv_aload_n hx hb dJ0_indexOf_7cf53_13 rfl (lv_at hl 0 rfl) ?_
  refine kVsi (n3 := 0) (As := []) (rest := [.int 0, .int v, .ref (aU D i9)]) X hl.1 hE hP hD hS hA [] rfl (by decide) (c_s_length l D cA cB i9 (by first | assumption | omega | decide | rfl)) w_449 w_421 w_448 w_450 w_451 ((e_str hE).1 i9 (by omega : i9 < 5)).1 (by decide +kernel) rfl rfl (Nat.le_of_ble_eq_true rfl) ⟨(Nat.le_of_ble_eq_true rfl), (Nat.le_of_ble_eq_true rfl)⟩ ⟨(Nat.le_of_ble_eq_true rfl), (Nat.le_of_ble_eq_true rfl)⟩ dJ0_indexOf_7cf53_14 (fun r W1 H locs hw hP hD hS => ?_)
  obtain ⟨rfl, rfl⟩ := hw
  have hP : va_P D classes [] H := hP
  have hD : va_D A [] := hD
  refine kSi (n3 := 4) (As := [.ref (aU D i9), .int v, .int 0, .int (nI (sl i9))]) (rest := []) X hl.1 hE hP hD hS hA [] [] [] [] rfl rfl rfl (by decide +kernel) (by decide +kernel) (by decide +kernel) (c_s_lindexOf l D cA cB i9 v (by first | assumption | omega | decide | rfl)) w_453 w_438 w_452 w_454 (by decide +kernel) rfl rfl (Nat.le_of_ble_eq_true rfl) ⟨(Nat.le_of_ble_eq_true rfl), (Nat.le_of_ble_eq_true rfl)⟩ ⟨(Nat.le_of_ble_eq_true rfl), (Nat.le_of_ble_eq_true rfl)⟩ dJ0_indexOf_7cf53_17 (fun r W1 H locs hw hP hD hS => ?_)
  obtain ⟨rv_1, er_2, rfl⟩ := hw
  have hP : va_P D classes [] H := hP
  have hD : va_D A [] := hD
  refine tk (y := rv_1) er_2 ?_
  refine lv_goto (tgt := 36) hx hb dJ0_indexOf_7cf53_20 (by decide) ?_
  rw [hQ9]
  exact endI X hr hlocks hP hD hS dJ0_indexOf_7cf53_36 ⟨rv_1, rfl, rfl⟩
set_option maxHeartbeats 4000000 in
set_option maxRecDepth 100000 in
theorem c_s_indexOf (l : Launch) (D : va_G) (cA cB : ClassId) (i9 : Nat) (v : Int32) (hi9 : i9 < 5) : CI l yJ0_indexOf_0f7a4 cJ0_indexOf_0f7a4 2 (some .int) 3 70 0 0 D cA cB [.ref (aK D i9), .int v] [] (fun r W1 => ∃ (rv : Int32), r = rv ∧ W1 = []) := by
  refine mkI (lv0 := [(0, .ref (aK D i9)), (1, .int v)]) (by decide) (Nat.le_of_ble_eq_true rfl) rfl ?_
  intro p e s m below meth c A ls X hr hlocks hnm hE hA hP hD hS hl
  have hx := X.1
  have hb := X.2.1
  refine qW (fun Q9 hQ9 => ?_)
  refine lv_aload_n hx hb dJ0_indexOf_0f7a4_0 rfl (lv_at hl 0 rfl) ?_
  refine lv_iload_n hx hb dJ0_indexOf_0f7a4_1 rfl (lv_at hl 1 rfl) ?_
  refine lv_iconst (v := 0) hx hb dJ0_indexOf_0f7a4_2 (by decide) ?_
  refine kVsi (n3 := 2) (As := [.int v, .int 0]) (rest := []) X hl.1 hE hP hD hS hA [] rfl (by decide) (c_s_indexOf2 l D cA cB i9 v (by first | assumption | omega | decide | rfl)) w_456 w_421 w_455 w_457 w_458 ((e_str hE).1 i9 (by omega : i9 < 5)).1 (by decide +kernel) rfl rfl (Nat.le_of_ble_eq_true rfl) ⟨(Nat.le_of_ble_eq_true rfl), (Nat.le_of_ble_eq_true rfl)⟩ ⟨(Nat.le_of_ble_eq_true rfl), (Nat.le_of_ble_eq_true rfl)⟩ dJ0_indexOf_0f7a4_3 (fun r W1 H locs hw hP hD hS => ?_)
  obtain ⟨rv_1, er_2, rfl⟩ := hw
  have hP : va_P D classes [] H := hP
  have hD : va_D A [] := hD
  refine tk (y := rv_1) er_2 ?_
  rw [hQ9]
  exact endI X hr hlocks hP hD hS dJ0_indexOf_0f7a4_6 ⟨rv_1, rfl, rfl⟩
