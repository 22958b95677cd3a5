def RJ3 : String := "jdk/internal/util/Preconditions"
abbrev cJ3_checkIndex_8e157 : ByteArray := prog_19_method_11_code
def yJ3_checkIndex_8e157 : MethodName := ⟨RJ3, "checkIndex", "(IILjava/util/function/BiFunction;)I"⟩
def RJ0 : String := "java/lang/String"
abbrev cJ0_checkIndex_df160 : ByteArray := prog_14_method_155_code
def yJ0_checkIndex_df160 : MethodName := ⟨RJ0, "checkIndex", "(II)V"⟩
abbrev cX5_tell : ByteArray := prog_7_method_2_code
def yX5_tell : MethodName := ⟨RX5, "tell", "([II)I"⟩
abbrev cX5_putWord : ByteArray := prog_7_method_6_code
def yX5_putWord : MethodName := ⟨RX5, "putWord", "(Ljava/lang/String;I)V"⟩
abbrev cJ0_length_8abf5 : ByteArray := prog_14_method_54_code
def yJ0_length_8abf5 : MethodName := ⟨RJ0, "length", "()I"⟩
abbrev cJ0_coder_7d493 : ByteArray := prog_14_method_152_code
def yJ0_coder_7d493 : MethodName := ⟨RJ0, "coder", "()B"⟩
abbrev cJ0_charAt_5068e : ByteArray := prog_14_method_56_code
def yJ0_charAt_5068e : MethodName := ⟨RJ0, "charAt", "(I)C"⟩
abbrev cJ0_isLatin1_aae02 : ByteArray := prog_14_method_154_code
def yJ0_isLatin1_aae02 : MethodName := ⟨RJ0, "isLatin1", "()Z"⟩
def RJ1 : String := "java/lang/StringLatin1"
abbrev cJ1_charAt_3b067 : ByteArray := prog_15_method_2_code
def yJ1_charAt_3b067 : MethodName := ⟨RJ1, "charAt", "([BI)C"⟩
abbrev cX5_put : ByteArray := prog_7_method_8_code
def yX5_put : MethodName := ⟨RX5, "put", "(I)V"⟩
abbrev cX5_tellWay : ByteArray := prog_7_method_3_code
def yX5_tellWay : MethodName := ⟨RX5, "tellWay", "(II)V"⟩
abbrev cX5_putNumber : ByteArray := prog_7_method_7_code
def yX5_putNumber : MethodName := ⟨RX5, "putNumber", "(I)V"⟩
abbrev cX8_text : ByteArray := prog_1_method_21_code
def yX8_text : MethodName := ⟨RX8, "text", "(I)I"⟩
set_option maxRecDepth 100000 in
theorem w_295 : (Cond.fieldLink "java/lang/String" 1053 "jdk/internal/util/Preconditions" "SIOOBE_FORMATTER" "Ljava/util/function/BiFunction;" : Cond) ∈ gw := List.mem_filter.mpr ⟨List.mem_append_right _ (tb2 (List.mem_of_getElem? (i := 154) rfl)), rfl⟩
set_option maxRecDepth 100000 in
theorem w_296 : (Cond.methodLink "java/lang/String" 1059 yJ3_checkIndex_8e157 : Cond) ∈ gw := List.mem_filter.mpr ⟨List.mem_append_right _ (tb2 (List.mem_of_getElem? (i := 156) rfl)), rfl⟩
set_option maxRecDepth 100000 in
theorem w_297 : (Cond.code yJ3_checkIndex_8e157 prog_19_method_11_code 3 (Option.some Jvm.ClassFile.FieldType.int) : Cond) ∈ gw := List.mem_filter.mpr ⟨List.mem_append_right _ (tb2 (List.mem_of_getElem? (i := 158) rfl)), rfl⟩
set_option maxRecDepth 100000 in
theorem w_298 : (Cond.initialized "jdk/internal/util/Preconditions" : Cond) ∈ gw := List.mem_filter.mpr ⟨List.mem_append_right _ (tb1 (List.mem_of_getElem? (i := 14) rfl)), rfl⟩
set_option maxRecDepth 100000 in
theorem w_299 : (Cond.static yJ3_checkIndex_8e157 : Cond) ∈ gw := List.mem_filter.mpr ⟨List.mem_append_right _ (tb2 (List.mem_of_getElem? (i := 157) rfl)), rfl⟩
set_option maxRecDepth 100000 in
theorem w_300 : (Cond.fieldLink "BelfryBox$Reader" 15 "BelfryBox$Reader" "length" "I" : Cond) ∈ gw := List.mem_filter.mpr ⟨List.mem_append_right _ (tb2 (List.mem_of_getElem? (i := 16) rfl)), rfl⟩
set_option maxRecDepth 100000 in
theorem w_301 : (Cond.fieldLink "java/lang/String" 9 "java/lang/String" "value" "[B" : Cond) ∈ gw := List.mem_filter.mpr ⟨List.mem_append_right _ (tb7 (List.mem_of_getElem? (i := 213) rfl)), rfl⟩
set_option maxRecDepth 100000 in
theorem w_302 : (Cond.fieldLink "java/lang/String" 38 "java/lang/String" "COMPACT_STRINGS" "Z" : Cond) ∈ gw := List.mem_filter.mpr ⟨List.mem_append_right _ (tb2 (List.mem_of_getElem? (i := 138) rfl)), rfl⟩
set_option maxRecDepth 100000 in
theorem w_303 : (Cond.fieldLink "java/lang/String" 15 "java/lang/String" "coder" "B" : Cond) ∈ gw := List.mem_filter.mpr ⟨List.mem_append_right _ (tb7 (List.mem_of_getElem? (i := 214) rfl)), rfl⟩
set_option maxRecDepth 100000 in
theorem w_304 : (Cond.methodLink "java/lang/String" 335 yJ0_coder_7d493 : Cond) ∈ gw := List.mem_filter.mpr ⟨List.mem_append_right _ (tb2 (List.mem_of_getElem? (i := 134) rfl)), rfl⟩
set_option maxRecDepth 100000 in
theorem w_305 : (Cond.code yJ0_coder_7d493 prog_14_method_152_code 1 (Option.some Jvm.ClassFile.FieldType.byte) : Cond) ∈ gw := List.mem_filter.mpr ⟨List.mem_append_right _ (tb2 (List.mem_of_getElem? (i := 137) rfl)), rfl⟩
set_option maxRecDepth 100000 in
theorem w_306 : (Cond.initialized "java/lang/String" : Cond) ∈ gw := List.mem_filter.mpr ⟨List.mem_append_right _ (tb1 (List.mem_of_getElem? (i := 12) rfl)), rfl⟩
set_option maxRecDepth 100000 in
theorem w_307 : (Cond.instanceMethod yJ0_coder_7d493 : Cond) ∈ gw := List.mem_filter.mpr ⟨List.mem_append_right _ (tb2 (List.mem_of_getElem? (i := 135) rfl)), rfl⟩
set_option maxRecDepth 100000 in
theorem w_308 : (Cond.selects "java/lang/String" yJ0_coder_7d493 yJ0_coder_7d493 : Cond) ∈ gw := List.mem_filter.mpr ⟨List.mem_append_right _ (tb2 (List.mem_of_getElem? (i := 136) rfl)), rfl⟩
set_option maxRecDepth 100000 in
theorem w_309 : (Cond.methodLink "BelfryBox$Reader" 62 yJ0_length_8abf5 : Cond) ∈ gw := List.mem_filter.mpr ⟨List.mem_append_right _ (tb5 (List.mem_of_getElem? (i := 11) rfl)), rfl⟩
set_option maxRecDepth 100000 in
theorem w_310 : (Cond.code yJ0_length_8abf5 prog_14_method_54_code 1 (Option.some Jvm.ClassFile.FieldType.int) : Cond) ∈ gw := List.mem_filter.mpr ⟨List.mem_append_right _ (tb2 (List.mem_of_getElem? (i := 133) rfl)), rfl⟩
set_option maxRecDepth 100000 in
theorem w_311 : (Cond.instanceMethod yJ0_length_8abf5 : Cond) ∈ gw := List.mem_filter.mpr ⟨List.mem_append_right _ (tb2 (List.mem_of_getElem? (i := 131) rfl)), rfl⟩
set_option maxRecDepth 100000 in
theorem w_312 : (Cond.selects "java/lang/String" yJ0_length_8abf5 yJ0_length_8abf5 : Cond) ∈ gw := List.mem_filter.mpr ⟨List.mem_append_right _ (tb2 (List.mem_of_getElem? (i := 132) rfl)), rfl⟩
set_option maxRecDepth 100000 in
theorem w_313 : (Cond.methodLink "java/lang/String" 492 yJ0_isLatin1_aae02 : Cond) ∈ gw := List.mem_filter.mpr ⟨List.mem_append_right _ (tb2 (List.mem_of_getElem? (i := 144) rfl)), rfl⟩
set_option maxRecDepth 100000 in
theorem w_314 : (Cond.code yJ0_isLatin1_aae02 prog_14_method_154_code 1 (Option.some Jvm.ClassFile.FieldType.boolean) : Cond) ∈ gw := List.mem_filter.mpr ⟨List.mem_append_right _ (tb2 (List.mem_of_getElem? (i := 147) rfl)), rfl⟩
set_option maxRecDepth 100000 in
theorem w_315 : (Cond.instanceMethod yJ0_isLatin1_aae02 : Cond) ∈ gw := List.mem_filter.mpr ⟨List.mem_append_right _ (tb2 (List.mem_of_getElem? (i := 145) rfl)), rfl⟩
set_option maxRecDepth 100000 in
theorem w_316 : (Cond.selects "java/lang/String" yJ0_isLatin1_aae02 yJ0_isLatin1_aae02 : Cond) ∈ gw := List.mem_filter.mpr ⟨List.mem_append_right _ (tb2 (List.mem_of_getElem? (i := 146) rfl)), rfl⟩
set_option maxRecDepth 100000 in
theorem w_317 : (Cond.methodLink "java/lang/StringLatin1" 9 yJ0_checkIndex_df160 : Cond) ∈ gw := List.mem_filter.mpr ⟨List.mem_append_right _ (tb2 (List.mem_of_getElem? (i := 151) rfl)), rfl⟩
set_option maxRecDepth 100000 in
theorem w_318 : (Cond.code yJ0_checkIndex_df160 prog_14_method_155_code 2 (Option.none : Option Jvm.ClassFile.FieldType) : Cond) ∈ gw := List.mem_filter.mpr ⟨List.mem_append_right _ (tb2 (List.mem_of_getElem? (i := 153) rfl)), rfl⟩
set_option maxRecDepth 100000 in
theorem w_319 : (Cond.static yJ0_checkIndex_df160 : Cond) ∈ gw := List.mem_filter.mpr ⟨List.mem_append_right _ (tb2 (List.mem_of_getElem? (i := 152) rfl)), rfl⟩
set_option maxRecDepth 100000 in
theorem w_320 : (Cond.methodLink "java/lang/String" 495 yJ1_charAt_3b067 : Cond) ∈ gw := List.mem_filter.mpr ⟨List.mem_append_right _ (tb2 (List.mem_of_getElem? (i := 148) rfl)), rfl⟩
set_option maxRecDepth 100000 in
theorem w_321 : (Cond.code yJ1_charAt_3b067 prog_15_method_2_code 2 (Option.some Jvm.ClassFile.FieldType.char) : Cond) ∈ gw := List.mem_filter.mpr ⟨List.mem_append_right _ (tb2 (List.mem_of_getElem? (i := 150) rfl)), rfl⟩
set_option maxRecDepth 100000 in
theorem w_322 : (Cond.initialized "java/lang/StringLatin1" : Cond) ∈ gw := List.mem_filter.mpr ⟨List.mem_append_right _ (tb1 (List.mem_of_getElem? (i := 13) rfl)), rfl⟩
set_option maxRecDepth 100000 in
theorem w_323 : (Cond.static yJ1_charAt_3b067 : Cond) ∈ gw := List.mem_filter.mpr ⟨List.mem_append_right _ (tb2 (List.mem_of_getElem? (i := 149) rfl)), rfl⟩
set_option maxRecDepth 100000 in
theorem w_324 : (Cond.methodLink "BelfryBox$Reader" 67 yJ0_charAt_5068e : Cond) ∈ gw := List.mem_filter.mpr ⟨List.mem_append_right _ (tb5 (List.mem_of_getElem? (i := 12) rfl)), rfl⟩
set_option maxRecDepth 100000 in
theorem w_325 : (Cond.code yJ0_charAt_5068e prog_14_method_56_code 2 (Option.some Jvm.ClassFile.FieldType.char) : Cond) ∈ gw := List.mem_filter.mpr ⟨List.mem_append_right _ (tb2 (List.mem_of_getElem? (i := 143) rfl)), rfl⟩
set_option maxRecDepth 100000 in
theorem w_326 : (Cond.instanceMethod yJ0_charAt_5068e : Cond) ∈ gw := List.mem_filter.mpr ⟨List.mem_append_right _ (tb2 (List.mem_of_getElem? (i := 141) rfl)), rfl⟩
set_option maxRecDepth 100000 in
theorem w_327 : (Cond.selects "java/lang/String" yJ0_charAt_5068e yJ0_charAt_5068e : Cond) ∈ gw := List.mem_filter.mpr ⟨List.mem_append_right _ (tb2 (List.mem_of_getElem? (i := 142) rfl)), rfl⟩
set_option maxRecDepth 100000 in
theorem w_328 : (Cond.methodLink "BelfryBox$Reader" 33 yX5_put : Cond) ∈ gw := List.mem_filter.mpr ⟨List.mem_append_right _ (tb5 (List.mem_of_getElem? (i := 13) rfl)), rfl⟩
set_option maxRecDepth 100000 in
theorem w_329 : (Cond.code yX5_put prog_7_method_8_code 2 (Option.none : Option Jvm.ClassFile.FieldType) : Cond) ∈ gw := List.mem_filter.mpr ⟨List.mem_append_right _ (tb5 (List.mem_of_getElem? (i := 16) rfl)), rfl⟩
set_option maxRecDepth 100000 in
theorem w_330 : (Cond.instanceMethod yX5_put : Cond) ∈ gw := List.mem_filter.mpr ⟨List.mem_append_right _ (tb5 (List.mem_of_getElem? (i := 15) rfl)), rfl⟩
set_option maxRecDepth 100000 in
theorem w_331 : (Cond.selects "BelfryBox$Reader" yX5_put yX5_put : Cond) ∈ gw := List.mem_filter.mpr ⟨List.mem_append_left _ (List.mem_map.mpr ⟨(⟨"BelfryBox$Reader", "put", "(I)V"⟩, 2), sl5 (List.mem_of_getElem? (i := 15) rfl), rfl⟩), rfl⟩
set_option maxRecDepth 100000 in
theorem w_332 : (Cond.methodLink "BelfryBox$Reader" 29 yX5_putWord : Cond) ∈ gw := List.mem_filter.mpr ⟨List.mem_append_right _ (tb5 (List.mem_of_getElem? (i := 7) rfl)), rfl⟩
set_option maxRecDepth 100000 in
theorem w_333 : (Cond.code yX5_putWord prog_7_method_6_code 4 (Option.none : Option Jvm.ClassFile.FieldType) : Cond) ∈ gw := List.mem_filter.mpr ⟨List.mem_append_right _ (tb5 (List.mem_of_getElem? (i := 10) rfl)), rfl⟩
set_option maxRecDepth 100000 in
theorem w_334 : (Cond.instanceMethod yX5_putWord : Cond) ∈ gw := List.mem_filter.mpr ⟨List.mem_append_right _ (tb5 (List.mem_of_getElem? (i := 9) rfl)), rfl⟩
set_option maxRecDepth 100000 in
theorem w_335 : (Cond.selects "BelfryBox$Reader" yX5_putWord yX5_putWord : Cond) ∈ gw := List.mem_filter.mpr ⟨List.mem_append_left _ (List.mem_map.mpr ⟨(⟨"BelfryBox$Reader", "putWord", "(Ljava/lang/String;I)V"⟩, 2), sl5 (List.mem_of_getElem? (i := 14) rfl), rfl⟩), rfl⟩
set_option maxRecDepth 100000 in
theorem w_336 : (Cond.methodLink "BelfryBox$Reader" 40 yX5_putNumber : Cond) ∈ gw := List.mem_filter.mpr ⟨List.mem_append_right _ (tb5 (List.mem_of_getElem? (i := 21) rfl)), rfl⟩
set_option maxRecDepth 100000 in
theorem w_337 : (Cond.code yX5_putNumber prog_7_method_7_code 3 (Option.none : Option Jvm.ClassFile.FieldType) : Cond) ∈ gw := List.mem_filter.mpr ⟨List.mem_append_right _ (tb5 (List.mem_of_getElem? (i := 24) rfl)), rfl⟩
set_option maxRecDepth 100000 in
theorem w_338 : (Cond.instanceMethod yX5_putNumber : Cond) ∈ gw := List.mem_filter.mpr ⟨List.mem_append_right _ (tb5 (List.mem_of_getElem? (i := 23) rfl)), rfl⟩
set_option maxRecDepth 100000 in
theorem w_339 : (Cond.selects "BelfryBox$Reader" yX5_putNumber yX5_putNumber : Cond) ∈ gw := List.mem_filter.mpr ⟨List.mem_append_left _ (List.mem_map.mpr ⟨(⟨"BelfryBox$Reader", "putNumber", "(I)V"⟩, 2), sl6 (List.mem_of_getElem? (i := 1) rfl), rfl⟩), rfl⟩
set_option maxRecDepth 100000 in
theorem w_340 : (Cond.methodLink "BelfryBox$Reader" 37 yX5_tellWay : Cond) ∈ gw := List.mem_filter.mpr ⟨List.mem_append_right _ (tb5 (List.mem_of_getElem? (i := 32) rfl)), rfl⟩
set_option maxRecDepth 100000 in
theorem w_341 : (Cond.code yX5_tellWay prog_7_method_3_code 3 (Option.none : Option Jvm.ClassFile.FieldType) : Cond) ∈ gw := List.mem_filter.mpr ⟨List.mem_append_right _ (tb5 (List.mem_of_getElem? (i := 35) rfl)), rfl⟩
set_option maxRecDepth 100000 in
theorem w_342 : (Cond.instanceMethod yX5_tellWay : Cond) ∈ gw := List.mem_filter.mpr ⟨List.mem_append_right _ (tb5 (List.mem_of_getElem? (i := 34) rfl)), rfl⟩
set_option maxRecDepth 100000 in
theorem w_343 : (Cond.selects "BelfryBox$Reader" yX5_tellWay yX5_tellWay : Cond) ∈ gw := List.mem_filter.mpr ⟨List.mem_append_left _ (List.mem_map.mpr ⟨(⟨"BelfryBox$Reader", "tellWay", "(II)V"⟩, 2), sl6 (List.mem_of_getElem? (i := 2) rfl), rfl⟩), rfl⟩
set_option maxRecDepth 100000 in
theorem w_344 : (Cond.methodLink "BelfryBox" 174 yX5_tell : Cond) ∈ gw := List.mem_filter.mpr ⟨List.mem_append_right _ (tb4 (List.mem_of_getElem? (i := 237) rfl)), rfl⟩
set_option maxRecDepth 100000 in
theorem w_345 : (Cond.code yX5_tell prog_7_method_2_code 9 (Option.some Jvm.ClassFile.FieldType.int) : Cond) ∈ gw := List.mem_filter.mpr ⟨List.mem_append_right _ (tb5 (List.mem_of_getElem? (i := 0) rfl)), rfl⟩
set_option maxRecDepth 100000 in
theorem w_346 : (Cond.instanceMethod yX5_tell : Cond) ∈ gw := List.mem_filter.mpr ⟨List.mem_append_right _ (tb4 (List.mem_of_getElem? (i := 238) rfl)), rfl⟩
set_option maxRecDepth 100000 in
theorem w_347 : (Cond.selects "BelfryBox$Reader" yX5_tell yX5_tell : Cond) ∈ gw := List.mem_filter.mpr ⟨List.mem_append_right _ (tb4 (List.mem_of_getElem? (i := 239) rfl)), rfl⟩
theorem nw_34 : (Cond.methodLinkNest "BelfryBox$Reader" 19 yX8_isShort "BelfryBox" : Cond) ∈ nests := List.mem_of_getElem? (i := 34) rfl
theorem dJ3_checkIndex_8e157_0 : decode cJ3_checkIndex_8e157 0 = .ok (.iload_n 0, 1) := by decide +kernel
theorem dJ3_checkIndex_8e157_1 : decode cJ3_checkIndex_8e157 1 = .ok (.ifCond .lt 8, 3) := by decide +kernel
theorem dJ3_checkIndex_8e157_4 : decode cJ3_checkIndex_8e157 4 = .ok (.iload_n 0, 1) := by decide +kernel
theorem dJ3_checkIndex_8e157_5 : decode cJ3_checkIndex_8e157 5 = .ok (.iload_n 1, 1) := by decide +kernel
theorem dJ3_checkIndex_8e157_6 : decode cJ3_checkIndex_8e157 6 = .ok (.if_icmp .lt 10, 3) := by decide +kernel
theorem dJ3_checkIndex_8e157_16 : decode cJ3_checkIndex_8e157 16 = .ok (.iload_n 0, 1) := by decide +kernel
theorem dJ3_checkIndex_8e157_17 : decode cJ3_checkIndex_8e157 17 = .ok (.ireturn, 1) := by decide +kernel
theorem dJ0_checkIndex_df160_0 : decode cJ0_checkIndex_df160 0 = .ok (.iload_n 0, 1) := by decide +kernel
theorem dJ0_checkIndex_df160_1 : decode cJ0_checkIndex_df160 1 = .ok (.iload_n 1, 1) := by decide +kernel
theorem dJ0_checkIndex_df160_2 : decode cJ0_checkIndex_df160 2 = .ok (.getstatic 1053, 3) := by decide +kernel
theorem dJ0_checkIndex_df160_5 : decode cJ0_checkIndex_df160 5 = .ok (.invokestatic 1059, 3) := by decide +kernel
theorem dJ0_checkIndex_df160_8 : decode cJ0_checkIndex_df160 8 = .ok (.pop, 1) := by decide +kernel
theorem dJ0_checkIndex_df160_9 : decode cJ0_checkIndex_df160 9 = .ok (.return_, 1) := by decide +kernel
theorem dX5_tell_0 : decode cX5_tell 0 = .ok (.aload_n 1, 1) := by decide +kernel
theorem dX5_tell_1 : decode cX5_tell 1 = .ok (.iload_n 2, 1) := by decide +kernel
theorem dX5_tell_2 : decode cX5_tell 2 = .ok (.sipush 4095, 3) := by decide +kernel
theorem dX5_tell_5 : decode cX5_tell 5 = .ok (.iand, 1) := by decide +kernel
theorem dX5_tell_6 : decode cX5_tell 6 = .ok (.iaload, 1) := by decide +kernel
theorem dX5_tell_7 : decode cX5_tell 7 = .ok (.istore_n 3, 1) := by decide +kernel
theorem dX5_tell_8 : decode cX5_tell 8 = .ok (.aload_n 1, 1) := by decide +kernel
theorem dX5_tell_9 : decode cX5_tell 9 = .ok (.iload_n 2, 1) := by decide +kernel
theorem dX5_tell_10 : decode cX5_tell 10 = .ok (.iconst 1, 1) := by decide +kernel
theorem dX5_tell_11 : decode cX5_tell 11 = .ok (.iadd, 1) := by decide +kernel
theorem dX5_tell_12 : decode cX5_tell 12 = .ok (.sipush 4095, 3) := by decide +kernel
theorem dX5_tell_15 : decode cX5_tell 15 = .ok (.iand, 1) := by decide +kernel
theorem dX5_tell_16 : decode cX5_tell 16 = .ok (.iaload, 1) := by decide +kernel
theorem dX5_tell_17 : decode cX5_tell 17 = .ok (.istore 4, 2) := by decide +kernel
theorem dX5_tell_19 : decode cX5_tell 19 = .ok (.aload_n 1, 1) := by decide +kernel
theorem dX5_tell_20 : decode cX5_tell 20 = .ok (.iload_n 2, 1) := by decide +kernel
theorem dX5_tell_21 : decode cX5_tell 21 = .ok (.iconst 2, 1) := by decide +kernel
theorem dX5_tell_22 : decode cX5_tell 22 = .ok (.iadd, 1) := by decide +kernel
theorem dX5_tell_23 : decode cX5_tell 23 = .ok (.sipush 4095, 3) := by decide +kernel
theorem dX5_tell_26 : decode cX5_tell 26 = .ok (.iand, 1) := by decide +kernel
theorem dX5_tell_27 : decode cX5_tell 27 = .ok (.iaload, 1) := by decide +kernel
theorem dX5_tell_28 : decode cX5_tell 28 = .ok (.istore 5, 2) := by decide +kernel
theorem dX5_tell_30 : decode cX5_tell 30 = .ok (.iload_n 3, 1) := by decide +kernel
theorem dX5_tell_31 : decode cX5_tell 31 = .ok (.iconst 3, 1) := by decide +kernel
theorem dX5_tell_32 : decode cX5_tell 32 = .ok (.ishr, 1) := by decide +kernel
theorem dX5_tell_33 : decode cX5_tell 33 = .ok (.istore 6, 2) := by decide +kernel
theorem dX5_tell_35 : decode cX5_tell 35 = .ok (.iload_n 3, 1) := by decide +kernel
theorem dX5_tell_36 : decode cX5_tell 36 = .ok (.bipush 7, 2) := by decide +kernel
theorem dX5_tell_38 : decode cX5_tell 38 = .ok (.iand, 1) := by decide +kernel
theorem dX5_tell_39 : decode cX5_tell 39 = .ok (.istore 7, 2) := by decide +kernel
theorem dX5_tell_41 : decode cX5_tell 41 = .ok (.aload_n 0, 1) := by decide +kernel
theorem dX5_tell_42 : decode cX5_tell 42 = .ok (.iconst 0, 1) := by decide +kernel
theorem dX5_tell_43 : decode cX5_tell 43 = .ok (.putfield 15, 3) := by decide +kernel
theorem dX5_tell_46 : decode cX5_tell 46 = .ok (.iload_n 3, 1) := by decide +kernel
theorem dX5_tell_47 : decode cX5_tell 47 = .ok (.invokestatic 19, 3) := by decide +kernel
theorem dX5_tell_50 : decode cX5_tell 50 = .ok (.ifCond .eq 13, 3) := by decide +kernel
theorem dX5_tell_63 : decode cX5_tell 63 = .ok (.iload 7, 2) := by decide +kernel
theorem dX5_tell_65 : decode cX5_tell 65 = .ok (.iconst 3, 1) := by decide +kernel
theorem dX5_tell_66 : decode cX5_tell 66 = .ok (.if_icmp .lt 13, 3) := by decide +kernel
theorem dX5_tell_79 : decode cX5_tell 79 = .ok (.iconst 0, 1) := by decide +kernel
theorem dX5_tell_80 : decode cX5_tell 80 = .ok (.istore 8, 2) := by decide +kernel
theorem dX5_tell_82 : decode cX5_tell 82 = .ok (.aload_n 0, 1) := by decide +kernel
theorem dX5_tell_83 : decode cX5_tell 83 = .ok (.ldc 27, 2) := by decide +kernel
theorem dX5_tell_85 : decode cX5_tell 85 = .ok (.iload 6, 2) := by decide +kernel
theorem dX5_tell_87 : decode cX5_tell 87 = .ok (.invokevirtual 29, 3) := by decide +kernel
theorem dX5_putWord_0 : decode cX5_putWord 0 = .ok (.iconst 3, 1) := by decide +kernel
theorem dX5_putWord_1 : decode cX5_putWord 1 = .ok (.iload_n 2, 1) := by decide +kernel
theorem dX5_putWord_2 : decode cX5_putWord 2 = .ok (.imul, 1) := by decide +kernel
theorem dX5_putWord_3 : decode cX5_putWord 3 = .ok (.istore_n 3, 1) := by decide +kernel
theorem dX5_putWord_4 : decode cX5_putWord 4 = .ok (.iload_n 3, 1) := by decide +kernel
theorem dX5_putWord_5 : decode cX5_putWord 5 = .ok (.iconst 3, 1) := by decide +kernel
theorem dX5_putWord_6 : decode cX5_putWord 6 = .ok (.iload_n 2, 1) := by decide +kernel
theorem dX5_putWord_7 : decode cX5_putWord 7 = .ok (.imul, 1) := by decide +kernel
theorem dX5_putWord_8 : decode cX5_putWord 8 = .ok (.iconst 3, 1) := by decide +kernel
theorem dX5_putWord_9 : decode cX5_putWord 9 = .ok (.iadd, 1) := by decide +kernel
theorem dX5_putWord_10 : decode cX5_putWord 10 = .ok (.if_icmp .ge 26, 3) := by decide +kernel
theorem dX5_putWord_13 : decode cX5_putWord 13 = .ok (.iload_n 3, 1) := by decide +kernel
theorem dX5_putWord_14 : decode cX5_putWord 14 = .ok (.aload_n 1, 1) := by decide +kernel
theorem dX5_putWord_15 : decode cX5_putWord 15 = .ok (.invokevirtual 62, 3) := by decide +kernel
theorem dJ0_length_8abf5_0 : decode cJ0_length_8abf5 0 = .ok (.aload_n 0, 1) := by decide +kernel
theorem dJ0_length_8abf5_1 : decode cJ0_length_8abf5 1 = .ok (.getfield 9, 3) := by decide +kernel
theorem dJ0_length_8abf5_4 : decode cJ0_length_8abf5 4 = .ok (.arraylength, 1) := by decide +kernel
theorem dJ0_length_8abf5_5 : decode cJ0_length_8abf5 5 = .ok (.aload_n 0, 1) := by decide +kernel
theorem dJ0_length_8abf5_6 : decode cJ0_length_8abf5 6 = .ok (.invokevirtual 335, 3) := by decide +kernel
theorem dJ0_coder_7d493_0 : decode cJ0_coder_7d493 0 = .ok (.getstatic 38, 3) := by decide +kernel
theorem dJ0_coder_7d493_3 : decode cJ0_coder_7d493 3 = .ok (.ifCond .eq 10, 3) := by decide +kernel
theorem dJ0_coder_7d493_6 : decode cJ0_coder_7d493 6 = .ok (.aload_n 0, 1) := by decide +kernel
theorem dJ0_coder_7d493_7 : decode cJ0_coder_7d493 7 = .ok (.getfield 15, 3) := by decide +kernel
theorem dJ0_coder_7d493_10 : decode cJ0_coder_7d493 10 = .ok (.goto 4, 3) := by decide +kernel
theorem dJ0_coder_7d493_14 : decode cJ0_coder_7d493 14 = .ok (.ireturn, 1) := by decide +kernel
theorem dJ0_length_8abf5_9 : decode cJ0_length_8abf5 9 = .ok (.ishr, 1) := by decide +kernel
theorem dJ0_length_8abf5_10 : decode cJ0_length_8abf5 10 = .ok (.ireturn, 1) := by decide +kernel
theorem dX5_putWord_18 : decode cX5_putWord 18 = .ok (.if_icmp .ge 18, 3) := by decide +kernel
theorem dX5_putWord_21 : decode cX5_putWord 21 = .ok (.aload_n 0, 1) := by decide +kernel
theorem dX5_putWord_22 : decode cX5_putWord 22 = .ok (.aload_n 1, 1) := by decide +kernel
theorem dX5_putWord_23 : decode cX5_putWord 23 = .ok (.iload_n 3, 1) := by decide +kernel
theorem dX5_putWord_24 : decode cX5_putWord 24 = .ok (.invokevirtual 67, 3) := by decide +kernel
theorem dJ0_charAt_5068e_0 : decode cJ0_charAt_5068e 0 = .ok (.aload_n 0, 1) := by decide +kernel
theorem dJ0_charAt_5068e_1 : decode cJ0_charAt_5068e 1 = .ok (.invokevirtual 492, 3) := by decide +kernel
theorem dJ0_isLatin1_aae02_0 : decode cJ0_isLatin1_aae02 0 = .ok (.getstatic 38, 3) := by decide +kernel
theorem dJ0_isLatin1_aae02_3 : decode cJ0_isLatin1_aae02 3 = .ok (.ifCond .eq 14, 3) := by decide +kernel
theorem dJ0_isLatin1_aae02_6 : decode cJ0_isLatin1_aae02 6 = .ok (.aload_n 0, 1) := by decide +kernel
theorem dJ0_isLatin1_aae02_7 : decode cJ0_isLatin1_aae02 7 = .ok (.getfield 15, 3) := by decide +kernel
theorem dJ0_isLatin1_aae02_10 : decode cJ0_isLatin1_aae02 10 = .ok (.ifCond .ne 7, 3) := by decide +kernel
theorem dJ0_isLatin1_aae02_13 : decode cJ0_isLatin1_aae02 13 = .ok (.iconst 1, 1) := by decide +kernel
theorem dJ0_isLatin1_aae02_14 : decode cJ0_isLatin1_aae02 14 = .ok (.goto 4, 3) := by decide +kernel
theorem dJ0_isLatin1_aae02_18 : decode cJ0_isLatin1_aae02 18 = .ok (.ireturn, 1) := by decide +kernel
theorem dJ0_charAt_5068e_4 : decode cJ0_charAt_5068e 4 = .ok (.ifCond .eq 12, 3) := by decide +kernel
theorem dJ0_charAt_5068e_7 : decode cJ0_charAt_5068e 7 = .ok (.aload_n 0, 1) := by decide +kernel
theorem dJ0_charAt_5068e_8 : decode cJ0_charAt_5068e 8 = .ok (.getfield 9, 3) := by decide +kernel
theorem dJ0_charAt_5068e_11 : decode cJ0_charAt_5068e 11 = .ok (.iload_n 1, 1) := by decide +kernel
theorem dJ0_charAt_5068e_12 : decode cJ0_charAt_5068e 12 = .ok (.invokestatic 495, 3) := by decide +kernel
theorem dJ1_charAt_3b067_0 : decode cJ1_charAt_3b067 0 = .ok (.iload_n 1, 1) := by decide +kernel
theorem dJ1_charAt_3b067_1 : decode cJ1_charAt_3b067 1 = .ok (.aload_n 0, 1) := by decide +kernel
theorem dJ1_charAt_3b067_2 : decode cJ1_charAt_3b067 2 = .ok (.arraylength, 1) := by decide +kernel
theorem dJ1_charAt_3b067_3 : decode cJ1_charAt_3b067 3 = .ok (.invokestatic 9, 3) := by decide +kernel
theorem dJ1_charAt_3b067_6 : decode cJ1_charAt_3b067 6 = .ok (.aload_n 0, 1) := by decide +kernel
theorem dJ1_charAt_3b067_7 : decode cJ1_charAt_3b067 7 = .ok (.iload_n 1, 1) := by decide +kernel
theorem dJ1_charAt_3b067_8 : decode cJ1_charAt_3b067 8 = .ok (.baload, 1) := by decide +kernel
theorem dJ1_charAt_3b067_9 : decode cJ1_charAt_3b067 9 = .ok (.sipush 255, 3) := by decide +kernel
theorem dJ1_charAt_3b067_12 : decode cJ1_charAt_3b067 12 = .ok (.iand, 1) := by decide +kernel
theorem dJ1_charAt_3b067_13 : decode cJ1_charAt_3b067 13 = .ok (.i2c, 1) := by decide +kernel
theorem dJ1_charAt_3b067_14 : decode cJ1_charAt_3b067 14 = .ok (.ireturn, 1) := by decide +kernel
theorem dJ0_charAt_5068e_15 : decode cJ0_charAt_5068e 15 = .ok (.ireturn, 1) := by decide +kernel
theorem dX5_putWord_27 : decode cX5_putWord 27 = .ok (.invokevirtual 33, 3) := by decide +kernel
theorem dX5_put_0 : decode cX5_put 0 = .ok (.aload_n 0, 1) := by decide +kernel
theorem dX5_put_1 : decode cX5_put 1 = .ok (.getfield 15, 3) := by decide +kernel
theorem dX5_put_4 : decode cX5_put 4 = .ok (.bipush 16, 2) := by decide +kernel
theorem dX5_put_6 : decode cX5_put 6 = .ok (.if_icmp .ge 23, 3) := by decide +kernel
theorem dX5_put_9 : decode cX5_put 9 = .ok (.aload_n 0, 1) := by decide +kernel
theorem dX5_put_10 : decode cX5_put 10 = .ok (.getfield 11, 3) := by decide +kernel
theorem dX5_put_13 : decode cX5_put 13 = .ok (.aload_n 0, 1) := by decide +kernel
theorem dX5_put_14 : decode cX5_put 14 = .ok (.getfield 15, 3) := by decide +kernel
theorem dX5_put_17 : decode cX5_put 17 = .ok (.iload_n 1, 1) := by decide +kernel
theorem dX5_put_18 : decode cX5_put 18 = .ok (.iastore, 1) := by decide +kernel
theorem dX5_put_19 : decode cX5_put 19 = .ok (.aload_n 0, 1) := by decide +kernel
theorem dX5_put_20 : decode cX5_put 20 = .ok (.dup, 1) := by decide +kernel
theorem dX5_put_21 : decode cX5_put 21 = .ok (.getfield 15, 3) := by decide +kernel
theorem dX5_put_24 : decode cX5_put 24 = .ok (.iconst 1, 1) := by decide +kernel
theorem dX5_put_25 : decode cX5_put 25 = .ok (.iadd, 1) := by decide +kernel
theorem dX5_put_26 : decode cX5_put 26 = .ok (.putfield 15, 3) := by decide +kernel
theorem dX5_put_29 : decode cX5_put 29 = .ok (.return_, 1) := by decide +kernel
theorem dX5_putWord_30 : decode cX5_putWord 30 = .ok (.iinc 3 1, 3) := by decide +kernel
theorem dX5_putWord_33 : decode cX5_putWord 33 = .ok (.goto (-29), 3) := by decide +kernel
theorem dX5_putWord_36 : decode cX5_putWord 36 = .ok (.return_, 1) := by decide +kernel
theorem dX5_tell_90 : decode cX5_tell 90 = .ok (.aload_n 0, 1) := by decide +kernel
theorem dX5_tell_91 : decode cX5_tell 91 = .ok (.bipush 32, 2) := by decide +kernel
theorem dX5_tell_93 : decode cX5_tell 93 = .ok (.invokevirtual 33, 3) := by decide +kernel
theorem dX5_tell_96 : decode cX5_tell 96 = .ok (.aload_n 0, 1) := by decide +kernel
theorem dX5_tell_97 : decode cX5_tell 97 = .ok (.iload 7, 2) := by decide +kernel
theorem dX5_tell_99 : decode cX5_tell 99 = .ok (.iload 8, 2) := by decide +kernel
theorem dX5_tell_101 : decode cX5_tell 101 = .ok (.ifCond .eq 15, 3) := by decide +kernel
theorem dX5_tell_116 : decode cX5_tell 116 = .ok (.iload 4, 2) := by decide +kernel
theorem dX5_tell_118 : decode cX5_tell 118 = .ok (.invokevirtual 37, 3) := by decide +kernel
theorem dX5_tellWay_0 : decode cX5_tellWay 0 = .ok (.iload_n 1, 1) := by decide +kernel
theorem dX5_tellWay_1 : decode cX5_tellWay 1 = .ok (.ifCond .ne 12, 3) := by decide +kernel
theorem dX5_tellWay_4 : decode cX5_tellWay 4 = .ok (.aload_n 0, 1) := by decide +kernel
theorem dX5_tellWay_5 : decode cX5_tellWay 5 = .ok (.bipush 35, 2) := by decide +kernel
theorem dX5_tellWay_7 : decode cX5_tellWay 7 = .ok (.invokevirtual 33, 3) := by decide +kernel
theorem dX5_tellWay_10 : decode cX5_tellWay 10 = .ok (.goto 29, 3) := by decide +kernel
theorem dX5_tellWay_39 : decode cX5_tellWay 39 = .ok (.aload_n 0, 1) := by decide +kernel
theorem dX5_tellWay_40 : decode cX5_tellWay 40 = .ok (.iload_n 2, 1) := by decide +kernel
theorem dX5_tellWay_41 : decode cX5_tellWay 41 = .ok (.invokevirtual 40, 3) := by decide +kernel
theorem dX5_putNumber_0 : decode cX5_putNumber 0 = .ok (.sipush 10000, 3) := by decide +kernel
theorem dX5_putNumber_3 : decode cX5_putNumber 3 = .ok (.istore_n 2, 1) := by decide +kernel
theorem dX5_putNumber_4 : decode cX5_putNumber 4 = .ok (.iload_n 2, 1) := by decide +kernel
theorem dX5_putNumber_5 : decode cX5_putNumber 5 = .ok (.iconst 1, 1) := by decide +kernel
theorem dX5_putNumber_6 : decode cX5_putNumber 6 = .ok (.if_icmp .lt 34, 3) := by decide +kernel
theorem dX5_putNumber_9 : decode cX5_putNumber 9 = .ok (.iload_n 1, 1) := by decide +kernel
theorem dX5_putNumber_10 : decode cX5_putNumber 10 = .ok (.iload_n 2, 1) := by decide +kernel
theorem dX5_putNumber_11 : decode cX5_putNumber 11 = .ok (.if_icmp .ge 8, 3) := by decide +kernel
theorem dX5_putNumber_14 : decode cX5_putNumber 14 = .ok (.iload_n 2, 1) := by decide +kernel
theorem dX5_putNumber_15 : decode cX5_putNumber 15 = .ok (.iconst 1, 1) := by decide +kernel
theorem dX5_putNumber_16 : decode cX5_putNumber 16 = .ok (.if_icmp .ne 16, 3) := by decide +kernel
theorem dX5_putNumber_32 : decode cX5_putNumber 32 = .ok (.iload_n 2, 1) := by decide +kernel
theorem dX5_putNumber_33 : decode cX5_putNumber 33 = .ok (.bipush 10, 2) := by decide +kernel
theorem dX5_putNumber_35 : decode cX5_putNumber 35 = .ok (.idiv, 1) := by decide +kernel
theorem dX5_putNumber_36 : decode cX5_putNumber 36 = .ok (.istore_n 2, 1) := by decide +kernel
theorem dX5_putNumber_37 : decode cX5_putNumber 37 = .ok (.goto (-33), 3) := by decide +kernel
theorem dX5_putNumber_19 : decode cX5_putNumber 19 = .ok (.aload_n 0, 1) := by decide +kernel
theorem dX5_putNumber_20 : decode cX5_putNumber 20 = .ok (.bipush 48, 2) := by decide +kernel
theorem dX5_putNumber_22 : decode cX5_putNumber 22 = .ok (.iload_n 1, 1) := by decide +kernel
theorem dX5_putNumber_23 : decode cX5_putNumber 23 = .ok (.iload_n 2, 1) := by decide +kernel
theorem dX5_putNumber_24 : decode cX5_putNumber 24 = .ok (.idiv, 1) := by decide +kernel
theorem dX5_putNumber_25 : decode cX5_putNumber 25 = .ok (.bipush 10, 2) := by decide +kernel
theorem dX5_putNumber_27 : decode cX5_putNumber 27 = .ok (.irem, 1) := by decide +kernel
theorem dX5_putNumber_28 : decode cX5_putNumber 28 = .ok (.iadd, 1) := by decide +kernel
theorem dX5_putNumber_29 : decode cX5_putNumber 29 = .ok (.invokevirtual 33, 3) := by decide +kernel
theorem dX5_putNumber_40 : decode cX5_putNumber 40 = .ok (.return_, 1) := by decide +kernel
theorem dX5_tellWay_44 : decode cX5_tellWay 44 = .ok (.iload_n 1, 1) := by decide +kernel
theorem dX5_tellWay_45 : decode cX5_tellWay 45 = .ok (.bipush 6, 2) := by decide +kernel
theorem dX5_tellWay_47 : decode cX5_tellWay 47 = .ok (.if_icmp .lt 9, 3) := by decide +kernel
theorem dX5_tellWay_56 : decode cX5_tellWay 56 = .ok (.iload_n 1, 1) := by decide +kernel
theorem dX5_tellWay_57 : decode cX5_tellWay 57 = .ok (.iconst 2, 1) := by decide +kernel
theorem dX5_tellWay_58 : decode cX5_tellWay 58 = .ok (.if_icmp .eq 8, 3) := by decide +kernel
theorem dX5_tellWay_61 : decode cX5_tellWay 61 = .ok (.iload_n 1, 1) := by decide +kernel
theorem dX5_tellWay_62 : decode cX5_tellWay 62 = .ok (.iconst 4, 1) := by decide +kernel
theorem dX5_tellWay_63 : decode cX5_tellWay 63 = .ok (.if_icmp .ne 18, 3) := by decide +kernel
theorem dX5_tellWay_81 : decode cX5_tellWay 81 = .ok (.iload_n 1, 1) := by decide +kernel
theorem dX5_tellWay_82 : decode cX5_tellWay 82 = .ok (.iconst 5, 1) := by decide +kernel
theorem dX5_tellWay_83 : decode cX5_tellWay 83 = .ok (.if_icmp .eq 9, 3) := by decide +kernel
theorem dX5_tellWay_86 : decode cX5_tellWay 86 = .ok (.iload_n 1, 1) := by decide +kernel
theorem dX5_tellWay_87 : decode cX5_tellWay 87 = .ok (.bipush 7, 2) := by decide +kernel
theorem dX5_tellWay_89 : decode cX5_tellWay 89 = .ok (.if_icmp .ne 15, 3) := by decide +kernel
theorem dX5_tellWay_104 : decode cX5_tellWay 104 = .ok (.return_, 1) := by decide +kernel
theorem dX5_tell_121 : decode cX5_tell 121 = .ok (.iload 8, 2) := by decide +kernel
theorem dX5_tell_123 : decode cX5_tell 123 = .ok (.ifCond .eq 7, 3) := by decide +kernel
theorem dX5_tell_130 : decode cX5_tell 130 = .ok (.iconst 2, 1) := by decide +kernel
theorem dX5_tell_131 : decode cX5_tell 131 = .ok (.ireturn, 1) := by decide +kernel
theorem dX8_text_0 : decode cX8_text 0 = .ok (.iload_n 1, 1) := by decide +kernel
theorem dX8_text_1 : decode cX8_text 1 = .ok (.invokestatic 115, 3) := by decide +kernel
theorem dX8_text_4 : decode cX8_text 4 = .ok (.ifCond .eq 18, 3) := by decide +kernel
theorem dX8_text_22 : decode cX8_text 22 = .ok (.iconst (-1), 1) := by decide +kernel
theorem dX8_text_23 : decode cX8_text 23 = .ok (.ireturn, 1) := by decide +kernel
theorem dX8_text_7 : decode cX8_text 7 = .ok (.aload_n 0, 1) := by decide +kernel
theorem dX8_text_8 : decode cX8_text 8 = .ok (.getfield 67, 3) := by decide +kernel
theorem dX8_text_11 : decode cX8_text 11 = .ok (.aload_n 0, 1) := by decide +kernel
theorem dX8_text_12 : decode cX8_text 12 = .ok (.getfield 13, 3) := by decide +kernel
theorem dX8_text_15 : decode cX8_text 15 = .ok (.iload_n 1, 1) := by decide +kernel
theorem dX8_text_16 : decode cX8_text 16 = .ok (.invokevirtual 174, 3) := by decide +kernel
theorem dX8_text_19 : decode cX8_text 19 = .ok (.goto 4, 3) := by decide +kernel
set_option maxHeartbeats 4000000 in
set_option maxRecDepth 100000 in
theorem c_checkIndexPn (l : Launch) (D : va_G) (cA cB : ClassId) (i : Int32) (n : Int32) (h0 : ¬ i < 0) (h1 : i < n) : CI l yJ3_checkIndex_8e157 cJ3_checkIndex_8e157 3 (some .int) 0 0 0 0 D cA cB [.int i, .int n, .null] [] (fun r W1 => r = i ∧ W1 = []) := by
  refine mkI (lv0 := [(0, .int i), (1, .int n), (2, .null)]) (by decide) (Nat.le_of_ble_eq_true rfl) rfl ?_
  intro p e s m below meth c A ls X hr hlocks hnm hE hA hP hD hS hl
  have hx := X.1
  have hb := X.2.1
  refine lv_iload_n hx hb dJ3_checkIndex_8e157_0 rfl (lv_at hl 0 rfl) ?_
  refine lv_if_lt (tgt := 9) hx hb dJ3_checkIndex_8e157_1 (by decide) (fun c_1 => absurd c_1 h0) (fun c_1 => ?_)
  refine lv_iload_n hx hb dJ3_checkIndex_8e157_4 rfl (lv_at hl 0 rfl) ?_
  refine lv_iload_n hx hb dJ3_checkIndex_8e157_5 rfl (lv_at hl 1 rfl) ?_
  refine lv_icmp_lt (tgt := 16) hx hb dJ3_checkIndex_8e157_6 (by decide) (fun c_6 => ?_) (fun c_6 => absurd h1 c_6)
  refine lv_iload_n hx hb dJ3_checkIndex_8e157_16 rfl (lv_at hl 0 rfl) ?_
  exact endI X hr hlocks hP hD hS dJ3_checkIndex_8e157_17 ⟨rfl, rfl⟩
set_option maxHeartbeats 4000000 in
set_option maxRecDepth 100000 in
theorem c_checkIndexPr (l : Launch) (D : va_G) (cA cB : ClassId) (i : Int32) (n : Int32) (hq : Nat) (h0 : ¬ i < 0) (h1 : i < n) : CI l yJ3_checkIndex_8e157 cJ3_checkIndex_8e157 3 (some .int) 0 0 0 0 D cA cB [.int i, .int n, .ref hq] [] (fun r W1 => r = i ∧ W1 = []) := by
  refine mkI (lv0 := [(0, .int i), (1, .int n), (2, .ref hq)]) (by decide) (Nat.le_of_ble_eq_true rfl) rfl ?_
  intro p e s m below meth c A ls X hr hlocks hnm hE hA hP hD hS hl
  have hx := X.1
  have hb := X.2.1
  refine lv_iload_n hx hb dJ3_checkIndex_8e157_0 rfl (lv_at hl 0 rfl) ?_
  refine lv_if_lt (tgt := 9) hx hb dJ3_checkIndex_8e157_1 (by decide) (fun c_1 => absurd c_1 h0) (fun c_1 => ?_)
  refine lv_iload_n hx hb dJ3_checkIndex_8e157_4 rfl (lv_at hl 0 rfl) ?_
  refine lv_iload_n hx hb dJ3_checkIndex_8e157_5 rfl (lv_at hl 1 rfl) ?_
  refine lv_icmp_lt (tgt := 16) hx hb dJ3_checkIndex_8e157_6 (by decide) (fun c_6 => ?_) (fun c_6 => absurd h1 c_6)
  refine lv_iload_n hx hb dJ3_checkIndex_8e157_16 rfl (lv_at hl 0 rfl) ?_
  exact endI X hr hlocks hP hD hS dJ3_checkIndex_8e157_17 ⟨rfl, rfl⟩
set_option maxHeartbeats 4000000 in
set_option maxRecDepth 100000 in
theorem c_checkIndexS (l : Launch) (D : va_G) (cA cB : ClassId) (i : Int32) (n : Int32) (h0 : ¬ i < 0) (h1 : i < n) : CV l yJ0_checkIndex_df160 cJ0_checkIndex_df160 2 none 1 22 0 0 D cA cB [.int i, .int n] [] (fun W1 => W1 = []) := by
  refine mkV (lv0 := [(0, .int i), (1, .int n)]) (by decide) (Nat.le_of_ble_eq_true rfl) rfl ?_
  intro p e s m below meth c A ls X hr hlocks hnm hE hA hP hD hS hl
  have hx := X.1
  have hb := X.2.1
  refine lv_iload_n hx hb dJ0_checkIndex_df160_0 rfl (lv_at hl 0 rfl) ?_
  refine lv_iload_n hx hb dJ0_checkIndex_df160_1 rfl (lv_at hl 1 rfl) ?_
  rcases (e_z4 hE) with hZq | ⟨t9, hZq⟩
  · refine va_gets (C := "jdk/internal/util/Preconditions") (n := "SIOOBE_FORMATTER") (d := "Ljava/util/function/BiFunction;") hx hb hZq hS X.2.2.2.1 (X.2.2.2.2 _ w_295) (fun _ h9 => h9) dJ0_checkIndex_df160_2 ?_
    refine kSi (n3 := 3) (As := [.int i, .int n, .null]) (rest := []) X hl.1 hE hP hD hS hA [] [] [] [] rfl rfl rfl (by decide) (by decide) (by decide) (c_checkIndexPn l D cA cB i n h0 h1) w_297 w_298 w_296 w_299 (by decide +kernel) rfl rfl (Nat.le_of_ble_eq_true rfl) ⟨(Nat.le_of_ble_eq_true rfl), (Nat.le_of_ble_eq_true rfl)⟩ ⟨(Nat.le_of_ble_eq_true rfl), (Nat.le_of_ble_eq_true rfl)⟩ dJ0_checkIndex_df160_5 (fun r W1 H locs hw hP hD hS => ?_)
    obtain ⟨rfl, rfl⟩ := hw
    have hP : va_P D classes [] H := hP
    have hD : va_D A [] := hD
    refine lv_pop hx hb dJ0_checkIndex_df160_8 rfl ?_
    exact endV X hr hlocks hP hD hS dJ0_checkIndex_df160_9 rfl
  · refine va_gets (C := "jdk/internal/util/Preconditions") (n := "SIOOBE_FORMATTER") (d := "Ljava/util/function/BiFunction;") hx hb hZq hS X.2.2.2.1 (X.2.2.2.2 _ w_295) (fun _ h9 => h9) dJ0_checkIndex_df160_2 ?_
    refine kSi (n3 := 3) (As := [.int i, .int n, .ref t9]) (rest := []) X hl.1 hE hP hD hS hA [] [] [] [] rfl rfl rfl (by decide) (by decide) (by decide) (c_checkIndexPr l D cA cB i n t9 h0 h1) w_297 w_298 w_296 w_299 (by decide +kernel) rfl rfl (Nat.le_of_ble_eq_true rfl) ⟨(Nat.le_of_ble_eq_true rfl), (Nat.le_of_ble_eq_true rfl)⟩ ⟨(Nat.le_of_ble_eq_true rfl), (Nat.le_of_ble_eq_true rfl)⟩ dJ0_checkIndex_df160_5 (fun r W1 H locs hw hP hD hS => ?_)
    obtain ⟨rfl, rfl⟩ := hw
    have hP : va_P D classes [] H := hP
    have hD : va_D A [] := hD
    refine lv_pop hx hb dJ0_checkIndex_df160_8 rfl ?_
    exact endV X hr hlocks hP hD hS dJ0_checkIndex_df160_9 rfl
set_option maxHeartbeats 4000000 in
set_option maxRecDepth 100000 in
theorem c_J0_coder_7d493_a23 (l : Launch) (D : va_G) (cA cB : ClassId)   : CI l yJ0_coder_7d493 cJ0_coder_7d493 1 (some .byte) 0 0 0 0 D cA cB [.ref (aS D)] [] (fun r W1 => r = 0 ∧ W1 = []) := by
  refine mkI (lv0 := [(0, .ref (aS D))]) (by decide) (Nat.le_of_ble_eq_true rfl) rfl ?_
  intro p e s m below meth c A ls X hr hlocks hnm hE hA hP hD hS hl
  have hx := X.1
  have hb := X.2.1
  refine va_gets (C := "java/lang/String") (n := "COMPACT_STRINGS") (d := "Z") hx hb (e_z3 hE) hS X.2.2.2.1 (X.2.2.2.2 _ w_302) (fun _ h9 => h9) dJ0_coder_7d493_0 ?_
  refine lv_if_eq (tgt := 13) hx hb dJ0_coder_7d493_3 (by decide) (fun c_3 => absurd c_3 (by decide)) (fun c_3 => ?_)
  refine lv_aload_n hx hb dJ0_coder_7d493_6 rfl (lv_at hl 0 rfl) ?_
  refine vk_getf hx hb (e_c5 hE) hS X.2.2.2.1 (X.2.2.2.2 _ w_303) (fun _ h9 => h9) dJ0_coder_7d493_7 ?_
  refine lv_goto (tgt := 14) hx hb dJ0_coder_7d493_10 (by decide) ?_
  exact endT X hr rfl hlocks hP hD hS dJ0_coder_7d493_14 ⟨rfl, rfl⟩
set_option maxHeartbeats 4000000 in
set_option maxRecDepth 100000 in
theorem c_J0_length_8abf5_a22 (l : Launch) (D : va_G) (cA cB : ClassId)   : CI l yJ0_length_8abf5 cJ0_length_8abf5 1 (some .int) 1 20 0 0 D cA cB [.ref (aS D)] [] (fun r W1 => r = 96 ∧ W1 = []) := by
  refine mkI (lv0 := [(0, .ref (aS D))]) (by decide) (Nat.le_of_ble_eq_true rfl) rfl ?_
  intro p e s m below meth c A ls X hr hlocks hnm hE hA hP hD hS hl
  have hx := X.1
  have hb := X.2.1
  refine lv_aload_n hx hb dJ0_length_8abf5_0 rfl (lv_at hl 0 rfl) ?_
  refine vk_getf hx hb (e_v5 hE) hS X.2.2.2.1 (X.2.2.2.2 _ w_301) (fun _ h9 => h9) dJ0_length_8abf5_1 ?_
  refine va_tlen (v := 96) hx hb (e_t5 hE) hS rfl dJ0_length_8abf5_4 ?_
  refine lv_aload_n hx hb dJ0_length_8abf5_5 rfl (lv_at hl 0 rfl) ?_
  refine kVsi (n3 := 0) (As := []) (rest := [.int 96]) X hl.1 hE hP hD hS hA [] rfl (by decide) (c_J0_coder_7d493_a23 l D cA cB  ) w_305 w_306 w_304 w_307 w_308 (e_o5 hE) (by decide +kernel) rfl rfl (Nat.le_of_ble_eq_true rfl) ⟨(Nat.le_of_ble_eq_true rfl), (Nat.le_of_ble_eq_true rfl)⟩ ⟨(Nat.le_of_ble_eq_true rfl), (Nat.le_of_ble_eq_true rfl)⟩ dJ0_length_8abf5_6 (fun r W1 H locs hw hP hD hS => ?_)
  obtain ⟨rfl, rfl⟩ := hw
  have hP : va_P D classes [] H := hP
  have hD : va_D A [] := hD
  refine lv_ishr hx hb dJ0_length_8abf5_9 ?_
  refine tk (y := 96) (by decide) ?_
  exact endI X hr hlocks hP hD hS dJ0_length_8abf5_10 ⟨rfl, rfl⟩
set_option maxHeartbeats 4000000 in
set_option maxRecDepth 100000 in
theorem c_J0_isLatin1_aae02_a25 (l : Launch) (D : va_G) (cA cB : ClassId)   : CI l yJ0_isLatin1_aae02 cJ0_isLatin1_aae02 1 (some .boolean) 0 0 0 0 D cA cB [.ref (aS D)] [] (fun r W1 => r = 1 ∧ W1 = []) := by
  refine mkI (lv0 := [(0, .ref (aS D))]) (by decide) (Nat.le_of_ble_eq_true rfl) rfl ?_
  intro p e s m below meth c A ls X hr hlocks hnm hE hA hP hD hS hl
  have hx := X.1
  have hb := X.2.1
  refine va_gets (C := "java/lang/String") (n := "COMPACT_STRINGS") (d := "Z") hx hb (e_z3 hE) hS X.2.2.2.1 (X.2.2.2.2 _ w_302) (fun _ h9 => h9) dJ0_isLatin1_aae02_0 ?_
  refine lv_if_eq (tgt := 17) hx hb dJ0_isLatin1_aae02_3 (by decide) (fun c_3 => absurd c_3 (by decide)) (fun c_3 => ?_)
  refine lv_aload_n hx hb dJ0_isLatin1_aae02_6 rfl (lv_at hl 0 rfl) ?_
  refine vk_getf hx hb (e_c5 hE) hS X.2.2.2.1 (X.2.2.2.2 _ w_303) (fun _ h9 => h9) dJ0_isLatin1_aae02_7 ?_
  refine lv_if_ne (tgt := 17) hx hb dJ0_isLatin1_aae02_10 (by decide) (fun c_10 => absurd (by decide) c_10) (fun c_10 => ?_)
  refine lv_iconst (v := 1) hx hb dJ0_isLatin1_aae02_13 (by decide) ?_
  refine lv_goto (tgt := 18) hx hb dJ0_isLatin1_aae02_14 (by decide) ?_
  exact endZ X hr rfl hlocks hP hD hS dJ0_isLatin1_aae02_18 ⟨rfl, rfl⟩
set_option maxHeartbeats 4000000 in
set_option maxRecDepth 100000 in
theorem c_J1_charAt_3b067_a26 (l : Launch) (D : va_G) (cA cB : ClassId)   : CI l yJ1_charAt_3b067 cJ1_charAt_3b067 2 (some .char) 2 43 0 0 D cA cB [.ref (aV D), .int 0] [] (fun r W1 => r = 108 ∧ W1 = []) := by
  refine mkI (lv0 := [(0, .ref (aV D)), (1, .int 0)]) (by decide) (Nat.le_of_ble_eq_true rfl) rfl ?_
  intro p e s m below meth c A ls X hr hlocks hnm hE hA hP hD hS hl
  have hx := X.1
  have hb := X.2.1
  refine lv_iload_n hx hb dJ1_charAt_3b067_0 rfl (lv_at hl 1 rfl) ?_
  refine lv_aload_n hx hb dJ1_charAt_3b067_1 rfl (lv_at hl 0 rfl) ?_
  refine va_tlen (v := 96) hx hb (e_t5 hE) hS rfl dJ1_charAt_3b067_2 ?_
  refine kSv (n3 := 2) (As := [.int 0, .int 96]) (rest := []) X hl.1 hE hP hD hS hA [] [] [] [] rfl rfl rfl (by decide) (by decide) (by decide) (c_checkIndexS l D cA cB 0 96 (by first | assumption | decide | rfl | omega) (by first | assumption | decide | rfl | omega)) w_318 w_306 w_317 w_319 (by decide +kernel) rfl rfl (Nat.le_of_ble_eq_true rfl) ⟨(Nat.le_of_ble_eq_true rfl), (Nat.le_of_ble_eq_true rfl)⟩ ⟨(Nat.le_of_ble_eq_true rfl), (Nat.le_of_ble_eq_true rfl)⟩ dJ1_charAt_3b067_3 (fun W1 H locs hw hP hD hS => ?_)
  obtain rfl := hw
  have hP : va_P D classes [] H := hP
  have hD : va_D A [] := hD
  refine lv_aload_n hx hb dJ1_charAt_3b067_6 rfl (lv_at hl 0 rfl) ?_
  refine lv_iload_n hx hb dJ1_charAt_3b067_7 rfl (lv_at hl 1 rfl) ?_
  refine va_tb hx hb (e_t5 hE) hS (vp_in_nI (n := 0) (N := 96) (by decide) (by decide)) (v := .int 108) rfl dJ1_charAt_3b067_8 ?_
  refine lv_sipush (v := 255) hx hb dJ1_charAt_3b067_9 (by decide) ?_
  refine lv_iand hx hb dJ1_charAt_3b067_12 ?_
  refine tk (y := 108) (by decide) ?_
  refine lv_i2c (v := 108) hx hb dJ1_charAt_3b067_13 (by decide) ?_
  exact endT X hr rfl hlocks hP hD hS dJ1_charAt_3b067_14 ⟨rfl, rfl⟩
set_option maxHeartbeats 4000000 in
set_option maxRecDepth 100000 in
theorem c_J0_charAt_5068e_a24 (l : Launch) (D : va_G) (cA cB : ClassId)   : CI l yJ0_charAt_5068e cJ0_charAt_5068e 2 (some .char) 3 64 0 0 D cA cB [.ref (aS D), .int 0] [] (fun r W1 => r = 108 ∧ W1 = []) := by
  refine mkI (lv0 := [(0, .ref (aS D)), (1, .int 0)]) (by decide) (Nat.le_of_ble_eq_true rfl) rfl ?_
  intro p e s m below meth c A ls X hr hlocks hnm hE hA hP hD hS hl
  have hx := X.1
  have hb := X.2.1
  refine lv_aload_n hx hb dJ0_charAt_5068e_0 rfl (lv_at hl 0 rfl) ?_
  refine kVsi (n3 := 0) (As := []) (rest := []) X hl.1 hE hP hD hS hA [] rfl (by decide) (c_J0_isLatin1_aae02_a25 l D cA cB  ) w_314 w_306 w_313 w_315 w_316 (e_o5 hE) (by decide +kernel) rfl rfl (Nat.le_of_ble_eq_true rfl) ⟨(Nat.le_of_ble_eq_true rfl), (Nat.le_of_ble_eq_true rfl)⟩ ⟨(Nat.le_of_ble_eq_true rfl), (Nat.le_of_ble_eq_true rfl)⟩ dJ0_charAt_5068e_1 (fun r W1 H locs hw hP hD hS => ?_)
  obtain ⟨rfl, rfl⟩ := hw
  have hP : va_P D classes [] H := hP
  have hD : va_D A [] := hD
  refine lv_if_eq (tgt := 16) hx hb dJ0_charAt_5068e_4 (by decide) (fun c_4 => absurd c_4 (by decide)) (fun c_4 => ?_)
  refine lv_aload_n hx hb dJ0_charAt_5068e_7 rfl (lv_at hl 0 rfl) ?_
  refine vk_getf hx hb (e_v5 hE) hS X.2.2.2.1 (X.2.2.2.2 _ w_301) (fun _ h9 => h9) dJ0_charAt_5068e_8 ?_
  refine lv_iload_n hx hb dJ0_charAt_5068e_11 rfl (lv_at hl 1 rfl) ?_
  refine kSi (n3 := 2) (As := [.ref (aV D), .int 0]) (rest := []) X hl.1 hE hP hD hS hA [] [] [] [] rfl rfl rfl (by decide) (by decide) (by decide) (c_J1_charAt_3b067_a26 l D cA cB  ) w_321 w_322 w_320 w_323 (by decide +kernel) rfl rfl (Nat.le_of_ble_eq_true rfl) ⟨(Nat.le_of_ble_eq_true rfl), (Nat.le_of_ble_eq_true rfl)⟩ ⟨(Nat.le_of_ble_eq_true rfl), (Nat.le_of_ble_eq_true rfl)⟩ dJ0_charAt_5068e_12 (fun r W1 H locs hw hP hD hS => ?_)
  obtain ⟨rfl, rfl⟩ := hw
  have hP : va_P D classes [] H := hP
  have hD : va_D A [] := hD
  exact endT X hr rfl hlocks hP hD hS dJ0_charAt_5068e_15 ⟨rfl, rfl⟩
set_option maxHeartbeats 4000000 in
set_option maxRecDepth 100000 in
theorem c_X5_put_a27 (l : Launch) (D : va_G) (cA cB : ClassId) (h0 : Nat) (h1 : Nat)  : CV l yX5_put cX5_put 2 none 0 0 0 0 D cA cB [.ref h0, .int 108] [(h0, .inr (5, [.ref h1, .int 0])), (h1, .inl (cA, 16, .inl (fun _ => 0)))] (fun W1 => ∃ (o0 : Nat → Int32), W1 = [(h0, .inr (5, [.ref h1, .int 1])), (h1, .inl (cA, 16, .inl o0))]) := by
  refine mkV (lv0 := [(0, .ref h0), (1, .int 108)]) (by decide) (Nat.le_of_ble_eq_true rfl) rfl ?_
  intro p e s m below meth c A ls X hr hlocks hnm hE hA hP hD hS hl
  have hx := X.1
  have hb := X.2.1
  refine lv_aload_n hx hb dX5_put_0 rfl (lv_at hl 0 rfl) ?_
  refine k_get (C := RX5) (T := TX5) (N := 2) (ci := 5) (v := .int 0) X hE hP 0 rfl rfl iX5 1 (by decide) w_300 rfl dX5_put_1 ?_
  refine lv_bipush (v := 16) hx hb dX5_put_4 (by decide) ?_
  refine lv_icmp_ge (tgt := 29) hx hb dX5_put_6 (by decide) (fun c_6 => absurd c_6 (by decide)) (fun c_6 => ?_)
  refine lv_aload_n hx hb dX5_put_9 rfl (lv_at hl 0 rfl) ?_
  refine k_get (C := RX5) (T := TX5) (N := 2) (ci := 5) (v := .ref h1) X hE hP 0 rfl rfl iX5 0 (by decide) w_9 rfl dX5_put_10 ?_
  refine lv_aload_n hx hb dX5_put_13 rfl (lv_at hl 0 rfl) ?_
  refine k_get (C := RX5) (T := TX5) (N := 2) (ci := 5) (v := .int 0) X hE hP 0 rfl rfl iX5 1 (by decide) w_300 rfl dX5_put_14 ?_
  refine lv_iload_n hx hb dX5_put_17 rfl (lv_at hl 1 rfl) ?_
  refine k_ast X hE hP hD hS 1 rfl 0 rfl (by decide) (by decide) [(h0, .inr (5, [.ref h1, .int 0])), (h1, .inl (cA, 16, .inl (upd (fun _ => 0) 0 108)))] rfl dX5_put_18 (fun H locs hP hD hS => ?_)
  refine lv_aload_n hx hb dX5_put_19 rfl (lv_at hl 0 rfl) ?_
  refine lv_dup hx hb dX5_put_20 rfl ?_
  refine k_get (C := RX5) (T := TX5) (N := 2) (ci := 5) (v := .int 0) X hE hP 0 rfl rfl iX5 1 (by decide) w_300 rfl dX5_put_21 ?_
  refine lv_iconst (v := 1) hx hb dX5_put_24 (by decide) ?_
  refine lv_iadd hx hb dX5_put_25 ?_
  refine tk (y := 1) (by decide) ?_
  refine k_put (C := RX5) (T := TX5) (N := 2) (ci := 5) (v := .int 1) (ty := .int) X hE hP hD hS 0 rfl rfl iX5 tyX5 tyX5_ok nmX5 1 (by decide) w_300 rfl (by decide +kernel) rfl rfl (Nat.le_of_ble_eq_true rfl) [(h0, .inr (5, [.ref h1, .int 1])), (h1, .inl (cA, 16, .inl (upd (fun _ => 0) 0 108)))] rfl dX5_put_26 (fun H locs hP hD hS => ?_)
  exact endV X hr hlocks hP hD hS dX5_put_29 ⟨(upd (fun _ => 0) 0 108), rfl⟩
set_option maxHeartbeats 4000000 in
set_option maxRecDepth 100000 in
theorem c_J1_charAt_3b067_a29 (l : Launch) (D : va_G) (cA cB : ClassId)   : CI l yJ1_charAt_3b067 cJ1_charAt_3b067 2 (some .char) 2 43 0 0 D cA cB [.ref (aV D), .int 1] [] (fun r W1 => r = 100 ∧ W1 = []) := by
  refine mkI (lv0 := [(0, .ref (aV D)), (1, .int 1)]) (by decide) (Nat.le_of_ble_eq_true rfl) rfl ?_
  intro p e s m below meth c A ls X hr hlocks hnm hE hA hP hD hS hl
  have hx := X.1
  have hb := X.2.1
  refine lv_iload_n hx hb dJ1_charAt_3b067_0 rfl (lv_at hl 1 rfl) ?_
  refine lv_aload_n hx hb dJ1_charAt_3b067_1 rfl (lv_at hl 0 rfl) ?_
  refine va_tlen (v := 96) hx hb (e_t5 hE) hS rfl dJ1_charAt_3b067_2 ?_
  refine kSv (n3 := 2) (As := [.int 1, .int 96]) (rest := []) X hl.1 hE hP hD hS hA [] [] [] [] rfl rfl rfl (by decide) (by decide) (by decide) (c_checkIndexS l D cA cB 1 96 (by first | assumption | decide | rfl | omega) (by first | assumption | decide | rfl | omega)) w_318 w_306 w_317 w_319 (by decide +kernel) rfl rfl (Nat.le_of_ble_eq_true rfl) ⟨(Nat.le_of_ble_eq_true rfl), (Nat.le_of_ble_eq_true rfl)⟩ ⟨(Nat.le_of_ble_eq_true rfl), (Nat.le_of_ble_eq_true rfl)⟩ dJ1_charAt_3b067_3 (fun W1 H locs hw hP hD hS => ?_)
  obtain rfl := hw
  have hP : va_P D classes [] H := hP
  have hD : va_D A [] := hD
  refine lv_aload_n hx hb dJ1_charAt_3b067_6 rfl (lv_at hl 0 rfl) ?_
  refine lv_iload_n hx hb dJ1_charAt_3b067_7 rfl (lv_at hl 1 rfl) ?_
  refine va_tb hx hb (e_t5 hE) hS (vp_in_nI (n := 1) (N := 96) (by decide) (by decide)) (v := .int 100) rfl dJ1_charAt_3b067_8 ?_
  refine lv_sipush (v := 255) hx hb dJ1_charAt_3b067_9 (by decide) ?_
  refine lv_iand hx hb dJ1_charAt_3b067_12 ?_
  refine tk (y := 100) (by decide) ?_
  refine lv_i2c (v := 100) hx hb dJ1_charAt_3b067_13 (by decide) ?_
  exact endT X hr rfl hlocks hP hD hS dJ1_charAt_3b067_14 ⟨rfl, rfl⟩
set_option maxHeartbeats 4000000 in
set_option maxRecDepth 100000 in
theorem c_J0_charAt_5068e_a28 (l : Launch) (D : va_G) (cA cB : ClassId)   : CI l yJ0_charAt_5068e cJ0_charAt_5068e 2 (some .char) 3 64 0 0 D cA cB [.ref (aS D), .int 1] [] (fun r W1 => r = 100 ∧ W1 = []) := by
  refine mkI (lv0 := [(0, .ref (aS D)), (1, .int 1)]) (by decide) (Nat.le_of_ble_eq_true rfl) rfl ?_
  intro p e s m below meth c A ls X hr hlocks hnm hE hA hP hD hS hl
  have hx := X.1
  have hb := X.2.1
  refine lv_aload_n hx hb dJ0_charAt_5068e_0 rfl (lv_at hl 0 rfl) ?_
  refine kVsi (n3 := 0) (As := []) (rest := []) X hl.1 hE hP hD hS hA [] rfl (by decide) (c_J0_isLatin1_aae02_a25 l D cA cB  ) w_314 w_306 w_313 w_315 w_316 (e_o5 hE) (by decide +kernel) rfl rfl (Nat.le_of_ble_eq_true rfl) ⟨(Nat.le_of_ble_eq_true rfl), (Nat.le_of_ble_eq_true rfl)⟩ ⟨(Nat.le_of_ble_eq_true rfl), (Nat.le_of_ble_eq_true rfl)⟩ dJ0_charAt_5068e_1 (fun r W1 H locs hw hP hD hS => ?_)
  obtain ⟨rfl, rfl⟩ := hw
  have hP : va_P D classes [] H := hP
  have hD : va_D A [] := hD
  refine lv_if_eq (tgt := 16) hx hb dJ0_charAt_5068e_4 (by decide) (fun c_4 => absurd c_4 (by decide)) (fun c_4 => ?_)
  refine lv_aload_n hx hb dJ0_charAt_5068e_7 rfl (lv_at hl 0 rfl) ?_
  refine vk_getf hx hb (e_v5 hE) hS X.2.2.2.1 (X.2.2.2.2 _ w_301) (fun _ h9 => h9) dJ0_charAt_5068e_8 ?_
  refine lv_iload_n hx hb dJ0_charAt_5068e_11 rfl (lv_at hl 1 rfl) ?_
  refine kSi (n3 := 2) (As := [.ref (aV D), .int 1]) (rest := []) X hl.1 hE hP hD hS hA [] [] [] [] rfl rfl rfl (by decide) (by decide) (by decide) (c_J1_charAt_3b067_a29 l D cA cB  ) w_321 w_322 w_320 w_323 (by decide +kernel) rfl rfl (Nat.le_of_ble_eq_true rfl) ⟨(Nat.le_of_ble_eq_true rfl), (Nat.le_of_ble_eq_true rfl)⟩ ⟨(Nat.le_of_ble_eq_true rfl), (Nat.le_of_ble_eq_true rfl)⟩ dJ0_charAt_5068e_12 (fun r W1 H locs hw hP hD hS => ?_)
  obtain ⟨rfl, rfl⟩ := hw
  have hP : va_P D classes [] H := hP
  have hD : va_D A [] := hD
  exact endT X hr rfl hlocks hP hD hS dJ0_charAt_5068e_15 ⟨rfl, rfl⟩
set_option maxHeartbeats 4000000 in
set_option maxRecDepth 100000 in
theorem c_X5_put_a30 (l : Launch) (D : va_G) (cA cB : ClassId) (h0 : Nat) (h1 : Nat) (f1 : Nat → Int32)  : CV l yX5_put cX5_put 2 none 0 0 0 0 D cA cB [.ref h0, .int 100] [(h0, .inr (5, [.ref h1, .int 1])), (h1, .inl (cA, 16, .inl f1))] (fun W1 => W1 = [(h0, .inr (5, [.ref h1, .int 2])), (h1, .inl (cA, 16, .inl (upd f1 1 100)))]) := by
  refine mkV (lv0 := [(0, .ref h0), (1, .int 100)]) (by decide) (Nat.le_of_ble_eq_true rfl) rfl ?_
  intro p e s m below meth c A ls X hr hlocks hnm hE hA hP hD hS hl
  have hx := X.1
  have hb := X.2.1
  refine lv_aload_n hx hb dX5_put_0 rfl (lv_at hl 0 rfl) ?_
  refine k_get (C := RX5) (T := TX5) (N := 2) (ci := 5) (v := .int 1) X hE hP 0 rfl rfl iX5 1 (by decide) w_300 rfl dX5_put_1 ?_
  refine lv_bipush (v := 16) hx hb dX5_put_4 (by decide) ?_
  refine lv_icmp_ge (tgt := 29) hx hb dX5_put_6 (by decide) (fun c_6 => absurd c_6 (by decide)) (fun c_6 => ?_)
  refine lv_aload_n hx hb dX5_put_9 rfl (lv_at hl 0 rfl) ?_
  refine k_get (C := RX5) (T := TX5) (N := 2) (ci := 5) (v := .ref h1) X hE hP 0 rfl rfl iX5 0 (by decide) w_9 rfl dX5_put_10 ?_
  refine lv_aload_n hx hb dX5_put_13 rfl (lv_at hl 0 rfl) ?_
  refine k_get (C := RX5) (T := TX5) (N := 2) (ci := 5) (v := .int 1) X hE hP 0 rfl rfl iX5 1 (by decide) w_300 rfl dX5_put_14 ?_
  refine lv_iload_n hx hb dX5_put_17 rfl (lv_at hl 1 rfl) ?_
  refine k_ast X hE hP hD hS 1 rfl 1 rfl (by decide) (by decide) [(h0, .inr (5, [.ref h1, .int 1])), (h1, .inl (cA, 16, .inl (upd f1 1 100)))] rfl dX5_put_18 (fun H locs hP hD hS => ?_)
  refine lv_aload_n hx hb dX5_put_19 rfl (lv_at hl 0 rfl) ?_
  refine lv_dup hx hb dX5_put_20 rfl ?_
  refine k_get (C := RX5) (T := TX5) (N := 2) (ci := 5) (v := .int 1) X hE hP 0 rfl rfl iX5 1 (by decide) w_300 rfl dX5_put_21 ?_
  refine lv_iconst (v := 1) hx hb dX5_put_24 (by decide) ?_
  refine lv_iadd hx hb dX5_put_25 ?_
  refine tk (y := 2) (by decide) ?_
  refine k_put (C := RX5) (T := TX5) (N := 2) (ci := 5) (v := .int 2) (ty := .int) X hE hP hD hS 0 rfl rfl iX5 tyX5 tyX5_ok nmX5 1 (by decide) w_300 rfl (by decide +kernel) rfl rfl (Nat.le_of_ble_eq_true rfl) [(h0, .inr (5, [.ref h1, .int 2])), (h1, .inl (cA, 16, .inl (upd f1 1 100)))] rfl dX5_put_26 (fun H locs hP hD hS => ?_)
  exact endV X hr hlocks hP hD hS dX5_put_29 rfl
set_option maxHeartbeats 4000000 in
set_option maxRecDepth 100000 in
theorem c_J1_charAt_3b067_a32 (l : Launch) (D : va_G) (cA cB : ClassId)   : CI l yJ1_charAt_3b067 cJ1_charAt_3b067 2 (some .char) 2 43 0 0 D cA cB [.ref (aV D), .int 2] [] (fun r W1 => r = 97 ∧ W1 = []) := by
  refine mkI (lv0 := [(0, .ref (aV D)), (1, .int 2)]) (by decide) (Nat.le_of_ble_eq_true rfl) rfl ?_
  intro p e s m below meth c A ls X hr hlocks hnm hE hA hP hD hS hl
  have hx := X.1
  have hb := X.2.1
  refine lv_iload_n hx hb dJ1_charAt_3b067_0 rfl (lv_at hl 1 rfl) ?_
  refine lv_aload_n hx hb dJ1_charAt_3b067_1 rfl (lv_at hl 0 rfl) ?_
  refine va_tlen (v := 96) hx hb (e_t5 hE) hS rfl dJ1_charAt_3b067_2 ?_
  refine kSv (n3 := 2) (As := [.int 2, .int 96]) (rest := []) X hl.1 hE hP hD hS hA [] [] [] [] rfl rfl rfl (by decide) (by decide) (by decide) (c_checkIndexS l D cA cB 2 96 (by first | assumption | decide | rfl | omega) (by first | assumption | decide | rfl | omega)) w_318 w_306 w_317 w_319 (by decide +kernel) rfl rfl (Nat.le_of_ble_eq_true rfl) ⟨(Nat.le_of_ble_eq_true rfl), (Nat.le_of_ble_eq_true rfl)⟩ ⟨(Nat.le_of_ble_eq_true rfl), (Nat.le_of_ble_eq_true rfl)⟩ dJ1_charAt_3b067_3 (fun W1 H locs hw hP hD hS => ?_)
  obtain rfl := hw
  have hP : va_P D classes [] H := hP
  have hD : va_D A [] := hD
  refine lv_aload_n hx hb dJ1_charAt_3b067_6 rfl (lv_at hl 0 rfl) ?_
  refine lv_iload_n hx hb dJ1_charAt_3b067_7 rfl (lv_at hl 1 rfl) ?_
  refine va_tb hx hb (e_t5 hE) hS (vp_in_nI (n := 2) (N := 96) (by decide) (by decide)) (v := .int 97) rfl dJ1_charAt_3b067_8 ?_
  refine lv_sipush (v := 255) hx hb dJ1_charAt_3b067_9 (by decide) ?_
  refine lv_iand hx hb dJ1_charAt_3b067_12 ?_
  refine tk (y := 97) (by decide) ?_
  refine lv_i2c (v := 97) hx hb dJ1_charAt_3b067_13 (by decide) ?_
  exact endT X hr rfl hlocks hP hD hS dJ1_charAt_3b067_14 ⟨rfl, rfl⟩
set_option maxHeartbeats 4000000 in
set_option maxRecDepth 100000 in
theorem c_J0_charAt_5068e_a31 (l : Launch) (D : va_G) (cA cB : ClassId)   : CI l yJ0_charAt_5068e cJ0_charAt_5068e 2 (some .char) 3 64 0 0 D cA cB [.ref (aS D), .int 2] [] (fun r W1 => r = 97 ∧ W1 = []) := by
  refine mkI (lv0 := [(0, .ref (aS D)), (1, .int 2)]) (by decide) (Nat.le_of_ble_eq_true rfl) rfl ?_
  intro p e s m below meth c A ls X hr hlocks hnm hE hA hP hD hS hl
  have hx := X.1
  have hb := X.2.1
  refine lv_aload_n hx hb dJ0_charAt_5068e_0 rfl (lv_at hl 0 rfl) ?_
  refine kVsi (n3 := 0) (As := []) (rest := []) X hl.1 hE hP hD hS hA [] rfl (by decide) (c_J0_isLatin1_aae02_a25 l D cA cB  ) w_314 w_306 w_313 w_315 w_316 (e_o5 hE) (by decide +kernel) rfl rfl (Nat.le_of_ble_eq_true rfl) ⟨(Nat.le_of_ble_eq_true rfl), (Nat.le_of_ble_eq_true rfl)⟩ ⟨(Nat.le_of_ble_eq_true rfl), (Nat.le_of_ble_eq_true rfl)⟩ dJ0_charAt_5068e_1 (fun r W1 H locs hw hP hD hS => ?_)
  obtain ⟨rfl, rfl⟩ := hw
  have hP : va_P D classes [] H := hP
  have hD : va_D A [] := hD
  refine lv_if_eq (tgt := 16) hx hb dJ0_charAt_5068e_4 (by decide) (fun c_4 => absurd c_4 (by decide)) (fun c_4 => ?_)
  refine lv_aload_n hx hb dJ0_charAt_5068e_7 rfl (lv_at hl 0 rfl) ?_
  refine vk_getf hx hb (e_v5 hE) hS X.2.2.2.1 (X.2.2.2.2 _ w_301) (fun _ h9 => h9) dJ0_charAt_5068e_8 ?_
  refine lv_iload_n hx hb dJ0_charAt_5068e_11 rfl (lv_at hl 1 rfl) ?_
  refine kSi (n3 := 2) (As := [.ref (aV D), .int 2]) (rest := []) X hl.1 hE hP hD hS hA [] [] [] [] rfl rfl rfl (by decide) (by decide) (by decide) (c_J1_charAt_3b067_a32 l D cA cB  ) w_321 w_322 w_320 w_323 (by decide +kernel) rfl rfl (Nat.le_of_ble_eq_true rfl) ⟨(Nat.le_of_ble_eq_true rfl), (Nat.le_of_ble_eq_true rfl)⟩ ⟨(Nat.le_of_ble_eq_true rfl), (Nat.le_of_ble_eq_true rfl)⟩ dJ0_charAt_5068e_12 (fun r W1 H locs hw hP hD hS => ?_)
  obtain ⟨rfl, rfl⟩ := hw
  have hP : va_P D classes [] H := hP
  have hD : va_D A [] := hD
  exact endT X hr rfl hlocks hP hD hS dJ0_charAt_5068e_15 ⟨rfl, rfl⟩
set_option maxHeartbeats 4000000 in
set_option maxRecDepth 100000 in
theorem c_X5_put_a33 (l : Launch) (D : va_G) (cA cB : ClassId) (h0 : Nat) (h1 : Nat) (f1 : Nat → Int32)  : CV l yX5_put cX5_put 2 none 0 0 0 0 D cA cB [.ref h0, .int 97] [(h0, .inr (5, [.ref h1, .int 2])), (h1, .inl (cA, 16, .inl f1))] (fun W1 => W1 = [(h0, .inr (5, [.ref h1, .int 3])), (h1, .inl (cA, 16, .inl (upd f1 2 97)))]) := by
  refine mkV (lv0 := [(0, .ref h0), (1, .int 97)]) (by decide) (Nat.le_of_ble_eq_true rfl) rfl ?_
  intro p e s m below meth c A ls X hr hlocks hnm hE hA hP hD hS hl
  have hx := X.1
  have hb := X.2.1
  refine lv_aload_n hx hb dX5_put_0 rfl (lv_at hl 0 rfl) ?_
  refine k_get (C := RX5) (T := TX5) (N := 2) (ci := 5) (v := .int 2) X hE hP 0 rfl rfl iX5 1 (by decide) w_300 rfl dX5_put_1 ?_
  refine lv_bipush (v := 16) hx hb dX5_put_4 (by decide) ?_
  refine lv_icmp_ge (tgt := 29) hx hb dX5_put_6 (by decide) (fun c_6 => absurd c_6 (by decide)) (fun c_6 => ?_)
  refine lv_aload_n hx hb dX5_put_9 rfl (lv_at hl 0 rfl) ?_
  refine k_get (C := RX5) (T := TX5) (N := 2) (ci := 5) (v := .ref h1) X hE hP 0 rfl rfl iX5 0 (by decide) w_9 rfl dX5_put_10 ?_
  refine lv_aload_n hx hb dX5_put_13 rfl (lv_at hl 0 rfl) ?_
  refine k_get (C := RX5) (T := TX5) (N := 2) (ci := 5) (v := .int 2) X hE hP 0 rfl rfl iX5 1 (by decide) w_300 rfl dX5_put_14 ?_
  refine lv_iload_n hx hb dX5_put_17 rfl (lv_at hl 1 rfl) ?_
  refine k_ast X hE hP hD hS 1 rfl 2 rfl (by decide) (by decide) [(h0, .inr (5, [.ref h1, .int 2])), (h1, .inl (cA, 16, .inl (upd f1 2 97)))] rfl dX5_put_18 (fun H locs hP hD hS => ?_)
  refine lv_aload_n hx hb dX5_put_19 rfl (lv_at hl 0 rfl) ?_
  refine lv_dup hx hb dX5_put_20 rfl ?_
  refine k_get (C := RX5) (T := TX5) (N := 2) (ci := 5) (v := .int 2) X hE hP 0 rfl rfl iX5 1 (by decide) w_300 rfl dX5_put_21 ?_
  refine lv_iconst (v := 1) hx hb dX5_put_24 (by decide) ?_
  refine lv_iadd hx hb dX5_put_25 ?_
  refine tk (y := 3) (by decide) ?_
  refine k_put (C := RX5) (T := TX5) (N := 2) (ci := 5) (v := .int 3) (ty := .int) X hE hP hD hS 0 rfl rfl iX5 tyX5 tyX5_ok nmX5 1 (by decide) w_300 rfl (by decide +kernel) rfl rfl (Nat.le_of_ble_eq_true rfl) [(h0, .inr (5, [.ref h1, .int 3])), (h1, .inl (cA, 16, .inl (upd f1 2 97)))] rfl dX5_put_26 (fun H locs hP hD hS => ?_)
  exact endV X hr hlocks hP hD hS dX5_put_29 rfl
set_option maxHeartbeats 4000000 in
set_option maxRecDepth 100000 in
theorem c_X5_putWord_a21 (l : Launch) (D : va_G) (cA cB : ClassId) (h0 : Nat) (h1 : Nat)  : CV l yX5_putWord cX5_putWord 4 none 4 85 0 0 D cA cB [.ref h0, .ref (aS D), .int 0] [(h0, .inr (5, [.ref h1, .int 0])), (h1, .inl (cA, 16, .inl (fun _ => 0)))] (fun W1 => ∃ (o0 : Nat → Int32), W1 = [(h0, .inr (5, [.ref h1, .int 3])), (h1, .inl (cA, 16, .inl o0))]) := by
  refine mkV (lv0 := [(0, .ref h0), (1, .ref (aS D)), (2, .int 0)]) (by decide) (Nat.le_of_ble_eq_true rfl) rfl ?_
  intro p e s m below meth c A ls X hr hlocks hnm hE hA hP hD hS hl
  have hx := X.1
  have hb := X.2.1
  refine lv_iconst (v := 3) hx hb dX5_putWord_0 (by decide) ?_
  refine lv_iload_n hx hb dX5_putWord_1 rfl (lv_at hl 2 rfl) ?_
  refine lv_imul hx hb dX5_putWord_2 ?_
  refine tk (y := 0) (by decide) ?_
  refine lv_istore_n (lv' := [(3, .int 0), (0, .ref h0), (1, .ref (aS D)), (2, .int 0)]) hx hb dX5_putWord_3 rfl hl (by decide) rfl (fun ls hl => ?_)
  refine lv_iload_n hx hb dX5_putWord_4 rfl (lv_at hl 0 rfl) ?_
  refine lv_iconst (v := 3) hx hb dX5_putWord_5 (by decide) ?_
  refine lv_iload_n hx hb dX5_putWord_6 rfl (lv_at hl 3 rfl) ?_
  refine lv_imul hx hb dX5_putWord_7 ?_
  refine tk (y := 0) (by decide) ?_
  refine lv_iconst (v := 3) hx hb dX5_putWord_8 (by decide) ?_
  refine lv_iadd hx hb dX5_putWord_9 ?_
  refine tk (y := 3) (by decide) ?_
  refine lv_icmp_ge (tgt := 36) hx hb dX5_putWord_10 (by decide) (fun c_10 => absurd c_10 (by decide)) (fun c_10 => ?_)
  refine lv_iload_n hx hb dX5_putWord_13 rfl (lv_at hl 0 rfl) ?_
  refine lv_aload_n hx hb dX5_putWord_14 rfl (lv_at hl 2 rfl) ?_
  refine kVsi (n3 := 0) (As := []) (rest := [.int 0]) X hl.1 hE hP hD hS hA [0, 1] rfl (by decide) (c_J0_length_8abf5_a22 l D cA cB  ) w_310 w_306 w_309 w_311 w_312 (e_o5 hE) (by decide +kernel) rfl rfl (Nat.le_of_ble_eq_true rfl) ⟨(Nat.le_of_ble_eq_true rfl), (Nat.le_of_ble_eq_true rfl)⟩ ⟨(Nat.le_of_ble_eq_true rfl), (Nat.le_of_ble_eq_true rfl)⟩ dX5_putWord_15 (fun r W1 H locs hw hP hD hS => ?_)
  obtain ⟨rfl, rfl⟩ := hw
  have hP : va_P D classes [(h0, .inr (5, [.ref h1, .int 0])), (h1, .inl (cA, 16, .inl (fun _ => 0)))] H := hP
  have hD : va_D A [(h0, .inr (5, [.ref h1, .int 0])), (h1, .inl (cA, 16, .inl (fun _ => 0)))] := hD
  refine lv_icmp_ge (tgt := 36) hx hb dX5_putWord_18 (by decide) (fun c_18 => absurd c_18 (by decide)) (fun c_18 => ?_)
  refine lv_aload_n hx hb dX5_putWord_21 rfl (lv_at hl 1 rfl) ?_
  refine lv_aload_n hx hb dX5_putWord_22 rfl (lv_at hl 2 rfl) ?_
  refine lv_iload_n hx hb dX5_putWord_23 rfl (lv_at hl 0 rfl) ?_
  refine kVsi (n3 := 1) (As := [.int 0]) (rest := [.ref h0]) X hl.1 hE hP hD hS hA [0, 1] rfl (by decide) (c_J0_charAt_5068e_a24 l D cA cB  ) w_325 w_306 w_324 w_326 w_327 (e_o5 hE) (by decide +kernel) rfl rfl (Nat.le_of_ble_eq_true rfl) ⟨(Nat.le_of_ble_eq_true rfl), (Nat.le_of_ble_eq_true rfl)⟩ ⟨(Nat.le_of_ble_eq_true rfl), (Nat.le_of_ble_eq_true rfl)⟩ dX5_putWord_24 (fun r W1 H locs hw hP hD hS => ?_)
  obtain ⟨rfl, rfl⟩ := hw
  have hP : va_P D classes [(h0, .inr (5, [.ref h1, .int 0])), (h1, .inl (cA, 16, .inl (fun _ => 0)))] H := hP
  have hD : va_D A [(h0, .inr (5, [.ref h1, .int 0])), (h1, .inl (cA, 16, .inl (fun _ => 0)))] := hD
  refine kVv (n3 := 1) (As := [.int 108]) (rest := []) X hl.1 hE hP hD hS hA [(h0, .inr (5, [.ref h1, .int 0])), (h1, .inl (cA, 16, .inl (fun _ => 0)))] [] [0, 1] [] rfl rfl rfl (by decide) (by decide) (by decide) (c_X5_put_a27 l D cA cB h0 h1 ) w_329 w_106 w_328 w_330 w_331 0 (ci := 5) (T := TX5) (N := 2) rfl rfl (by decide +kernel) rfl rfl (Nat.le_of_ble_eq_true rfl) ⟨(Nat.le_of_ble_eq_true rfl), (Nat.le_of_ble_eq_true rfl)⟩ ⟨(Nat.le_of_ble_eq_true rfl), (Nat.le_of_ble_eq_true rfl)⟩ dX5_putWord_27 (fun W1 H locs hw hP hD hS => ?_)
  obtain ⟨o0_1, rfl⟩ := hw
  have hP : va_P D classes [(h0, .inr (5, [.ref h1, .int 1])), (h1, .inl (cA, 16, .inl o0_1))] H := hP
  have hD : va_D A [(h0, .inr (5, [.ref h1, .int 1])), (h1, .inl (cA, 16, .inl o0_1))] := hD
  refine lv_iinc (v := 1) (lv' := [(3, .int 1), (0, .ref h0), (1, .ref (aS D)), (2, .int 0)]) hx hb dX5_putWord_30 hl (k := 0) rfl (by decide) (by decide) rfl (fun ls hl => ?_)
  refine lv_goto (tgt := 4) hx hb dX5_putWord_33 (by decide) ?_
  refine lv_iload_n hx hb dX5_putWord_4 rfl (lv_at hl 0 rfl) ?_
  refine lv_iconst (v := 3) hx hb dX5_putWord_5 (by decide) ?_
  refine lv_iload_n hx hb dX5_putWord_6 rfl (lv_at hl 3 rfl) ?_
  refine lv_imul hx hb dX5_putWord_7 ?_
  refine tk (y := 0) (by decide) ?_
  refine lv_iconst (v := 3) hx hb dX5_putWord_8 (by decide) ?_
  refine lv_iadd hx hb dX5_putWord_9 ?_
  refine tk (y := 3) (by decide) ?_
  refine lv_icmp_ge (tgt := 36) hx hb dX5_putWord_10 (by decide) (fun c_10_2 => absurd c_10_2 (by decide)) (fun c_10_2 => ?_)
  refine lv_iload_n hx hb dX5_putWord_13 rfl (lv_at hl 0 rfl) ?_
  refine lv_aload_n hx hb dX5_putWord_14 rfl (lv_at hl 2 rfl) ?_
  refine kVsi (n3 := 0) (As := []) (rest := [.int 1]) X hl.1 hE hP hD hS hA [0, 1] rfl (by decide) (c_J0_length_8abf5_a22 l D cA cB  ) w_310 w_306 w_309 w_311 w_312 (e_o5 hE) (by decide +kernel) rfl rfl (Nat.le_of_ble_eq_true rfl) ⟨(Nat.le_of_ble_eq_true rfl), (Nat.le_of_ble_eq_true rfl)⟩ ⟨(Nat.le_of_ble_eq_true rfl), (Nat.le_of_ble_eq_true rfl)⟩ dX5_putWord_15 (fun r W1 H locs hw hP hD hS => ?_)
  obtain ⟨rfl, rfl⟩ := hw
  have hP : va_P D classes [(h0, .inr (5, [.ref h1, .int 1])), (h1, .inl (cA, 16, .inl o0_1))] H := hP
  have hD : va_D A [(h0, .inr (5, [.ref h1, .int 1])), (h1, .inl (cA, 16, .inl o0_1))] := hD
  refine lv_icmp_ge (tgt := 36) hx hb dX5_putWord_18 (by decide) (fun c_18_3 => absurd c_18_3 (by decide)) (fun c_18_3 => ?_)
  refine lv_aload_n hx hb dX5_putWord_21 rfl (lv_at hl 1 rfl) ?_
  refine lv_aload_n hx hb dX5_putWord_22 rfl (lv_at hl 2 rfl) ?_
  refine lv_iload_n hx hb dX5_putWord_23 rfl (lv_at hl 0 rfl) ?_
  refine kVsi (n3 := 1) (As := [.int 1]) (rest := [.ref h0]) X hl.1 hE hP hD hS hA [0, 1] rfl (by decide) (c_J0_charAt_5068e_a28 l D cA cB  ) w_325 w_306 w_324 w_326 w_327 (e_o5 hE) (by decide +kernel) rfl rfl (Nat.le_of_ble_eq_true rfl) ⟨(Nat.le_of_ble_eq_true rfl), (Nat.le_of_ble_eq_true rfl)⟩ ⟨(Nat.le_of_ble_eq_true rfl), (Nat.le_of_ble_eq_true rfl)⟩ dX5_putWord_24 (fun r W1 H locs hw hP hD hS => ?_)
  obtain ⟨rfl, rfl⟩ := hw
  have hP : va_P D classes [(h0, .inr (5, [.ref h1, .int 1])), (h1, .inl (cA, 16, .inl o0_1))] H := hP
  have hD : va_D A [(h0, .inr (5, [.ref h1, .int 1])), (h1, .inl (cA, 16, .inl o0_1))] := hD
  refine kVv (n3 := 1) (As := [.int 100]) (rest := []) X hl.1 hE hP hD hS hA [(h0, .inr (5, [.ref h1, .int 1])), (h1, .inl (cA, 16, .inl o0_1))] [] [0, 1] [] rfl rfl rfl (by decide) (by decide) (by decide) (c_X5_put_a30 l D cA cB h0 h1 o0_1 ) w_329 w_106 w_328 w_330 w_331 0 (ci := 5) (T := TX5) (N := 2) rfl rfl (by decide +kernel) rfl rfl (Nat.le_of_ble_eq_true rfl) ⟨(Nat.le_of_ble_eq_true rfl), (Nat.le_of_ble_eq_true rfl)⟩ ⟨(Nat.le_of_ble_eq_true rfl), (Nat.le_of_ble_eq_true rfl)⟩ dX5_putWord_27 (fun W1 H locs hw hP hD hS => ?_)
  obtain rfl := hw
  have hP : va_P D classes [(h0, .inr (5, [.ref h1, .int 2])), (h1, .inl (cA, 16, .inl (upd o0_1 1 100)))] H := hP
  have hD : va_D A [(h0, .inr (5, [.ref h1, .int 2])), (h1, .inl (cA, 16, .inl (upd o0_1 1 100)))] := hD
  refine lv_iinc (v := 2) (lv' := [(3, .int 2), (0, .ref h0), (1, .ref (aS D)), (2, .int 0)]) hx hb dX5_putWord_30 hl (k := 0) rfl (by decide) (by decide) rfl (fun ls hl => ?_)
  refine lv_goto (tgt := 4) hx hb dX5_putWord_33 (by decide) ?_
  refine lv_iload_n hx hb dX5_putWord_4 rfl (lv_at hl 0 rfl) ?_
  refine lv_iconst (v := 3) hx hb dX5_putWord_5 (by decide) ?_
  refine lv_iload_n hx hb dX5_putWord_6 rfl (lv_at hl 3 rfl) ?_
  refine lv_imul hx hb dX5_putWord_7 ?_
  refine tk (y := 0) (by decide) ?_
  refine lv_iconst (v := 3) hx hb dX5_putWord_8 (by decide) ?_
  refine lv_iadd hx hb dX5_putWord_9 ?_
  refine tk (y := 3) (by decide) ?_
  refine lv_icmp_ge (tgt := 36) hx hb dX5_putWord_10 (by decide) (fun c_10_4 => absurd c_10_4 (by decide)) (fun c_10_4 => ?_)
  refine lv_iload_n hx hb dX5_putWord_13 rfl (lv_at hl 0 rfl) ?_
  refine lv_aload_n hx hb dX5_putWord_14 rfl (lv_at hl 2 rfl) ?_
  refine kVsi (n3 := 0) (As := []) (rest := [.int 2]) X hl.1 hE hP hD hS hA [0, 1] rfl (by decide) (c_J0_length_8abf5_a22 l D cA cB  ) w_310 w_306 w_309 w_311 w_312 (e_o5 hE) (by decide +kernel) rfl rfl (Nat.le_of_ble_eq_true rfl) ⟨(Nat.le_of_ble_eq_true rfl), (Nat.le_of_ble_eq_true rfl)⟩ ⟨(Nat.le_of_ble_eq_true rfl), (Nat.le_of_ble_eq_true rfl)⟩ dX5_putWord_15 (fun r W1 H locs hw hP hD hS => ?_)
  obtain ⟨rfl, rfl⟩ := hw
  have hP : va_P D classes [(h0, .inr (5, [.ref h1, .int 2])), (h1, .inl (cA, 16, .inl (upd o0_1 1 100)))] H := hP
  have hD : va_D A [(h0, .inr (5, [.ref h1, .int 2])), (h1, .inl (cA, 16, .inl (upd o0_1 1 100)))] := hD
  refine lv_icmp_ge (tgt := 36) hx hb dX5_putWord_18 (by decide) (fun c_18_5 => absurd c_18_5 (by decide)) (fun c_18_5 => ?_)
  refine lv_aload_n hx hb dX5_putWord_21 rfl (lv_at hl 1 rfl) ?_
  refine lv_aload_n hx hb dX5_putWord_22 rfl (lv_at hl 2 rfl) ?_
  refine lv_iload_n hx hb dX5_putWord_23 rfl (lv_at hl 0 rfl) ?_
  refine kVsi (n3 := 1) (As := [.int 2]) (rest := [.ref h0]) X hl.1 hE hP hD hS hA [0, 1] rfl (by decide) (c_J0_charAt_5068e_a31 l D cA cB  ) w_325 w_306 w_324 w_326 w_327 (e_o5 hE) (by decide +kernel) rfl rfl (Nat.le_of_ble_eq_true rfl) ⟨(Nat.le_of_ble_eq_true rfl), (Nat.le_of_ble_eq_true rfl)⟩ ⟨(Nat.le_of_ble_eq_true rfl), (Nat.le_of_ble_eq_true rfl)⟩ dX5_putWord_24 (fun r W1 H locs hw hP hD hS => ?_)
  obtain ⟨rfl, rfl⟩ := hw
  have hP : va_P D classes [(h0, .inr (5, [.ref h1, .int 2])), (h1, .inl (cA, 16, .inl (upd o0_1 1 100)))] H := hP
  have hD : va_D A [(h0, .inr (5, [.ref h1, .int 2])), (h1, .inl (cA, 16, .inl (upd o0_1 1 100)))] := hD
  refine kVv (n3 := 1) (As := [.int 97]) (rest := []) X hl.1 hE hP hD hS hA [(h0, .inr (5, [.ref h1, .int 2])), (h1, .inl (cA, 16, .inl (upd o0_1 1 100)))] [] [0, 1] [] rfl rfl rfl (by decide) (by decide) (by decide) (c_X5_put_a33 l D cA cB h0 h1 (upd o0_1 1 100) ) w_329 w_106 w_328 w_330 w_331 0 (ci := 5) (T := TX5) (N := 2) rfl rfl (by decide +kernel) rfl rfl (Nat.le_of_ble_eq_true rfl) ⟨(Nat.le_of_ble_eq_true rfl), (Nat.le_of_ble_eq_true rfl)⟩ ⟨(Nat.le_of_ble_eq_true rfl), (Nat.le_of_ble_eq_true rfl)⟩ dX5_putWord_27 (fun W1 H locs hw hP hD hS => ?_)
  obtain rfl := hw
  have hP : va_P D classes [(h0, .inr (5, [.ref h1, .int 3])), (h1, .inl (cA, 16, .inl (upd (upd o0_1 1 100) 2 97)))] H := hP
  have hD : va_D A [(h0, .inr (5, [.ref h1, .int 3])), (h1, .inl (cA, 16, .inl (upd (upd o0_1 1 100) 2 97)))] := hD
  refine lv_iinc (v := 3) (lv' := [(3, .int 3), (0, .ref h0), (1, .ref (aS D)), (2, .int 0)]) hx hb dX5_putWord_30 hl (k := 0) rfl (by decide) (by decide) rfl (fun ls hl => ?_)
  refine lv_goto (tgt := 4) hx hb dX5_putWord_33 (by decide) ?_
  refine lv_iload_n hx hb dX5_putWord_4 rfl (lv_at hl 0 rfl) ?_
  refine lv_iconst (v := 3) hx hb dX5_putWord_5 (by decide) ?_
  refine lv_iload_n hx hb dX5_putWord_6 rfl (lv_at hl 3 rfl) ?_
  refine lv_imul hx hb dX5_putWord_7 ?_
  refine tk (y := 0) (by decide) ?_
  refine lv_iconst (v := 3) hx hb dX5_putWord_8 (by decide) ?_
  refine lv_iadd hx hb dX5_putWord_9 ?_
  refine tk (y := 3) (by decide) ?_
  refine lv_icmp_ge (tgt := 36) hx hb dX5_putWord_10 (by decide) (fun c_10_6 => ?_) (fun c_10_6 => absurd (by decide) c_10_6)
  exact endV X hr hlocks hP hD hS dX5_putWord_36 ⟨(upd (upd o0_1 1 100) 2 97), rfl⟩
set_option maxHeartbeats 4000000 in
set_option maxRecDepth 100000 in
theorem c_X5_put_a34 (l : Launch) (D : va_G) (cA cB : ClassId) (h0 : Nat) (h1 : Nat) (f1 : Nat → Int32)  : CV l yX5_put cX5_put 2 none 0 0 0 0 D cA cB [.ref h0, .int 32] [(h0, .inr (5, [.ref h1, .int 3])), (h1, .inl (cA, 16, .inl f1))] (fun W1 => W1 = [(h0, .inr (5, [.ref h1, .int 4])), (h1, .inl (cA, 16, .inl (upd f1 3 32)))]) := by
  refine mkV (lv0 := [(0, .ref h0), (1, .int 32)]) (by decide) (Nat.le_of_ble_eq_true rfl) rfl ?_
  intro p e s m below meth c A ls X hr hlocks hnm hE hA hP hD hS hl
  have hx := X.1
  have hb := X.2.1
  refine lv_aload_n hx hb dX5_put_0 rfl (lv_at hl 0 rfl) ?_
  refine k_get (C := RX5) (T := TX5) (N := 2) (ci := 5) (v := .int 3) X hE hP 0 rfl rfl iX5 1 (by decide) w_300 rfl dX5_put_1 ?_
  refine lv_bipush (v := 16) hx hb dX5_put_4 (by decide) ?_
  refine lv_icmp_ge (tgt := 29) hx hb dX5_put_6 (by decide) (fun c_6 => absurd c_6 (by decide)) (fun c_6 => ?_)
  refine lv_aload_n hx hb dX5_put_9 rfl (lv_at hl 0 rfl) ?_
  refine k_get (C := RX5) (T := TX5) (N := 2) (ci := 5) (v := .ref h1) X hE hP 0 rfl rfl iX5 0 (by decide) w_9 rfl dX5_put_10 ?_
  refine lv_aload_n hx hb dX5_put_13 rfl (lv_at hl 0 rfl) ?_
  refine k_get (C := RX5) (T := TX5) (N := 2) (ci := 5) (v := .int 3) X hE hP 0 rfl rfl iX5 1 (by decide) w_300 rfl dX5_put_14 ?_
  refine lv_iload_n hx hb dX5_put_17 rfl (lv_at hl 1 rfl) ?_
  refine k_ast X hE hP hD hS 1 rfl 3 rfl (by decide) (by decide) [(h0, .inr (5, [.ref h1, .int 3])), (h1, .inl (cA, 16, .inl (upd f1 3 32)))] rfl dX5_put_18 (fun H locs hP hD hS => ?_)
  refine lv_aload_n hx hb dX5_put_19 rfl (lv_at hl 0 rfl) ?_
  refine lv_dup hx hb dX5_put_20 rfl ?_
  refine k_get (C := RX5) (T := TX5) (N := 2) (ci := 5) (v := .int 3) X hE hP 0 rfl rfl iX5 1 (by decide) w_300 rfl dX5_put_21 ?_
  refine lv_iconst (v := 1) hx hb dX5_put_24 (by decide) ?_
  refine lv_iadd hx hb dX5_put_25 ?_
  refine tk (y := 4) (by decide) ?_
  refine k_put (C := RX5) (T := TX5) (N := 2) (ci := 5) (v := .int 4) (ty := .int) X hE hP hD hS 0 rfl rfl iX5 tyX5 tyX5_ok nmX5 1 (by decide) w_300 rfl (by decide +kernel) rfl rfl (Nat.le_of_ble_eq_true rfl) [(h0, .inr (5, [.ref h1, .int 4])), (h1, .inl (cA, 16, .inl (upd f1 3 32)))] rfl dX5_put_26 (fun H locs hP hD hS => ?_)
  exact endV X hr hlocks hP hD hS dX5_put_29 rfl
set_option maxHeartbeats 4000000 in
set_option maxRecDepth 100000 in
theorem c_X5_put_a36 (l : Launch) (D : va_G) (cA cB : ClassId) (h0 : Nat) (h1 : Nat) (f1 : Nat → Int32)  : CV l yX5_put cX5_put 2 none 0 0 0 0 D cA cB [.ref h0, .int 35] [(h0, .inr (5, [.ref h1, .int 4])), (h1, .inl (cA, 16, .inl f1))] (fun W1 => W1 = [(h0, .inr (5, [.ref h1, .int 5])), (h1, .inl (cA, 16, .inl (upd f1 4 35)))]) := by
  refine mkV (lv0 := [(0, .ref h0), (1, .int 35)]) (by decide) (Nat.le_of_ble_eq_true rfl) rfl ?_
  intro p e s m below meth c A ls X hr hlocks hnm hE hA hP hD hS hl
  have hx := X.1
  have hb := X.2.1
  refine lv_aload_n hx hb dX5_put_0 rfl (lv_at hl 0 rfl) ?_
  refine k_get (C := RX5) (T := TX5) (N := 2) (ci := 5) (v := .int 4) X hE hP 0 rfl rfl iX5 1 (by decide) w_300 rfl dX5_put_1 ?_
  refine lv_bipush (v := 16) hx hb dX5_put_4 (by decide) ?_
  refine lv_icmp_ge (tgt := 29) hx hb dX5_put_6 (by decide) (fun c_6 => absurd c_6 (by decide)) (fun c_6 => ?_)
  refine lv_aload_n hx hb dX5_put_9 rfl (lv_at hl 0 rfl) ?_
  refine k_get (C := RX5) (T := TX5) (N := 2) (ci := 5) (v := .ref h1) X hE hP 0 rfl rfl iX5 0 (by decide) w_9 rfl dX5_put_10 ?_
  refine lv_aload_n hx hb dX5_put_13 rfl (lv_at hl 0 rfl) ?_
  refine k_get (C := RX5) (T := TX5) (N := 2) (ci := 5) (v := .int 4) X hE hP 0 rfl rfl iX5 1 (by decide) w_300 rfl dX5_put_14 ?_
  refine lv_iload_n hx hb dX5_put_17 rfl (lv_at hl 1 rfl) ?_
  refine k_ast X hE hP hD hS 1 rfl 4 rfl (by decide) (by decide) [(h0, .inr (5, [.ref h1, .int 4])), (h1, .inl (cA, 16, .inl (upd f1 4 35)))] rfl dX5_put_18 (fun H locs hP hD hS => ?_)
  refine lv_aload_n hx hb dX5_put_19 rfl (lv_at hl 0 rfl) ?_
  refine lv_dup hx hb dX5_put_20 rfl ?_
  refine k_get (C := RX5) (T := TX5) (N := 2) (ci := 5) (v := .int 4) X hE hP 0 rfl rfl iX5 1 (by decide) w_300 rfl dX5_put_21 ?_
  refine lv_iconst (v := 1) hx hb dX5_put_24 (by decide) ?_
  refine lv_iadd hx hb dX5_put_25 ?_
  refine tk (y := 5) (by decide) ?_
  refine k_put (C := RX5) (T := TX5) (N := 2) (ci := 5) (v := .int 5) (ty := .int) X hE hP hD hS 0 rfl rfl iX5 tyX5 tyX5_ok nmX5 1 (by decide) w_300 rfl (by decide +kernel) rfl rfl (Nat.le_of_ble_eq_true rfl) [(h0, .inr (5, [.ref h1, .int 5])), (h1, .inl (cA, 16, .inl (upd f1 4 35)))] rfl dX5_put_26 (fun H locs hP hD hS => ?_)
  exact endV X hr hlocks hP hD hS dX5_put_29 rfl
set_option maxHeartbeats 4000000 in
set_option maxRecDepth 100000 in
theorem c_X5_put_a38 (l : Launch) (D : va_G) (cA cB : ClassId) (h0 : Nat) (h1 : Nat) (f1 : Nat → Int32)  : CV l yX5_put cX5_put 2 none 0 0 0 0 D cA cB [.ref h0, .int 48] [(h0, .inr (5, [.ref h1, .int 5])), (h1, .inl (cA, 16, .inl f1))] (fun W1 => W1 = [(h0, .inr (5, [.ref h1, .int 6])), (h1, .inl (cA, 16, .inl (upd f1 5 48)))]) := by
  refine mkV (lv0 := [(0, .ref h0), (1, .int 48)]) (by decide) (Nat.le_of_ble_eq_true rfl) rfl ?_
  intro p e s m below meth c A ls X hr hlocks hnm hE hA hP hD hS hl
  have hx := X.1
  have hb := X.2.1
  refine lv_aload_n hx hb dX5_put_0 rfl (lv_at hl 0 rfl) ?_
  refine k_get (C := RX5) (T := TX5) (N := 2) (ci := 5) (v := .int 5) X hE hP 0 rfl rfl iX5 1 (by decide) w_300 rfl dX5_put_1 ?_
  refine lv_bipush (v := 16) hx hb dX5_put_4 (by decide) ?_
  refine lv_icmp_ge (tgt := 29) hx hb dX5_put_6 (by decide) (fun c_6 => absurd c_6 (by decide)) (fun c_6 => ?_)
  refine lv_aload_n hx hb dX5_put_9 rfl (lv_at hl 0 rfl) ?_
  refine k_get (C := RX5) (T := TX5) (N := 2) (ci := 5) (v := .ref h1) X hE hP 0 rfl rfl iX5 0 (by decide) w_9 rfl dX5_put_10 ?_
  refine lv_aload_n hx hb dX5_put_13 rfl (lv_at hl 0 rfl) ?_
  refine k_get (C := RX5) (T := TX5) (N := 2) (ci := 5) (v := .int 5) X hE hP 0 rfl rfl iX5 1 (by decide) w_300 rfl dX5_put_14 ?_
  refine lv_iload_n hx hb dX5_put_17 rfl (lv_at hl 1 rfl) ?_
  refine k_ast X hE hP hD hS 1 rfl 5 rfl (by decide) (by decide) [(h0, .inr (5, [.ref h1, .int 5])), (h1, .inl (cA, 16, .inl (upd f1 5 48)))] rfl dX5_put_18 (fun H locs hP hD hS => ?_)
  refine lv_aload_n hx hb dX5_put_19 rfl (lv_at hl 0 rfl) ?_
  refine lv_dup hx hb dX5_put_20 rfl ?_
  refine k_get (C := RX5) (T := TX5) (N := 2) (ci := 5) (v := .int 5) X hE hP 0 rfl rfl iX5 1 (by decide) w_300 rfl dX5_put_21 ?_
  refine lv_iconst (v := 1) hx hb dX5_put_24 (by decide) ?_
  refine lv_iadd hx hb dX5_put_25 ?_
  refine tk (y := 6) (by decide) ?_
  refine k_put (C := RX5) (T := TX5) (N := 2) (ci := 5) (v := .int 6) (ty := .int) X hE hP hD hS 0 rfl rfl iX5 tyX5 tyX5_ok nmX5 1 (by decide) w_300 rfl (by decide +kernel) rfl rfl (Nat.le_of_ble_eq_true rfl) [(h0, .inr (5, [.ref h1, .int 6])), (h1, .inl (cA, 16, .inl (upd f1 5 48)))] rfl dX5_put_26 (fun H locs hP hD hS => ?_)
  exact endV X hr hlocks hP hD hS dX5_put_29 rfl
set_option maxHeartbeats 4000000 in
set_option maxRecDepth 100000 in
theorem c_X5_putNumber_a37 (l : Launch) (D : va_G) (cA cB : ClassId) (h0 : Nat) (h1 : Nat) (f1 : Nat → Int32)  : CV l yX5_putNumber cX5_putNumber 3 none 1 21 0 0 D cA cB [.ref h0, .int 0] [(h0, .inr (5, [.ref h1, .int 5])), (h1, .inl (cA, 16, .inl f1))] (fun W1 => W1 = [(h0, .inr (5, [.ref h1, .int 6])), (h1, .inl (cA, 16, .inl (upd f1 5 48)))]) := by
  refine mkV (lv0 := [(0, .ref h0), (1, .int 0)]) (by decide) (Nat.le_of_ble_eq_true rfl) rfl ?_
  intro p e s m below meth c A ls X hr hlocks hnm hE hA hP hD hS hl
  have hx := X.1
  have hb := X.2.1
  refine lv_sipush (v := 10000) hx hb dX5_putNumber_0 (by decide) ?_
  refine lv_istore_n (lv' := [(2, .int 10000), (0, .ref h0), (1, .int 0)]) hx hb dX5_putNumber_3 rfl hl (by decide) rfl (fun ls hl => ?_)
  refine lv_iload_n hx hb dX5_putNumber_4 rfl (lv_at hl 0 rfl) ?_
  refine lv_iconst (v := 1) hx hb dX5_putNumber_5 (by decide) ?_
  refine lv_icmp_lt (tgt := 40) hx hb dX5_putNumber_6 (by decide) (fun c_6 => absurd c_6 (by decide)) (fun c_6 => ?_)
  refine lv_iload_n hx hb dX5_putNumber_9 rfl (lv_at hl 2 rfl) ?_
  refine lv_iload_n hx hb dX5_putNumber_10 rfl (lv_at hl 0 rfl) ?_
  refine lv_icmp_ge (tgt := 19) hx hb dX5_putNumber_11 (by decide) (fun c_11 => absurd c_11 (by decide)) (fun c_11 => ?_)
  refine lv_iload_n hx hb dX5_putNumber_14 rfl (lv_at hl 0 rfl) ?_
  refine lv_iconst (v := 1) hx hb dX5_putNumber_15 (by decide) ?_
  refine lv_icmp_ne (tgt := 32) hx hb dX5_putNumber_16 (by decide) (fun c_16 => ?_) (fun c_16 => absurd c_16 (by decide))
  refine lv_iload_n hx hb dX5_putNumber_32 rfl (lv_at hl 0 rfl) ?_
  refine lv_bipush (v := 10) hx hb dX5_putNumber_33 (by decide) ?_
  refine lv_idiv hx hb dX5_putNumber_35 (by decide) ?_
  refine tk (y := 1000) (by decide) ?_
  refine lv_istore_n (lv' := [(2, .int 1000), (0, .ref h0), (1, .int 0)]) hx hb dX5_putNumber_36 rfl hl (by decide) rfl (fun ls hl => ?_)
  refine lv_goto (tgt := 4) hx hb dX5_putNumber_37 (by decide) ?_
  refine lv_iload_n hx hb dX5_putNumber_4 rfl (lv_at hl 0 rfl) ?_
  refine lv_iconst (v := 1) hx hb dX5_putNumber_5 (by decide) ?_
  refine lv_icmp_lt (tgt := 40) hx hb dX5_putNumber_6 (by decide) (fun c_6_1 => absurd c_6_1 (by decide)) (fun c_6_1 => ?_)
  refine lv_iload_n hx hb dX5_putNumber_9 rfl (lv_at hl 2 rfl) ?_
  refine lv_iload_n hx hb dX5_putNumber_10 rfl (lv_at hl 0 rfl) ?_
  refine lv_icmp_ge (tgt := 19) hx hb dX5_putNumber_11 (by decide) (fun c_11_2 => absurd c_11_2 (by decide)) (fun c_11_2 => ?_)
  refine lv_iload_n hx hb dX5_putNumber_14 rfl (lv_at hl 0 rfl) ?_
  refine lv_iconst (v := 1) hx hb dX5_putNumber_15 (by decide) ?_
  refine lv_icmp_ne (tgt := 32) hx hb dX5_putNumber_16 (by decide) (fun c_16_3 => ?_) (fun c_16_3 => absurd c_16_3 (by decide))
  refine lv_iload_n hx hb dX5_putNumber_32 rfl (lv_at hl 0 rfl) ?_
  refine lv_bipush (v := 10) hx hb dX5_putNumber_33 (by decide) ?_
  refine lv_idiv hx hb dX5_putNumber_35 (by decide) ?_
  refine tk (y := 100) (by decide) ?_
  refine lv_istore_n (lv' := [(2, .int 100), (0, .ref h0), (1, .int 0)]) hx hb dX5_putNumber_36 rfl hl (by decide) rfl (fun ls hl => ?_)
  refine lv_goto (tgt := 4) hx hb dX5_putNumber_37 (by decide) ?_
  refine lv_iload_n hx hb dX5_putNumber_4 rfl (lv_at hl 0 rfl) ?_
  refine lv_iconst (v := 1) hx hb dX5_putNumber_5 (by decide) ?_
  refine lv_icmp_lt (tgt := 40) hx hb dX5_putNumber_6 (by decide) (fun c_6_4 => absurd c_6_4 (by decide)) (fun c_6_4 => ?_)
  refine lv_iload_n hx hb dX5_putNumber_9 rfl (lv_at hl 2 rfl) ?_
  refine lv_iload_n hx hb dX5_putNumber_10 rfl (lv_at hl 0 rfl) ?_
  refine lv_icmp_ge (tgt := 19) hx hb dX5_putNumber_11 (by decide) (fun c_11_5 => absurd c_11_5 (by decide)) (fun c_11_5 => ?_)
  refine lv_iload_n hx hb dX5_putNumber_14 rfl (lv_at hl 0 rfl) ?_
  refine lv_iconst (v := 1) hx hb dX5_putNumber_15 (by decide) ?_
  refine lv_icmp_ne (tgt := 32) hx hb dX5_putNumber_16 (by decide) (fun c_16_6 => ?_) (fun c_16_6 => absurd c_16_6 (by decide))
  refine lv_iload_n hx hb dX5_putNumber_32 rfl (lv_at hl 0 rfl) ?_
  refine lv_bipush (v := 10) hx hb dX5_putNumber_33 (by decide) ?_
  refine lv_idiv hx hb dX5_putNumber_35 (by decide) ?_
  refine tk (y := 10) (by decide) ?_
  refine lv_istore_n (lv' := [(2, .int 10), (0, .ref h0), (1, .int 0)]) hx hb dX5_putNumber_36 rfl hl (by decide) rfl (fun ls hl => ?_)
  refine lv_goto (tgt := 4) hx hb dX5_putNumber_37 (by decide) ?_
  refine lv_iload_n hx hb dX5_putNumber_4 rfl (lv_at hl 0 rfl) ?_
  refine lv_iconst (v := 1) hx hb dX5_putNumber_5 (by decide) ?_
  refine lv_icmp_lt (tgt := 40) hx hb dX5_putNumber_6 (by decide) (fun c_6_7 => absurd c_6_7 (by decide)) (fun c_6_7 => ?_)
  refine lv_iload_n hx hb dX5_putNumber_9 rfl (lv_at hl 2 rfl) ?_
  refine lv_iload_n hx hb dX5_putNumber_10 rfl (lv_at hl 0 rfl) ?_
  refine lv_icmp_ge (tgt := 19) hx hb dX5_putNumber_11 (by decide) (fun c_11_8 => absurd c_11_8 (by decide)) (fun c_11_8 => ?_)
  refine lv_iload_n hx hb dX5_putNumber_14 rfl (lv_at hl 0 rfl) ?_
  refine lv_iconst (v := 1) hx hb dX5_putNumber_15 (by decide) ?_
  refine lv_icmp_ne (tgt := 32) hx hb dX5_putNumber_16 (by decide) (fun c_16_9 => ?_) (fun c_16_9 => absurd c_16_9 (by decide))
  refine lv_iload_n hx hb dX5_putNumber_32 rfl (lv_at hl 0 rfl) ?_
  refine lv_bipush (v := 10) hx hb dX5_putNumber_33 (by decide) ?_
  refine lv_idiv hx hb dX5_putNumber_35 (by decide) ?_
  refine tk (y := 1) (by decide) ?_
  refine lv_istore_n (lv' := [(2, .int 1), (0, .ref h0), (1, .int 0)]) hx hb dX5_putNumber_36 rfl hl (by decide) rfl (fun ls hl => ?_)
  refine lv_goto (tgt := 4) hx hb dX5_putNumber_37 (by decide) ?_
  refine lv_iload_n hx hb dX5_putNumber_4 rfl (lv_at hl 0 rfl) ?_
  refine lv_iconst (v := 1) hx hb dX5_putNumber_5 (by decide) ?_
  refine lv_icmp_lt (tgt := 40) hx hb dX5_putNumber_6 (by decide) (fun c_6_10 => absurd c_6_10 (by decide)) (fun c_6_10 => ?_)
  refine lv_iload_n hx hb dX5_putNumber_9 rfl (lv_at hl 2 rfl) ?_
  refine lv_iload_n hx hb dX5_putNumber_10 rfl (lv_at hl 0 rfl) ?_
  refine lv_icmp_ge (tgt := 19) hx hb dX5_putNumber_11 (by decide) (fun c_11_11 => absurd c_11_11 (by decide)) (fun c_11_11 => ?_)
  refine lv_iload_n hx hb dX5_putNumber_14 rfl (lv_at hl 0 rfl) ?_
  refine lv_iconst (v := 1) hx hb dX5_putNumber_15 (by decide) ?_
  refine lv_icmp_ne (tgt := 32) hx hb dX5_putNumber_16 (by decide) (fun c_16_12 => absurd (by decide) c_16_12) (fun c_16_12 => ?_)
  refine lv_aload_n hx hb dX5_putNumber_19 rfl (lv_at hl 1 rfl) ?_
  refine lv_bipush (v := 48) hx hb dX5_putNumber_20 (by decide) ?_
  refine lv_iload_n hx hb dX5_putNumber_22 rfl (lv_at hl 2 rfl) ?_
  refine lv_iload_n hx hb dX5_putNumber_23 rfl (lv_at hl 0 rfl) ?_
  refine lv_idiv hx hb dX5_putNumber_24 (by decide) ?_
  refine tk (y := 0) (by decide) ?_
  refine lv_bipush (v := 10) hx hb dX5_putNumber_25 (by decide) ?_
  refine lv_irem hx hb dX5_putNumber_27 (by decide) ?_
  refine tk (y := 0) (by decide) ?_
  refine lv_iadd hx hb dX5_putNumber_28 ?_
  refine tk (y := 48) (by decide) ?_
  refine kVv (n3 := 1) (As := [.int 48]) (rest := []) X hl.1 hE hP hD hS hA [(h0, .inr (5, [.ref h1, .int 5])), (h1, .inl (cA, 16, .inl f1))] [] [0, 1] [] rfl rfl rfl (by decide) (by decide) (by decide) (c_X5_put_a38 l D cA cB h0 h1 f1 ) w_329 w_106 w_328 w_330 w_331 0 (ci := 5) (T := TX5) (N := 2) rfl rfl (by decide +kernel) rfl rfl (Nat.le_of_ble_eq_true rfl) ⟨(Nat.le_of_ble_eq_true rfl), (Nat.le_of_ble_eq_true rfl)⟩ ⟨(Nat.le_of_ble_eq_true rfl), (Nat.le_of_ble_eq_true rfl)⟩ dX5_putNumber_29 (fun W1 H locs hw hP hD hS => ?_)
  obtain rfl := hw
  have hP : va_P D classes [(h0, .inr (5, [.ref h1, .int 6])), (h1, .inl (cA, 16, .inl (upd f1 5 48)))] H := hP
  have hD : va_D A [(h0, .inr (5, [.ref h1, .int 6])), (h1, .inl (cA, 16, .inl (upd f1 5 48)))] := hD
  refine lv_iload_n hx hb dX5_putNumber_32 rfl (lv_at hl 0 rfl) ?_
  refine lv_bipush (v := 10) hx hb dX5_putNumber_33 (by decide) ?_
  refine lv_idiv hx hb dX5_putNumber_35 (by decide) ?_
  refine tk (y := 0) (by decide) ?_
  refine lv_istore_n (lv' := [(2, .int 0), (0, .ref h0), (1, .int 0)]) hx hb dX5_putNumber_36 rfl hl (by decide) rfl (fun ls hl => ?_)
  refine lv_goto (tgt := 4) hx hb dX5_putNumber_37 (by decide) ?_
  refine lv_iload_n hx hb dX5_putNumber_4 rfl (lv_at hl 0 rfl) ?_
  refine lv_iconst (v := 1) hx hb dX5_putNumber_5 (by decide) ?_
  refine lv_icmp_lt (tgt := 40) hx hb dX5_putNumber_6 (by decide) (fun c_6_13 => ?_) (fun c_6_13 => absurd (by decide) c_6_13)
  exact endV X hr hlocks hP hD hS dX5_putNumber_40 rfl
set_option maxHeartbeats 4000000 in
set_option maxRecDepth 100000 in
theorem c_X5_tellWay_a35 (l : Launch) (D : va_G) (cA cB : ClassId) (h0 : Nat) (h1 : Nat) (f1 : Nat → Int32)  : CV l yX5_tellWay cX5_tellWay 3 none 2 43 0 0 D cA cB [.ref h0, .int 0, .int 0] [(h0, .inr (5, [.ref h1, .int 4])), (h1, .inl (cA, 16, .inl f1))] (fun W1 => W1 = [(h0, .inr (5, [.ref h1, .int 6])), (h1, .inl (cA, 16, .inl (upd (upd f1 4 35) 5 48)))]) := by
  refine mkV (lv0 := [(0, .ref h0), (1, .int 0), (2, .int 0)]) (by decide) (Nat.le_of_ble_eq_true rfl) rfl ?_
  intro p e s m below meth c A ls X hr hlocks hnm hE hA hP hD hS hl
  have hx := X.1
  have hb := X.2.1
  refine lv_iload_n hx hb dX5_tellWay_0 rfl (lv_at hl 1 rfl) ?_
  refine lv_if_ne (tgt := 13) hx hb dX5_tellWay_1 (by decide) (fun c_1 => absurd (by decide) c_1) (fun c_1 => ?_)
  refine lv_aload_n hx hb dX5_tellWay_4 rfl (lv_at hl 0 rfl) ?_
  refine lv_bipush (v := 35) hx hb dX5_tellWay_5 (by decide) ?_
  refine kVv (n3 := 1) (As := [.int 35]) (rest := []) X hl.1 hE hP hD hS hA [(h0, .inr (5, [.ref h1, .int 4])), (h1, .inl (cA, 16, .inl f1))] [] [0, 1] [] rfl rfl rfl (by decide) (by decide) (by decide) (c_X5_put_a36 l D cA cB h0 h1 f1 ) w_329 w_106 w_328 w_330 w_331 0 (ci := 5) (T := TX5) (N := 2) rfl rfl (by decide +kernel) rfl rfl (Nat.le_of_ble_eq_true rfl) ⟨(Nat.le_of_ble_eq_true rfl), (Nat.le_of_ble_eq_true rfl)⟩ ⟨(Nat.le_of_ble_eq_true rfl), (Nat.le_of_ble_eq_true rfl)⟩ dX5_tellWay_7 (fun W1 H locs hw hP hD hS => ?_)
  obtain rfl := hw
  have hP : va_P D classes [(h0, .inr (5, [.ref h1, .int 5])), (h1, .inl (cA, 16, .inl (upd f1 4 35)))] H := hP
  have hD : va_D A [(h0, .inr (5, [.ref h1, .int 5])), (h1, .inl (cA, 16, .inl (upd f1 4 35)))] := hD
  refine lv_goto (tgt := 39) hx hb dX5_tellWay_10 (by decide) ?_
  refine lv_aload_n hx hb dX5_tellWay_39 rfl (lv_at hl 0 rfl) ?_
  refine lv_iload_n hx hb dX5_tellWay_40 rfl (lv_at hl 2 rfl) ?_
  refine kVv (n3 := 1) (As := [.int 0]) (rest := []) X hl.1 hE hP hD hS hA [(h0, .inr (5, [.ref h1, .int 5])), (h1, .inl (cA, 16, .inl (upd f1 4 35)))] [] [0, 1] [] rfl rfl rfl (by decide) (by decide) (by decide) (c_X5_putNumber_a37 l D cA cB h0 h1 (upd f1 4 35) ) w_337 w_106 w_336 w_338 w_339 0 (ci := 5) (T := TX5) (N := 2) rfl rfl (by decide +kernel) rfl rfl (Nat.le_of_ble_eq_true rfl) ⟨(Nat.le_of_ble_eq_true rfl), (Nat.le_of_ble_eq_true rfl)⟩ ⟨(Nat.le_of_ble_eq_true rfl), (Nat.le_of_ble_eq_true rfl)⟩ dX5_tellWay_41 (fun W1 H locs hw hP hD hS => ?_)
  obtain rfl := hw
  have hP : va_P D classes [(h0, .inr (5, [.ref h1, .int 6])), (h1, .inl (cA, 16, .inl (upd (upd f1 4 35) 5 48)))] H := hP
  have hD : va_D A [(h0, .inr (5, [.ref h1, .int 6])), (h1, .inl (cA, 16, .inl (upd (upd f1 4 35) 5 48)))] := hD
  refine lv_iload_n hx hb dX5_tellWay_44 rfl (lv_at hl 1 rfl) ?_
  refine lv_bipush (v := 6) hx hb dX5_tellWay_45 (by decide) ?_
  refine lv_icmp_lt (tgt := 56) hx hb dX5_tellWay_47 (by decide) (fun c_47 => ?_) (fun c_47 => absurd (by decide) c_47)
  refine lv_iload_n hx hb dX5_tellWay_56 rfl (lv_at hl 1 rfl) ?_
  refine lv_iconst (v := 2) hx hb dX5_tellWay_57 (by decide) ?_
  refine lv_icmp_eq (tgt := 66) hx hb dX5_tellWay_58 (by decide) (fun c_58 => absurd c_58 (by decide)) (fun c_58 => ?_)
  refine lv_iload_n hx hb dX5_tellWay_61 rfl (lv_at hl 1 rfl) ?_
  refine lv_iconst (v := 4) hx hb dX5_tellWay_62 (by decide) ?_
  refine lv_icmp_ne (tgt := 81) hx hb dX5_tellWay_63 (by decide) (fun c_63 => ?_) (fun c_63 => absurd c_63 (by decide))
  refine lv_iload_n hx hb dX5_tellWay_81 rfl (lv_at hl 1 rfl) ?_
  refine lv_iconst (v := 5) hx hb dX5_tellWay_82 (by decide) ?_
  refine lv_icmp_eq (tgt := 92) hx hb dX5_tellWay_83 (by decide) (fun c_83 => absurd c_83 (by decide)) (fun c_83 => ?_)
  refine lv_iload_n hx hb dX5_tellWay_86 rfl (lv_at hl 1 rfl) ?_
  refine lv_bipush (v := 7) hx hb dX5_tellWay_87 (by decide) ?_
  refine lv_icmp_ne (tgt := 104) hx hb dX5_tellWay_89 (by decide) (fun c_89 => ?_) (fun c_89 => absurd c_89 (by decide))
  exact endV X hr hlocks hP hD hS dX5_tellWay_104 rfl
set_option maxHeartbeats 4000000 in
set_option maxRecDepth 100000 in
theorem c_tell (l : Launch) (D : va_G) (cA cB : ClassId) (qe : Nat) (qel : Nat) (qs : Nat) (a : Int32)  : CI l yX5_tell cX5_tell 9 (some .int) 5 108 0 0 D cA cB [.ref qe, .ref qs, .int a] [(qs, .inl (cA, 4096, .inl (fun _ => 0))), (qe, .inr (5, [.ref qel, .int 0])), (qel, .inl (cA, 16, .inl (fun _ => 0)))] (fun r W1 => r = 2) := by
  refine mkI (lv0 := [(0, .ref qe), (1, .ref qs), (2, .int a)]) (by decide) (Nat.le_of_ble_eq_true rfl) rfl ?_
  intro p e s m below meth c A ls X hr hlocks hnm hE hA hP hD hS hl
  have hx := X.1
  have hb := X.2.1
  obtain ⟨j1, hj1, ej1⟩ := pk_andE a (m := 4095) 12 (by decide)
  obtain ⟨j2, hj2, ej2⟩ := pk_andE (a + 1) (m := 4095) 12 (by decide)
  obtain ⟨j3, hj3, ej3⟩ := pk_andE (a + 2) (m := 4095) 12 (by decide)
  refine lv_aload_n hx hb dX5_tell_0 rfl (lv_at hl 1 rfl) ?_
  refine lv_iload_n hx hb dX5_tell_1 rfl (lv_at hl 2 rfl) ?_
  refine lv_sipush (v := 4095) hx hb dX5_tell_2 (by decide) ?_
  refine lv_iand hx hb dX5_tell_5 ?_
  refine k_ald (v := 0) X hE hP 0 rfl j1 ej1 hj1 (by decide) rfl dX5_tell_6 ?_
  refine lv_istore_n (lv' := [(3, .int 0), (0, .ref qe), (1, .ref qs), (2, .int a)]) hx hb dX5_tell_7 rfl hl (by decide) rfl (fun ls hl => ?_)
  refine lv_aload_n hx hb dX5_tell_8 rfl (lv_at hl 2 rfl) ?_
  refine lv_iload_n hx hb dX5_tell_9 rfl (lv_at hl 3 rfl) ?_
  refine lv_iconst (v := 1) hx hb dX5_tell_10 (by decide) ?_
  refine lv_iadd hx hb dX5_tell_11 ?_
  refine lv_sipush (v := 4095) hx hb dX5_tell_12 (by decide) ?_
  refine lv_iand hx hb dX5_tell_15 ?_
  refine k_ald (v := 0) X hE hP 0 rfl j2 ej2 hj2 (by decide) rfl dX5_tell_16 ?_
  refine lv_istore (lv' := [(4, .int 0), (3, .int 0), (0, .ref qe), (1, .ref qs), (2, .int a)]) hx hb dX5_tell_17 hl (by decide) rfl (fun ls hl => ?_)
  refine lv_aload_n hx hb dX5_tell_19 rfl (lv_at hl 3 rfl) ?_
  refine lv_iload_n hx hb dX5_tell_20 rfl (lv_at hl 4 rfl) ?_
  refine lv_iconst (v := 2) hx hb dX5_tell_21 (by decide) ?_
  refine lv_iadd hx hb dX5_tell_22 ?_
  refine lv_sipush (v := 4095) hx hb dX5_tell_23 (by decide) ?_
  refine lv_iand hx hb dX5_tell_26 ?_
  refine k_ald (v := 0) X hE hP 0 rfl j3 ej3 hj3 (by decide) rfl dX5_tell_27 ?_
  refine lv_istore (lv' := [(5, .int 0), (4, .int 0), (3, .int 0), (0, .ref qe), (1, .ref qs), (2, .int a)]) hx hb dX5_tell_28 hl (by decide) rfl (fun ls hl => ?_)
  refine lv_iload_n hx hb dX5_tell_30 rfl (lv_at hl 2 rfl) ?_
  refine lv_iconst (v := 3) hx hb dX5_tell_31 (by decide) ?_
  refine lv_ishr hx hb dX5_tell_32 ?_
  refine tk (y := 0) (by decide) ?_
  refine lv_istore (lv' := [(6, .int 0), (5, .int 0), (4, .int 0), (3, .int 0), (0, .ref qe), (1, .ref qs), (2, .int a)]) hx hb dX5_tell_33 hl (by decide) rfl (fun ls hl => ?_)
  refine lv_iload_n hx hb dX5_tell_35 rfl (lv_at hl 3 rfl) ?_
  refine lv_bipush (v := 7) hx hb dX5_tell_36 (by decide) ?_
  refine lv_iand hx hb dX5_tell_38 ?_
  refine tk (y := 0) (by decide) ?_
  refine lv_istore (lv' := [(7, .int 0), (6, .int 0), (5, .int 0), (4, .int 0), (3, .int 0), (0, .ref qe), (1, .ref qs), (2, .int a)]) hx hb dX5_tell_39 hl (by decide) rfl (fun ls hl => ?_)
  refine lv_aload_n hx hb dX5_tell_41 rfl (lv_at hl 5 rfl) ?_
  refine lv_iconst (v := 0) hx hb dX5_tell_42 (by decide) ?_
  refine k_put (C := RX5) (T := TX5) (N := 2) (ci := 5) (v := .int 0) (ty := .int) X hE hP hD hS 1 rfl rfl iX5 tyX5 tyX5_ok nmX5 1 (by decide) w_300 rfl (by decide +kernel) rfl rfl (Nat.le_of_ble_eq_true rfl) [(qs, .inl (cA, 4096, .inl (fun _ => 0))), (qe, .inr (5, [.ref qel, .int 0])), (qel, .inl (cA, 16, .inl (fun _ => 0)))] rfl dX5_tell_43 (fun H locs hP hD hS => ?_)
  refine lv_iload_n hx hb dX5_tell_46 rfl (lv_at hl 4 rfl) ?_
  refine kSNi (n3 := 1) (As := [.int 0]) (rest := []) X hl.1 hE hP hD hS hA [] [(qs, .inl (cA, 4096, .inl (fun _ => 0))), (qe, .inr (5, [.ref qel, .int 0])), (qel, .inl (cA, 16, .inl (fun _ => 0)))] [] [0, 1, 2] rfl rfl rfl (by decide) (by decide) (by decide) (c_isShort0 l D cA cB  ) w_178 w_116 nw_34 w_179 (by decide +kernel) rfl rfl (Nat.le_of_ble_eq_true rfl) ⟨(Nat.le_of_ble_eq_true rfl), (Nat.le_of_ble_eq_true rfl)⟩ ⟨(Nat.le_of_ble_eq_true rfl), (Nat.le_of_ble_eq_true rfl)⟩ dX5_tell_47 (fun r W1 H locs hw hP hD hS => ?_)
  obtain ⟨rfl, rfl⟩ := hw
  have hP : va_P D classes [(qs, .inl (cA, 4096, .inl (fun _ => 0))), (qe, .inr (5, [.ref qel, .int 0])), (qel, .inl (cA, 16, .inl (fun _ => 0)))] H := hP
  have hD : va_D A [(qs, .inl (cA, 4096, .inl (fun _ => 0))), (qe, .inr (5, [.ref qel, .int 0])), (qel, .inl (cA, 16, .inl (fun _ => 0)))] := hD
  refine lv_if_eq (tgt := 63) hx hb dX5_tell_50 (by decide) (fun c_50 => ?_) (fun c_50 => absurd (by decide) c_50)
  refine lv_iload hx hb dX5_tell_63 (lv_at hl 0 rfl) ?_
  refine lv_iconst (v := 3) hx hb dX5_tell_65 (by decide) ?_
  refine lv_icmp_lt (tgt := 79) hx hb dX5_tell_66 (by decide) (fun c_66 => ?_) (fun c_66 => absurd (by decide) c_66)
  refine lv_iconst (v := 0) hx hb dX5_tell_79 (by decide) ?_
  refine lv_istore (lv' := [(8, .int 0), (7, .int 0), (6, .int 0), (5, .int 0), (4, .int 0), (3, .int 0), (0, .ref qe), (1, .ref qs), (2, .int a)]) hx hb dX5_tell_80 hl (by decide) rfl (fun ls hl => ?_)
  refine lv_aload_n hx hb dX5_tell_82 rfl (lv_at hl 6 rfl) ?_
  refine va_ldcS hx hb X.2.2.2.1 (e_r5 hE) dX5_tell_83 ?_
  refine lv_iload hx hb dX5_tell_85 (lv_at hl 2 rfl) ?_
  refine kVv (n3 := 2) (As := [.ref (aS D), .int 0]) (rest := []) X hl.1 hE hP hD hS hA [(qe, .inr (5, [.ref qel, .int 0])), (qel, .inl (cA, 16, .inl (fun _ => 0)))] [(qs, .inl (cA, 4096, .inl (fun _ => 0)))] [1, 2] [0] rfl rfl rfl (by decide) (by decide) (by decide) (c_X5_putWord_a21 l D cA cB qe qel ) w_333 w_106 w_332 w_334 w_335 0 (ci := 5) (T := TX5) (N := 2) rfl rfl (by decide +kernel) rfl rfl (Nat.le_of_ble_eq_true rfl) ⟨(Nat.le_of_ble_eq_true rfl), (Nat.le_of_ble_eq_true rfl)⟩ ⟨(Nat.le_of_ble_eq_true rfl), (Nat.le_of_ble_eq_true rfl)⟩ dX5_tell_87 (fun W1 H locs hw hP hD hS => ?_)
  obtain ⟨o0_1, rfl⟩ := hw
  have hP : va_P D classes [(qs, .inl (cA, 4096, .inl (fun _ => 0))), (qe, .inr (5, [.ref qel, .int 3])), (qel, .inl (cA, 16, .inl o0_1))] H := hP
  have hD : va_D A [(qs, .inl (cA, 4096, .inl (fun _ => 0))), (qe, .inr (5, [.ref qel, .int 3])), (qel, .inl (cA, 16, .inl o0_1))] := hD
  refine lv_aload_n hx hb dX5_tell_90 rfl (lv_at hl 6 rfl) ?_
  refine lv_bipush (v := 32) hx hb dX5_tell_91 (by decide) ?_
  refine kVv (n3 := 1) (As := [.int 32]) (rest := []) X hl.1 hE hP hD hS hA [(qe, .inr (5, [.ref qel, .int 3])), (qel, .inl (cA, 16, .inl o0_1))] [(qs, .inl (cA, 4096, .inl (fun _ => 0)))] [1, 2] [0] rfl rfl rfl (by decide) (by decide) (by decide) (c_X5_put_a34 l D cA cB qe qel o0_1 ) w_329 w_106 w_328 w_330 w_331 0 (ci := 5) (T := TX5) (N := 2) rfl rfl (by decide +kernel) rfl rfl (Nat.le_of_ble_eq_true rfl) ⟨(Nat.le_of_ble_eq_true rfl), (Nat.le_of_ble_eq_true rfl)⟩ ⟨(Nat.le_of_ble_eq_true rfl), (Nat.le_of_ble_eq_true rfl)⟩ dX5_tell_93 (fun W1 H locs hw hP hD hS => ?_)
  obtain rfl := hw
  have hP : va_P D classes [(qs, .inl (cA, 4096, .inl (fun _ => 0))), (qe, .inr (5, [.ref qel, .int 4])), (qel, .inl (cA, 16, .inl (upd o0_1 3 32)))] H := hP
  have hD : va_D A [(qs, .inl (cA, 4096, .inl (fun _ => 0))), (qe, .inr (5, [.ref qel, .int 4])), (qel, .inl (cA, 16, .inl (upd o0_1 3 32)))] := hD
  refine lv_aload_n hx hb dX5_tell_96 rfl (lv_at hl 6 rfl) ?_
  refine lv_iload hx hb dX5_tell_97 (lv_at hl 1 rfl) ?_
  refine lv_iload hx hb dX5_tell_99 (lv_at hl 0 rfl) ?_
  refine lv_if_eq (tgt := 116) hx hb dX5_tell_101 (by decide) (fun c_101 => ?_) (fun c_101 => absurd (by decide) c_101)
  refine lv_iload hx hb dX5_tell_116 (lv_at hl 4 rfl) ?_
  refine kVv (n3 := 2) (As := [.int 0, .int 0]) (rest := []) X hl.1 hE hP hD hS hA [(qe, .inr (5, [.ref qel, .int 4])), (qel, .inl (cA, 16, .inl (upd o0_1 3 32)))] [(qs, .inl (cA, 4096, .inl (fun _ => 0)))] [1, 2] [0] rfl rfl rfl (by decide) (by decide) (by decide) (c_X5_tellWay_a35 l D cA cB qe qel (upd o0_1 3 32) ) w_341 w_106 w_340 w_342 w_343 0 (ci := 5) (T := TX5) (N := 2) rfl rfl (by decide +kernel) rfl rfl (Nat.le_of_ble_eq_true rfl) ⟨(Nat.le_of_ble_eq_true rfl), (Nat.le_of_ble_eq_true rfl)⟩ ⟨(Nat.le_of_ble_eq_true rfl), (Nat.le_of_ble_eq_true rfl)⟩ dX5_tell_118 (fun W1 H locs hw hP hD hS => ?_)
  obtain rfl := hw
  have hP : va_P D classes [(qs, .inl (cA, 4096, .inl (fun _ => 0))), (qe, .inr (5, [.ref qel, .int 6])), (qel, .inl (cA, 16, .inl (upd (upd (upd o0_1 3 32) 4 35) 5 48)))] H := hP
  have hD : va_D A [(qs, .inl (cA, 4096, .inl (fun _ => 0))), (qe, .inr (5, [.ref qel, .int 6])), (qel, .inl (cA, 16, .inl (upd (upd (upd o0_1 3 32) 4 35) 5 48)))] := hD
  refine lv_iload hx hb dX5_tell_121 (lv_at hl 0 rfl) ?_
  refine lv_if_eq (tgt := 130) hx hb dX5_tell_123 (by decide) (fun c_123 => ?_) (fun c_123 => absurd (by decide) c_123)
  refine lv_iconst (v := 2) hx hb dX5_tell_130 (by decide) ?_
  exact endI X hr hlocks hP hD hS dX5_tell_131 rfl
set_option maxHeartbeats 4000000 in
set_option maxRecDepth 100000 in
theorem c_text (l : Launch) (D : va_G) (cA cB : ClassId) (h0 : Nat) (qn : Nat) (qs : Nat) (qd : Nat) (qp : Nat) (qr : Nat) (qt : Nat) (qa : Nat) (qm : Nat) (qe : Nat) (qel : Nat) (a : Int32)  : CI l yX8_text cX8_text 2 (some .int) 6 136 0 0 D cA cB [.ref h0, .int a] [(h0, .inr (8, [.ref qn, .ref qs, .ref qd, .ref qp, .ref qr, .ref qt, .ref qa, .ref qm, .ref qe])), (qs, .inl (cA, 4096, .inl (fun _ => 0))), (qe, .inr (5, [.ref qel, .int 0])), (qel, .inl (cA, 16, .inl (fun _ => 0)))] (fun r W1 => r = (sp_text a)) := by
  refine mkI (lv0 := [(0, .ref h0), (1, .int a)]) (by decide) (Nat.le_of_ble_eq_true rfl) rfl ?_
  intro p e s m below meth c A ls X hr hlocks hnm hE hA hP hD hS hl
  have hx := X.1
  have hb := X.2.1
  refine lv_iload_n hx hb dX8_text_0 rfl (lv_at hl 1 rfl) ?_
  refine kSi (n3 := 1) (As := [.int a]) (rest := []) X hl.1 hE hP hD hS hA [] [(h0, .inr (8, [.ref qn, .ref qs, .ref qd, .ref qp, .ref qr, .ref qt, .ref qa, .ref qm, .ref qe])), (qs, .inl (cA, 4096, .inl (fun _ => 0))), (qe, .inr (5, [.ref qel, .int 0])), (qel, .inl (cA, 16, .inl (fun _ => 0)))] [] [0, 1, 2, 3] rfl rfl rfl (by decide) (by decide) (by decide) (c_isAddress l D cA cB a ) w_115 w_116 w_114 w_117 (by decide +kernel) rfl rfl (Nat.le_of_ble_eq_true rfl) ⟨(Nat.le_of_ble_eq_true rfl), (Nat.le_of_ble_eq_true rfl)⟩ ⟨(Nat.le_of_ble_eq_true rfl), (Nat.le_of_ble_eq_true rfl)⟩ dX8_text_1 (fun r W1 H locs hw hP hD hS => ?_)
  obtain ⟨rfl, rfl⟩ := hw
  have hP : va_P D classes [(h0, .inr (8, [.ref qn, .ref qs, .ref qd, .ref qp, .ref qr, .ref qt, .ref qa, .ref qm, .ref qe])), (qs, .inl (cA, 4096, .inl (fun _ => 0))), (qe, .inr (5, [.ref qel, .int 0])), (qel, .inl (cA, 16, .inl (fun _ => 0)))] H := hP
  have hD : va_D A [(h0, .inr (8, [.ref qn, .ref qs, .ref qd, .ref qp, .ref qr, .ref qt, .ref qa, .ref qm, .ref qe])), (qs, .inl (cA, 4096, .inl (fun _ => 0))), (qe, .inr (5, [.ref qel, .int 0])), (qel, .inl (cA, 16, .inl (fun _ => 0)))] := hD
  refine lv_if_eq (tgt := 22) hx hb dX8_text_4 (by decide) (fun c_4 => ?_) (fun c_4 => ?_)
  · skip
    refine lv_iconst (v := (-1)) hx hb dX8_text_22 (by decide) ?_
    exact endI X hr hlocks hP hD hS dX8_text_23 (by unfold sp_text; rw [if_pos c_4])
  · skip
    refine lv_aload_n hx hb dX8_text_7 rfl (lv_at hl 0 rfl) ?_
    refine k_get (C := RX8) (T := TX8) (N := 9) (ci := 8) (v := .ref qe) X hE hP 0 rfl rfl iX8 8 (by decide) w_109 rfl dX8_text_8 ?_
    refine lv_aload_n hx hb dX8_text_11 rfl (lv_at hl 0 rfl) ?_
    refine k_get (C := RX8) (T := TX8) (N := 9) (ci := 8) (v := .ref qs) X hE hP 0 rfl rfl iX8 1 (by decide) w_66 rfl dX8_text_12 ?_
    refine lv_iload_n hx hb dX8_text_15 rfl (lv_at hl 1 rfl) ?_
    refine kVi (n3 := 2) (As := [.ref qs, .int a]) (rest := []) X hl.1 hE hP hD hS hA [(qs, .inl (cA, 4096, .inl (fun _ => 0))), (qe, .inr (5, [.ref qel, .int 0])), (qel, .inl (cA, 16, .inl (fun _ => 0)))] [(h0, .inr (8, [.ref qn, .ref qs, .ref qd, .ref qp, .ref qr, .ref qt, .ref qa, .ref qm, .ref qe]))] [1, 2, 3] [0] rfl rfl rfl (by decide) (by decide) (by decide) (c_tell l D cA cB qe qel qs a ) w_345 w_106 w_344 w_346 w_347 1 (ci := 5) (T := TX5) (N := 2) rfl rfl (by decide +kernel) rfl rfl (Nat.le_of_ble_eq_true rfl) ⟨(Nat.le_of_ble_eq_true rfl), (Nat.le_of_ble_eq_true rfl)⟩ ⟨(Nat.le_of_ble_eq_true rfl), (Nat.le_of_ble_eq_true rfl)⟩ dX8_text_16 (fun r W1 H locs hw hP hD hS => ?_)
    obtain rfl := hw
    have hP : va_P D classes [(h0, .inr (8, [.ref qn, .ref qs, .ref qd, .ref qp, .ref qr, .ref qt, .ref qa, .ref qm, .ref qe]))] H := hP.sub [0] rfl
    have hD : va_D A [(h0, .inr (8, [.ref qn, .ref qs, .ref qd, .ref qp, .ref qr, .ref qt, .ref qa, .ref qm, .ref qe]))] := hD.sub [0] (by decide) rfl
    refine lv_goto (tgt := 23) hx hb dX8_text_19 (by decide) ?_
    exact endI X hr hlocks hP hD hS dX8_text_23 (by unfold sp_text; rw [if_neg c_4])
