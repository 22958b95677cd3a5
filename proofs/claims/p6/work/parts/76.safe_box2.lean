abbrev cX5_putWord : ByteArray := prog_7_method_6_code
def yX5_putWord : MethodName := ⟨RX5, "putWord", "(Ljava/lang/String;I)V"⟩
abbrev cX5_tellShort : ByteArray := prog_7_method_4_code
def yX5_tellShort : MethodName := ⟨RX5, "tellShort", "(II)V"⟩
abbrev cJ9_abs_0f7a4 : ByteArray := prog_13_method_59_code
def yJ9_abs_0f7a4 : MethodName := ⟨RJ9, "abs", "(I)I"⟩
abbrev cX5_tell : ByteArray := prog_7_method_2_code
def yX5_tell : MethodName := ⟨RX5, "tell", "([II)I"⟩
abbrev cX8_text : ByteArray := prog_1_method_21_code
def yX8_text : MethodName := ⟨RX8, "text", "(I)I"⟩
set_option maxRecDepth 100000 in
theorem w_471 : (Cond.methodLink "BelfryBox$Reader" 62 yJ0_length_8abf5 : Cond) ∈ gw := List.mem_filter.mpr ⟨List.mem_append_right _ (tb5 (List.mem_of_getElem? (i := 11) rfl)), rfl⟩
set_option maxRecDepth 100000 in
theorem w_472 : (Cond.methodLink "BelfryBox$Reader" 67 yJ0_charAt_5068e : Cond) ∈ gw := List.mem_filter.mpr ⟨List.mem_append_right _ (tb5 (List.mem_of_getElem? (i := 12) rfl)), rfl⟩
set_option maxRecDepth 100000 in
theorem w_473 : (Cond.code yJ0_charAt_5068e prog_14_method_56_code 2 (Option.some Jvm.ClassFile.FieldType.char) : Cond) ∈ gw := List.mem_filter.mpr ⟨List.mem_append_right _ (tb2 (List.mem_of_getElem? (i := 143) rfl)), rfl⟩
set_option maxRecDepth 100000 in
theorem w_474 : (Cond.instanceMethod yJ0_charAt_5068e : Cond) ∈ gw := List.mem_filter.mpr ⟨List.mem_append_right _ (tb2 (List.mem_of_getElem? (i := 141) rfl)), rfl⟩
set_option maxRecDepth 100000 in
theorem w_475 : (Cond.selects "java/lang/String" yJ0_charAt_5068e yJ0_charAt_5068e : Cond) ∈ gw := List.mem_filter.mpr ⟨List.mem_append_right _ (tb2 (List.mem_of_getElem? (i := 142) rfl)), rfl⟩
set_option maxRecDepth 100000 in
theorem w_476 : (Cond.methodLink "BelfryBox$Reader" 29 yX5_putWord : Cond) ∈ gw := List.mem_filter.mpr ⟨List.mem_append_right _ (tb5 (List.mem_of_getElem? (i := 7) rfl)), rfl⟩
set_option maxRecDepth 100000 in
theorem w_477 : (Cond.code yX5_putWord prog_7_method_6_code 4 (Option.none : Option Jvm.ClassFile.FieldType) : Cond) ∈ gw := List.mem_filter.mpr ⟨List.mem_append_right _ (tb5 (List.mem_of_getElem? (i := 10) rfl)), rfl⟩
set_option maxRecDepth 100000 in
theorem w_478 : (Cond.instanceMethod yX5_putWord : Cond) ∈ gw := List.mem_filter.mpr ⟨List.mem_append_right _ (tb5 (List.mem_of_getElem? (i := 9) rfl)), rfl⟩
set_option maxRecDepth 100000 in
theorem w_479 : (Cond.selects "BelfryBox$Reader" yX5_putWord yX5_putWord : Cond) ∈ gw := List.mem_filter.mpr ⟨List.mem_append_left _ (List.mem_map.mpr ⟨(⟨"BelfryBox$Reader", "putWord", "(Ljava/lang/String;I)V"⟩, 2), sl5 (List.mem_of_getElem? (i := 14) rfl), rfl⟩), rfl⟩
set_option maxRecDepth 100000 in
theorem w_480 : (Cond.code yX8_takesValue prog_1_method_27_code 1 (Option.some Jvm.ClassFile.FieldType.boolean) : Cond) ∈ gw := List.mem_filter.mpr ⟨List.mem_append_right _ (tb3 (List.mem_of_getElem? (i := 71) rfl)), rfl⟩
set_option maxRecDepth 100000 in
theorem w_481 : (Cond.static yX8_takesValue : Cond) ∈ gw := List.mem_filter.mpr ⟨List.mem_append_right _ (tb3 (List.mem_of_getElem? (i := 70) rfl)), rfl⟩
set_option maxRecDepth 100000 in
theorem w_482 : (Cond.methodLink "BelfryBox$Reader" 57 yJ9_abs_0f7a4 : Cond) ∈ gw := List.mem_filter.mpr ⟨List.mem_append_right _ (tb5 (List.mem_of_getElem? (i := 28) rfl)), rfl⟩
set_option maxRecDepth 100000 in
theorem w_483 : (Cond.static yJ9_abs_0f7a4 : Cond) ∈ gw := List.mem_filter.mpr ⟨List.mem_append_right _ (tb5 (List.mem_of_getElem? (i := 29) rfl)), rfl⟩
set_option maxRecDepth 100000 in
theorem w_484 : (Cond.code yJ9_abs_0f7a4 prog_13_method_59_code 1 (Option.some Jvm.ClassFile.FieldType.int) : Cond) ∈ gw := List.mem_filter.mpr ⟨List.mem_append_right _ (tb5 (List.mem_of_getElem? (i := 30) rfl)), rfl⟩
set_option maxRecDepth 100000 in
theorem w_485 : (Cond.methodLink "BelfryBox$Reader" 45 yX5_putIllegal : Cond) ∈ gw := List.mem_filter.mpr ⟨List.mem_append_right _ (tb5 (List.mem_of_getElem? (i := 17) rfl)), rfl⟩
set_option maxRecDepth 100000 in
theorem w_486 : (Cond.code yX5_putIllegal prog_7_method_5_code 2 (Option.none : Option Jvm.ClassFile.FieldType) : Cond) ∈ gw := List.mem_filter.mpr ⟨List.mem_append_right _ (tb5 (List.mem_of_getElem? (i := 20) rfl)), rfl⟩
set_option maxRecDepth 100000 in
theorem w_487 : (Cond.instanceMethod yX5_putIllegal : Cond) ∈ gw := List.mem_filter.mpr ⟨List.mem_append_right _ (tb5 (List.mem_of_getElem? (i := 19) rfl)), rfl⟩
set_option maxRecDepth 100000 in
theorem w_488 : (Cond.selects "BelfryBox$Reader" yX5_putIllegal yX5_putIllegal : Cond) ∈ gw := List.mem_filter.mpr ⟨List.mem_append_left _ (List.mem_map.mpr ⟨(⟨"BelfryBox$Reader", "putIllegal", "(I)V"⟩, 2), sl6 (List.mem_of_getElem? (i := 0) rfl), rfl⟩), rfl⟩
set_option maxRecDepth 100000 in
theorem w_489 : (Cond.methodLink "BelfryBox$Reader" 37 yX5_tellWay : Cond) ∈ gw := List.mem_filter.mpr ⟨List.mem_append_right _ (tb5 (List.mem_of_getElem? (i := 32) rfl)), rfl⟩
set_option maxRecDepth 100000 in
theorem w_490 : (Cond.code yX5_tellWay prog_7_method_3_code 3 (Option.none : Option Jvm.ClassFile.FieldType) : Cond) ∈ gw := List.mem_filter.mpr ⟨List.mem_append_right _ (tb5 (List.mem_of_getElem? (i := 35) rfl)), rfl⟩
set_option maxRecDepth 100000 in
theorem w_491 : (Cond.instanceMethod yX5_tellWay : Cond) ∈ gw := List.mem_filter.mpr ⟨List.mem_append_right _ (tb5 (List.mem_of_getElem? (i := 34) rfl)), rfl⟩
set_option maxRecDepth 100000 in
theorem w_492 : (Cond.selects "BelfryBox$Reader" yX5_tellWay yX5_tellWay : Cond) ∈ gw := List.mem_filter.mpr ⟨List.mem_append_left _ (List.mem_map.mpr ⟨(⟨"BelfryBox$Reader", "tellWay", "(II)V"⟩, 2), sl6 (List.mem_of_getElem? (i := 2) rfl), rfl⟩), rfl⟩
set_option maxRecDepth 100000 in
theorem w_493 : (Cond.methodLink "BelfryBox$Reader" 23 yX5_tellShort : Cond) ∈ gw := List.mem_filter.mpr ⟨List.mem_append_right _ (tb5 (List.mem_of_getElem? (i := 2) rfl)), rfl⟩
set_option maxRecDepth 100000 in
theorem w_494 : (Cond.code yX5_tellShort prog_7_method_4_code 4 (Option.none : Option Jvm.ClassFile.FieldType) : Cond) ∈ gw := List.mem_filter.mpr ⟨List.mem_append_right _ (tb5 (List.mem_of_getElem? (i := 5) rfl)), rfl⟩
set_option maxRecDepth 100000 in
theorem w_495 : (Cond.instanceMethod yX5_tellShort : Cond) ∈ gw := List.mem_filter.mpr ⟨List.mem_append_right _ (tb5 (List.mem_of_getElem? (i := 4) rfl)), rfl⟩
set_option maxRecDepth 100000 in
theorem w_496 : (Cond.selects "BelfryBox$Reader" yX5_tellShort yX5_tellShort : Cond) ∈ gw := List.mem_filter.mpr ⟨List.mem_append_left _ (List.mem_map.mpr ⟨(⟨"BelfryBox$Reader", "tellShort", "(II)V"⟩, 2), sl5 (List.mem_of_getElem? (i := 13) rfl), rfl⟩), rfl⟩
set_option maxRecDepth 100000 in
theorem w_497 : (Cond.methodLink "BelfryBox" 174 yX5_tell : Cond) ∈ gw := List.mem_filter.mpr ⟨List.mem_append_right _ (tb4 (List.mem_of_getElem? (i := 237) rfl)), rfl⟩
set_option maxRecDepth 100000 in
theorem w_498 : (Cond.code yX5_tell prog_7_method_2_code 9 (Option.some Jvm.ClassFile.FieldType.int) : Cond) ∈ gw := List.mem_filter.mpr ⟨List.mem_append_right _ (tb5 (List.mem_of_getElem? (i := 0) rfl)), rfl⟩
set_option maxRecDepth 100000 in
theorem w_499 : (Cond.instanceMethod yX5_tell : Cond) ∈ gw := List.mem_filter.mpr ⟨List.mem_append_right _ (tb4 (List.mem_of_getElem? (i := 238) rfl)), rfl⟩
set_option maxRecDepth 100000 in
theorem w_500 : (Cond.selects "BelfryBox$Reader" yX5_tell yX5_tell : Cond) ∈ gw := List.mem_filter.mpr ⟨List.mem_append_right _ (tb4 (List.mem_of_getElem? (i := 239) rfl)), rfl⟩
theorem nw_35 : (Cond.methodLinkNest "BelfryBox$Reader" 50 yX8_takesValue "BelfryBox" : Cond) ∈ nests := List.mem_of_getElem? (i := 35) rfl
theorem nw_36 : (Cond.methodLinkNest "BelfryBox$Reader" 53 yX8_signed "BelfryBox" : Cond) ∈ nests := List.mem_of_getElem? (i := 36) rfl
theorem nw_34 : (Cond.methodLinkNest "BelfryBox$Reader" 19 yX8_isShort "BelfryBox" : Cond) ∈ nests := List.mem_of_getElem? (i := 34) rfl
theorem dX5_putWord_0 : decode cX5_putWord 0 = .ok (.iconst 3, 1) := by decide +kernel
theorem dX5_putWord_1 : decode cX5_putWord 1 = .ok (.iload_n 2, 1) := by decide +kernel
theorem dX5_putWord_2 : decode cX5_putWord 2 = .ok (.imul, 1) := by decide +kernel
theorem dX5_putWord_3 : decode cX5_putWord 3 = .ok (.istore_n 3, 1) := by decide +kernel
theorem dX5_putWord_4 : decode cX5_putWord 4 = .ok (.iload_n 3, 1) := by decide +kernel
theorem dX5_putWord_5 : decode cX5_putWord 5 = .ok (.iconst 3, 1) := by decide +kernel
theorem dX5_putWord_6 : decode cX5_putWord 6 = .ok (.iload_n 2, 1) := by decide +kernel
theorem dX5_putWord_7 : decode cX5_putWord 7 = .ok (.imul, 1) := by decide +kernel
theorem dX5_putWord_8 : decode cX5_putWord 8 = .ok (.iconst 3, 1) := by decide +kernel
theorem dX5_putWord_9 : decode cX5_putWord 9 = .ok (.iadd, 1) := by decide +kernel
theorem dX5_putWord_10 : decode cX5_putWord 10 = .ok (.if_icmp .ge 26, 3) := by decide +kernel
theorem dX5_putWord_36 : decode cX5_putWord 36 = .ok (.return_, 1) := by decide +kernel
theorem dX5_putWord_13 : decode cX5_putWord 13 = .ok (.iload_n 3, 1) := by decide +kernel
theorem dX5_putWord_14 : decode cX5_putWord 14 = .ok (.aload_n 1, 1) := by decide +kernel
theorem dX5_putWord_15 : decode cX5_putWord 15 = .ok (.invokevirtual 62, 3) := by decide +kernel
theorem dX5_putWord_18 : decode cX5_putWord 18 = .ok (.if_icmp .ge 18, 3) := by decide +kernel
theorem dX5_putWord_21 : decode cX5_putWord 21 = .ok (.aload_n 0, 1) := by decide +kernel
theorem dX5_putWord_22 : decode cX5_putWord 22 = .ok (.aload_n 1, 1) := by decide +kernel
theorem dX5_putWord_23 : decode cX5_putWord 23 = .ok (.iload_n 3, 1) := by decide +kernel
theorem dX5_putWord_24 : decode cX5_putWord 24 = .ok (.invokevirtual 67, 3) := by decide +kernel
theorem dX5_putWord_27 : decode cX5_putWord 27 = .ok (.invokevirtual 33, 3) := by decide +kernel
theorem dX5_putWord_30 : decode cX5_putWord 30 = .ok (.iinc 3 1, 3) := by decide +kernel
theorem dX5_putWord_33 : decode cX5_putWord 33 = .ok (.goto (-29), 3) := by decide +kernel
theorem dX5_tellShort_0 : decode cX5_tellShort 0 = .ok (.iload_n 1, 1) := by decide +kernel
theorem dX5_tellShort_1 : decode cX5_tellShort 1 = .ok (.bipush 27, 2) := by decide +kernel
theorem dX5_tellShort_3 : decode cX5_tellShort 3 = .ok (.if_icmp .ne 17, 3) := by decide +kernel
theorem dX5_tellShort_20 : decode cX5_tellShort 20 = .ok (.iload_n 1, 1) := by decide +kernel
theorem dX5_tellShort_21 : decode cX5_tellShort 21 = .ok (.bipush 27, 2) := by decide +kernel
theorem dX5_tellShort_23 : decode cX5_tellShort 23 = .ok (.if_icmp .ne 9, 3) := by decide +kernel
theorem dX5_tellShort_32 : decode cX5_tellShort 32 = .ok (.aload_n 0, 1) := by decide +kernel
theorem dX5_tellShort_33 : decode cX5_tellShort 33 = .ok (.ldc 48, 2) := by decide +kernel
theorem dX5_tellShort_35 : decode cX5_tellShort 35 = .ok (.iload_n 1, 1) := by decide +kernel
theorem dX5_tellShort_36 : decode cX5_tellShort 36 = .ok (.bipush 16, 2) := by decide +kernel
theorem dX5_tellShort_38 : decode cX5_tellShort 38 = .ok (.isub, 1) := by decide +kernel
theorem dX5_tellShort_39 : decode cX5_tellShort 39 = .ok (.invokevirtual 29, 3) := by decide +kernel
theorem dX5_tellShort_42 : decode cX5_tellShort 42 = .ok (.aload_n 0, 1) := by decide +kernel
theorem dX5_tellShort_43 : decode cX5_tellShort 43 = .ok (.bipush 32, 2) := by decide +kernel
theorem dX5_tellShort_45 : decode cX5_tellShort 45 = .ok (.invokevirtual 33, 3) := by decide +kernel
theorem dX5_tellShort_48 : decode cX5_tellShort 48 = .ok (.iload_n 1, 1) := by decide +kernel
theorem dX5_tellShort_49 : decode cX5_tellShort 49 = .ok (.invokestatic 50, 3) := by decide +kernel
theorem dX5_tellShort_52 : decode cX5_tellShort 52 = .ok (.ifCond .eq 15, 3) := by decide +kernel
theorem dX5_tellShort_67 : decode cX5_tellShort 67 = .ok (.iload_n 2, 1) := by decide +kernel
theorem dX5_tellShort_68 : decode cX5_tellShort 68 = .ok (.invokestatic 53, 3) := by decide +kernel
theorem dX5_tellShort_71 : decode cX5_tellShort 71 = .ok (.iconst 2, 1) := by decide +kernel
theorem dX5_tellShort_72 : decode cX5_tellShort 72 = .ok (.iadd, 1) := by decide +kernel
theorem dX5_tellShort_73 : decode cX5_tellShort 73 = .ok (.istore_n 3, 1) := by decide +kernel
theorem dX5_tellShort_74 : decode cX5_tellShort 74 = .ok (.aload_n 0, 1) := by decide +kernel
theorem dX5_tellShort_75 : decode cX5_tellShort 75 = .ok (.bipush 46, 2) := by decide +kernel
theorem dX5_tellShort_77 : decode cX5_tellShort 77 = .ok (.invokevirtual 33, 3) := by decide +kernel
theorem dX5_tellShort_80 : decode cX5_tellShort 80 = .ok (.aload_n 0, 1) := by decide +kernel
theorem dX5_tellShort_81 : decode cX5_tellShort 81 = .ok (.iload_n 3, 1) := by decide +kernel
theorem dX5_tellShort_82 : decode cX5_tellShort 82 = .ok (.ifCond .ge 8, 3) := by decide +kernel
theorem dX5_tellShort_90 : decode cX5_tellShort 90 = .ok (.bipush 43, 2) := by decide +kernel
theorem dX5_tellShort_92 : decode cX5_tellShort 92 = .ok (.invokevirtual 33, 3) := by decide +kernel
theorem dX5_tellShort_95 : decode cX5_tellShort 95 = .ok (.aload_n 0, 1) := by decide +kernel
theorem dX5_tellShort_96 : decode cX5_tellShort 96 = .ok (.iload_n 3, 1) := by decide +kernel
theorem dX5_tellShort_97 : decode cX5_tellShort 97 = .ok (.invokestatic 57, 3) := by decide +kernel
theorem dX5_tellShort_100 : decode cX5_tellShort 100 = .ok (.invokevirtual 40, 3) := by decide +kernel
theorem dX5_tellShort_103 : decode cX5_tellShort 103 = .ok (.return_, 1) := by decide +kernel
theorem dX5_tellShort_85 : decode cX5_tellShort 85 = .ok (.bipush 45, 2) := by decide +kernel
theorem dX5_tellShort_87 : decode cX5_tellShort 87 = .ok (.goto 5, 3) := by decide +kernel
theorem dX5_tellShort_55 : decode cX5_tellShort 55 = .ok (.aload_n 0, 1) := by decide +kernel
theorem dX5_tellShort_56 : decode cX5_tellShort 56 = .ok (.bipush 35, 2) := by decide +kernel
theorem dX5_tellShort_58 : decode cX5_tellShort 58 = .ok (.invokevirtual 33, 3) := by decide +kernel
theorem dX5_tellShort_61 : decode cX5_tellShort 61 = .ok (.aload_n 0, 1) := by decide +kernel
theorem dX5_tellShort_62 : decode cX5_tellShort 62 = .ok (.iload_n 2, 1) := by decide +kernel
theorem dX5_tellShort_63 : decode cX5_tellShort 63 = .ok (.invokevirtual 40, 3) := by decide +kernel
theorem dX5_tellShort_66 : decode cX5_tellShort 66 = .ok (.return_, 1) := by decide +kernel
theorem dX5_tellShort_26 : decode cX5_tellShort 26 = .ok (.aload_n 0, 1) := by decide +kernel
theorem dX5_tellShort_27 : decode cX5_tellShort 27 = .ok (.iload_n 2, 1) := by decide +kernel
theorem dX5_tellShort_28 : decode cX5_tellShort 28 = .ok (.invokevirtual 45, 3) := by decide +kernel
theorem dX5_tellShort_31 : decode cX5_tellShort 31 = .ok (.return_, 1) := by decide +kernel
theorem dX5_tellShort_6 : decode cX5_tellShort 6 = .ok (.iload_n 2, 1) := by decide +kernel
theorem dX5_tellShort_7 : decode cX5_tellShort 7 = .ok (.bipush 31, 2) := by decide +kernel
theorem dX5_tellShort_9 : decode cX5_tellShort 9 = .ok (.if_icmp .gt 11, 3) := by decide +kernel
theorem dX5_tellShort_12 : decode cX5_tellShort 12 = .ok (.aload_n 0, 1) := by decide +kernel
theorem dX5_tellShort_13 : decode cX5_tellShort 13 = .ok (.ldc 43, 2) := by decide +kernel
theorem dX5_tellShort_15 : decode cX5_tellShort 15 = .ok (.iload_n 2, 1) := by decide +kernel
theorem dX5_tellShort_16 : decode cX5_tellShort 16 = .ok (.invokevirtual 29, 3) := by decide +kernel
theorem dX5_tellShort_19 : decode cX5_tellShort 19 = .ok (.return_, 1) := by decide +kernel
theorem dX5_tell_0 : decode cX5_tell 0 = .ok (.aload_n 1, 1) := by decide +kernel
theorem dX5_tell_1 : decode cX5_tell 1 = .ok (.iload_n 2, 1) := by decide +kernel
theorem dX5_tell_2 : decode cX5_tell 2 = .ok (.sipush 4095, 3) := by decide +kernel
theorem dX5_tell_5 : decode cX5_tell 5 = .ok (.iand, 1) := by decide +kernel
theorem dX5_tell_6 : decode cX5_tell 6 = .ok (.iaload, 1) := by decide +kernel
theorem dX5_tell_7 : decode cX5_tell 7 = .ok (.istore_n 3, 1) := by decide +kernel
theorem dX5_tell_8 : decode cX5_tell 8 = .ok (.aload_n 1, 1) := by decide +kernel
theorem dX5_tell_9 : decode cX5_tell 9 = .ok (.iload_n 2, 1) := by decide +kernel
theorem dX5_tell_10 : decode cX5_tell 10 = .ok (.iconst 1, 1) := by decide +kernel
theorem dX5_tell_11 : decode cX5_tell 11 = .ok (.iadd, 1) := by decide +kernel
theorem dX5_tell_12 : decode cX5_tell 12 = .ok (.sipush 4095, 3) := by decide +kernel
theorem dX5_tell_15 : decode cX5_tell 15 = .ok (.iand, 1) := by decide +kernel
theorem dX5_tell_16 : decode cX5_tell 16 = .ok (.iaload, 1) := by decide +kernel
theorem dX5_tell_17 : decode cX5_tell 17 = .ok (.istore 4, 2) := by decide +kernel
theorem dX5_tell_19 : decode cX5_tell 19 = .ok (.aload_n 1, 1) := by decide +kernel
theorem dX5_tell_20 : decode cX5_tell 20 = .ok (.iload_n 2, 1) := by decide +kernel
theorem dX5_tell_21 : decode cX5_tell 21 = .ok (.iconst 2, 1) := by decide +kernel
theorem dX5_tell_22 : decode cX5_tell 22 = .ok (.iadd, 1) := by decide +kernel
theorem dX5_tell_23 : decode cX5_tell 23 = .ok (.sipush 4095, 3) := by decide +kernel
theorem dX5_tell_26 : decode cX5_tell 26 = .ok (.iand, 1) := by decide +kernel
theorem dX5_tell_27 : decode cX5_tell 27 = .ok (.iaload, 1) := by decide +kernel
theorem dX5_tell_28 : decode cX5_tell 28 = .ok (.istore 5, 2) := by decide +kernel
theorem dX5_tell_30 : decode cX5_tell 30 = .ok (.iload_n 3, 1) := by decide +kernel
theorem dX5_tell_31 : decode cX5_tell 31 = .ok (.iconst 3, 1) := by decide +kernel
theorem dX5_tell_32 : decode cX5_tell 32 = .ok (.ishr, 1) := by decide +kernel
theorem dX5_tell_33 : decode cX5_tell 33 = .ok (.istore 6, 2) := by decide +kernel
theorem dX5_tell_35 : decode cX5_tell 35 = .ok (.iload_n 3, 1) := by decide +kernel
theorem dX5_tell_36 : decode cX5_tell 36 = .ok (.bipush 7, 2) := by decide +kernel
theorem dX5_tell_38 : decode cX5_tell 38 = .ok (.iand, 1) := by decide +kernel
theorem dX5_tell_39 : decode cX5_tell 39 = .ok (.istore 7, 2) := by decide +kernel
theorem dX5_tell_41 : decode cX5_tell 41 = .ok (.aload_n 0, 1) := by decide +kernel
theorem dX5_tell_42 : decode cX5_tell 42 = .ok (.iconst 0, 1) := by decide +kernel
theorem dX5_tell_43 : decode cX5_tell 43 = .ok (.putfield 15, 3) := by decide +kernel
theorem dX5_tell_46 : decode cX5_tell 46 = .ok (.iload_n 3, 1) := by decide +kernel
theorem dX5_tell_47 : decode cX5_tell 47 = .ok (.invokestatic 19, 3) := by decide +kernel
theorem dX5_tell_50 : decode cX5_tell 50 = .ok (.ifCond .eq 13, 3) := by decide +kernel
theorem dX5_tell_82 : decode cX5_tell 82 = .ok (.aload_n 0, 1) := by decide +kernel
theorem dX5_tell_83 : decode cX5_tell 83 = .ok (.ldc 27, 2) := by decide +kernel
theorem dX5_tell_85 : decode cX5_tell 85 = .ok (.iload 6, 2) := by decide +kernel
theorem dX5_tell_87 : decode cX5_tell 87 = .ok (.invokevirtual 29, 3) := by decide +kernel
theorem dX5_tell_90 : decode cX5_tell 90 = .ok (.aload_n 0, 1) := by decide +kernel
theorem dX5_tell_91 : decode cX5_tell 91 = .ok (.bipush 32, 2) := by decide +kernel
theorem dX5_tell_93 : decode cX5_tell 93 = .ok (.invokevirtual 33, 3) := by decide +kernel
theorem dX5_tell_96 : decode cX5_tell 96 = .ok (.aload_n 0, 1) := by decide +kernel
theorem dX5_tell_97 : decode cX5_tell 97 = .ok (.iload 7, 2) := by decide +kernel
theorem dX5_tell_99 : decode cX5_tell 99 = .ok (.iload 8, 2) := by decide +kernel
theorem dX5_tell_101 : decode cX5_tell 101 = .ok (.ifCond .eq 15, 3) := by decide +kernel
theorem dX5_tell_116 : decode cX5_tell 116 = .ok (.iload 4, 2) := by decide +kernel
theorem dX5_tell_118 : decode cX5_tell 118 = .ok (.invokevirtual 37, 3) := by decide +kernel
theorem dX5_tell_121 : decode cX5_tell 121 = .ok (.iload 8, 2) := by decide +kernel
theorem dX5_tell_123 : decode cX5_tell 123 = .ok (.ifCond .eq 7, 3) := by decide +kernel
theorem dX5_tell_130 : decode cX5_tell 130 = .ok (.iconst 2, 1) := by decide +kernel
theorem dX5_tell_131 : decode cX5_tell 131 = .ok (.ireturn, 1) := by decide +kernel
theorem dX5_tell_126 : decode cX5_tell 126 = .ok (.iconst 3, 1) := by decide +kernel
theorem dX5_tell_127 : decode cX5_tell 127 = .ok (.goto 4, 3) := by decide +kernel
theorem dX5_tell_104 : decode cX5_tell 104 = .ok (.iload 4, 2) := by decide +kernel
theorem dX5_tell_106 : decode cX5_tell 106 = .ok (.sipush 256, 3) := by decide +kernel
theorem dX5_tell_109 : decode cX5_tell 109 = .ok (.iload 5, 2) := by decide +kernel
theorem dX5_tell_111 : decode cX5_tell 111 = .ok (.imul, 1) := by decide +kernel
theorem dX5_tell_112 : decode cX5_tell 112 = .ok (.iadd, 1) := by decide +kernel
theorem dX5_tell_113 : decode cX5_tell 113 = .ok (.goto 5, 3) := by decide +kernel
theorem dX5_tell_63 : decode cX5_tell 63 = .ok (.iload 7, 2) := by decide +kernel
theorem dX5_tell_65 : decode cX5_tell 65 = .ok (.iconst 3, 1) := by decide +kernel
theorem dX5_tell_66 : decode cX5_tell 66 = .ok (.if_icmp .lt 13, 3) := by decide +kernel
theorem dX5_tell_79 : decode cX5_tell 79 = .ok (.iconst 0, 1) := by decide +kernel
theorem dX5_tell_80 : decode cX5_tell 80 = .ok (.istore 8, 2) := by decide +kernel
theorem dX5_tell_69 : decode cX5_tell 69 = .ok (.iload 7, 2) := by decide +kernel
theorem dX5_tell_71 : decode cX5_tell 71 = .ok (.iconst 5, 1) := by decide +kernel
theorem dX5_tell_72 : decode cX5_tell 72 = .ok (.if_icmp .gt 7, 3) := by decide +kernel
theorem dX5_tell_75 : decode cX5_tell 75 = .ok (.iconst 1, 1) := by decide +kernel
theorem dX5_tell_76 : decode cX5_tell 76 = .ok (.goto 4, 3) := by decide +kernel
theorem dX5_tell_53 : decode cX5_tell 53 = .ok (.aload_n 0, 1) := by decide +kernel
theorem dX5_tell_54 : decode cX5_tell 54 = .ok (.iload 6, 2) := by decide +kernel
theorem dX5_tell_56 : decode cX5_tell 56 = .ok (.iload 4, 2) := by decide +kernel
theorem dX5_tell_58 : decode cX5_tell 58 = .ok (.invokevirtual 23, 3) := by decide +kernel
theorem dX5_tell_61 : decode cX5_tell 61 = .ok (.iconst 2, 1) := by decide +kernel
theorem dX5_tell_62 : decode cX5_tell 62 = .ok (.ireturn, 1) := by decide +kernel
theorem dX8_text_0 : decode cX8_text 0 = .ok (.iload_n 1, 1) := by decide +kernel
theorem dX8_text_1 : decode cX8_text 1 = .ok (.invokestatic 115, 3) := by decide +kernel
theorem dX8_text_4 : decode cX8_text 4 = .ok (.ifCond .eq 18, 3) := by decide +kernel
theorem dX8_text_22 : decode cX8_text 22 = .ok (.iconst (-1), 1) := by decide +kernel
theorem dX8_text_23 : decode cX8_text 23 = .ok (.ireturn, 1) := by decide +kernel
theorem dX8_text_7 : decode cX8_text 7 = .ok (.aload_n 0, 1) := by decide +kernel
theorem dX8_text_8 : decode cX8_text 8 = .ok (.getfield 67, 3) := by decide +kernel
theorem dX8_text_11 : decode cX8_text 11 = .ok (.aload_n 0, 1) := by decide +kernel
theorem dX8_text_12 : decode cX8_text 12 = .ok (.getfield 13, 3) := by decide +kernel
theorem dX8_text_15 : decode cX8_text 15 = .ok (.iload_n 1, 1) := by decide +kernel
theorem dX8_text_16 : decode cX8_text 16 = .ok (.invokevirtual 174, 3) := by decide +kernel
theorem dX8_text_19 : decode cX8_text 19 = .ok (.goto 4, 3) := by decide +kernel
set_option maxHeartbeats 4000000 in
set_option maxRecDepth 100000 in
theorem c_s2_isShort (l : Launch) (D : va_G) (cA cB : ClassId) (v : Nat) (hv : v < 256) : CI l yX8_isShort cX8_isShort 1 (some .boolean) 0 0 0 0 D cA cB [.int (nI v)] [] (fun r W1 => ∃ (rk : Nat), r = nI rk ∧ (rk < 2) ∧ (rk = 0 ∨ 128 ≤ v) ∧ W1 = []) := by
  refine mkI (lv0 := [(0, .int (nI v))]) (by decide) (Nat.le_of_ble_eq_true rfl) rfl ?_
  intro p e s m below meth c A ls X hr hlocks hnm hE hA hP hD hS hl
  have hx := X.1
  have hb := X.2.1
  refine qW (fun Q9 hQ9 => ?_)
  refine lv_iload_n hx hb dX8_isShort_0 rfl (lv_at hl 0 rfl) ?_
  refine lv_bipush (v := 7) hx hb dX8_isShort_1 (by decide) ?_
  refine lv_iand hx hb dX8_isShort_3 ?_
  obtain ⟨k_1, hk_1, ek_1⟩ := pk_andE (nI v) (m := 7) 3 (by decide)
  have hk_1 : k_1 < 8 := hk_1
  refine tk (y := nI k_1) ek_1 ?_
  refine lv_if_ne (tgt := 19) hx hb dX8_isShort_4 (by decide) (fun c_4_2 => ?_) (fun c_4_2 => ?_)
  · have nc_4_2 : ¬ k_1 = 0 := fun q => c_4_2 ((nI_eq (a := k_1) (b := 0) (by omega) (by omega)).mpr q)
    refine lv_iconst (v := 0) hx hb dX8_isShort_19 (by decide) ?_
    rw [hQ9]
    exact endZ X hr rfl hlocks hP hD hS dX8_isShort_20 ⟨0, rfl, (by decide), (by first | assumption | omega), rfl⟩
  · have nc_4_2 : k_1 = 0 := (nI_eq (a := k_1) (b := 0) (by omega) (by omega)).mp c_4_2
    refine lv_iload_n hx hb dX8_isShort_7 rfl (lv_at hl 0 rfl) ?_
    refine lv_iconst (v := 3) hx hb dX8_isShort_8 (by decide) ?_
    refine lv_ishr hx hb dX8_isShort_9 ?_
    refine tk (y := nI (v / 8)) (pk_shrN (n := v) (by omega) _ 3 (by decide)) ?_
    refine lv_bipush (v := 16) hx hb dX8_isShort_10 (by decide) ?_
    refine lv_icmp_lt (tgt := 19) hx hb dX8_isShort_12 (by decide) (fun c_12_3 => ?_) (fun c_12_3 => ?_)
    · have nc_12_3 : (v / 8) < 16 := (nI_ltI (a := v / 8) (b := 16) (by omega) (by omega)).mp c_12_3
      refine lv_iconst (v := 0) hx hb dX8_isShort_19 (by decide) ?_
      rw [hQ9]
      exact endZ X hr rfl hlocks hP hD hS dX8_isShort_20 ⟨0, rfl, (by decide), (by first | assumption | omega), rfl⟩
    · have nc_12_3 : 16 ≤ (v / 8) := Nat.not_lt.mp (fun q => c_12_3 ((nI_ltI (a := v / 8) (b := 16) (by omega) (by omega)).mpr q))
      refine lv_iconst (v := 1) hx hb dX8_isShort_15 (by decide) ?_
      refine lv_goto (tgt := 20) hx hb dX8_isShort_16 (by decide) ?_
      rw [hQ9]
      exact endZ X hr rfl hlocks hP hD hS dX8_isShort_20 ⟨1, rfl, (by decide), (by first | assumption | omega), rfl⟩
set_option maxHeartbeats 4000000 in
set_option maxRecDepth 100000 in
theorem c_s_putWord (l : Launch) (D : va_G) (cA cB : ClassId) (h0 : Nat) (qel : Nat) (rl : Nat) (lt : Nat → Int32) (i9 : Nat) (k : Nat) (hrl : rl < 17) (hi9 : i9 < 5) (hk : k < 64) : CV l yX5_putWord cX5_putWord 4 none 4 85 0 0 D cA cB [.ref h0, .ref (aK D i9), .int (nI k)] [(h0, .inr (5, [.ref qel, .int (nI rl)])), (qel, .inl (cA, 16, .inl lt))] (fun W1 => ∃ (rl2 : Nat) (lt2 : Nat → Int32), (rl2 < 17) ∧ W1 = [(h0, .inr (5, [.ref qel, .int (nI rl2)])), (qel, .inl (cA, 16, .inl lt2))]) := by
  refine mkV (lv0 := [(0, .ref h0), (1, .ref (aK D i9)), (2, .int (nI k))]) (by decide) (Nat.le_of_ble_eq_true rfl) rfl ?_
  intro p e s m below meth c A ls X hr hlocks hnm hE hA hP hD hS hl
  have hx := X.1
  have hb := X.2.1
  refine qW (fun Q9 hQ9 => ?_)
  have hsl := sl_le i9 (by omega)
  refine lv_iconst (v := 3) hx hb dX5_putWord_0 (by decide) ?_
  refine lv_iload_n hx hb dX5_putWord_1 rfl (lv_at hl 2 rfl) ?_
  refine lv_imul hx hb dX5_putWord_2 ?_
  refine tk (y := nI (3 * k)) (pk_mul 3 k) ?_
  refine lv_istore_n (lv' := [(3, .int (nI (3 * k))), (0, .ref h0), (1, .ref (aK D i9)), (2, .int (nI k))]) hx hb dX5_putWord_3 rfl hl (by decide) rfl (fun ls hl => ?_)
  have loop_4 : ∀ (n : Nat) (rlv : Nat) (ltv : Nat → Int32) (i3 : Nat), (rlv < 17) → (i3 < 200) → (3 * k ≤ i3) → (i3 ≤ 3 * k + 3) → 3 * k + 3 - i3 < n → ∀ (H : Heap) (locs : List Loc), va_P D classes [(h0, .inr (5, [.ref qel, .int (nI rlv)])), (qel, .inl (cA, 16, .inl ltv))] H → va_D A [(h0, .inr (5, [.ref qel, .int (nI rlv)])), (qel, .inl (cA, 16, .inl ltv))] → va_S A s.heap H locs → ∀ ls : Array Slot, lv_has ls 4 [(0, .ref h0), (1, .ref (aK D i9)), (2, .int (nI k)), (3, .int (nI i3))] → W p l e { frames := 4, cells := 0, slots := 0, locals := 85 } s m (List.toArray [.ref h0, .ref (aK D i9), .int (nI k)]) below meth c H locs 0 0 Q9 (F0 m 4 ls []) := by
    intro n
    induction n with
    | zero => intro rlv ltv i3 hrlv hi3 hi4 hi5 hfuel; exact absurd hfuel (by omega)
    | succ n ih_4 =>
      intro rlv ltv i3 hrlv hi3 hi4 hi5 hfuel H locs hP hD hS ls hl
      refine lv_iload_n hx hb dX5_putWord_4 rfl (lv_at hl 3 rfl) ?_
      refine lv_iconst (v := 3) hx hb dX5_putWord_5 (by decide) ?_
      refine lv_iload_n hx hb dX5_putWord_6 rfl (lv_at hl 2 rfl) ?_
      refine lv_imul hx hb dX5_putWord_7 ?_
      refine tk (y := nI (3 * k)) (pk_mul 3 k) ?_
      refine lv_iconst (v := 3) hx hb dX5_putWord_8 (by decide) ?_
      refine lv_iadd hx hb dX5_putWord_9 ?_
      refine tk (y := nI (3 * k + 3)) (nI_add (3 * k) 3) ?_
      refine lv_icmp_ge (tgt := 36) hx hb dX5_putWord_10 (by decide) (fun c_10_1 => ?_) (fun c_10_1 => ?_)
      · have nc_10_1 : (3 * k + 3) ≤ i3 := (nI_leI (a := 3 * k + 3) (b := i3) (by omega) (by omega)).mp c_10_1
        rw [hQ9]
        exact endV X hr hlocks hP hD hS dX5_putWord_36 ⟨rlv, ltv, hrlv, rfl⟩
      · have nc_10_1 : i3 < (3 * k + 3) := Nat.not_le.mp (fun q => c_10_1 ((nI_leI (a := 3 * k + 3) (b := i3) (by omega) (by omega)).mpr q))
        refine lv_iload_n hx hb dX5_putWord_13 rfl (lv_at hl 3 rfl) ?_
        refine lv_aload_n hx hb dX5_putWord_14 rfl (lv_at hl 1 rfl) ?_
        refine kVsi (n3 := 0) (As := []) (rest := [.int (nI i3)]) X hl.1 hE hP hD hS hA [0, 1] rfl (by decide) (c_s_length l D cA cB i9 (by first | assumption | omega | decide | rfl)) w_449 w_421 w_471 w_450 w_451 ((e_str hE).1 i9 (by omega : i9 < 5)).1 (by decide +kernel) rfl rfl (Nat.le_of_ble_eq_true rfl) ⟨(Nat.le_of_ble_eq_true rfl), (Nat.le_of_ble_eq_true rfl)⟩ ⟨(Nat.le_of_ble_eq_true rfl), (Nat.le_of_ble_eq_true rfl)⟩ dX5_putWord_15 (fun r W1 H locs hw hP hD hS => ?_)
        obtain ⟨rfl, rfl⟩ := hw
        have hP : va_P D classes [(h0, .inr (5, [.ref qel, .int (nI rlv)])), (qel, .inl (cA, 16, .inl ltv))] H := hP
        have hD : va_D A [(h0, .inr (5, [.ref qel, .int (nI rlv)])), (qel, .inl (cA, 16, .inl ltv))] := hD
        refine lv_icmp_ge (tgt := 36) hx hb dX5_putWord_18 (by decide) (fun c_18_2 => ?_) (fun c_18_2 => ?_)
        · have nc_18_2 : (sl i9) ≤ i3 := (nI_leI (a := sl i9) (b := i3) (by omega) (by omega)).mp c_18_2
          rw [hQ9]
          exact endV X hr hlocks hP hD hS dX5_putWord_36 ⟨rlv, ltv, hrlv, rfl⟩
        · have nc_18_2 : i3 < (sl i9) := Nat.not_le.mp (fun q => c_18_2 ((nI_leI (a := sl i9) (b := i3) (by omega) (by omega)).mpr q))
          refine lv_aload_n hx hb dX5_putWord_21 rfl (lv_at hl 0 rfl) ?_
          refine lv_aload_n hx hb dX5_putWord_22 rfl (lv_at hl 1 rfl) ?_
          refine lv_iload_n hx hb dX5_putWord_23 rfl (lv_at hl 3 rfl) ?_
          refine kVsi (n3 := 1) (As := [.int (nI i3)]) (rest := [.ref h0]) X hl.1 hE hP hD hS hA [0, 1] rfl (by decide) (c_s_charAt l D cA cB i9 i3 (by first | assumption | omega | decide | rfl) (by first | assumption | omega | decide | rfl)) w_473 w_421 w_472 w_474 w_475 ((e_str hE).1 i9 (by omega : i9 < 5)).1 (by decide +kernel) rfl rfl (Nat.le_of_ble_eq_true rfl) ⟨(Nat.le_of_ble_eq_true rfl), (Nat.le_of_ble_eq_true rfl)⟩ ⟨(Nat.le_of_ble_eq_true rfl), (Nat.le_of_ble_eq_true rfl)⟩ dX5_putWord_24 (fun r W1 H locs hw hP hD hS => ?_)
          obtain ⟨rk_3, rfl, hf_4, rfl⟩ := hw
          have hP : va_P D classes [(h0, .inr (5, [.ref qel, .int (nI rlv)])), (qel, .inl (cA, 16, .inl ltv))] H := hP
          have hD : va_D A [(h0, .inr (5, [.ref qel, .int (nI rlv)])), (qel, .inl (cA, 16, .inl ltv))] := hD
          refine kVv (n3 := 1) (As := [.int (nI rk_3)]) (rest := []) X hl.1 hE hP hD hS hA [(h0, .inr (5, [.ref qel, .int (nI rlv)])), (qel, .inl (cA, 16, .inl ltv))] [] [0, 1] [] rfl rfl rfl (by decide +kernel) (by decide +kernel) (by decide +kernel) (c_s_put l D cA cB h0 qel rlv ltv (nI rk_3) hrlv) w_408 w_409 w_407 w_410 w_411 0 (ci := 5) (T := TX5) (N := 2) rfl rfl (by decide +kernel) rfl rfl (Nat.le_of_ble_eq_true rfl) ⟨(Nat.le_of_ble_eq_true rfl), (Nat.le_of_ble_eq_true rfl)⟩ ⟨(Nat.le_of_ble_eq_true rfl), (Nat.le_of_ble_eq_true rfl)⟩ dX5_putWord_27 (fun W1 H locs hw hP hD hS => ?_)
          obtain ⟨rl2_5, lt2_6, hf_7, rfl⟩ := hw
          have hP : va_P D classes [(h0, .inr (5, [.ref qel, .int (nI rl2_5)])), (qel, .inl (cA, 16, .inl lt2_6))] H := hP
          have hD : va_D A [(h0, .inr (5, [.ref qel, .int (nI rl2_5)])), (qel, .inl (cA, 16, .inl lt2_6))] := hD
          refine lv_iinc (v := nI (i3 + 1)) (lv' := [(3, .int (nI (i3 + 1))), (0, .ref h0), (1, .ref (aK D i9)), (2, .int (nI k))]) hx hb dX5_putWord_30 hl (k := 3) rfl (nI_1 i3) (by decide) rfl (fun ls hl => ?_)
          refine lv_goto (tgt := 4) hx hb dX5_putWord_33 (by decide) ?_
          exact ih_4 rl2_5 lt2_6 (i3 + 1) (by omega) (by omega) (by first | assumption | omega) (by first | assumption | omega) (by omega) _ _ hP hD hS ls (lv_sub hl [1, 2, 3, 0] rfl)
  exact loop_4 5 rl lt (3 * k) hrl (by omega) (by first | assumption | omega) (by first | assumption | omega) (by omega) _ _ hP hD hS ls (lv_sub hl [1, 2, 3, 0] rfl)
set_option maxHeartbeats 4000000 in
set_option maxRecDepth 100000 in
theorem c_s_tellShort (l : Launch) (D : va_G) (cA cB : ClassId) (h0 : Nat) (qel : Nat) (rl : Nat) (lt : Nat → Int32) (o : Nat) (v : Nat) (hrl : rl < 17) (ho : o < 32) (hv : v < 256) (ho16 : 16 ≤ o) : CV l yX5_tellShort cX5_tellShort 4 none 5 108 0 0 D cA cB [.ref h0, .int (nI o), .int (nI v)] [(h0, .inr (5, [.ref qel, .int (nI rl)])), (qel, .inl (cA, 16, .inl lt))] (fun W1 => ∃ (rl2 : Nat) (lt2 : Nat → Int32), (rl2 < 17) ∧ W1 = [(h0, .inr (5, [.ref qel, .int (nI rl2)])), (qel, .inl (cA, 16, .inl lt2))]) := by
  refine mkV (lv0 := [(0, .ref h0), (1, .int (nI o)), (2, .int (nI v))]) (by decide) (Nat.le_of_ble_eq_true rfl) rfl ?_
  intro p e s m below meth c A ls X hr hlocks hnm hE hA hP hD hS hl
  have hx := X.1
  have hb := X.2.1
  refine qW (fun Q9 hQ9 => ?_)
  refine lv_iload_n hx hb dX5_tellShort_0 rfl (lv_at hl 1 rfl) ?_
  refine lv_bipush (v := 27) hx hb dX5_tellShort_1 (by decide) ?_
  refine lv_icmp_ne (tgt := 20) hx hb dX5_tellShort_3 (by decide) (fun c_3_1 => ?_) (fun c_3_1 => ?_)
  · have nc_3_1 : ¬ o = 27 := fun q => c_3_1 ((nI_eq (a := o) (b := 27) (by omega) (by omega)).mpr q)
    refine lv_iload_n hx hb dX5_tellShort_20 rfl (lv_at hl 1 rfl) ?_
    refine lv_bipush (v := 27) hx hb dX5_tellShort_21 (by decide) ?_
    refine lv_icmp_ne (tgt := 32) hx hb dX5_tellShort_23 (by decide) (fun c_23_2 => ?_) (fun c_23_2 => ?_)
    · have nc_23_2 : ¬ o = 27 := fun q => c_23_2 ((nI_eq (a := o) (b := 27) (by omega) (by omega)).mpr q)
      refine lv_aload_n hx hb dX5_tellShort_32 rfl (lv_at hl 0 rfl) ?_
      refine va_ldcS hx hb X.2.2.2.1 (e_rReader48 hE) dX5_tellShort_33 ?_
      refine lv_iload_n hx hb dX5_tellShort_35 rfl (lv_at hl 1 rfl) ?_
      refine lv_bipush (v := 16) hx hb dX5_tellShort_36 (by decide) ?_
      refine lv_isub hx hb dX5_tellShort_38 ?_
      refine tk (y := nI (o - 16)) (pk_sub (a := o) (b := 16) (by omega)) ?_
      refine kVv (n3 := 2) (As := [.ref (aK D 1), .int (nI (o - 16))]) (rest := []) X hl.1 hE hP hD hS hA [(h0, .inr (5, [.ref qel, .int (nI rl)])), (qel, .inl (cA, 16, .inl lt))] [] [0, 1] [] rfl rfl rfl (by decide +kernel) (by decide +kernel) (by decide +kernel) (c_s_putWord l D cA cB h0 qel rl lt 1 (o - 16) hrl (by first | assumption | omega | decide | rfl) (by first | assumption | omega | decide | rfl)) w_477 w_409 w_476 w_478 w_479 0 (ci := 5) (T := TX5) (N := 2) rfl rfl (by decide +kernel) rfl rfl (Nat.le_of_ble_eq_true rfl) ⟨(Nat.le_of_ble_eq_true rfl), (Nat.le_of_ble_eq_true rfl)⟩ ⟨(Nat.le_of_ble_eq_true rfl), (Nat.le_of_ble_eq_true rfl)⟩ dX5_tellShort_39 (fun W1 H locs hw hP hD hS => ?_)
      obtain ⟨rl2_3, lt2_4, hf_5, rfl⟩ := hw
      have hP : va_P D classes [(h0, .inr (5, [.ref qel, .int (nI rl2_3)])), (qel, .inl (cA, 16, .inl lt2_4))] H := hP
      have hD : va_D A [(h0, .inr (5, [.ref qel, .int (nI rl2_3)])), (qel, .inl (cA, 16, .inl lt2_4))] := hD
      refine lv_aload_n hx hb dX5_tellShort_42 rfl (lv_at hl 0 rfl) ?_
      refine lv_bipush (v := 32) hx hb dX5_tellShort_43 (by decide) ?_
      refine kVv (n3 := 1) (As := [.int 32]) (rest := []) X hl.1 hE hP hD hS hA [(h0, .inr (5, [.ref qel, .int (nI rl2_3)])), (qel, .inl (cA, 16, .inl lt2_4))] [] [0, 1] [] rfl rfl rfl (by decide +kernel) (by decide +kernel) (by decide +kernel) (c_s_put l D cA cB h0 qel rl2_3 lt2_4 32 hf_5) w_408 w_409 w_407 w_410 w_411 0 (ci := 5) (T := TX5) (N := 2) rfl rfl (by decide +kernel) rfl rfl (Nat.le_of_ble_eq_true rfl) ⟨(Nat.le_of_ble_eq_true rfl), (Nat.le_of_ble_eq_true rfl)⟩ ⟨(Nat.le_of_ble_eq_true rfl), (Nat.le_of_ble_eq_true rfl)⟩ dX5_tellShort_45 (fun W1 H locs hw hP hD hS => ?_)
      obtain ⟨rl2_6, lt2_7, hf_8, rfl⟩ := hw
      have hP : va_P D classes [(h0, .inr (5, [.ref qel, .int (nI rl2_6)])), (qel, .inl (cA, 16, .inl lt2_7))] H := hP
      have hD : va_D A [(h0, .inr (5, [.ref qel, .int (nI rl2_6)])), (qel, .inl (cA, 16, .inl lt2_7))] := hD
      refine lv_iload_n hx hb dX5_tellShort_48 rfl (lv_at hl 1 rfl) ?_
      refine kSNi (n3 := 1) (As := [.int (nI o)]) (rest := []) X hl.1 hE hP hD hS hA [] [(h0, .inr (5, [.ref qel, .int (nI rl2_6)])), (qel, .inl (cA, 16, .inl lt2_7))] [] [0, 1] rfl rfl rfl (by decide +kernel) (by decide +kernel) (by decide +kernel) (c_s_takesValue l D cA cB (nI o) ) w_480 w_107 nw_35 w_481 (by decide +kernel) rfl rfl (Nat.le_of_ble_eq_true rfl) ⟨(Nat.le_of_ble_eq_true rfl), (Nat.le_of_ble_eq_true rfl)⟩ ⟨(Nat.le_of_ble_eq_true rfl), (Nat.le_of_ble_eq_true rfl)⟩ dX5_tellShort_49 (fun r W1 H locs hw hP hD hS => ?_)
      obtain ⟨rk_9, rfl, hf_10, rfl⟩ := hw
      have hP : va_P D classes [(h0, .inr (5, [.ref qel, .int (nI rl2_6)])), (qel, .inl (cA, 16, .inl lt2_7))] H := hP
      have hD : va_D A [(h0, .inr (5, [.ref qel, .int (nI rl2_6)])), (qel, .inl (cA, 16, .inl lt2_7))] := hD
      refine lv_if_eq (tgt := 67) hx hb dX5_tellShort_52 (by decide) (fun c_52_11 => ?_) (fun c_52_11 => ?_)
      · have nc_52_11 : rk_9 = 0 := (nI_eq (a := rk_9) (b := 0) (by omega) (by omega)).mp c_52_11
        refine lv_iload_n hx hb dX5_tellShort_67 rfl (lv_at hl 2 rfl) ?_
        refine kSNi (n3 := 1) (As := [.int (nI v)]) (rest := []) X hl.1 hE hP hD hS hA [] [(h0, .inr (5, [.ref qel, .int (nI rl2_6)])), (qel, .inl (cA, 16, .inl lt2_7))] [] [0, 1] rfl rfl rfl (by decide +kernel) (by decide +kernel) (by decide +kernel) (c_s_signed l D cA cB v hv) w_106 w_107 nw_36 w_108 (by decide +kernel) rfl rfl (Nat.le_of_ble_eq_true rfl) ⟨(Nat.le_of_ble_eq_true rfl), (Nat.le_of_ble_eq_true rfl)⟩ ⟨(Nat.le_of_ble_eq_true rfl), (Nat.le_of_ble_eq_true rfl)⟩ dX5_tellShort_68 (fun r W1 H locs hw hP hD hS => ?_)
        obtain ⟨rv_12, er_13, rfl⟩ := hw
        have hP : va_P D classes [(h0, .inr (5, [.ref qel, .int (nI rl2_6)])), (qel, .inl (cA, 16, .inl lt2_7))] H := hP
        have hD : va_D A [(h0, .inr (5, [.ref qel, .int (nI rl2_6)])), (qel, .inl (cA, 16, .inl lt2_7))] := hD
        refine tk (y := rv_12) er_13 ?_
        refine lv_iconst (v := 2) hx hb dX5_tellShort_71 (by decide) ?_
        refine lv_iadd hx hb dX5_tellShort_72 ?_
        refine lv_istore_n (lv' := [(3, .int (rv_12 + 2)), (0, .ref h0), (1, .int (nI o)), (2, .int (nI v))]) hx hb dX5_tellShort_73 rfl hl (by decide) rfl (fun ls hl => ?_)
        refine lv_aload_n hx hb dX5_tellShort_74 rfl (lv_at hl 1 rfl) ?_
        refine lv_bipush (v := 46) hx hb dX5_tellShort_75 (by decide) ?_
        refine kVv (n3 := 1) (As := [.int 46]) (rest := []) X hl.1 hE hP hD hS hA [(h0, .inr (5, [.ref qel, .int (nI rl2_6)])), (qel, .inl (cA, 16, .inl lt2_7))] [] [0, 1] [] rfl rfl rfl (by decide +kernel) (by decide +kernel) (by decide +kernel) (c_s_put l D cA cB h0 qel rl2_6 lt2_7 46 (by first | assumption | omega | decide | rfl)) w_408 w_409 w_407 w_410 w_411 0 (ci := 5) (T := TX5) (N := 2) rfl rfl (by decide +kernel) rfl rfl (Nat.le_of_ble_eq_true rfl) ⟨(Nat.le_of_ble_eq_true rfl), (Nat.le_of_ble_eq_true rfl)⟩ ⟨(Nat.le_of_ble_eq_true rfl), (Nat.le_of_ble_eq_true rfl)⟩ dX5_tellShort_77 (fun W1 H locs hw hP hD hS => ?_)
        obtain ⟨rl2_14, lt2_15, hf_16, rfl⟩ := hw
        have hP : va_P D classes [(h0, .inr (5, [.ref qel, .int (nI rl2_14)])), (qel, .inl (cA, 16, .inl lt2_15))] H := hP
        have hD : va_D A [(h0, .inr (5, [.ref qel, .int (nI rl2_14)])), (qel, .inl (cA, 16, .inl lt2_15))] := hD
        refine lv_aload_n hx hb dX5_tellShort_80 rfl (lv_at hl 1 rfl) ?_
        refine lv_iload_n hx hb dX5_tellShort_81 rfl (lv_at hl 0 rfl) ?_
        refine lv_if_ge (tgt := 90) hx hb dX5_tellShort_82 (by decide) (fun c_82 => ?_) (fun c_82 => ?_)
        · skip
          refine lv_bipush (v := 43) hx hb dX5_tellShort_90 (by decide) ?_
          refine kVv (n3 := 1) (As := [.int 43]) (rest := []) X hl.1 hE hP hD hS hA [(h0, .inr (5, [.ref qel, .int (nI rl2_14)])), (qel, .inl (cA, 16, .inl lt2_15))] [] [0, 1] [] rfl rfl rfl (by decide +kernel) (by decide +kernel) (by decide +kernel) (c_s_put l D cA cB h0 qel rl2_14 lt2_15 43 (by first | assumption | omega | decide | rfl)) w_408 w_409 w_407 w_410 w_411 0 (ci := 5) (T := TX5) (N := 2) rfl rfl (by decide +kernel) rfl rfl (Nat.le_of_ble_eq_true rfl) ⟨(Nat.le_of_ble_eq_true rfl), (Nat.le_of_ble_eq_true rfl)⟩ ⟨(Nat.le_of_ble_eq_true rfl), (Nat.le_of_ble_eq_true rfl)⟩ dX5_tellShort_92 (fun W1 H locs hw hP hD hS => ?_)
          obtain ⟨rl2_17, lt2_18, hf_19, rfl⟩ := hw
          have hP : va_P D classes [(h0, .inr (5, [.ref qel, .int (nI rl2_17)])), (qel, .inl (cA, 16, .inl lt2_18))] H := hP
          have hD : va_D A [(h0, .inr (5, [.ref qel, .int (nI rl2_17)])), (qel, .inl (cA, 16, .inl lt2_18))] := hD
          refine lv_aload_n hx hb dX5_tellShort_95 rfl (lv_at hl 1 rfl) ?_
          refine lv_iload_n hx hb dX5_tellShort_96 rfl (lv_at hl 0 rfl) ?_
          refine va_mabs hx hb (X.2.2.1.trans hl.1.symm) X.2.2.2.1 (X.2.2.2.2 _ w_482) (X.2.2.2.2 _ w_483) (X.2.2.2.2 _ w_43) (X.2.2.2.2 _ w_484) (Nat.le_of_ble_eq_true rfl) (Nat.le_of_ble_eq_true rfl) (Nat.le_of_ble_eq_true rfl) (Nat.le_of_ble_eq_true rfl) dX5_tellShort_97 ?_
          refine kVv (n3 := 1) (As := [.int ((if 0 ≤ rv_12 + 2 then rv_12 + 2 else 0 - (rv_12 + 2)))]) (rest := []) X hl.1 hE hP hD hS hA [(h0, .inr (5, [.ref qel, .int (nI rl2_17)])), (qel, .inl (cA, 16, .inl lt2_18))] [] [0, 1] [] rfl rfl rfl (by decide +kernel) (by decide +kernel) (by decide +kernel) (c_s_putNumber l D cA cB h0 qel rl2_17 lt2_18 (if 0 ≤ rv_12 + 2 then rv_12 + 2 else 0 - (rv_12 + 2)) (by first | assumption | omega | decide | rfl)) w_413 w_409 w_412 w_414 w_415 0 (ci := 5) (T := TX5) (N := 2) rfl rfl (by decide +kernel) rfl rfl (Nat.le_of_ble_eq_true rfl) ⟨(Nat.le_of_ble_eq_true rfl), (Nat.le_of_ble_eq_true rfl)⟩ ⟨(Nat.le_of_ble_eq_true rfl), (Nat.le_of_ble_eq_true rfl)⟩ dX5_tellShort_100 (fun W1 H locs hw hP hD hS => ?_)
          obtain ⟨rl2_20, lt2_21, hf_22, rfl⟩ := hw
          have hP : va_P D classes [(h0, .inr (5, [.ref qel, .int (nI rl2_20)])), (qel, .inl (cA, 16, .inl lt2_21))] H := hP
          have hD : va_D A [(h0, .inr (5, [.ref qel, .int (nI rl2_20)])), (qel, .inl (cA, 16, .inl lt2_21))] := hD
          rw [hQ9]
          exact endV X hr hlocks hP hD hS dX5_tellShort_103 ⟨rl2_20, lt2_21, (by omega), rfl⟩
        · skip
          refine lv_bipush (v := 45) hx hb dX5_tellShort_85 (by decide) ?_
          refine lv_goto (tgt := 92) hx hb dX5_tellShort_87 (by decide) ?_
          refine kVv (n3 := 1) (As := [.int 45]) (rest := []) X hl.1 hE hP hD hS hA [(h0, .inr (5, [.ref qel, .int (nI rl2_14)])), (qel, .inl (cA, 16, .inl lt2_15))] [] [0, 1] [] rfl rfl rfl (by decide +kernel) (by decide +kernel) (by decide +kernel) (c_s_put l D cA cB h0 qel rl2_14 lt2_15 45 (by first | assumption | omega | decide | rfl)) w_408 w_409 w_407 w_410 w_411 0 (ci := 5) (T := TX5) (N := 2) rfl rfl (by decide +kernel) rfl rfl (Nat.le_of_ble_eq_true rfl) ⟨(Nat.le_of_ble_eq_true rfl), (Nat.le_of_ble_eq_true rfl)⟩ ⟨(Nat.le_of_ble_eq_true rfl), (Nat.le_of_ble_eq_true rfl)⟩ dX5_tellShort_92 (fun W1 H locs hw hP hD hS => ?_)
          obtain ⟨rl2_23, lt2_24, hf_25, rfl⟩ := hw
          have hP : va_P D classes [(h0, .inr (5, [.ref qel, .int (nI rl2_23)])), (qel, .inl (cA, 16, .inl lt2_24))] H := hP
          have hD : va_D A [(h0, .inr (5, [.ref qel, .int (nI rl2_23)])), (qel, .inl (cA, 16, .inl lt2_24))] := hD
          refine lv_aload_n hx hb dX5_tellShort_95 rfl (lv_at hl 1 rfl) ?_
          refine lv_iload_n hx hb dX5_tellShort_96 rfl (lv_at hl 0 rfl) ?_
          refine va_mabs hx hb (X.2.2.1.trans hl.1.symm) X.2.2.2.1 (X.2.2.2.2 _ w_482) (X.2.2.2.2 _ w_483) (X.2.2.2.2 _ w_43) (X.2.2.2.2 _ w_484) (Nat.le_of_ble_eq_true rfl) (Nat.le_of_ble_eq_true rfl) (Nat.le_of_ble_eq_true rfl) (Nat.le_of_ble_eq_true rfl) dX5_tellShort_97 ?_
          refine kVv (n3 := 1) (As := [.int ((if 0 ≤ rv_12 + 2 then rv_12 + 2 else 0 - (rv_12 + 2)))]) (rest := []) X hl.1 hE hP hD hS hA [(h0, .inr (5, [.ref qel, .int (nI rl2_23)])), (qel, .inl (cA, 16, .inl lt2_24))] [] [0, 1] [] rfl rfl rfl (by decide +kernel) (by decide +kernel) (by decide +kernel) (c_s_putNumber l D cA cB h0 qel rl2_23 lt2_24 (if 0 ≤ rv_12 + 2 then rv_12 + 2 else 0 - (rv_12 + 2)) (by first | assumption | omega | decide | rfl)) w_413 w_409 w_412 w_414 w_415 0 (ci := 5) (T := TX5) (N := 2) rfl rfl (by decide +kernel) rfl rfl (Nat.le_of_ble_eq_true rfl) ⟨(Nat.le_of_ble_eq_true rfl), (Nat.le_of_ble_eq_true rfl)⟩ ⟨(Nat.le_of_ble_eq_true rfl), (Nat.le_of_ble_eq_true rfl)⟩ dX5_tellShort_100 (fun W1 H locs hw hP hD hS => ?_)
          obtain ⟨rl2_26, lt2_27, hf_28, rfl⟩ := hw
          have hP : va_P D classes [(h0, .inr (5, [.ref qel, .int (nI rl2_26)])), (qel, .inl (cA, 16, .inl lt2_27))] H := hP
          have hD : va_D A [(h0, .inr (5, [.ref qel, .int (nI rl2_26)])), (qel, .inl (cA, 16, .inl lt2_27))] := hD
          rw [hQ9]
          exact endV X hr hlocks hP hD hS dX5_tellShort_103 ⟨rl2_26, lt2_27, (by omega), rfl⟩
      · have nc_52_11 : ¬ rk_9 = 0 := fun q => c_52_11 ((nI_eq (a := rk_9) (b := 0) (by omega) (by omega)).mpr q)
        refine lv_aload_n hx hb dX5_tellShort_55 rfl (lv_at hl 0 rfl) ?_
        refine lv_bipush (v := 35) hx hb dX5_tellShort_56 (by decide) ?_
        refine kVv (n3 := 1) (As := [.int 35]) (rest := []) X hl.1 hE hP hD hS hA [(h0, .inr (5, [.ref qel, .int (nI rl2_6)])), (qel, .inl (cA, 16, .inl lt2_7))] [] [0, 1] [] rfl rfl rfl (by decide +kernel) (by decide +kernel) (by decide +kernel) (c_s_put l D cA cB h0 qel rl2_6 lt2_7 35 (by first | assumption | omega | decide | rfl)) w_408 w_409 w_407 w_410 w_411 0 (ci := 5) (T := TX5) (N := 2) rfl rfl (by decide +kernel) rfl rfl (Nat.le_of_ble_eq_true rfl) ⟨(Nat.le_of_ble_eq_true rfl), (Nat.le_of_ble_eq_true rfl)⟩ ⟨(Nat.le_of_ble_eq_true rfl), (Nat.le_of_ble_eq_true rfl)⟩ dX5_tellShort_58 (fun W1 H locs hw hP hD hS => ?_)
        obtain ⟨rl2_29, lt2_30, hf_31, rfl⟩ := hw
        have hP : va_P D classes [(h0, .inr (5, [.ref qel, .int (nI rl2_29)])), (qel, .inl (cA, 16, .inl lt2_30))] H := hP
        have hD : va_D A [(h0, .inr (5, [.ref qel, .int (nI rl2_29)])), (qel, .inl (cA, 16, .inl lt2_30))] := hD
        refine lv_aload_n hx hb dX5_tellShort_61 rfl (lv_at hl 0 rfl) ?_
        refine lv_iload_n hx hb dX5_tellShort_62 rfl (lv_at hl 2 rfl) ?_
        refine kVv (n3 := 1) (As := [.int (nI v)]) (rest := []) X hl.1 hE hP hD hS hA [(h0, .inr (5, [.ref qel, .int (nI rl2_29)])), (qel, .inl (cA, 16, .inl lt2_30))] [] [0, 1] [] rfl rfl rfl (by decide +kernel) (by decide +kernel) (by decide +kernel) (c_s_putNumber l D cA cB h0 qel rl2_29 lt2_30 (nI v) (by first | assumption | omega | decide | rfl)) w_413 w_409 w_412 w_414 w_415 0 (ci := 5) (T := TX5) (N := 2) rfl rfl (by decide +kernel) rfl rfl (Nat.le_of_ble_eq_true rfl) ⟨(Nat.le_of_ble_eq_true rfl), (Nat.le_of_ble_eq_true rfl)⟩ ⟨(Nat.le_of_ble_eq_true rfl), (Nat.le_of_ble_eq_true rfl)⟩ dX5_tellShort_63 (fun W1 H locs hw hP hD hS => ?_)
        obtain ⟨rl2_32, lt2_33, hf_34, rfl⟩ := hw
        have hP : va_P D classes [(h0, .inr (5, [.ref qel, .int (nI rl2_32)])), (qel, .inl (cA, 16, .inl lt2_33))] H := hP
        have hD : va_D A [(h0, .inr (5, [.ref qel, .int (nI rl2_32)])), (qel, .inl (cA, 16, .inl lt2_33))] := hD
        rw [hQ9]
        exact endV X hr hlocks hP hD hS dX5_tellShort_66 ⟨rl2_32, lt2_33, (by omega), rfl⟩
    · have nc_23_2 : o = 27 := (nI_eq (a := o) (b := 27) (by omega) (by omega)).mp c_23_2
      refine lv_aload_n hx hb dX5_tellShort_26 rfl (lv_at hl 0 rfl) ?_
      refine lv_iload_n hx hb dX5_tellShort_27 rfl (lv_at hl 2 rfl) ?_
      refine kVv (n3 := 1) (As := [.int (nI v)]) (rest := []) X hl.1 hE hP hD hS hA [(h0, .inr (5, [.ref qel, .int (nI rl)])), (qel, .inl (cA, 16, .inl lt))] [] [0, 1] [] rfl rfl rfl (by decide +kernel) (by decide +kernel) (by decide +kernel) (c_s_putIllegal l D cA cB h0 qel rl lt (nI v) hrl) w_486 w_409 w_485 w_487 w_488 0 (ci := 5) (T := TX5) (N := 2) rfl rfl (by decide +kernel) rfl rfl (Nat.le_of_ble_eq_true rfl) ⟨(Nat.le_of_ble_eq_true rfl), (Nat.le_of_ble_eq_true rfl)⟩ ⟨(Nat.le_of_ble_eq_true rfl), (Nat.le_of_ble_eq_true rfl)⟩ dX5_tellShort_28 (fun W1 H locs hw hP hD hS => ?_)
      obtain ⟨rl2_35, lt2_36, hf_37, rfl⟩ := hw
      have hP : va_P D classes [(h0, .inr (5, [.ref qel, .int (nI rl2_35)])), (qel, .inl (cA, 16, .inl lt2_36))] H := hP
      have hD : va_D A [(h0, .inr (5, [.ref qel, .int (nI rl2_35)])), (qel, .inl (cA, 16, .inl lt2_36))] := hD
      rw [hQ9]
      exact endV X hr hlocks hP hD hS dX5_tellShort_31 ⟨rl2_35, lt2_36, (by omega), rfl⟩
  · have nc_3_1 : o = 27 := (nI_eq (a := o) (b := 27) (by omega) (by omega)).mp c_3_1
    refine lv_iload_n hx hb dX5_tellShort_6 rfl (lv_at hl 2 rfl) ?_
    refine lv_bipush (v := 31) hx hb dX5_tellShort_7 (by decide) ?_
    refine lv_icmp_gt (tgt := 20) hx hb dX5_tellShort_9 (by decide) (fun c_9_38 => ?_) (fun c_9_38 => ?_)
    · have nc_9_38 : 31 < v := (nI_ltI (a := 31) (b := v) (by omega) (by omega)).mp c_9_38
      refine lv_iload_n hx hb dX5_tellShort_20 rfl (lv_at hl 1 rfl) ?_
      refine lv_bipush (v := 27) hx hb dX5_tellShort_21 (by decide) ?_
      refine lv_icmp_ne (tgt := 32) hx hb dX5_tellShort_23 (by decide) (fun c_23_39 => ?_) (fun c_23_39 => ?_)
      · have nc_23_39 : ¬ o = 27 := fun q => c_23_39 ((nI_eq (a := o) (b := 27) (by omega) (by omega)).mpr q)
        refine lv_aload_n hx hb dX5_tellShort_32 rfl (lv_at hl 0 rfl) ?_
        refine va_ldcS hx hb X.2.2.2.1 (e_rReader48 hE) dX5_tellShort_33 ?_
        refine lv_iload_n hx hb dX5_tellShort_35 rfl (lv_at hl 1 rfl) ?_
        refine lv_bipush (v := 16) hx hb dX5_tellShort_36 (by decide) ?_
        refine lv_isub hx hb dX5_tellShort_38 ?_
        refine tk (y := nI (o - 16)) (pk_sub (a := o) (b := 16) (by omega)) ?_
        refine kVv (n3 := 2) (As := [.ref (aK D 1), .int (nI (o - 16))]) (rest := []) X hl.1 hE hP hD hS hA [(h0, .inr (5, [.ref qel, .int (nI rl)])), (qel, .inl (cA, 16, .inl lt))] [] [0, 1] [] rfl rfl rfl (by decide +kernel) (by decide +kernel) (by decide +kernel) (c_s_putWord l D cA cB h0 qel rl lt 1 (o - 16) hrl (by first | assumption | omega | decide | rfl) (by first | assumption | omega | decide | rfl)) w_477 w_409 w_476 w_478 w_479 0 (ci := 5) (T := TX5) (N := 2) rfl rfl (by decide +kernel) rfl rfl (Nat.le_of_ble_eq_true rfl) ⟨(Nat.le_of_ble_eq_true rfl), (Nat.le_of_ble_eq_true rfl)⟩ ⟨(Nat.le_of_ble_eq_true rfl), (Nat.le_of_ble_eq_true rfl)⟩ dX5_tellShort_39 (fun W1 H locs hw hP hD hS => ?_)
        obtain ⟨rl2_40, lt2_41, hf_42, rfl⟩ := hw
        have hP : va_P D classes [(h0, .inr (5, [.ref qel, .int (nI rl2_40)])), (qel, .inl (cA, 16, .inl lt2_41))] H := hP
        have hD : va_D A [(h0, .inr (5, [.ref qel, .int (nI rl2_40)])), (qel, .inl (cA, 16, .inl lt2_41))] := hD
        refine lv_aload_n hx hb dX5_tellShort_42 rfl (lv_at hl 0 rfl) ?_
        refine lv_bipush (v := 32) hx hb dX5_tellShort_43 (by decide) ?_
        refine kVv (n3 := 1) (As := [.int 32]) (rest := []) X hl.1 hE hP hD hS hA [(h0, .inr (5, [.ref qel, .int (nI rl2_40)])), (qel, .inl (cA, 16, .inl lt2_41))] [] [0, 1] [] rfl rfl rfl (by decide +kernel) (by decide +kernel) (by decide +kernel) (c_s_put l D cA cB h0 qel rl2_40 lt2_41 32 hf_42) w_408 w_409 w_407 w_410 w_411 0 (ci := 5) (T := TX5) (N := 2) rfl rfl (by decide +kernel) rfl rfl (Nat.le_of_ble_eq_true rfl) ⟨(Nat.le_of_ble_eq_true rfl), (Nat.le_of_ble_eq_true rfl)⟩ ⟨(Nat.le_of_ble_eq_true rfl), (Nat.le_of_ble_eq_true rfl)⟩ dX5_tellShort_45 (fun W1 H locs hw hP hD hS => ?_)
        obtain ⟨rl2_43, lt2_44, hf_45, rfl⟩ := hw
        have hP : va_P D classes [(h0, .inr (5, [.ref qel, .int (nI rl2_43)])), (qel, .inl (cA, 16, .inl lt2_44))] H := hP
        have hD : va_D A [(h0, .inr (5, [.ref qel, .int (nI rl2_43)])), (qel, .inl (cA, 16, .inl lt2_44))] := hD
        refine lv_iload_n hx hb dX5_tellShort_48 rfl (lv_at hl 1 rfl) ?_
        refine kSNi (n3 := 1) (As := [.int (nI o)]) (rest := []) X hl.1 hE hP hD hS hA [] [(h0, .inr (5, [.ref qel, .int (nI rl2_43)])), (qel, .inl (cA, 16, .inl lt2_44))] [] [0, 1] rfl rfl rfl (by decide +kernel) (by decide +kernel) (by decide +kernel) (c_s_takesValue l D cA cB (nI o) ) w_480 w_107 nw_35 w_481 (by decide +kernel) rfl rfl (Nat.le_of_ble_eq_true rfl) ⟨(Nat.le_of_ble_eq_true rfl), (Nat.le_of_ble_eq_true rfl)⟩ ⟨(Nat.le_of_ble_eq_true rfl), (Nat.le_of_ble_eq_true rfl)⟩ dX5_tellShort_49 (fun r W1 H locs hw hP hD hS => ?_)
        obtain ⟨rk_46, rfl, hf_47, rfl⟩ := hw
        have hP : va_P D classes [(h0, .inr (5, [.ref qel, .int (nI rl2_43)])), (qel, .inl (cA, 16, .inl lt2_44))] H := hP
        have hD : va_D A [(h0, .inr (5, [.ref qel, .int (nI rl2_43)])), (qel, .inl (cA, 16, .inl lt2_44))] := hD
        refine lv_if_eq (tgt := 67) hx hb dX5_tellShort_52 (by decide) (fun c_52_48 => ?_) (fun c_52_48 => ?_)
        · have nc_52_48 : rk_46 = 0 := (nI_eq (a := rk_46) (b := 0) (by omega) (by omega)).mp c_52_48
          refine lv_iload_n hx hb dX5_tellShort_67 rfl (lv_at hl 2 rfl) ?_
          refine kSNi (n3 := 1) (As := [.int (nI v)]) (rest := []) X hl.1 hE hP hD hS hA [] [(h0, .inr (5, [.ref qel, .int (nI rl2_43)])), (qel, .inl (cA, 16, .inl lt2_44))] [] [0, 1] rfl rfl rfl (by decide +kernel) (by decide +kernel) (by decide +kernel) (c_s_signed l D cA cB v hv) w_106 w_107 nw_36 w_108 (by decide +kernel) rfl rfl (Nat.le_of_ble_eq_true rfl) ⟨(Nat.le_of_ble_eq_true rfl), (Nat.le_of_ble_eq_true rfl)⟩ ⟨(Nat.le_of_ble_eq_true rfl), (Nat.le_of_ble_eq_true rfl)⟩ dX5_tellShort_68 (fun r W1 H locs hw hP hD hS => ?_)
          obtain ⟨rv_49, er_50, rfl⟩ := hw
          have hP : va_P D classes [(h0, .inr (5, [.ref qel, .int (nI rl2_43)])), (qel, .inl (cA, 16, .inl lt2_44))] H := hP
          have hD : va_D A [(h0, .inr (5, [.ref qel, .int (nI rl2_43)])), (qel, .inl (cA, 16, .inl lt2_44))] := hD
          refine tk (y := rv_49) er_50 ?_
          refine lv_iconst (v := 2) hx hb dX5_tellShort_71 (by decide) ?_
          refine lv_iadd hx hb dX5_tellShort_72 ?_
          refine lv_istore_n (lv' := [(3, .int (rv_49 + 2)), (0, .ref h0), (1, .int (nI o)), (2, .int (nI v))]) hx hb dX5_tellShort_73 rfl hl (by decide) rfl (fun ls hl => ?_)
          refine lv_aload_n hx hb dX5_tellShort_74 rfl (lv_at hl 1 rfl) ?_
          refine lv_bipush (v := 46) hx hb dX5_tellShort_75 (by decide) ?_
          refine kVv (n3 := 1) (As := [.int 46]) (rest := []) X hl.1 hE hP hD hS hA [(h0, .inr (5, [.ref qel, .int (nI rl2_43)])), (qel, .inl (cA, 16, .inl lt2_44))] [] [0, 1] [] rfl rfl rfl (by decide +kernel) (by decide +kernel) (by decide +kernel) (c_s_put l D cA cB h0 qel rl2_43 lt2_44 46 (by first | assumption | omega | decide | rfl)) w_408 w_409 w_407 w_410 w_411 0 (ci := 5) (T := TX5) (N := 2) rfl rfl (by decide +kernel) rfl rfl (Nat.le_of_ble_eq_true rfl) ⟨(Nat.le_of_ble_eq_true rfl), (Nat.le_of_ble_eq_true rfl)⟩ ⟨(Nat.le_of_ble_eq_true rfl), (Nat.le_of_ble_eq_true rfl)⟩ dX5_tellShort_77 (fun W1 H locs hw hP hD hS => ?_)
          obtain ⟨rl2_51, lt2_52, hf_53, rfl⟩ := hw
          have hP : va_P D classes [(h0, .inr (5, [.ref qel, .int (nI rl2_51)])), (qel, .inl (cA, 16, .inl lt2_52))] H := hP
          have hD : va_D A [(h0, .inr (5, [.ref qel, .int (nI rl2_51)])), (qel, .inl (cA, 16, .inl lt2_52))] := hD
          refine lv_aload_n hx hb dX5_tellShort_80 rfl (lv_at hl 1 rfl) ?_
          refine lv_iload_n hx hb dX5_tellShort_81 rfl (lv_at hl 0 rfl) ?_
          refine lv_if_ge (tgt := 90) hx hb dX5_tellShort_82 (by decide) (fun c_82 => ?_) (fun c_82 => ?_)
          · skip
            refine lv_bipush (v := 43) hx hb dX5_tellShort_90 (by decide) ?_
            refine kVv (n3 := 1) (As := [.int 43]) (rest := []) X hl.1 hE hP hD hS hA [(h0, .inr (5, [.ref qel, .int (nI rl2_51)])), (qel, .inl (cA, 16, .inl lt2_52))] [] [0, 1] [] rfl rfl rfl (by decide +kernel) (by decide +kernel) (by decide +kernel) (c_s_put l D cA cB h0 qel rl2_51 lt2_52 43 (by first | assumption | omega | decide | rfl)) w_408 w_409 w_407 w_410 w_411 0 (ci := 5) (T := TX5) (N := 2) rfl rfl (by decide +kernel) rfl rfl (Nat.le_of_ble_eq_true rfl) ⟨(Nat.le_of_ble_eq_true rfl), (Nat.le_of_ble_eq_true rfl)⟩ ⟨(Nat.le_of_ble_eq_true rfl), (Nat.le_of_ble_eq_true rfl)⟩ dX5_tellShort_92 (fun W1 H locs hw hP hD hS => ?_)
            obtain ⟨rl2_54, lt2_55, hf_56, rfl⟩ := hw
            have hP : va_P D classes [(h0, .inr (5, [.ref qel, .int (nI rl2_54)])), (qel, .inl (cA, 16, .inl lt2_55))] H := hP
            have hD : va_D A [(h0, .inr (5, [.ref qel, .int (nI rl2_54)])), (qel, .inl (cA, 16, .inl lt2_55))] := hD
            refine lv_aload_n hx hb dX5_tellShort_95 rfl (lv_at hl 1 rfl) ?_
            refine lv_iload_n hx hb dX5_tellShort_96 rfl (lv_at hl 0 rfl) ?_
            refine va_mabs hx hb (X.2.2.1.trans hl.1.symm) X.2.2.2.1 (X.2.2.2.2 _ w_482) (X.2.2.2.2 _ w_483) (X.2.2.2.2 _ w_43) (X.2.2.2.2 _ w_484) (Nat.le_of_ble_eq_true rfl) (Nat.le_of_ble_eq_true rfl) (Nat.le_of_ble_eq_true rfl) (Nat.le_of_ble_eq_true rfl) dX5_tellShort_97 ?_
            refine kVv (n3 := 1) (As := [.int ((if 0 ≤ rv_49 + 2 then rv_49 + 2 else 0 - (rv_49 + 2)))]) (rest := []) X hl.1 hE hP hD hS hA [(h0, .inr (5, [.ref qel, .int (nI rl2_54)])), (qel, .inl (cA, 16, .inl lt2_55))] [] [0, 1] [] rfl rfl rfl (by decide +kernel) (by decide +kernel) (by decide +kernel) (c_s_putNumber l D cA cB h0 qel rl2_54 lt2_55 (if 0 ≤ rv_49 + 2 then rv_49 + 2 else 0 - (rv_49 + 2)) (by first | assumption | omega | decide | rfl)) w_413 w_409 w_412 w_414 w_415 0 (ci := 5) (T := TX5) (N := 2) rfl rfl (by decide +kernel) rfl rfl (Nat.le_of_ble_eq_true rfl) ⟨(Nat.le_of_ble_eq_true rfl), (Nat.le_of_ble_eq_true rfl)⟩ ⟨(Nat.le_of_ble_eq_true rfl), (Nat.le_of_ble_eq_true rfl)⟩ dX5_tellShort_100 (fun W1 H locs hw hP hD hS => ?_)
            obtain ⟨rl2_57, lt2_58, hf_59, rfl⟩ := hw
            have hP : va_P D classes [(h0, .inr (5, [.ref qel, .int (nI rl2_57)])), (qel, .inl (cA, 16, .inl lt2_58))] H := hP
            have hD : va_D A [(h0, .inr (5, [.ref qel, .int (nI rl2_57)])), (qel, .inl (cA, 16, .inl lt2_58))] := hD
            rw [hQ9]
            exact endV X hr hlocks hP hD hS dX5_tellShort_103 ⟨rl2_57, lt2_58, (by omega), rfl⟩
          · skip
            refine lv_bipush (v := 45) hx hb dX5_tellShort_85 (by decide) ?_
            refine lv_goto (tgt := 92) hx hb dX5_tellShort_87 (by decide) ?_
            refine kVv (n3 := 1) (As := [.int 45]) (rest := []) X hl.1 hE hP hD hS hA [(h0, .inr (5, [.ref qel, .int (nI rl2_51)])), (qel, .inl (cA, 16, .inl lt2_52))] [] [0, 1] [] rfl rfl rfl (by decide +kernel) (by decide +kernel) (by decide +kernel) (c_s_put l D cA cB h0 qel rl2_51 lt2_52 45 (by first | assumption | omega | decide | rfl)) w_408 w_409 w_407 w_410 w_411 0 (ci := 5) (T := TX5) (N := 2) rfl rfl (by decide +kernel) rfl rfl (Nat.le_of_ble_eq_true rfl) ⟨(Nat.le_of_ble_eq_true rfl), (Nat.le_of_ble_eq_true rfl)⟩ ⟨(Nat.le_of_ble_eq_true rfl), (Nat.le_of_ble_eq_true rfl)⟩ dX5_tellShort_92 (fun W1 H locs hw hP hD hS => ?_)
            obtain ⟨rl2_60, lt2_61, hf_62, rfl⟩ := hw
            have hP : va_P D classes [(h0, .inr (5, [.ref qel, .int (nI rl2_60)])), (qel, .inl (cA, 16, .inl lt2_61))] H := hP
            have hD : va_D A [(h0, .inr (5, [.ref qel, .int (nI rl2_60)])), (qel, .inl (cA, 16, .inl lt2_61))] := hD
            refine lv_aload_n hx hb dX5_tellShort_95 rfl (lv_at hl 1 rfl) ?_
            refine lv_iload_n hx hb dX5_tellShort_96 rfl (lv_at hl 0 rfl) ?_
            refine va_mabs hx hb (X.2.2.1.trans hl.1.symm) X.2.2.2.1 (X.2.2.2.2 _ w_482) (X.2.2.2.2 _ w_483) (X.2.2.2.2 _ w_43) (X.2.2.2.2 _ w_484) (Nat.le_of_ble_eq_true rfl) (Nat.le_of_ble_eq_true rfl) (Nat.le_of_ble_eq_true rfl) (Nat.le_of_ble_eq_true rfl) dX5_tellShort_97 ?_
            refine kVv (n3 := 1) (As := [.int ((if 0 ≤ rv_49 + 2 then rv_49 + 2 else 0 - (rv_49 + 2)))]) (rest := []) X hl.1 hE hP hD hS hA [(h0, .inr (5, [.ref qel, .int (nI rl2_60)])), (qel, .inl (cA, 16, .inl lt2_61))] [] [0, 1] [] rfl rfl rfl (by decide +kernel) (by decide +kernel) (by decide +kernel) (c_s_putNumber l D cA cB h0 qel rl2_60 lt2_61 (if 0 ≤ rv_49 + 2 then rv_49 + 2 else 0 - (rv_49 + 2)) (by first | assumption | omega | decide | rfl)) w_413 w_409 w_412 w_414 w_415 0 (ci := 5) (T := TX5) (N := 2) rfl rfl (by decide +kernel) rfl rfl (Nat.le_of_ble_eq_true rfl) ⟨(Nat.le_of_ble_eq_true rfl), (Nat.le_of_ble_eq_true rfl)⟩ ⟨(Nat.le_of_ble_eq_true rfl), (Nat.le_of_ble_eq_true rfl)⟩ dX5_tellShort_100 (fun W1 H locs hw hP hD hS => ?_)
            obtain ⟨rl2_63, lt2_64, hf_65, rfl⟩ := hw
            have hP : va_P D classes [(h0, .inr (5, [.ref qel, .int (nI rl2_63)])), (qel, .inl (cA, 16, .inl lt2_64))] H := hP
            have hD : va_D A [(h0, .inr (5, [.ref qel, .int (nI rl2_63)])), (qel, .inl (cA, 16, .inl lt2_64))] := hD
            rw [hQ9]
            exact endV X hr hlocks hP hD hS dX5_tellShort_103 ⟨rl2_63, lt2_64, (by omega), rfl⟩
        · have nc_52_48 : ¬ rk_46 = 0 := fun q => c_52_48 ((nI_eq (a := rk_46) (b := 0) (by omega) (by omega)).mpr q)
          refine lv_aload_n hx hb dX5_tellShort_55 rfl (lv_at hl 0 rfl) ?_
          refine lv_bipush (v := 35) hx hb dX5_tellShort_56 (by decide) ?_
          refine kVv (n3 := 1) (As := [.int 35]) (rest := []) X hl.1 hE hP hD hS hA [(h0, .inr (5, [.ref qel, .int (nI rl2_43)])), (qel, .inl (cA, 16, .inl lt2_44))] [] [0, 1] [] rfl rfl rfl (by decide +kernel) (by decide +kernel) (by decide +kernel) (c_s_put l D cA cB h0 qel rl2_43 lt2_44 35 (by first | assumption | omega | decide | rfl)) w_408 w_409 w_407 w_410 w_411 0 (ci := 5) (T := TX5) (N := 2) rfl rfl (by decide +kernel) rfl rfl (Nat.le_of_ble_eq_true rfl) ⟨(Nat.le_of_ble_eq_true rfl), (Nat.le_of_ble_eq_true rfl)⟩ ⟨(Nat.le_of_ble_eq_true rfl), (Nat.le_of_ble_eq_true rfl)⟩ dX5_tellShort_58 (fun W1 H locs hw hP hD hS => ?_)
          obtain ⟨rl2_66, lt2_67, hf_68, rfl⟩ := hw
          have hP : va_P D classes [(h0, .inr (5, [.ref qel, .int (nI rl2_66)])), (qel, .inl (cA, 16, .inl lt2_67))] H := hP
          have hD : va_D A [(h0, .inr (5, [.ref qel, .int (nI rl2_66)])), (qel, .inl (cA, 16, .inl lt2_67))] := hD
          refine lv_aload_n hx hb dX5_tellShort_61 rfl (lv_at hl 0 rfl) ?_
          refine lv_iload_n hx hb dX5_tellShort_62 rfl (lv_at hl 2 rfl) ?_
          refine kVv (n3 := 1) (As := [.int (nI v)]) (rest := []) X hl.1 hE hP hD hS hA [(h0, .inr (5, [.ref qel, .int (nI rl2_66)])), (qel, .inl (cA, 16, .inl lt2_67))] [] [0, 1] [] rfl rfl rfl (by decide +kernel) (by decide +kernel) (by decide +kernel) (c_s_putNumber l D cA cB h0 qel rl2_66 lt2_67 (nI v) (by first | assumption | omega | decide | rfl)) w_413 w_409 w_412 w_414 w_415 0 (ci := 5) (T := TX5) (N := 2) rfl rfl (by decide +kernel) rfl rfl (Nat.le_of_ble_eq_true rfl) ⟨(Nat.le_of_ble_eq_true rfl), (Nat.le_of_ble_eq_true rfl)⟩ ⟨(Nat.le_of_ble_eq_true rfl), (Nat.le_of_ble_eq_true rfl)⟩ dX5_tellShort_63 (fun W1 H locs hw hP hD hS => ?_)
          obtain ⟨rl2_69, lt2_70, hf_71, rfl⟩ := hw
          have hP : va_P D classes [(h0, .inr (5, [.ref qel, .int (nI rl2_69)])), (qel, .inl (cA, 16, .inl lt2_70))] H := hP
          have hD : va_D A [(h0, .inr (5, [.ref qel, .int (nI rl2_69)])), (qel, .inl (cA, 16, .inl lt2_70))] := hD
          rw [hQ9]
          exact endV X hr hlocks hP hD hS dX5_tellShort_66 ⟨rl2_69, lt2_70, (by omega), rfl⟩
      · have nc_23_39 : o = 27 := (nI_eq (a := o) (b := 27) (by omega) (by omega)).mp c_23_39
        refine lv_aload_n hx hb dX5_tellShort_26 rfl (lv_at hl 0 rfl) ?_
        refine lv_iload_n hx hb dX5_tellShort_27 rfl (lv_at hl 2 rfl) ?_
        refine kVv (n3 := 1) (As := [.int (nI v)]) (rest := []) X hl.1 hE hP hD hS hA [(h0, .inr (5, [.ref qel, .int (nI rl)])), (qel, .inl (cA, 16, .inl lt))] [] [0, 1] [] rfl rfl rfl (by decide +kernel) (by decide +kernel) (by decide +kernel) (c_s_putIllegal l D cA cB h0 qel rl lt (nI v) hrl) w_486 w_409 w_485 w_487 w_488 0 (ci := 5) (T := TX5) (N := 2) rfl rfl (by decide +kernel) rfl rfl (Nat.le_of_ble_eq_true rfl) ⟨(Nat.le_of_ble_eq_true rfl), (Nat.le_of_ble_eq_true rfl)⟩ ⟨(Nat.le_of_ble_eq_true rfl), (Nat.le_of_ble_eq_true rfl)⟩ dX5_tellShort_28 (fun W1 H locs hw hP hD hS => ?_)
        obtain ⟨rl2_72, lt2_73, hf_74, rfl⟩ := hw
        have hP : va_P D classes [(h0, .inr (5, [.ref qel, .int (nI rl2_72)])), (qel, .inl (cA, 16, .inl lt2_73))] H := hP
        have hD : va_D A [(h0, .inr (5, [.ref qel, .int (nI rl2_72)])), (qel, .inl (cA, 16, .inl lt2_73))] := hD
        rw [hQ9]
        exact endV X hr hlocks hP hD hS dX5_tellShort_31 ⟨rl2_72, lt2_73, (by omega), rfl⟩
    · have nc_9_38 : v ≤ 31 := Nat.not_lt.mp (fun q => c_9_38 ((nI_ltI (a := 31) (b := v) (by omega) (by omega)).mpr q))
      refine lv_aload_n hx hb dX5_tellShort_12 rfl (lv_at hl 0 rfl) ?_
      refine va_ldcS hx hb X.2.2.2.1 (e_rReader43 hE) dX5_tellShort_13 ?_
      refine lv_iload_n hx hb dX5_tellShort_15 rfl (lv_at hl 2 rfl) ?_
      refine kVv (n3 := 2) (As := [.ref (aK D 2), .int (nI v)]) (rest := []) X hl.1 hE hP hD hS hA [(h0, .inr (5, [.ref qel, .int (nI rl)])), (qel, .inl (cA, 16, .inl lt))] [] [0, 1] [] rfl rfl rfl (by decide +kernel) (by decide +kernel) (by decide +kernel) (c_s_putWord l D cA cB h0 qel rl lt 2 v hrl (by first | assumption | omega | decide | rfl) (by first | assumption | omega | decide | rfl)) w_477 w_409 w_476 w_478 w_479 0 (ci := 5) (T := TX5) (N := 2) rfl rfl (by decide +kernel) rfl rfl (Nat.le_of_ble_eq_true rfl) ⟨(Nat.le_of_ble_eq_true rfl), (Nat.le_of_ble_eq_true rfl)⟩ ⟨(Nat.le_of_ble_eq_true rfl), (Nat.le_of_ble_eq_true rfl)⟩ dX5_tellShort_16 (fun W1 H locs hw hP hD hS => ?_)
      obtain ⟨rl2_75, lt2_76, hf_77, rfl⟩ := hw
      have hP : va_P D classes [(h0, .inr (5, [.ref qel, .int (nI rl2_75)])), (qel, .inl (cA, 16, .inl lt2_76))] H := hP
      have hD : va_D A [(h0, .inr (5, [.ref qel, .int (nI rl2_75)])), (qel, .inl (cA, 16, .inl lt2_76))] := hD
      rw [hQ9]
      exact endV X hr hlocks hP hD hS dX5_tellShort_19 ⟨rl2_75, lt2_76, hf_77, rfl⟩
set_option maxHeartbeats 4000000 in
set_option maxRecDepth 100000 in
theorem c_s_tell2 (l : Launch) (D : va_G) (cA cB : ClassId) (h0 : Nat) (qel : Nat) (hs : Nat) (rl : Nat) (lt : Nat → Int32) (st : Nat → Int32) (a : Nat) (hrl : rl < 17) (hst : ∀ j, j < 4096 → ∃ k : Nat, k < 256 ∧ st j = nI k) (ha : a < 4096) : CI l yX5_tell cX5_tell 9 (some .int) 6 131 0 0 D cA cB [.ref h0, .ref hs, .int (nI a)] [(h0, .inr (5, [.ref qel, .int (nI rl)])), (qel, .inl (cA, 16, .inl lt)), (hs, .inl (cA, 4096, .inl st))] (fun r W1 => ∃ (rl2 : Nat) (lt2 : Nat → Int32) (rv : Int32), r = rv ∧ (rl2 < 17) ∧ W1 = [(h0, .inr (5, [.ref qel, .int (nI rl2)])), (qel, .inl (cA, 16, .inl lt2)), (hs, .inl (cA, 4096, .inl st))]) := by
  refine mkI (lv0 := [(0, .ref h0), (1, .ref hs), (2, .int (nI a))]) (by decide) (Nat.le_of_ble_eq_true rfl) rfl ?_
  intro p e s m below meth c A ls X hr hlocks hnm hE hA hP hD hS hl
  have hx := X.1
  have hb := X.2.1
  refine qW (fun Q9 hQ9 => ?_)
  refine lv_aload_n hx hb dX5_tell_0 rfl (lv_at hl 1 rfl) ?_
  refine lv_iload_n hx hb dX5_tell_1 rfl (lv_at hl 2 rfl) ?_
  refine lv_sipush (v := 4095) hx hb dX5_tell_2 (by decide) ?_
  refine lv_iand hx hb dX5_tell_5 ?_
  obtain ⟨k_1, hk_1, ek_1⟩ := pk_andE (nI a) (m := 4095) 12 (by decide)
  have hk_1 : k_1 < 4096 := hk_1
  refine tk (y := nI k_1) ek_1 ?_
  obtain ⟨k_2, hk_2, ek_2⟩ := hst k_1 (by omega)
  refine k_ald (v := nI k_2) X hE hP 2 rfl k_1 rfl (by omega) (by decide) ek_2 dX5_tell_6 ?_
  refine lv_istore_n (lv' := [(3, .int (nI k_2)), (0, .ref h0), (1, .ref hs), (2, .int (nI a))]) hx hb dX5_tell_7 rfl hl (by decide) rfl (fun ls hl => ?_)
  refine lv_aload_n hx hb dX5_tell_8 rfl (lv_at hl 2 rfl) ?_
  refine lv_iload_n hx hb dX5_tell_9 rfl (lv_at hl 3 rfl) ?_
  refine lv_iconst (v := 1) hx hb dX5_tell_10 (by decide) ?_
  refine lv_iadd hx hb dX5_tell_11 ?_
  refine tk (y := nI (a + 1)) (nI_add a 1) ?_
  refine lv_sipush (v := 4095) hx hb dX5_tell_12 (by decide) ?_
  refine lv_iand hx hb dX5_tell_15 ?_
  obtain ⟨k_3, hk_3, ek_3⟩ := pk_andE (nI (a + 1)) (m := 4095) 12 (by decide)
  have hk_3 : k_3 < 4096 := hk_3
  refine tk (y := nI k_3) ek_3 ?_
  obtain ⟨k_4, hk_4, ek_4⟩ := hst k_3 (by omega)
  refine k_ald (v := nI k_4) X hE hP 2 rfl k_3 rfl (by omega) (by decide) ek_4 dX5_tell_16 ?_
  refine lv_istore (lv' := [(4, .int (nI k_4)), (3, .int (nI k_2)), (0, .ref h0), (1, .ref hs), (2, .int (nI a))]) hx hb dX5_tell_17 hl (by decide) rfl (fun ls hl => ?_)
  refine lv_aload_n hx hb dX5_tell_19 rfl (lv_at hl 3 rfl) ?_
  refine lv_iload_n hx hb dX5_tell_20 rfl (lv_at hl 4 rfl) ?_
  refine lv_iconst (v := 2) hx hb dX5_tell_21 (by decide) ?_
  refine lv_iadd hx hb dX5_tell_22 ?_
  refine tk (y := nI (a + 2)) (nI_add a 2) ?_
  refine lv_sipush (v := 4095) hx hb dX5_tell_23 (by decide) ?_
  refine lv_iand hx hb dX5_tell_26 ?_
  obtain ⟨k_5, hk_5, ek_5⟩ := pk_andE (nI (a + 2)) (m := 4095) 12 (by decide)
  have hk_5 : k_5 < 4096 := hk_5
  refine tk (y := nI k_5) ek_5 ?_
  obtain ⟨k_6, hk_6, ek_6⟩ := hst k_5 (by omega)
  refine k_ald (v := nI k_6) X hE hP 2 rfl k_5 rfl (by omega) (by decide) ek_6 dX5_tell_27 ?_
  refine lv_istore (lv' := [(5, .int (nI k_6)), (4, .int (nI k_4)), (3, .int (nI k_2)), (0, .ref h0), (1, .ref hs), (2, .int (nI a))]) hx hb dX5_tell_28 hl (by decide) rfl (fun ls hl => ?_)
  refine lv_iload_n hx hb dX5_tell_30 rfl (lv_at hl 2 rfl) ?_
  refine lv_iconst (v := 3) hx hb dX5_tell_31 (by decide) ?_
  refine lv_ishr hx hb dX5_tell_32 ?_
  refine tk (y := nI (k_2 / 8)) (pk_shrN (n := k_2) (by omega) _ 3 (by decide)) ?_
  refine lv_istore (lv' := [(6, .int (nI (k_2 / 8))), (5, .int (nI k_6)), (4, .int (nI k_4)), (3, .int (nI k_2)), (0, .ref h0), (1, .ref hs), (2, .int (nI a))]) hx hb dX5_tell_33 hl (by decide) rfl (fun ls hl => ?_)
  refine lv_iload_n hx hb dX5_tell_35 rfl (lv_at hl 3 rfl) ?_
  refine lv_bipush (v := 7) hx hb dX5_tell_36 (by decide) ?_
  refine lv_iand hx hb dX5_tell_38 ?_
  obtain ⟨k_7, hk_7, ek_7⟩ := pk_andE (nI k_2) (m := 7) 3 (by decide)
  have hk_7 : k_7 < 8 := hk_7
  refine tk (y := nI k_7) ek_7 ?_
  refine lv_istore (lv' := [(7, .int (nI k_7)), (6, .int (nI (k_2 / 8))), (5, .int (nI k_6)), (4, .int (nI k_4)), (3, .int (nI k_2)), (0, .ref h0), (1, .ref hs), (2, .int (nI a))]) hx hb dX5_tell_39 hl (by decide) rfl (fun ls hl => ?_)
  refine lv_aload_n hx hb dX5_tell_41 rfl (lv_at hl 5 rfl) ?_
  refine lv_iconst (v := 0) hx hb dX5_tell_42 (by decide) ?_
  refine k_put (C := RX5) (T := TX5) (N := 2) (ci := 5) (v := .int 0) (ty := .int) X hE hP hD hS 0 rfl rfl iX5 tyX5 tyX5_ok nmX5 1 (by decide) w_405 rfl (by decide +kernel) rfl rfl (Nat.le_of_ble_eq_true rfl) [(h0, .inr (5, [.ref qel, .int 0])), (qel, .inl (cA, 16, .inl lt)), (hs, .inl (cA, 4096, .inl st))] rfl dX5_tell_43 (fun H locs hP hD hS => ?_)
  refine lv_iload_n hx hb dX5_tell_46 rfl (lv_at hl 4 rfl) ?_
  refine kSNi (n3 := 1) (As := [.int (nI k_2)]) (rest := []) X hl.1 hE hP hD hS hA [] [(h0, .inr (5, [.ref qel, .int 0])), (qel, .inl (cA, 16, .inl lt)), (hs, .inl (cA, 4096, .inl st))] [] [0, 1, 2] rfl rfl rfl (by decide +kernel) (by decide +kernel) (by decide +kernel) (c_s2_isShort l D cA cB k_2 hk_2) w_232 w_107 nw_34 w_233 (by decide +kernel) rfl rfl (Nat.le_of_ble_eq_true rfl) ⟨(Nat.le_of_ble_eq_true rfl), (Nat.le_of_ble_eq_true rfl)⟩ ⟨(Nat.le_of_ble_eq_true rfl), (Nat.le_of_ble_eq_true rfl)⟩ dX5_tell_47 (fun r W1 H locs hw hP hD hS => ?_)
  obtain ⟨rk_8, rfl, hf_9, hf_10, rfl⟩ := hw
  have hP : va_P D classes [(h0, .inr (5, [.ref qel, .int 0])), (qel, .inl (cA, 16, .inl lt)), (hs, .inl (cA, 4096, .inl st))] H := hP
  have hD : va_D A [(h0, .inr (5, [.ref qel, .int 0])), (qel, .inl (cA, 16, .inl lt)), (hs, .inl (cA, 4096, .inl st))] := hD
  refine lv_if_eq (tgt := 63) hx hb dX5_tell_50 (by decide) (fun c_50_11 => ?_) (fun c_50_11 => ?_)
  · have nc_50_11 : rk_8 = 0 := (nI_eq (a := rk_8) (b := 0) (by omega) (by omega)).mp c_50_11
    have join_82 : ∀ (w8 : Nat) (H : Heap) (locs : List Loc), (w8 < 2) → va_P D classes [(h0, .inr (5, [.ref qel, .int 0])), (qel, .inl (cA, 16, .inl lt)), (hs, .inl (cA, 4096, .inl st))] H → va_D A [(h0, .inr (5, [.ref qel, .int 0])), (qel, .inl (cA, 16, .inl lt)), (hs, .inl (cA, 4096, .inl st))] → va_S A s.heap H locs → ∀ ls : Array Slot, lv_has ls 9 [(0, .ref h0), (1, .ref hs), (2, .int (nI a)), (3, .int (nI k_2)), (4, .int (nI k_4)), (5, .int (nI k_6)), (6, .int (nI (k_2 / 8))), (7, .int (nI k_7)), (8, .int (nI w8))] → W p l e { frames := 6, cells := 0, slots := 0, locals := 131 } s m (List.toArray [.ref h0, .ref hs, .int (nI a)]) below meth c H locs 0 0 Q9 (F0 m 82 ls []) := by
      intro w8 H locs hw8 hP hD hS ls hl
      refine lv_aload_n hx hb dX5_tell_82 rfl (lv_at hl 0 rfl) ?_
      refine va_ldcS hx hb X.2.2.2.1 (e_rReader27 hE) dX5_tell_83 ?_
      refine lv_iload hx hb dX5_tell_85 (lv_at hl 6 rfl) ?_
      refine kVv (n3 := 2) (As := [.ref (aK D 0), .int (nI (k_2 / 8))]) (rest := []) X hl.1 hE hP hD hS hA [(h0, .inr (5, [.ref qel, .int 0])), (qel, .inl (cA, 16, .inl lt))] [(hs, .inl (cA, 4096, .inl st))] [0, 1] [2] rfl rfl rfl (by decide +kernel) (by decide +kernel) (by decide +kernel) (c_s_putWord l D cA cB h0 qel 0 lt 0 (k_2 / 8) (by decide) (by first | assumption | omega | decide | rfl) (by first | assumption | omega | decide | rfl)) w_477 w_409 w_476 w_478 w_479 0 (ci := 5) (T := TX5) (N := 2) rfl rfl (by decide +kernel) rfl rfl (Nat.le_of_ble_eq_true rfl) ⟨(Nat.le_of_ble_eq_true rfl), (Nat.le_of_ble_eq_true rfl)⟩ ⟨(Nat.le_of_ble_eq_true rfl), (Nat.le_of_ble_eq_true rfl)⟩ dX5_tell_87 (fun W1 H locs hw hP hD hS => ?_)
      obtain ⟨rl2_12, lt2_13, hf_14, rfl⟩ := hw
      have hP : va_P D classes [(hs, .inl (cA, 4096, .inl st)), (h0, .inr (5, [.ref qel, .int (nI rl2_12)])), (qel, .inl (cA, 16, .inl lt2_13))] H := hP
      have hD : va_D A [(hs, .inl (cA, 4096, .inl st)), (h0, .inr (5, [.ref qel, .int (nI rl2_12)])), (qel, .inl (cA, 16, .inl lt2_13))] := hD
      refine lv_aload_n hx hb dX5_tell_90 rfl (lv_at hl 0 rfl) ?_
      refine lv_bipush (v := 32) hx hb dX5_tell_91 (by decide) ?_
      refine kVv (n3 := 1) (As := [.int 32]) (rest := []) X hl.1 hE hP hD hS hA [(h0, .inr (5, [.ref qel, .int (nI rl2_12)])), (qel, .inl (cA, 16, .inl lt2_13))] [(hs, .inl (cA, 4096, .inl st))] [1, 2] [0] rfl rfl rfl (by decide +kernel) (by decide +kernel) (by decide +kernel) (c_s_put l D cA cB h0 qel rl2_12 lt2_13 32 hf_14) w_408 w_409 w_407 w_410 w_411 0 (ci := 5) (T := TX5) (N := 2) rfl rfl (by decide +kernel) rfl rfl (Nat.le_of_ble_eq_true rfl) ⟨(Nat.le_of_ble_eq_true rfl), (Nat.le_of_ble_eq_true rfl)⟩ ⟨(Nat.le_of_ble_eq_true rfl), (Nat.le_of_ble_eq_true rfl)⟩ dX5_tell_93 (fun W1 H locs hw hP hD hS => ?_)
      obtain ⟨rl2_15, lt2_16, hf_17, rfl⟩ := hw
      have hP : va_P D classes [(hs, .inl (cA, 4096, .inl st)), (h0, .inr (5, [.ref qel, .int (nI rl2_15)])), (qel, .inl (cA, 16, .inl lt2_16))] H := hP
      have hD : va_D A [(hs, .inl (cA, 4096, .inl st)), (h0, .inr (5, [.ref qel, .int (nI rl2_15)])), (qel, .inl (cA, 16, .inl lt2_16))] := hD
      refine lv_aload_n hx hb dX5_tell_96 rfl (lv_at hl 0 rfl) ?_
      refine lv_iload hx hb dX5_tell_97 (lv_at hl 7 rfl) ?_
      refine lv_iload hx hb dX5_tell_99 (lv_at hl 8 rfl) ?_
      refine lv_if_eq (tgt := 116) hx hb dX5_tell_101 (by decide) (fun c_101_18 => ?_) (fun c_101_18 => ?_)
      · have nc_101_18 : w8 = 0 := (nI_eq (a := w8) (b := 0) (by omega) (by omega)).mp c_101_18
        refine lv_iload hx hb dX5_tell_116 (lv_at hl 4 rfl) ?_
        refine kVv (n3 := 2) (As := [.int (nI k_7), .int (nI k_4)]) (rest := []) X hl.1 hE hP hD hS hA [(h0, .inr (5, [.ref qel, .int (nI rl2_15)])), (qel, .inl (cA, 16, .inl lt2_16))] [(hs, .inl (cA, 4096, .inl st))] [1, 2] [0] rfl rfl rfl (by decide +kernel) (by decide +kernel) (by decide +kernel) (c_s_tellWay l D cA cB h0 qel rl2_15 lt2_16 (nI k_7) (nI k_4) (by first | assumption | omega | decide | rfl)) w_490 w_409 w_489 w_491 w_492 0 (ci := 5) (T := TX5) (N := 2) rfl rfl (by decide +kernel) rfl rfl (Nat.le_of_ble_eq_true rfl) ⟨(Nat.le_of_ble_eq_true rfl), (Nat.le_of_ble_eq_true rfl)⟩ ⟨(Nat.le_of_ble_eq_true rfl), (Nat.le_of_ble_eq_true rfl)⟩ dX5_tell_118 (fun W1 H locs hw hP hD hS => ?_)
        obtain ⟨rl2_19, lt2_20, hf_21, rfl⟩ := hw
        have hP : va_P D classes [(hs, .inl (cA, 4096, .inl st)), (h0, .inr (5, [.ref qel, .int (nI rl2_19)])), (qel, .inl (cA, 16, .inl lt2_20))] H := hP
        have hD : va_D A [(hs, .inl (cA, 4096, .inl st)), (h0, .inr (5, [.ref qel, .int (nI rl2_19)])), (qel, .inl (cA, 16, .inl lt2_20))] := hD
        refine lv_iload hx hb dX5_tell_121 (lv_at hl 8 rfl) ?_
        refine lv_if_eq (tgt := 130) hx hb dX5_tell_123 (by decide) (fun c_123_22 => ?_) (fun c_123_22 => ?_)
        · have nc_123_22 : w8 = 0 := (nI_eq (a := w8) (b := 0) (by omega) (by omega)).mp c_123_22
          refine lv_iconst (v := 2) hx hb dX5_tell_130 (by decide) ?_
          have hP : va_P D classes [(h0, .inr (5, [.ref qel, .int (nI rl2_19)])), (qel, .inl (cA, 16, .inl lt2_20)), (hs, .inl (cA, 4096, .inl st))] _ := hP.sub [1, 2, 0] rfl
          have hD : va_D A [(h0, .inr (5, [.ref qel, .int (nI rl2_19)])), (qel, .inl (cA, 16, .inl lt2_20)), (hs, .inl (cA, 4096, .inl st))] := hD.sub [1, 2, 0] (by decide) rfl
          rw [hQ9]
          exact endI X hr hlocks hP hD hS dX5_tell_131 ⟨rl2_19, lt2_20, 2, rfl, (by omega), rfl⟩
        · have nc_123_22 : ¬ w8 = 0 := fun q => c_123_22 ((nI_eq (a := w8) (b := 0) (by omega) (by omega)).mpr q)
          refine lv_iconst (v := 3) hx hb dX5_tell_126 (by decide) ?_
          refine lv_goto (tgt := 131) hx hb dX5_tell_127 (by decide) ?_
          have hP : va_P D classes [(h0, .inr (5, [.ref qel, .int (nI rl2_19)])), (qel, .inl (cA, 16, .inl lt2_20)), (hs, .inl (cA, 4096, .inl st))] _ := hP.sub [1, 2, 0] rfl
          have hD : va_D A [(h0, .inr (5, [.ref qel, .int (nI rl2_19)])), (qel, .inl (cA, 16, .inl lt2_20)), (hs, .inl (cA, 4096, .inl st))] := hD.sub [1, 2, 0] (by decide) rfl
          rw [hQ9]
          exact endI X hr hlocks hP hD hS dX5_tell_131 ⟨rl2_19, lt2_20, 3, rfl, (by omega), rfl⟩
      · have nc_101_18 : ¬ w8 = 0 := fun q => c_101_18 ((nI_eq (a := w8) (b := 0) (by omega) (by omega)).mpr q)
        refine lv_iload hx hb dX5_tell_104 (lv_at hl 4 rfl) ?_
        refine lv_sipush (v := 256) hx hb dX5_tell_106 (by decide) ?_
        refine lv_iload hx hb dX5_tell_109 (lv_at hl 5 rfl) ?_
        refine lv_imul hx hb dX5_tell_111 ?_
        refine tk (y := nI (256 * k_6)) (pk_mul 256 k_6) ?_
        refine lv_iadd hx hb dX5_tell_112 ?_
        refine tk (y := nI (k_4 + 256 * k_6)) (nI_add k_4 (256 * k_6)) ?_
        refine lv_goto (tgt := 118) hx hb dX5_tell_113 (by decide) ?_
        refine kVv (n3 := 2) (As := [.int (nI k_7), .int (nI (k_4 + 256 * k_6))]) (rest := []) X hl.1 hE hP hD hS hA [(h0, .inr (5, [.ref qel, .int (nI rl2_15)])), (qel, .inl (cA, 16, .inl lt2_16))] [(hs, .inl (cA, 4096, .inl st))] [1, 2] [0] rfl rfl rfl (by decide +kernel) (by decide +kernel) (by decide +kernel) (c_s_tellWay l D cA cB h0 qel rl2_15 lt2_16 (nI k_7) (nI (k_4 + 256 * k_6)) (by first | assumption | omega | decide | rfl)) w_490 w_409 w_489 w_491 w_492 0 (ci := 5) (T := TX5) (N := 2) rfl rfl (by decide +kernel) rfl rfl (Nat.le_of_ble_eq_true rfl) ⟨(Nat.le_of_ble_eq_true rfl), (Nat.le_of_ble_eq_true rfl)⟩ ⟨(Nat.le_of_ble_eq_true rfl), (Nat.le_of_ble_eq_true rfl)⟩ dX5_tell_118 (fun W1 H locs hw hP hD hS => ?_)
        obtain ⟨rl2_23, lt2_24, hf_25, rfl⟩ := hw
        have hP : va_P D classes [(hs, .inl (cA, 4096, .inl st)), (h0, .inr (5, [.ref qel, .int (nI rl2_23)])), (qel, .inl (cA, 16, .inl lt2_24))] H := hP
        have hD : va_D A [(hs, .inl (cA, 4096, .inl st)), (h0, .inr (5, [.ref qel, .int (nI rl2_23)])), (qel, .inl (cA, 16, .inl lt2_24))] := hD
        refine lv_iload hx hb dX5_tell_121 (lv_at hl 8 rfl) ?_
        refine lv_if_eq (tgt := 130) hx hb dX5_tell_123 (by decide) (fun c_123_26 => ?_) (fun c_123_26 => ?_)
        · have nc_123_26 : w8 = 0 := (nI_eq (a := w8) (b := 0) (by omega) (by omega)).mp c_123_26
          refine lv_iconst (v := 2) hx hb dX5_tell_130 (by decide) ?_
          have hP : va_P D classes [(h0, .inr (5, [.ref qel, .int (nI rl2_23)])), (qel, .inl (cA, 16, .inl lt2_24)), (hs, .inl (cA, 4096, .inl st))] _ := hP.sub [1, 2, 0] rfl
          have hD : va_D A [(h0, .inr (5, [.ref qel, .int (nI rl2_23)])), (qel, .inl (cA, 16, .inl lt2_24)), (hs, .inl (cA, 4096, .inl st))] := hD.sub [1, 2, 0] (by decide) rfl
          rw [hQ9]
          exact endI X hr hlocks hP hD hS dX5_tell_131 ⟨rl2_23, lt2_24, 2, rfl, (by omega), rfl⟩
        · have nc_123_26 : ¬ w8 = 0 := fun q => c_123_26 ((nI_eq (a := w8) (b := 0) (by omega) (by omega)).mpr q)
          refine lv_iconst (v := 3) hx hb dX5_tell_126 (by decide) ?_
          refine lv_goto (tgt := 131) hx hb dX5_tell_127 (by decide) ?_
          have hP : va_P D classes [(h0, .inr (5, [.ref qel, .int (nI rl2_23)])), (qel, .inl (cA, 16, .inl lt2_24)), (hs, .inl (cA, 4096, .inl st))] _ := hP.sub [1, 2, 0] rfl
          have hD : va_D A [(h0, .inr (5, [.ref qel, .int (nI rl2_23)])), (qel, .inl (cA, 16, .inl lt2_24)), (hs, .inl (cA, 4096, .inl st))] := hD.sub [1, 2, 0] (by decide) rfl
          rw [hQ9]
          exact endI X hr hlocks hP hD hS dX5_tell_131 ⟨rl2_23, lt2_24, 3, rfl, (by omega), rfl⟩
    refine lv_iload hx hb dX5_tell_63 (lv_at hl 0 rfl) ?_
    refine lv_iconst (v := 3) hx hb dX5_tell_65 (by decide) ?_
    refine lv_icmp_lt (tgt := 79) hx hb dX5_tell_66 (by decide) (fun c_66_27 => ?_) (fun c_66_27 => ?_)
    · have nc_66_27 : k_7 < 3 := (nI_ltI (a := k_7) (b := 3) (by omega) (by omega)).mp c_66_27
      refine lv_iconst (v := 0) hx hb dX5_tell_79 (by decide) ?_
      refine lv_istore (lv' := [(8, .int 0), (7, .int (nI k_7)), (6, .int (nI (k_2 / 8))), (5, .int (nI k_6)), (4, .int (nI k_4)), (3, .int (nI k_2)), (0, .ref h0), (1, .ref hs), (2, .int (nI a))]) hx hb dX5_tell_80 hl (by decide) rfl (fun ls hl => ?_)
      exact join_82 0 _ _ (by omega) hP hD hS ls (lv_sub hl [6, 7, 8, 5, 4, 3, 2, 1, 0] rfl)
    · have nc_66_27 : 3 ≤ k_7 := Nat.not_lt.mp (fun q => c_66_27 ((nI_ltI (a := k_7) (b := 3) (by omega) (by omega)).mpr q))
      refine lv_iload hx hb dX5_tell_69 (lv_at hl 0 rfl) ?_
      refine lv_iconst (v := 5) hx hb dX5_tell_71 (by decide) ?_
      refine lv_icmp_gt (tgt := 79) hx hb dX5_tell_72 (by decide) (fun c_72_28 => ?_) (fun c_72_28 => ?_)
      · have nc_72_28 : 5 < k_7 := (nI_ltI (a := 5) (b := k_7) (by omega) (by omega)).mp c_72_28
        refine lv_iconst (v := 0) hx hb dX5_tell_79 (by decide) ?_
        refine lv_istore (lv' := [(8, .int 0), (7, .int (nI k_7)), (6, .int (nI (k_2 / 8))), (5, .int (nI k_6)), (4, .int (nI k_4)), (3, .int (nI k_2)), (0, .ref h0), (1, .ref hs), (2, .int (nI a))]) hx hb dX5_tell_80 hl (by decide) rfl (fun ls hl => ?_)
        exact join_82 0 _ _ (by omega) hP hD hS ls (lv_sub hl [6, 7, 8, 5, 4, 3, 2, 1, 0] rfl)
      · have nc_72_28 : k_7 ≤ 5 := Nat.not_lt.mp (fun q => c_72_28 ((nI_ltI (a := 5) (b := k_7) (by omega) (by omega)).mpr q))
        refine lv_iconst (v := 1) hx hb dX5_tell_75 (by decide) ?_
        refine lv_goto (tgt := 80) hx hb dX5_tell_76 (by decide) ?_
        refine lv_istore (lv' := [(8, .int 1), (7, .int (nI k_7)), (6, .int (nI (k_2 / 8))), (5, .int (nI k_6)), (4, .int (nI k_4)), (3, .int (nI k_2)), (0, .ref h0), (1, .ref hs), (2, .int (nI a))]) hx hb dX5_tell_80 hl (by decide) rfl (fun ls hl => ?_)
        exact join_82 1 _ _ (by omega) hP hD hS ls (lv_sub hl [6, 7, 8, 5, 4, 3, 2, 1, 0] rfl)
  · have nc_50_11 : ¬ rk_8 = 0 := fun q => c_50_11 ((nI_eq (a := rk_8) (b := 0) (by omega) (by omega)).mpr q)
    refine lv_aload_n hx hb dX5_tell_53 rfl (lv_at hl 5 rfl) ?_
    refine lv_iload hx hb dX5_tell_54 (lv_at hl 1 rfl) ?_
    refine lv_iload hx hb dX5_tell_56 (lv_at hl 3 rfl) ?_
    refine kVv (n3 := 2) (As := [.int (nI (k_2 / 8)), .int (nI k_4)]) (rest := []) X hl.1 hE hP hD hS hA [(h0, .inr (5, [.ref qel, .int 0])), (qel, .inl (cA, 16, .inl lt))] [(hs, .inl (cA, 4096, .inl st))] [0, 1] [2] rfl rfl rfl (by decide +kernel) (by decide +kernel) (by decide +kernel) (c_s_tellShort l D cA cB h0 qel 0 lt (k_2 / 8) k_4 (by decide) (by first | assumption | omega | decide | rfl) hk_4 (by first | assumption | omega | decide | rfl)) w_494 w_409 w_493 w_495 w_496 0 (ci := 5) (T := TX5) (N := 2) rfl rfl (by decide +kernel) rfl rfl (Nat.le_of_ble_eq_true rfl) ⟨(Nat.le_of_ble_eq_true rfl), (Nat.le_of_ble_eq_true rfl)⟩ ⟨(Nat.le_of_ble_eq_true rfl), (Nat.le_of_ble_eq_true rfl)⟩ dX5_tell_58 (fun W1 H locs hw hP hD hS => ?_)
    obtain ⟨rl2_29, lt2_30, hf_31, rfl⟩ := hw
    have hP : va_P D classes [(hs, .inl (cA, 4096, .inl st)), (h0, .inr (5, [.ref qel, .int (nI rl2_29)])), (qel, .inl (cA, 16, .inl lt2_30))] H := hP
    have hD : va_D A [(hs, .inl (cA, 4096, .inl st)), (h0, .inr (5, [.ref qel, .int (nI rl2_29)])), (qel, .inl (cA, 16, .inl lt2_30))] := hD
    refine lv_iconst (v := 2) hx hb dX5_tell_61 (by decide) ?_
    have hP : va_P D classes [(h0, .inr (5, [.ref qel, .int (nI rl2_29)])), (qel, .inl (cA, 16, .inl lt2_30)), (hs, .inl (cA, 4096, .inl st))] _ := hP.sub [1, 2, 0] rfl
    have hD : va_D A [(h0, .inr (5, [.ref qel, .int (nI rl2_29)])), (qel, .inl (cA, 16, .inl lt2_30)), (hs, .inl (cA, 4096, .inl st))] := hD.sub [1, 2, 0] (by decide) rfl
    rw [hQ9]
    exact endI X hr hlocks hP hD hS dX5_tell_62 ⟨rl2_29, lt2_30, 2, rfl, hf_31, rfl⟩
set_option maxHeartbeats 4000000 in
set_option maxRecDepth 100000 in
theorem c_s_text (l : Launch) (D : va_G) (cA cB : ClassId) (h0 : Nat) (hn : Nat) (hs : Nat) (hd : Nat) (hp : Nat) (qr : Nat) (qst : Nat) (qa : Nat) (qm : Nat) (qe : Nat) (qel : Nat) (rl : Nat) (lt : Nat → Int32) (st : Nat → Int32) (a : Int32) (hrl : rl < 17) (hst : ∀ j, j < 4096 → ∃ k : Nat, k < 256 ∧ st j = nI k) : CI l yX8_text cX8_text 2 (some .int) 7 159 0 0 D cA cB [.ref h0, .int a] [(h0, .inr (8, [.ref hn, .ref hs, .ref hd, .ref hp, .ref qr, .ref qst, .ref qa, .ref qm, .ref qe])), (qe, .inr (5, [.ref qel, .int (nI rl)])), (qel, .inl (cA, 16, .inl lt)), (hs, .inl (cA, 4096, .inl st))] (fun r W1 => ∃ (rl2 : Nat) (lt2 : Nat → Int32) (rv : Int32), r = rv ∧ (rl2 < 17) ∧ W1 = [(h0, .inr (8, [.ref hn, .ref hs, .ref hd, .ref hp, .ref qr, .ref qst, .ref qa, .ref qm, .ref qe])), (qe, .inr (5, [.ref qel, .int (nI rl2)])), (qel, .inl (cA, 16, .inl lt2)), (hs, .inl (cA, 4096, .inl st))]) := by
  refine mkI (lv0 := [(0, .ref h0), (1, .int a)]) (by decide) (Nat.le_of_ble_eq_true rfl) rfl ?_
  intro p e s m below meth c A ls X hr hlocks hnm hE hA hP hD hS hl
  have hx := X.1
  have hb := X.2.1
  refine qW (fun Q9 hQ9 => ?_)
  refine lv_iload_n hx hb dX8_text_0 rfl (lv_at hl 1 rfl) ?_
  refine kSi (n3 := 1) (As := [.int a]) (rest := []) X hl.1 hE hP hD hS hA [] [(h0, .inr (8, [.ref hn, .ref hs, .ref hd, .ref hp, .ref qr, .ref qst, .ref qa, .ref qm, .ref qe])), (qe, .inr (5, [.ref qel, .int (nI rl)])), (qel, .inl (cA, 16, .inl lt)), (hs, .inl (cA, 4096, .inl st))] [] [0, 1, 2, 3] rfl rfl rfl (by decide +kernel) (by decide +kernel) (by decide +kernel) (c_isAddress l D cA cB a ) w_311 w_107 w_310 w_312 (by decide +kernel) rfl rfl (Nat.le_of_ble_eq_true rfl) ⟨(Nat.le_of_ble_eq_true rfl), (Nat.le_of_ble_eq_true rfl)⟩ ⟨(Nat.le_of_ble_eq_true rfl), (Nat.le_of_ble_eq_true rfl)⟩ dX8_text_1 (fun r W1 H locs hw hP hD hS => ?_)
  obtain ⟨rfl, rfl⟩ := hw
  have hP : va_P D classes [(h0, .inr (8, [.ref hn, .ref hs, .ref hd, .ref hp, .ref qr, .ref qst, .ref qa, .ref qm, .ref qe])), (qe, .inr (5, [.ref qel, .int (nI rl)])), (qel, .inl (cA, 16, .inl lt)), (hs, .inl (cA, 4096, .inl st))] H := hP
  have hD : va_D A [(h0, .inr (8, [.ref hn, .ref hs, .ref hd, .ref hp, .ref qr, .ref qst, .ref qa, .ref qm, .ref qe])), (qe, .inr (5, [.ref qel, .int (nI rl)])), (qel, .inl (cA, 16, .inl lt)), (hs, .inl (cA, 4096, .inl st))] := hD
  refine lv_if_eq (tgt := 22) hx hb dX8_text_4 (by decide) (fun c_4 => ?_) (fun c_4 => ?_)
  · skip
    refine lv_iconst (v := (-1)) hx hb dX8_text_22 (by decide) ?_
    rw [hQ9]
    exact endI X hr hlocks hP hD hS dX8_text_23 ⟨rl, lt, (-1), rfl, hrl, rfl⟩
  · skip
    obtain ⟨j, hj, ej⟩ := isA_idx c_4
    rw [ej] at hl
    refine lv_aload_n hx hb dX8_text_7 rfl (lv_at hl 0 rfl) ?_
    refine k_get (C := RX8) (T := TX8) (N := 9) (ci := 8) (v := .ref qe) X hE hP 0 rfl rfl iX8 8 (by decide) w_365 rfl dX8_text_8 ?_
    refine lv_aload_n hx hb dX8_text_11 rfl (lv_at hl 0 rfl) ?_
    refine k_get (C := RX8) (T := TX8) (N := 9) (ci := 8) (v := .ref hs) X hE hP 0 rfl rfl iX8 1 (by decide) w_313 rfl dX8_text_12 ?_
    refine lv_iload_n hx hb dX8_text_15 rfl (lv_at hl 1 rfl) ?_
    refine kVi (n3 := 2) (As := [.ref hs, .int (nI j)]) (rest := []) X hl.1 hE hP hD hS hA [(qe, .inr (5, [.ref qel, .int (nI rl)])), (qel, .inl (cA, 16, .inl lt)), (hs, .inl (cA, 4096, .inl st))] [(h0, .inr (8, [.ref hn, .ref hs, .ref hd, .ref hp, .ref qr, .ref qst, .ref qa, .ref qm, .ref qe]))] [1, 2, 3] [0] rfl rfl rfl (by decide +kernel) (by decide +kernel) (by decide +kernel) (c_s_tell2 l D cA cB qe qel hs rl lt st j hrl hst (by first | assumption | omega | decide | rfl)) w_498 w_409 w_497 w_499 w_500 0 (ci := 5) (T := TX5) (N := 2) rfl rfl (by decide +kernel) rfl rfl (Nat.le_of_ble_eq_true rfl) ⟨(Nat.le_of_ble_eq_true rfl), (Nat.le_of_ble_eq_true rfl)⟩ ⟨(Nat.le_of_ble_eq_true rfl), (Nat.le_of_ble_eq_true rfl)⟩ dX8_text_16 (fun r W1 H locs hw hP hD hS => ?_)
    obtain ⟨rl2_1, lt2_2, rv_3, er_5, hf_4, rfl⟩ := hw
    have hP : va_P D classes [(h0, .inr (8, [.ref hn, .ref hs, .ref hd, .ref hp, .ref qr, .ref qst, .ref qa, .ref qm, .ref qe])), (qe, .inr (5, [.ref qel, .int (nI rl2_1)])), (qel, .inl (cA, 16, .inl lt2_2)), (hs, .inl (cA, 4096, .inl st))] H := hP
    have hD : va_D A [(h0, .inr (8, [.ref hn, .ref hs, .ref hd, .ref hp, .ref qr, .ref qst, .ref qa, .ref qm, .ref qe])), (qe, .inr (5, [.ref qel, .int (nI rl2_1)])), (qel, .inl (cA, 16, .inl lt2_2)), (hs, .inl (cA, 4096, .inl st))] := hD
    refine tk (y := rv_3) er_5 ?_
    refine lv_goto (tgt := 23) hx hb dX8_text_19 (by decide) ?_
    rw [hQ9]
    exact endI X hr hlocks hP hD hS dX8_text_23 ⟨rl2_1, lt2_2, rv_3, rfl, hf_4, rfl⟩
set_option maxHeartbeats 4000000 in
set_option maxRecDepth 100000 in
theorem c_s2_name (l : Launch) (D : va_G) (cA cB : ClassId) (h0 : Nat) (hn : Nat) (hs : Nat) (hd : Nat) (hp : Nat) (qr : Nat) (qst : Nat) (qa : Nat) (qm : Nat) (qe : Nat) (qmi : Nat) (qmt : Nat) (qms : Nat) (ha : Nat) (hb9 : Nat) (hc9 : Nat) (hd9 : Nat) (ua : Int32) (ub : Int32) (uc : Int32) (ud : Int32) (ue : Int32) (uf : Int32) (ug : Int32) (uh : Int32) (ui : Int32) (uj : Int32) (uk : Int32) (ul : Int32) (um : Int32) (un : Int32) (cm : Nat) (na : Nat → Int32) (nb : Nat → Int32) (nc : Nat → Int32) (nd : Nat → Int32) (a : Int32) (v : Int32) (hcm : cm < 61) : CI l yX8_name cX8_name 3 (some .int) 1 22 0 0 D cA cB [.ref h0, .int a, .int v] [(h0, .inr (8, [.ref hn, .ref hs, .ref hd, .ref hp, .ref qr, .ref qst, .ref qa, .ref qm, .ref qe])), (qm, .inr (0, [.ref qa, .ref qmi, .ref qmt, .ref qms, .int ua, .int ub, .int uc, .int ud, .int ue, .int uf, .int ug, .int uh, .int ui, .int uj, .int uk, .int ul, .int um, .int un])), (qms, .inr (2, [.ref ha, .ref hb9, .ref hc9, .ref hd9, .int (nI cm)])), (ha, .inl (cA, 60, .inl na)), (hb9, .inl (cA, 60, .inl nb)), (hc9, .inl (cA, 60, .inl nc)), (hd9, .inl (cA, 60, .inl nd))] (fun r W1 => ∃ (rv : Int32), r = rv ∧ W1 = [(h0, .inr (8, [.ref hn, .ref hs, .ref hd, .ref hp, .ref qr, .ref qst, .ref qa, .ref qm, .ref qe])), (qm, .inr (0, [.ref qa, .ref qmi, .ref qmt, .ref qms, .int ua, .int ub, .int uc, .int ud, .int ue, .int uf, .int ug, .int uh, .int ui, .int uj, .int uk, .int ul, .int um, .int un])), (qms, .inr (2, [.ref ha, .ref hb9, .ref hc9, .ref hd9, .int (nI cm)])), (ha, .inl (cA, 60, .inl na)), (hb9, .inl (cA, 60, .inl nb)), (hc9, .inl (cA, 60, .inl nc)), (hd9, .inl (cA, 60, .inl nd))]) := by
  refine mkI (lv0 := [(0, .ref h0), (1, .int a), (2, .int v)]) (by decide) (Nat.le_of_ble_eq_true rfl) rfl ?_
  intro p e s m below meth c A ls X hr hlocks hnm hE hA hP hD hS hl
  have hx := X.1
  have hb := X.2.1
  refine qW (fun Q9 hQ9 => ?_)
  refine lv_aload_n hx hb dX8_name_0 rfl (lv_at hl 0 rfl) ?_
  refine k_get (C := RX8) (T := TX8) (N := 9) (ci := 8) (v := .ref qm) X hE hP 0 rfl rfl iX8 7 (by decide) w_359 rfl dX8_name_1 ?_
  refine k_getN (C := RX0) (T := TX0) (N := 18) (ci := 0) (v := .ref qms) X hE hP 1 rfl rfl iX0 3 (by decide) nw_24 rfl dX8_name_4 ?_
  refine lv_iload_n hx hb dX8_name_7 rfl (lv_at hl 1 rfl) ?_
  refine lv_iload_n hx hb dX8_name_8 rfl (lv_at hl 2 rfl) ?_
  refine kVi (n3 := 2) (As := [.int a, .int v]) (rest := []) X hl.1 hE hP hD hS hA [(qms, .inr (2, [.ref ha, .ref hb9, .ref hc9, .ref hd9, .int (nI cm)])), (ha, .inl (cA, 60, .inl na)), (hb9, .inl (cA, 60, .inl nb)), (hc9, .inl (cA, 60, .inl nc)), (hd9, .inl (cA, 60, .inl nd))] [(h0, .inr (8, [.ref hn, .ref hs, .ref hd, .ref hp, .ref qr, .ref qst, .ref qa, .ref qm, .ref qe])), (qm, .inr (0, [.ref qa, .ref qmi, .ref qmt, .ref qms, .int ua, .int ub, .int uc, .int ud, .int ue, .int uf, .int ug, .int uh, .int ui, .int uj, .int uk, .int ul, .int um, .int un]))] [2, 3, 4, 5, 6] [0, 1] rfl rfl rfl (by decide +kernel) (by decide +kernel) (by decide +kernel) (c_s_tell l D cA cB qms ha hb9 hc9 hd9 cm na nb nc nd a v hcm) w_361 w_362 w_360 w_363 w_364 0 (ci := 2) (T := TX2) (N := 5) rfl rfl (by decide +kernel) rfl rfl (Nat.le_of_ble_eq_true rfl) ⟨(Nat.le_of_ble_eq_true rfl), (Nat.le_of_ble_eq_true rfl)⟩ ⟨(Nat.le_of_ble_eq_true rfl), (Nat.le_of_ble_eq_true rfl)⟩ dX8_name_9 (fun r W1 H locs hw hP hD hS => ?_)
  obtain ⟨rv_1, er_2, rfl⟩ := hw
  have hP : va_P D classes [(h0, .inr (8, [.ref hn, .ref hs, .ref hd, .ref hp, .ref qr, .ref qst, .ref qa, .ref qm, .ref qe])), (qm, .inr (0, [.ref qa, .ref qmi, .ref qmt, .ref qms, .int ua, .int ub, .int uc, .int ud, .int ue, .int uf, .int ug, .int uh, .int ui, .int uj, .int uk, .int ul, .int um, .int un])), (qms, .inr (2, [.ref ha, .ref hb9, .ref hc9, .ref hd9, .int (nI cm)])), (ha, .inl (cA, 60, .inl na)), (hb9, .inl (cA, 60, .inl nb)), (hc9, .inl (cA, 60, .inl nc)), (hd9, .inl (cA, 60, .inl nd))] H := hP
  have hD : va_D A [(h0, .inr (8, [.ref hn, .ref hs, .ref hd, .ref hp, .ref qr, .ref qst, .ref qa, .ref qm, .ref qe])), (qm, .inr (0, [.ref qa, .ref qmi, .ref qmt, .ref qms, .int ua, .int ub, .int uc, .int ud, .int ue, .int uf, .int ug, .int uh, .int ui, .int uj, .int uk, .int ul, .int um, .int un])), (qms, .inr (2, [.ref ha, .ref hb9, .ref hc9, .ref hd9, .int (nI cm)])), (ha, .inl (cA, 60, .inl na)), (hb9, .inl (cA, 60, .inl nb)), (hc9, .inl (cA, 60, .inl nc)), (hd9, .inl (cA, 60, .inl nd))] := hD
  refine tk (y := rv_1) er_2 ?_
  rw [hQ9]
  exact endI X hr hlocks hP hD hS dX8_name_12 ⟨rv_1, rfl, rfl⟩
set_option maxHeartbeats 4000000 in
set_option maxRecDepth 100000 in
theorem c_s2_fault (l : Launch) (D : va_G) (cA cB : ClassId) (h0 : Nat) (hn : Nat) (hs : Nat) (hd : Nat) (hp : Nat) (qr : Nat) (qst : Nat) (qa : Nat) (qm : Nat) (qe : Nat) (qmi : Nat) (qmt : Nat) (qms : Nat) (ha : Nat) (hb9 : Nat) (hc9 : Nat) (hd9 : Nat) (ua : Int32) (ub : Int32) (uc : Int32) (ud : Int32) (ue : Int32) (uf : Int32) (ug : Int32) (uh : Int32) (ui : Int32) (uj : Int32) (uk : Int32) (ul : Int32) (um : Int32) (un : Int32) (cm : Nat) (na : Nat → Int32) (nb : Nat → Int32) (nc : Nat → Int32) (nd : Nat → Int32) (a : Int32) (hcm : cm < 61) : CI l yX8_fault cX8_fault 2 (some .int) 0 0 0 0 D cA cB [.ref h0, .int a] [(h0, .inr (8, [.ref hn, .ref hs, .ref hd, .ref hp, .ref qr, .ref qst, .ref qa, .ref qm, .ref qe])), (qm, .inr (0, [.ref qa, .ref qmi, .ref qmt, .ref qms, .int ua, .int ub, .int uc, .int ud, .int ue, .int uf, .int ug, .int uh, .int ui, .int uj, .int uk, .int ul, .int um, .int un])), (qms, .inr (2, [.ref ha, .ref hb9, .ref hc9, .ref hd9, .int (nI cm)])), (ha, .inl (cA, 60, .inl na)), (hb9, .inl (cA, 60, .inl nb)), (hc9, .inl (cA, 60, .inl nc)), (hd9, .inl (cA, 60, .inl nd))] (fun r W1 => ∃ (rv : Int32), r = rv ∧ W1 = [(h0, .inr (8, [.ref hn, .ref hs, .ref hd, .ref hp, .ref qr, .ref qst, .ref qa, .ref qm, .ref qe])), (qm, .inr (0, [.ref qa, .ref qmi, .ref qmt, .ref qms, .int ua, .int ub, .int uc, .int ud, .int ue, .int uf, .int ug, .int uh, .int ui, .int uj, .int uk, .int ul, .int um, .int un])), (qms, .inr (2, [.ref ha, .ref hb9, .ref hc9, .ref hd9, .int (nI cm)])), (ha, .inl (cA, 60, .inl na)), (hb9, .inl (cA, 60, .inl nb)), (hc9, .inl (cA, 60, .inl nc)), (hd9, .inl (cA, 60, .inl nd))]) := by
  refine mkI (lv0 := [(0, .ref h0), (1, .int a)]) (by decide) (Nat.le_of_ble_eq_true rfl) rfl ?_
  intro p e s m below meth c A ls X hr hlocks hnm hE hA hP hD hS hl
  have hx := X.1
  have hb := X.2.1
  refine qW (fun Q9 hQ9 => ?_)
  refine lv_iload_n hx hb dX8_fault_0 rfl (lv_at hl 1 rfl) ?_
  by_cases c_1_1 : a = 0
  · refine lv_lookup (tgt := 28) (off := 27) hx hb dX8_fault_1 (by decide) (by rw [c_1_1]; decide) (by decide) ?_
    refine lv_aload_n hx hb dX8_fault_28 rfl (lv_at hl 0 rfl) ?_
    refine k_get (C := RX8) (T := TX8) (N := 9) (ci := 8) (v := .ref qm) X hE hP 0 rfl rfl iX8 7 (by decide) w_359 rfl dX8_fault_29 ?_
    refine k_getN (C := RX0) (T := TX0) (N := 18) (ci := 0) (v := .int ua) X hE hP 1 rfl rfl iX0 4 (by decide) nw_25 rfl dX8_fault_32 ?_
    rw [hQ9]
    exact endI X hr hlocks hP hD hS dX8_fault_35 ⟨ua, rfl, rfl⟩
  · skip
    by_cases c_1_2 : a = 1
    · refine lv_lookup (tgt := 36) (off := 35) hx hb dX8_fault_1 (by decide) (by rw [c_1_2]; decide) (by decide) ?_
      refine lv_aload_n hx hb dX8_fault_36 rfl (lv_at hl 0 rfl) ?_
      refine k_get (C := RX8) (T := TX8) (N := 9) (ci := 8) (v := .ref qm) X hE hP 0 rfl rfl iX8 7 (by decide) w_359 rfl dX8_fault_37 ?_
      refine k_getN (C := RX0) (T := TX0) (N := 18) (ci := 0) (v := .int ub) X hE hP 1 rfl rfl iX0 5 (by decide) nw_26 rfl dX8_fault_40 ?_
      rw [hQ9]
      exact endI X hr hlocks hP hD hS dX8_fault_43 ⟨ub, rfl, rfl⟩
    · skip
      refine lv_lookup (tgt := 44) (off := 43) hx hb dX8_fault_1 (by decide) (by show Op.lookupswitch.offset [(0, 27), (1, 35)] 43 a.toInt = 43; rw [lv_osw (k := 0) c_1_1 (by decide), lv_osw (k := 1) c_1_2 (by decide)]; rfl) (by decide) ?_
      refine lv_iconst (v := (-1)) hx hb dX8_fault_44 (by decide) ?_
      rw [hQ9]
      exact endI X hr hlocks hP hD hS dX8_fault_45 ⟨(-1), rfl, rfl⟩
set_option maxHeartbeats 4000000 in
set_option maxRecDepth 100000 in
theorem c_s2_about (l : Launch) (D : va_G) (cA cB : ClassId) (h0 : Nat) (hn : Nat) (hs : Nat) (hd : Nat) (hp : Nat) (qr : Nat) (qst : Nat) (qa : Nat) (qm : Nat) (qe : Nat) (hc : Nat) (he : Nat) (qsp : Nat) (htb : Nat) (qmi : Nat) (qmt : Nat) (qms : Nat) (ha : Nat) (hb9 : Nat) (hc9 : Nat) (hd9 : Nat) (wy : Int32) (dn : Int32) (la : Nat) (ke : Nat) (cn : Nat) (ln : Nat) (t0 : Int32) (t1 : Int32) (t2 : Int32) (t3 : Int32) (t4 : Int32) (t5 : Int32) (t6 : Int32) (ua : Int32) (ub : Int32) (uc : Int32) (ud : Int32) (ue : Int32) (uf : Int32) (ug : Int32) (uh : Int32) (ui : Int32) (uj : Int32) (uk : Int32) (ul : Int32) (um : Int32) (un : Int32) (cm : Nat) (f : Nat → Int32) (a : Int32) (hla : la < 256) (hke : ke < 257) (hcn : cn < 17) (hln : ln < 6001) (hcm : cm < 61) (hf : okN f) : CI l yX8_about cX8_about 2 (some .int) 0 0 0 0 D cA cB [.ref h0, .int a] [(h0, .inr (8, [.ref hn, .ref hs, .ref hd, .ref hp, .ref qr, .ref qst, .ref qa, .ref qm, .ref qe])), (qr, .inr (4, [.ref hn, .ref hs, .ref hd, .ref hp, .ref hc, .int wy, .int dn])), (hp, .inr (3, [.ref he, .int (nI la), .int (nI ke)])), (qst, .inr (6, [.ref qsp, .int (nI cn)])), (qa, .inr (7, [.ref htb, .int (nI ln), .int t0, .int t1, .int t2, .int t3, .int t4, .int t5, .int t6])), (qm, .inr (0, [.ref qa, .ref qmi, .ref qmt, .ref qms, .int ua, .int ub, .int uc, .int ud, .int ue, .int uf, .int ug, .int uh, .int ui, .int uj, .int uk, .int ul, .int um, .int un])), (qms, .inr (2, [.ref ha, .ref hb9, .ref hc9, .ref hd9, .int (nI cm)])), (hn, .inl (cA, 34, .inl f))] (fun r W1 => ∃ (rv : Int32), r = rv ∧ W1 = [(h0, .inr (8, [.ref hn, .ref hs, .ref hd, .ref hp, .ref qr, .ref qst, .ref qa, .ref qm, .ref qe])), (qr, .inr (4, [.ref hn, .ref hs, .ref hd, .ref hp, .ref hc, .int wy, .int dn])), (hp, .inr (3, [.ref he, .int (nI la), .int (nI ke)])), (qst, .inr (6, [.ref qsp, .int (nI cn)])), (qa, .inr (7, [.ref htb, .int (nI ln), .int t0, .int t1, .int t2, .int t3, .int t4, .int t5, .int t6])), (qm, .inr (0, [.ref qa, .ref qmi, .ref qmt, .ref qms, .int ua, .int ub, .int uc, .int ud, .int ue, .int uf, .int ug, .int uh, .int ui, .int uj, .int uk, .int ul, .int um, .int un])), (qms, .inr (2, [.ref ha, .ref hb9, .ref hc9, .ref hd9, .int (nI cm)])), (hn, .inl (cA, 34, .inl f))]) := by
  refine mkI (lv0 := [(0, .ref h0), (1, .int a)]) (by decide) (Nat.le_of_ble_eq_true rfl) rfl ?_
  intro p e s m below meth c A ls X hr hlocks hnm hE hA hP hD hS hl
  have hx := X.1
  have hb := X.2.1
  refine qW (fun Q9 hQ9 => ?_)
  refine lv_iload_n hx hb dX8_about_0 rfl (lv_at hl 1 rfl) ?_
  refine lv_iconst (v := 3) hx hb dX8_about_1 (by decide) ?_
  refine lv_icmp_lt (tgt := 23) hx hb dX8_about_2 (by decide) (fun c_2 => ?_) (fun c_2 => ?_)
  · skip
    refine lv_iload_n hx hb dX8_about_23 rfl (lv_at hl 1 rfl) ?_
    by_cases c_24_1 : a = 0
    · refine lv_tableIn (tgt := 84) (off := 60) hx hb dX8_about_24 (by rw [c_24_1]; decide) (by rw [c_24_1]; decide) (by rw [c_24_1]; decide) (by decide) ?_
      refine lv_aload_n hx hb dX8_about_84 rfl (lv_at hl 0 rfl) ?_
      refine k_get (C := RX8) (T := TX8) (N := 9) (ci := 8) (v := .ref qr) X hE hP 0 rfl rfl iX8 4 (by decide) w_314 rfl dX8_about_85 ?_
      refine k_getN (C := RX4) (T := TX4) (N := 7) (ci := 4) (v := .int wy) X hE hP 1 rfl rfl iX4 5 (by decide) nw_6 rfl dX8_about_88 ?_
      rw [hQ9]
      exact endI X hr hlocks hP hD hS dX8_about_91 ⟨wy, rfl, rfl⟩
    · skip
      by_cases c_24_2 : a = 1
      · refine lv_tableIn (tgt := 92) (off := 68) hx hb dX8_about_24 (by rw [c_24_2]; decide) (by rw [c_24_2]; decide) (by rw [c_24_2]; decide) (by decide) ?_
        refine lv_aload_n hx hb dX8_about_92 rfl (lv_at hl 0 rfl) ?_
        refine k_get (C := RX8) (T := TX8) (N := 9) (ci := 8) (v := .ref qr) X hE hP 0 rfl rfl iX8 4 (by decide) w_314 rfl dX8_about_93 ?_
        refine k_getN (C := RX4) (T := TX4) (N := 7) (ci := 4) (v := .int dn) X hE hP 1 rfl rfl iX4 6 (by decide) nw_7 rfl dX8_about_96 ?_
        rw [hQ9]
        exact endI X hr hlocks hP hD hS dX8_about_99 ⟨dn, rfl, rfl⟩
      · skip
        by_cases c_24_3 : a = 2
        · refine lv_tableIn (tgt := 100) (off := 76) hx hb dX8_about_24 (by rw [c_24_3]; decide) (by rw [c_24_3]; decide) (by rw [c_24_3]; decide) (by decide) ?_
          refine lv_aload_n hx hb dX8_about_100 rfl (lv_at hl 0 rfl) ?_
          refine k_get (C := RX8) (T := TX8) (N := 9) (ci := 8) (v := .ref hp) X hE hP 0 rfl rfl iX8 3 (by decide) w_328 rfl dX8_about_101 ?_
          refine k_getN (C := RX3) (T := TX3) (N := 3) (ci := 3) (v := .int (nI ke)) X hE hP 2 rfl rfl iX3 2 (by decide) nw_4 rfl dX8_about_104 ?_
          rw [hQ9]
          exact endI X hr hlocks hP hD hS dX8_about_107 ⟨(nI ke), rfl, rfl⟩
        · skip
          by_cases c_24_4 : a = 3
          · refine lv_tableIn (tgt := 135) (off := 111) hx hb dX8_about_24 (by rw [c_24_4]; decide) (by rw [c_24_4]; decide) (by rw [c_24_4]; decide) (by decide) ?_
            refine lv_iconst (v := 0) hx hb dX8_about_135 (by decide) ?_
            rw [hQ9]
            exact endI X hr hlocks hP hD hS dX8_about_136 ⟨0, rfl, rfl⟩
          · skip
            by_cases c_24_5 : a = 4
            · refine lv_tableIn (tgt := 135) (off := 111) hx hb dX8_about_24 (by rw [c_24_5]; decide) (by rw [c_24_5]; decide) (by rw [c_24_5]; decide) (by decide) ?_
              refine lv_iconst (v := 0) hx hb dX8_about_135 (by decide) ?_
              rw [hQ9]
              exact endI X hr hlocks hP hD hS dX8_about_136 ⟨0, rfl, rfl⟩
            · skip
              by_cases c_24_6 : a = 5
              · refine lv_tableIn (tgt := 135) (off := 111) hx hb dX8_about_24 (by rw [c_24_6]; decide) (by rw [c_24_6]; decide) (by rw [c_24_6]; decide) (by decide) ?_
                refine lv_iconst (v := 0) hx hb dX8_about_135 (by decide) ?_
                rw [hQ9]
                exact endI X hr hlocks hP hD hS dX8_about_136 ⟨0, rfl, rfl⟩
              · skip
                by_cases c_24_7 : a = 6
                · refine lv_tableIn (tgt := 135) (off := 111) hx hb dX8_about_24 (by rw [c_24_7]; decide) (by rw [c_24_7]; decide) (by rw [c_24_7]; decide) (by decide) ?_
                  refine lv_iconst (v := 0) hx hb dX8_about_135 (by decide) ?_
                  rw [hQ9]
                  exact endI X hr hlocks hP hD hS dX8_about_136 ⟨0, rfl, rfl⟩
                · skip
                  by_cases c_24_8 : a = 7
                  · refine lv_tableIn (tgt := 135) (off := 111) hx hb dX8_about_24 (by rw [c_24_8]; decide) (by rw [c_24_8]; decide) (by rw [c_24_8]; decide) (by decide) ?_
                    refine lv_iconst (v := 0) hx hb dX8_about_135 (by decide) ?_
                    rw [hQ9]
                    exact endI X hr hlocks hP hD hS dX8_about_136 ⟨0, rfl, rfl⟩
                  · skip
                    by_cases c_24_9 : a = 8
                    · refine lv_tableIn (tgt := 108) (off := 84) hx hb dX8_about_24 (by rw [c_24_9]; decide) (by rw [c_24_9]; decide) (by rw [c_24_9]; decide) (by decide) ?_
                      refine lv_aload_n hx hb dX8_about_108 rfl (lv_at hl 0 rfl) ?_
                      refine k_get (C := RX8) (T := TX8) (N := 9) (ci := 8) (v := .ref qm) X hE hP 0 rfl rfl iX8 7 (by decide) w_359 rfl dX8_about_109 ?_
                      refine k_getN (C := RX0) (T := TX0) (N := 18) (ci := 0) (v := .ref qms) X hE hP 5 rfl rfl iX0 3 (by decide) nw_24 rfl dX8_about_112 ?_
                      refine k_getN (C := RX2) (T := TX2) (N := 5) (ci := 2) (v := .int (nI cm)) X hE hP 6 rfl rfl iX2 4 (by decide) nw_23 rfl dX8_about_115 ?_
                      rw [hQ9]
                      exact endI X hr hlocks hP hD hS dX8_about_118 ⟨(nI cm), rfl, rfl⟩
                    · skip
                      by_cases c_24_10 : a = 9
                      · refine lv_tableIn (tgt := 119) (off := 95) hx hb dX8_about_24 (by rw [c_24_10]; decide) (by rw [c_24_10]; decide) (by rw [c_24_10]; decide) (by decide) ?_
                        refine lv_aload_n hx hb dX8_about_119 rfl (lv_at hl 0 rfl) ?_
                        refine k_get (C := RX8) (T := TX8) (N := 9) (ci := 8) (v := .ref qst) X hE hP 0 rfl rfl iX8 5 (by decide) w_319 rfl dX8_about_120 ?_
                        refine k_getN (C := RX6) (T := TX6) (N := 2) (ci := 6) (v := .int (nI cn)) X hE hP 3 rfl rfl iX6 1 (by decide) nw_9 rfl dX8_about_123 ?_
                        rw [hQ9]
                        exact endI X hr hlocks hP hD hS dX8_about_126 ⟨(nI cn), rfl, rfl⟩
                      · skip
                        by_cases c_24_11 : a = 10
                        · refine lv_tableIn (tgt := 127) (off := 103) hx hb dX8_about_24 (by rw [c_24_11]; decide) (by rw [c_24_11]; decide) (by rw [c_24_11]; decide) (by decide) ?_
                          refine lv_aload_n hx hb dX8_about_127 rfl (lv_at hl 0 rfl) ?_
                          refine k_get (C := RX8) (T := TX8) (N := 9) (ci := 8) (v := .ref qa) X hE hP 0 rfl rfl iX8 6 (by decide) w_354 rfl dX8_about_128 ?_
                          refine k_getN (C := RX7) (T := TX7) (N := 9) (ci := 7) (v := .int (nI ln)) X hE hP 4 rfl rfl iX7 1 (by decide) nw_12 rfl dX8_about_131 ?_
                          rw [hQ9]
                          exact endI X hr hlocks hP hD hS dX8_about_134 ⟨(nI ln), rfl, rfl⟩
                        · skip
                          refine lv_tableOut (tgt := 135) hx hb dX8_about_24 (by have n_0 := lv_neT (k := 0) (a := 0) c_24_1 (by decide); have n_1 := lv_neT (k := 1) (a := 1) c_24_2 (by decide); have n_2 := lv_neT (k := 2) (a := 2) c_24_3 (by decide); have n_3 := lv_neT (k := 3) (a := 3) c_24_4 (by decide); have n_4 := lv_neT (k := 4) (a := 4) c_24_5 (by decide); have n_5 := lv_neT (k := 5) (a := 5) c_24_6 (by decide); have n_6 := lv_neT (k := 6) (a := 6) c_24_7 (by decide); have n_7 := lv_neT (k := 7) (a := 7) c_24_8 (by decide); have n_8 := lv_neT (k := 8) (a := 8) c_24_9 (by decide); have n_9 := lv_neT (k := 9) (a := 9) c_24_10 (by decide); have n_10 := lv_neT (k := 10) (a := 10) c_24_11 (by decide); omega) (by decide) ?_
                          refine lv_iconst (v := 0) hx hb dX8_about_135 (by decide) ?_
                          rw [hQ9]
                          exact endI X hr hlocks hP hD hS dX8_about_136 ⟨0, rfl, rfl⟩
  · skip
    refine lv_iload_n hx hb dX8_about_5 rfl (lv_at hl 1 rfl) ?_
    refine lv_bipush (v := 7) hx hb dX8_about_6 (by decide) ?_
    refine lv_icmp_gt (tgt := 23) hx hb dX8_about_8 (by decide) (fun c_8 => ?_) (fun c_8 => ?_)
    · skip
      refine lv_iload_n hx hb dX8_about_23 rfl (lv_at hl 1 rfl) ?_
      by_cases c_24_12 : a = 0
      · refine lv_tableIn (tgt := 84) (off := 60) hx hb dX8_about_24 (by rw [c_24_12]; decide) (by rw [c_24_12]; decide) (by rw [c_24_12]; decide) (by decide) ?_
        refine lv_aload_n hx hb dX8_about_84 rfl (lv_at hl 0 rfl) ?_
        refine k_get (C := RX8) (T := TX8) (N := 9) (ci := 8) (v := .ref qr) X hE hP 0 rfl rfl iX8 4 (by decide) w_314 rfl dX8_about_85 ?_
        refine k_getN (C := RX4) (T := TX4) (N := 7) (ci := 4) (v := .int wy) X hE hP 1 rfl rfl iX4 5 (by decide) nw_6 rfl dX8_about_88 ?_
        rw [hQ9]
        exact endI X hr hlocks hP hD hS dX8_about_91 ⟨wy, rfl, rfl⟩
      · skip
        by_cases c_24_13 : a = 1
        · refine lv_tableIn (tgt := 92) (off := 68) hx hb dX8_about_24 (by rw [c_24_13]; decide) (by rw [c_24_13]; decide) (by rw [c_24_13]; decide) (by decide) ?_
          refine lv_aload_n hx hb dX8_about_92 rfl (lv_at hl 0 rfl) ?_
          refine k_get (C := RX8) (T := TX8) (N := 9) (ci := 8) (v := .ref qr) X hE hP 0 rfl rfl iX8 4 (by decide) w_314 rfl dX8_about_93 ?_
          refine k_getN (C := RX4) (T := TX4) (N := 7) (ci := 4) (v := .int dn) X hE hP 1 rfl rfl iX4 6 (by decide) nw_7 rfl dX8_about_96 ?_
          rw [hQ9]
          exact endI X hr hlocks hP hD hS dX8_about_99 ⟨dn, rfl, rfl⟩
        · skip
          by_cases c_24_14 : a = 2
          · refine lv_tableIn (tgt := 100) (off := 76) hx hb dX8_about_24 (by rw [c_24_14]; decide) (by rw [c_24_14]; decide) (by rw [c_24_14]; decide) (by decide) ?_
            refine lv_aload_n hx hb dX8_about_100 rfl (lv_at hl 0 rfl) ?_
            refine k_get (C := RX8) (T := TX8) (N := 9) (ci := 8) (v := .ref hp) X hE hP 0 rfl rfl iX8 3 (by decide) w_328 rfl dX8_about_101 ?_
            refine k_getN (C := RX3) (T := TX3) (N := 3) (ci := 3) (v := .int (nI ke)) X hE hP 2 rfl rfl iX3 2 (by decide) nw_4 rfl dX8_about_104 ?_
            rw [hQ9]
            exact endI X hr hlocks hP hD hS dX8_about_107 ⟨(nI ke), rfl, rfl⟩
          · skip
            by_cases c_24_15 : a = 3
            · refine lv_tableIn (tgt := 135) (off := 111) hx hb dX8_about_24 (by rw [c_24_15]; decide) (by rw [c_24_15]; decide) (by rw [c_24_15]; decide) (by decide) ?_
              refine lv_iconst (v := 0) hx hb dX8_about_135 (by decide) ?_
              rw [hQ9]
              exact endI X hr hlocks hP hD hS dX8_about_136 ⟨0, rfl, rfl⟩
            · skip
              by_cases c_24_16 : a = 4
              · refine lv_tableIn (tgt := 135) (off := 111) hx hb dX8_about_24 (by rw [c_24_16]; decide) (by rw [c_24_16]; decide) (by rw [c_24_16]; decide) (by decide) ?_
                refine lv_iconst (v := 0) hx hb dX8_about_135 (by decide) ?_
                rw [hQ9]
                exact endI X hr hlocks hP hD hS dX8_about_136 ⟨0, rfl, rfl⟩
              · skip
                by_cases c_24_17 : a = 5
                · refine lv_tableIn (tgt := 135) (off := 111) hx hb dX8_about_24 (by rw [c_24_17]; decide) (by rw [c_24_17]; decide) (by rw [c_24_17]; decide) (by decide) ?_
                  refine lv_iconst (v := 0) hx hb dX8_about_135 (by decide) ?_
                  rw [hQ9]
                  exact endI X hr hlocks hP hD hS dX8_about_136 ⟨0, rfl, rfl⟩
                · skip
                  by_cases c_24_18 : a = 6
                  · refine lv_tableIn (tgt := 135) (off := 111) hx hb dX8_about_24 (by rw [c_24_18]; decide) (by rw [c_24_18]; decide) (by rw [c_24_18]; decide) (by decide) ?_
                    refine lv_iconst (v := 0) hx hb dX8_about_135 (by decide) ?_
                    rw [hQ9]
                    exact endI X hr hlocks hP hD hS dX8_about_136 ⟨0, rfl, rfl⟩
                  · skip
                    by_cases c_24_19 : a = 7
                    · refine lv_tableIn (tgt := 135) (off := 111) hx hb dX8_about_24 (by rw [c_24_19]; decide) (by rw [c_24_19]; decide) (by rw [c_24_19]; decide) (by decide) ?_
                      refine lv_iconst (v := 0) hx hb dX8_about_135 (by decide) ?_
                      rw [hQ9]
                      exact endI X hr hlocks hP hD hS dX8_about_136 ⟨0, rfl, rfl⟩
                    · skip
                      by_cases c_24_20 : a = 8
                      · refine lv_tableIn (tgt := 108) (off := 84) hx hb dX8_about_24 (by rw [c_24_20]; decide) (by rw [c_24_20]; decide) (by rw [c_24_20]; decide) (by decide) ?_
                        refine lv_aload_n hx hb dX8_about_108 rfl (lv_at hl 0 rfl) ?_
                        refine k_get (C := RX8) (T := TX8) (N := 9) (ci := 8) (v := .ref qm) X hE hP 0 rfl rfl iX8 7 (by decide) w_359 rfl dX8_about_109 ?_
                        refine k_getN (C := RX0) (T := TX0) (N := 18) (ci := 0) (v := .ref qms) X hE hP 5 rfl rfl iX0 3 (by decide) nw_24 rfl dX8_about_112 ?_
                        refine k_getN (C := RX2) (T := TX2) (N := 5) (ci := 2) (v := .int (nI cm)) X hE hP 6 rfl rfl iX2 4 (by decide) nw_23 rfl dX8_about_115 ?_
                        rw [hQ9]
                        exact endI X hr hlocks hP hD hS dX8_about_118 ⟨(nI cm), rfl, rfl⟩
                      · skip
                        by_cases c_24_21 : a = 9
                        · refine lv_tableIn (tgt := 119) (off := 95) hx hb dX8_about_24 (by rw [c_24_21]; decide) (by rw [c_24_21]; decide) (by rw [c_24_21]; decide) (by decide) ?_
                          refine lv_aload_n hx hb dX8_about_119 rfl (lv_at hl 0 rfl) ?_
                          refine k_get (C := RX8) (T := TX8) (N := 9) (ci := 8) (v := .ref qst) X hE hP 0 rfl rfl iX8 5 (by decide) w_319 rfl dX8_about_120 ?_
                          refine k_getN (C := RX6) (T := TX6) (N := 2) (ci := 6) (v := .int (nI cn)) X hE hP 3 rfl rfl iX6 1 (by decide) nw_9 rfl dX8_about_123 ?_
                          rw [hQ9]
                          exact endI X hr hlocks hP hD hS dX8_about_126 ⟨(nI cn), rfl, rfl⟩
                        · skip
                          by_cases c_24_22 : a = 10
                          · refine lv_tableIn (tgt := 127) (off := 103) hx hb dX8_about_24 (by rw [c_24_22]; decide) (by rw [c_24_22]; decide) (by rw [c_24_22]; decide) (by decide) ?_
                            refine lv_aload_n hx hb dX8_about_127 rfl (lv_at hl 0 rfl) ?_
                            refine k_get (C := RX8) (T := TX8) (N := 9) (ci := 8) (v := .ref qa) X hE hP 0 rfl rfl iX8 6 (by decide) w_354 rfl dX8_about_128 ?_
                            refine k_getN (C := RX7) (T := TX7) (N := 9) (ci := 7) (v := .int (nI ln)) X hE hP 4 rfl rfl iX7 1 (by decide) nw_12 rfl dX8_about_131 ?_
                            rw [hQ9]
                            exact endI X hr hlocks hP hD hS dX8_about_134 ⟨(nI ln), rfl, rfl⟩
                          · skip
                            refine lv_tableOut (tgt := 135) hx hb dX8_about_24 (by have n_0 := lv_neT (k := 0) (a := 0) c_24_12 (by decide); have n_1 := lv_neT (k := 1) (a := 1) c_24_13 (by decide); have n_2 := lv_neT (k := 2) (a := 2) c_24_14 (by decide); have n_3 := lv_neT (k := 3) (a := 3) c_24_15 (by decide); have n_4 := lv_neT (k := 4) (a := 4) c_24_16 (by decide); have n_5 := lv_neT (k := 5) (a := 5) c_24_17 (by decide); have n_6 := lv_neT (k := 6) (a := 6) c_24_18 (by decide); have n_7 := lv_neT (k := 7) (a := 7) c_24_19 (by decide); have n_8 := lv_neT (k := 8) (a := 8) c_24_20 (by decide); have n_9 := lv_neT (k := 9) (a := 9) c_24_21 (by decide); have n_10 := lv_neT (k := 10) (a := 10) c_24_22 (by decide); omega) (by decide) ?_
                            refine lv_iconst (v := 0) hx hb dX8_about_135 (by decide) ?_
                            rw [hQ9]
                            exact endI X hr hlocks hP hD hS dX8_about_136 ⟨0, rfl, rfl⟩
    · skip
      obtain ⟨j, hj1, hj2, ej⟩ := idx_37 c_2 c_8
      rw [ej] at hl
      refine lv_aload_n hx hb dX8_about_11 rfl (lv_at hl 0 rfl) ?_
      refine k_get (C := RX8) (T := TX8) (N := 9) (ci := 8) (v := .ref hn) X hE hP 0 rfl rfl iX8 0 (by decide) w_324 rfl dX8_about_12 ?_
      refine lv_bipush (v := 28) hx hb dX8_about_15 (by decide) ?_
      refine lv_iload_n hx hb dX8_about_17 rfl (lv_at hl 1 rfl) ?_
      refine lv_iadd hx hb dX8_about_18 ?_
      refine tk (y := nI (28 + j)) (nI_add 28 j) ?_
      refine lv_iconst (v := 3) hx hb dX8_about_19 (by decide) ?_
      refine lv_isub hx hb dX8_about_20 ?_
      refine tk (y := nI (28 + j - 3)) (pk_sub (a := 28 + j) (b := 3) (by omega)) ?_
      refine k_ald (v := f (28 + j - 3)) X hE hP 7 rfl (28 + j - 3) rfl (by omega) (by decide) rfl dX8_about_21 ?_
      rw [hQ9]
      exact endI X hr hlocks hP hD hS dX8_about_22 ⟨(f (28 + j - 3)), rfl, rfl⟩
