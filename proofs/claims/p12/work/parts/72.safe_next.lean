abbrev cX7_wordIn : ByteArray := prog_9_method_7_code
def yX7_wordIn : MethodName := ⟨RX7, "wordIn", "(Ljava/lang/String;II)I"⟩
abbrev cX7_next : ByteArray := prog_9_method_5_code
def yX7_next : MethodName := ⟨RX7, "next", "()V"⟩
set_option maxRecDepth 100000 in
theorem w_471 : (Cond.methodLink "BelfryBox$Tape" 86 yJ0_length_8abf5 : Cond) ∈ gw := List.mem_filter.mpr ⟨List.mem_append_right _ (tb2 (List.mem_of_getElem? (i := 130) rfl)), rfl⟩
set_option maxRecDepth 100000 in
theorem w_472 : (Cond.methodLink "BelfryBox$Tape" 89 yJ0_charAt_5068e : Cond) ∈ gw := List.mem_filter.mpr ⟨List.mem_append_right _ (tb2 (List.mem_of_getElem? (i := 140) rfl)), rfl⟩
set_option maxRecDepth 100000 in
theorem w_473 : (Cond.code yJ0_charAt_5068e prog_14_method_56_code 2 (Option.some Jvm.ClassFile.FieldType.char) : Cond) ∈ gw := List.mem_filter.mpr ⟨List.mem_append_right _ (tb2 (List.mem_of_getElem? (i := 143) rfl)), rfl⟩
set_option maxRecDepth 100000 in
theorem w_474 : (Cond.instanceMethod yJ0_charAt_5068e : Cond) ∈ gw := List.mem_filter.mpr ⟨List.mem_append_right _ (tb2 (List.mem_of_getElem? (i := 141) rfl)), rfl⟩
set_option maxRecDepth 100000 in
theorem w_475 : (Cond.selects "java/lang/String" yJ0_charAt_5068e yJ0_charAt_5068e : Cond) ∈ gw := List.mem_filter.mpr ⟨List.mem_append_right _ (tb2 (List.mem_of_getElem? (i := 142) rfl)), rfl⟩
set_option maxRecDepth 100000 in
theorem w_476 : (Cond.methodLink "BelfryBox$Tape" 75 yJ0_indexOf_0f7a4 : Cond) ∈ gw := List.mem_filter.mpr ⟨List.mem_append_right _ (tb2 (List.mem_of_getElem? (i := 196) rfl)), rfl⟩
set_option maxRecDepth 100000 in
theorem w_477 : (Cond.code yJ0_indexOf_0f7a4 prog_14_method_79_code 2 (Option.some Jvm.ClassFile.FieldType.int) : Cond) ∈ gw := List.mem_filter.mpr ⟨List.mem_append_right _ (tb2 (List.mem_of_getElem? (i := 199) rfl)), rfl⟩
set_option maxRecDepth 100000 in
theorem w_478 : (Cond.instanceMethod yJ0_indexOf_0f7a4 : Cond) ∈ gw := List.mem_filter.mpr ⟨List.mem_append_right _ (tb2 (List.mem_of_getElem? (i := 197) rfl)), rfl⟩
set_option maxRecDepth 100000 in
theorem w_479 : (Cond.selects "java/lang/String" yJ0_indexOf_0f7a4 yJ0_indexOf_0f7a4 : Cond) ∈ gw := List.mem_filter.mpr ⟨List.mem_append_right _ (tb2 (List.mem_of_getElem? (i := 198) rfl)), rfl⟩
set_option maxRecDepth 100000 in
theorem w_480 : (Cond.methodLink "BelfryBox$Tape" 65 yX7_readDigits : Cond) ∈ gw := List.mem_filter.mpr ⟨List.mem_append_right _ (tb2 (List.mem_of_getElem? (i := 188) rfl)), rfl⟩
set_option maxRecDepth 100000 in
theorem w_481 : (Cond.code yX7_readDigits prog_9_method_9_code 5 (Option.none : Option Jvm.ClassFile.FieldType) : Cond) ∈ gw := List.mem_filter.mpr ⟨List.mem_append_right _ (tb2 (List.mem_of_getElem? (i := 191) rfl)), rfl⟩
set_option maxRecDepth 100000 in
theorem w_482 : (Cond.instanceMethod yX7_readDigits : Cond) ∈ gw := List.mem_filter.mpr ⟨List.mem_append_right _ (tb2 (List.mem_of_getElem? (i := 190) rfl)), rfl⟩
set_option maxRecDepth 100000 in
theorem w_483 : (Cond.selects "BelfryBox$Tape" yX7_readDigits yX7_readDigits : Cond) ∈ gw := List.mem_filter.mpr ⟨List.mem_append_left _ (List.mem_map.mpr ⟨(⟨"BelfryBox$Tape", "readDigits", "(II)V"⟩, 9), sl1 (List.mem_of_getElem? (i := 7) rfl), rfl⟩), rfl⟩
set_option maxRecDepth 100000 in
theorem w_484 : (Cond.methodLink "BelfryBox$Tape" 62 yX7_readQuoted : Cond) ∈ gw := List.mem_filter.mpr ⟨List.mem_append_right _ (tb2 (List.mem_of_getElem? (i := 184) rfl)), rfl⟩
set_option maxRecDepth 100000 in
theorem w_485 : (Cond.code yX7_readQuoted prog_9_method_8_code 1 (Option.none : Option Jvm.ClassFile.FieldType) : Cond) ∈ gw := List.mem_filter.mpr ⟨List.mem_append_right _ (tb2 (List.mem_of_getElem? (i := 187) rfl)), rfl⟩
set_option maxRecDepth 100000 in
theorem w_486 : (Cond.instanceMethod yX7_readQuoted : Cond) ∈ gw := List.mem_filter.mpr ⟨List.mem_append_right _ (tb2 (List.mem_of_getElem? (i := 186) rfl)), rfl⟩
set_option maxRecDepth 100000 in
theorem w_487 : (Cond.selects "BelfryBox$Tape" yX7_readQuoted yX7_readQuoted : Cond) ∈ gw := List.mem_filter.mpr ⟨List.mem_append_left _ (List.mem_map.mpr ⟨(⟨"BelfryBox$Tape", "readQuoted", "()V"⟩, 9), sl1 (List.mem_of_getElem? (i := 6) rfl), rfl⟩), rfl⟩
set_option maxRecDepth 100000 in
theorem w_488 : (Cond.methodLink "BelfryBox$Tape" 38 yX7_readLetters : Cond) ∈ gw := List.mem_filter.mpr ⟨List.mem_append_right _ (tb2 (List.mem_of_getElem? (i := 118) rfl)), rfl⟩
set_option maxRecDepth 100000 in
theorem w_489 : (Cond.code yX7_readLetters prog_9_method_6_code 2 (Option.none : Option Jvm.ClassFile.FieldType) : Cond) ∈ gw := List.mem_filter.mpr ⟨List.mem_append_right _ (tb2 (List.mem_of_getElem? (i := 121) rfl)), rfl⟩
set_option maxRecDepth 100000 in
theorem w_490 : (Cond.instanceMethod yX7_readLetters : Cond) ∈ gw := List.mem_filter.mpr ⟨List.mem_append_right _ (tb2 (List.mem_of_getElem? (i := 120) rfl)), rfl⟩
set_option maxRecDepth 100000 in
theorem w_491 : (Cond.selects "BelfryBox$Tape" yX7_readLetters yX7_readLetters : Cond) ∈ gw := List.mem_filter.mpr ⟨List.mem_append_left _ (List.mem_map.mpr ⟨(⟨"BelfryBox$Tape", "readLetters", "()V"⟩, 9), sl1 (List.mem_of_getElem? (i := 4) rfl), rfl⟩), rfl⟩
set_option maxRecDepth 100000 in
theorem w_492 : (Cond.methodLink "BelfryBox$Tape" 43 yX7_wordIn : Cond) ∈ gw := List.mem_filter.mpr ⟨List.mem_append_right _ (tb2 (List.mem_of_getElem? (i := 126) rfl)), rfl⟩
set_option maxRecDepth 100000 in
theorem w_493 : (Cond.code yX7_wordIn prog_9_method_7_code 6 (Option.some Jvm.ClassFile.FieldType.int) : Cond) ∈ gw := List.mem_filter.mpr ⟨List.mem_append_right _ (tb2 (List.mem_of_getElem? (i := 129) rfl)), rfl⟩
set_option maxRecDepth 100000 in
theorem w_494 : (Cond.instanceMethod yX7_wordIn : Cond) ∈ gw := List.mem_filter.mpr ⟨List.mem_append_right _ (tb2 (List.mem_of_getElem? (i := 128) rfl)), rfl⟩
set_option maxRecDepth 100000 in
theorem w_495 : (Cond.selects "BelfryBox$Tape" yX7_wordIn yX7_wordIn : Cond) ∈ gw := List.mem_filter.mpr ⟨List.mem_append_left _ (List.mem_map.mpr ⟨(⟨"BelfryBox$Tape", "wordIn", "(Ljava/lang/String;II)I"⟩, 9), sl1 (List.mem_of_getElem? (i := 5) rfl), rfl⟩), rfl⟩
set_option maxRecDepth 100000 in
theorem w_496 : (Cond.methodLink "BelfryBox$Tape" 49 yJ9_max_7cf53 : Cond) ∈ gw := List.mem_filter.mpr ⟨List.mem_append_right _ (tb2 (List.mem_of_getElem? (i := 179) rfl)), rfl⟩
theorem dX7_wordIn_0 : decode cX7_wordIn 0 = .ok (.aload_n 0, 1) := by decide +kernel
theorem dX7_wordIn_1 : decode cX7_wordIn 1 = .ok (.getfield 83, 3) := by decide +kernel
theorem dX7_wordIn_4 : decode cX7_wordIn 4 = .ok (.iconst 3, 1) := by decide +kernel
theorem dX7_wordIn_5 : decode cX7_wordIn 5 = .ok (.if_icmp .lt 11, 3) := by decide +kernel
theorem dX7_wordIn_16 : decode cX7_wordIn 16 = .ok (.iconst (-1), 1) := by decide +kernel
theorem dX7_wordIn_17 : decode cX7_wordIn 17 = .ok (.ireturn, 1) := by decide +kernel
theorem dX7_wordIn_8 : decode cX7_wordIn 8 = .ok (.aload_n 0, 1) := by decide +kernel
theorem dX7_wordIn_9 : decode cX7_wordIn 9 = .ok (.getfield 83, 3) := by decide +kernel
theorem dX7_wordIn_12 : decode cX7_wordIn 12 = .ok (.iload_n 2, 1) := by decide +kernel
theorem dX7_wordIn_13 : decode cX7_wordIn 13 = .ok (.if_icmp .le 5, 3) := by decide +kernel
theorem dX7_wordIn_18 : decode cX7_wordIn 18 = .ok (.iconst 0, 1) := by decide +kernel
theorem dX7_wordIn_19 : decode cX7_wordIn 19 = .ok (.istore 4, 2) := by decide +kernel
theorem dX7_wordIn_21 : decode cX7_wordIn 21 = .ok (.iload_n 2, 1) := by decide +kernel
theorem dX7_wordIn_22 : decode cX7_wordIn 22 = .ok (.iload 4, 2) := by decide +kernel
theorem dX7_wordIn_24 : decode cX7_wordIn 24 = .ok (.iconst 1, 1) := by decide +kernel
theorem dX7_wordIn_25 : decode cX7_wordIn 25 = .ok (.iadd, 1) := by decide +kernel
theorem dX7_wordIn_26 : decode cX7_wordIn 26 = .ok (.imul, 1) := by decide +kernel
theorem dX7_wordIn_27 : decode cX7_wordIn 27 = .ok (.aload_n 1, 1) := by decide +kernel
theorem dX7_wordIn_28 : decode cX7_wordIn 28 = .ok (.invokevirtual 86, 3) := by decide +kernel
theorem dX7_wordIn_31 : decode cX7_wordIn 31 = .ok (.if_icmp .gt 89, 3) := by decide +kernel
theorem dX7_wordIn_120 : decode cX7_wordIn 120 = .ok (.iconst (-1), 1) := by decide +kernel
theorem dX7_wordIn_121 : decode cX7_wordIn 121 = .ok (.ireturn, 1) := by decide +kernel
theorem dX7_wordIn_34 : decode cX7_wordIn 34 = .ok (.iconst 0, 1) := by decide +kernel
theorem dX7_wordIn_35 : decode cX7_wordIn 35 = .ok (.istore 5, 2) := by decide +kernel
theorem dX7_wordIn_37 : decode cX7_wordIn 37 = .ok (.iload 5, 2) := by decide +kernel
theorem dX7_wordIn_39 : decode cX7_wordIn 39 = .ok (.aload_n 0, 1) := by decide +kernel
theorem dX7_wordIn_40 : decode cX7_wordIn 40 = .ok (.getfield 83, 3) := by decide +kernel
theorem dX7_wordIn_43 : decode cX7_wordIn 43 = .ok (.if_icmp .ge 35, 3) := by decide +kernel
theorem dX7_wordIn_78 : decode cX7_wordIn 78 = .ok (.iload 5, 2) := by decide +kernel
theorem dX7_wordIn_80 : decode cX7_wordIn 80 = .ok (.aload_n 0, 1) := by decide +kernel
theorem dX7_wordIn_81 : decode cX7_wordIn 81 = .ok (.getfield 83, 3) := by decide +kernel
theorem dX7_wordIn_84 : decode cX7_wordIn 84 = .ok (.if_icmp .ne 30, 3) := by decide +kernel
theorem dX7_wordIn_114 : decode cX7_wordIn 114 = .ok (.iinc 4 1, 3) := by decide +kernel
theorem dX7_wordIn_117 : decode cX7_wordIn 117 = .ok (.goto (-96), 3) := by decide +kernel
theorem dX7_wordIn_87 : decode cX7_wordIn 87 = .ok (.iload 5, 2) := by decide +kernel
theorem dX7_wordIn_89 : decode cX7_wordIn 89 = .ok (.iload_n 2, 1) := by decide +kernel
theorem dX7_wordIn_90 : decode cX7_wordIn 90 = .ok (.if_icmp .eq 19, 3) := by decide +kernel
theorem dX7_wordIn_109 : decode cX7_wordIn 109 = .ok (.iload_n 3, 1) := by decide +kernel
theorem dX7_wordIn_110 : decode cX7_wordIn 110 = .ok (.iload 4, 2) := by decide +kernel
theorem dX7_wordIn_112 : decode cX7_wordIn 112 = .ok (.iadd, 1) := by decide +kernel
theorem dX7_wordIn_113 : decode cX7_wordIn 113 = .ok (.ireturn, 1) := by decide +kernel
theorem dX7_wordIn_93 : decode cX7_wordIn 93 = .ok (.aload_n 1, 1) := by decide +kernel
theorem dX7_wordIn_94 : decode cX7_wordIn 94 = .ok (.iload_n 2, 1) := by decide +kernel
theorem dX7_wordIn_95 : decode cX7_wordIn 95 = .ok (.iload 4, 2) := by decide +kernel
theorem dX7_wordIn_97 : decode cX7_wordIn 97 = .ok (.imul, 1) := by decide +kernel
theorem dX7_wordIn_98 : decode cX7_wordIn 98 = .ok (.iload 5, 2) := by decide +kernel
theorem dX7_wordIn_100 : decode cX7_wordIn 100 = .ok (.iadd, 1) := by decide +kernel
theorem dX7_wordIn_101 : decode cX7_wordIn 101 = .ok (.invokevirtual 89, 3) := by decide +kernel
theorem dX7_wordIn_104 : decode cX7_wordIn 104 = .ok (.bipush 32, 2) := by decide +kernel
theorem dX7_wordIn_106 : decode cX7_wordIn 106 = .ok (.if_icmp .ne 8, 3) := by decide +kernel
theorem dX7_wordIn_46 : decode cX7_wordIn 46 = .ok (.aload_n 1, 1) := by decide +kernel
theorem dX7_wordIn_47 : decode cX7_wordIn 47 = .ok (.iload_n 2, 1) := by decide +kernel
theorem dX7_wordIn_48 : decode cX7_wordIn 48 = .ok (.iload 4, 2) := by decide +kernel
theorem dX7_wordIn_50 : decode cX7_wordIn 50 = .ok (.imul, 1) := by decide +kernel
theorem dX7_wordIn_51 : decode cX7_wordIn 51 = .ok (.iload 5, 2) := by decide +kernel
theorem dX7_wordIn_53 : decode cX7_wordIn 53 = .ok (.iadd, 1) := by decide +kernel
theorem dX7_wordIn_54 : decode cX7_wordIn 54 = .ok (.invokevirtual 89, 3) := by decide +kernel
theorem dX7_wordIn_57 : decode cX7_wordIn 57 = .ok (.aload_n 0, 1) := by decide +kernel
theorem dX7_wordIn_58 : decode cX7_wordIn 58 = .ok (.getfield 11, 3) := by decide +kernel
theorem dX7_wordIn_61 : decode cX7_wordIn 61 = .ok (.aload_n 0, 1) := by decide +kernel
theorem dX7_wordIn_62 : decode cX7_wordIn 62 = .ok (.getfield 25, 3) := by decide +kernel
theorem dX7_wordIn_65 : decode cX7_wordIn 65 = .ok (.iload 5, 2) := by decide +kernel
theorem dX7_wordIn_67 : decode cX7_wordIn 67 = .ok (.iadd, 1) := by decide +kernel
theorem dX7_wordIn_68 : decode cX7_wordIn 68 = .ok (.iaload, 1) := by decide +kernel
theorem dX7_wordIn_69 : decode cX7_wordIn 69 = .ok (.if_icmp .ne 9, 3) := by decide +kernel
theorem dX7_wordIn_72 : decode cX7_wordIn 72 = .ok (.iinc 5 1, 3) := by decide +kernel
theorem dX7_wordIn_75 : decode cX7_wordIn 75 = .ok (.goto (-38), 3) := by decide +kernel
theorem dX7_next_0 : decode cX7_next 0 = .ok (.aload_n 0, 1) := by decide +kernel
theorem dX7_next_1 : decode cX7_next 1 = .ok (.getfield 19, 3) := by decide +kernel
theorem dX7_next_4 : decode cX7_next 4 = .ok (.aload_n 0, 1) := by decide +kernel
theorem dX7_next_5 : decode cX7_next 5 = .ok (.getfield 22, 3) := by decide +kernel
theorem dX7_next_8 : decode cX7_next 8 = .ok (.if_icmp .ge 30, 3) := by decide +kernel
theorem dX7_next_38 : decode cX7_next 38 = .ok (.aload_n 0, 1) := by decide +kernel
theorem dX7_next_39 : decode cX7_next 39 = .ok (.aload_n 0, 1) := by decide +kernel
theorem dX7_next_40 : decode cX7_next 40 = .ok (.getfield 19, 3) := by decide +kernel
theorem dX7_next_43 : decode cX7_next 43 = .ok (.putfield 25, 3) := by decide +kernel
theorem dX7_next_46 : decode cX7_next 46 = .ok (.aload_n 0, 1) := by decide +kernel
theorem dX7_next_47 : decode cX7_next 47 = .ok (.iconst (-1), 1) := by decide +kernel
theorem dX7_next_48 : decode cX7_next 48 = .ok (.putfield 28, 3) := by decide +kernel
theorem dX7_next_51 : decode cX7_next 51 = .ok (.aload_n 0, 1) := by decide +kernel
theorem dX7_next_52 : decode cX7_next 52 = .ok (.getfield 19, 3) := by decide +kernel
theorem dX7_next_55 : decode cX7_next 55 = .ok (.aload_n 0, 1) := by decide +kernel
theorem dX7_next_56 : decode cX7_next 56 = .ok (.getfield 22, 3) := by decide +kernel
theorem dX7_next_59 : decode cX7_next 59 = .ok (.if_icmp .lt 11, 3) := by decide +kernel
theorem dX7_next_70 : decode cX7_next 70 = .ok (.aload_n 0, 1) := by decide +kernel
theorem dX7_next_71 : decode cX7_next 71 = .ok (.getfield 11, 3) := by decide +kernel
theorem dX7_next_74 : decode cX7_next 74 = .ok (.aload_n 0, 1) := by decide +kernel
theorem dX7_next_75 : decode cX7_next 75 = .ok (.getfield 19, 3) := by decide +kernel
theorem dX7_next_78 : decode cX7_next 78 = .ok (.iaload, 1) := by decide +kernel
theorem dX7_next_79 : decode cX7_next 79 = .ok (.istore_n 1, 1) := by decide +kernel
theorem dX7_next_80 : decode cX7_next 80 = .ok (.iload_n 1, 1) := by decide +kernel
theorem dX7_next_81 : decode cX7_next 81 = .ok (.invokestatic 34, 3) := by decide +kernel
theorem dX7_next_84 : decode cX7_next 84 = .ok (.ifCond .eq 105, 3) := by decide +kernel
theorem dX7_next_189 : decode cX7_next 189 = .ok (.iload_n 1, 1) := by decide +kernel
theorem dX7_next_190 : decode cX7_next 190 = .ok (.bipush 39, 2) := by decide +kernel
theorem dX7_next_192 : decode cX7_next 192 = .ok (.if_icmp .ne 10, 3) := by decide +kernel
theorem dX7_next_202 : decode cX7_next 202 = .ok (.iload_n 1, 1) := by decide +kernel
theorem dX7_next_203 : decode cX7_next 203 = .ok (.bipush 36, 2) := by decide +kernel
theorem dX7_next_205 : decode cX7_next 205 = .ok (.if_icmp .ne 23, 3) := by decide +kernel
theorem dX7_next_228 : decode cX7_next 228 = .ok (.iload_n 1, 1) := by decide +kernel
theorem dX7_next_229 : decode cX7_next 229 = .ok (.invokestatic 69, 3) := by decide +kernel
theorem dX7_next_232 : decode cX7_next 232 = .ok (.iconst (-1), 1) := by decide +kernel
theorem dX7_next_233 : decode cX7_next 233 = .ok (.if_icmp .eq 13, 3) := by decide +kernel
theorem dX7_next_246 : decode cX7_next 246 = .ok (.aload_n 0, 1) := by decide +kernel
theorem dX7_next_247 : decode cX7_next 247 = .ok (.dup, 1) := by decide +kernel
theorem dX7_next_248 : decode cX7_next 248 = .ok (.getfield 19, 3) := by decide +kernel
theorem dX7_next_251 : decode cX7_next 251 = .ok (.iconst 1, 1) := by decide +kernel
theorem dX7_next_252 : decode cX7_next 252 = .ok (.iadd, 1) := by decide +kernel
theorem dX7_next_253 : decode cX7_next 253 = .ok (.putfield 19, 3) := by decide +kernel
theorem dX7_next_256 : decode cX7_next 256 = .ok (.aload_n 0, 1) := by decide +kernel
theorem dX7_next_257 : decode cX7_next 257 = .ok (.ldc 73, 2) := by decide +kernel
theorem dX7_next_259 : decode cX7_next 259 = .ok (.iload_n 1, 1) := by decide +kernel
theorem dX7_next_260 : decode cX7_next 260 = .ok (.i2c, 1) := by decide +kernel
theorem dX7_next_261 : decode cX7_next 261 = .ok (.invokevirtual 75, 3) := by decide +kernel
theorem dX7_next_264 : decode cX7_next 264 = .ok (.ifCond .lt 7, 3) := by decide +kernel
theorem dX7_next_271 : decode cX7_next 271 = .ok (.sipush 260, 3) := by decide +kernel
theorem dX7_next_274 : decode cX7_next 274 = .ok (.putfield 31, 3) := by decide +kernel
theorem dX7_next_277 : decode cX7_next 277 = .ok (.return_, 1) := by decide +kernel
theorem dX7_next_267 : decode cX7_next 267 = .ok (.iload_n 1, 1) := by decide +kernel
theorem dX7_next_268 : decode cX7_next 268 = .ok (.goto 6, 3) := by decide +kernel
theorem dX7_next_236 : decode cX7_next 236 = .ok (.aload_n 0, 1) := by decide +kernel
theorem dX7_next_237 : decode cX7_next 237 = .ok (.bipush 10, 2) := by decide +kernel
theorem dX7_next_239 : decode cX7_next 239 = .ok (.iconst 5, 1) := by decide +kernel
theorem dX7_next_240 : decode cX7_next 240 = .ok (.invokevirtual 65, 3) := by decide +kernel
theorem dX7_next_243 : decode cX7_next 243 = .ok (.goto 34, 3) := by decide +kernel
theorem dX7_next_208 : decode cX7_next 208 = .ok (.aload_n 0, 1) := by decide +kernel
theorem dX7_next_209 : decode cX7_next 209 = .ok (.dup, 1) := by decide +kernel
theorem dX7_next_210 : decode cX7_next 210 = .ok (.getfield 19, 3) := by decide +kernel
theorem dX7_next_213 : decode cX7_next 213 = .ok (.iconst 1, 1) := by decide +kernel
theorem dX7_next_214 : decode cX7_next 214 = .ok (.iadd, 1) := by decide +kernel
theorem dX7_next_215 : decode cX7_next 215 = .ok (.putfield 19, 3) := by decide +kernel
theorem dX7_next_218 : decode cX7_next 218 = .ok (.aload_n 0, 1) := by decide +kernel
theorem dX7_next_219 : decode cX7_next 219 = .ok (.bipush 16, 2) := by decide +kernel
theorem dX7_next_221 : decode cX7_next 221 = .ok (.iconst 4, 1) := by decide +kernel
theorem dX7_next_222 : decode cX7_next 222 = .ok (.invokevirtual 65, 3) := by decide +kernel
theorem dX7_next_225 : decode cX7_next 225 = .ok (.goto 52, 3) := by decide +kernel
theorem dX7_next_195 : decode cX7_next 195 = .ok (.aload_n 0, 1) := by decide +kernel
theorem dX7_next_196 : decode cX7_next 196 = .ok (.invokevirtual 62, 3) := by decide +kernel
theorem dX7_next_199 : decode cX7_next 199 = .ok (.goto 78, 3) := by decide +kernel
theorem dX7_next_87 : decode cX7_next 87 = .ok (.aload_n 0, 1) := by decide +kernel
theorem dX7_next_88 : decode cX7_next 88 = .ok (.invokevirtual 38, 3) := by decide +kernel
theorem dX7_next_91 : decode cX7_next 91 = .ok (.aload_n 0, 1) := by decide +kernel
theorem dX7_next_92 : decode cX7_next 92 = .ok (.getfield 31, 3) := by decide +kernel
theorem dX7_next_95 : decode cX7_next 95 = .ok (.sipush 257, 3) := by decide +kernel
theorem dX7_next_98 : decode cX7_next 98 = .ok (.if_icmp .ne 179, 3) := by decide +kernel
theorem dX7_next_101 : decode cX7_next 101 = .ok (.aload_n 0, 1) := by decide +kernel
theorem dX7_next_102 : decode cX7_next 102 = .ok (.aload_n 0, 1) := by decide +kernel
theorem dX7_next_103 : decode cX7_next 103 = .ok (.ldc 41, 2) := by decide +kernel
theorem dX7_next_105 : decode cX7_next 105 = .ok (.iconst 3, 1) := by decide +kernel
theorem dX7_next_106 : decode cX7_next 106 = .ok (.iconst 0, 1) := by decide +kernel
theorem dX7_next_107 : decode cX7_next 107 = .ok (.invokevirtual 43, 3) := by decide +kernel
theorem dX7_next_110 : decode cX7_next 110 = .ok (.aload_n 0, 1) := by decide +kernel
theorem dX7_next_111 : decode cX7_next 111 = .ok (.ldc 47, 2) := by decide +kernel
theorem dX7_next_113 : decode cX7_next 113 = .ok (.iconst 3, 1) := by decide +kernel
theorem dX7_next_114 : decode cX7_next 114 = .ok (.bipush 32, 2) := by decide +kernel
theorem dX7_next_116 : decode cX7_next 116 = .ok (.invokevirtual 43, 3) := by decide +kernel
theorem dX7_next_119 : decode cX7_next 119 = .ok (.invokestatic 49, 3) := by decide +kernel
theorem dX7_next_122 : decode cX7_next 122 = .ok (.putfield 55, 3) := by decide +kernel
theorem dX7_next_125 : decode cX7_next 125 = .ok (.aload_n 0, 1) := by decide +kernel
theorem dX7_next_126 : decode cX7_next 126 = .ok (.aload_n 0, 1) := by decide +kernel
theorem dX7_next_127 : decode cX7_next 127 = .ok (.getfield 55, 3) := by decide +kernel
theorem dX7_next_130 : decode cX7_next 130 = .ok (.aload_n 0, 1) := by decide +kernel
theorem dX7_next_131 : decode cX7_next 131 = .ok (.ldc 58, 2) := by decide +kernel
theorem dX7_next_133 : decode cX7_next 133 = .ok (.iconst 3, 1) := by decide +kernel
theorem dX7_next_134 : decode cX7_next 134 = .ok (.bipush 48, 2) := by decide +kernel
theorem dX7_next_136 : decode cX7_next 136 = .ok (.invokevirtual 43, 3) := by decide +kernel
theorem dX7_next_139 : decode cX7_next 139 = .ok (.invokestatic 49, 3) := by decide +kernel
theorem dX7_next_142 : decode cX7_next 142 = .ok (.putfield 55, 3) := by decide +kernel
theorem dX7_next_145 : decode cX7_next 145 = .ok (.aload_n 0, 1) := by decide +kernel
theorem dX7_next_146 : decode cX7_next 146 = .ok (.aload_n 0, 1) := by decide +kernel
theorem dX7_next_147 : decode cX7_next 147 = .ok (.getfield 55, 3) := by decide +kernel
theorem dX7_next_150 : decode cX7_next 150 = .ok (.aload_n 0, 1) := by decide +kernel
theorem dX7_next_151 : decode cX7_next 151 = .ok (.ldc 60, 2) := by decide +kernel
theorem dX7_next_153 : decode cX7_next 153 = .ok (.iconst 5, 1) := by decide +kernel
theorem dX7_next_154 : decode cX7_next 154 = .ok (.bipush 80, 2) := by decide +kernel
theorem dX7_next_156 : decode cX7_next 156 = .ok (.invokevirtual 43, 3) := by decide +kernel
theorem dX7_next_159 : decode cX7_next 159 = .ok (.invokestatic 49, 3) := by decide +kernel
theorem dX7_next_162 : decode cX7_next 162 = .ok (.putfield 55, 3) := by decide +kernel
theorem dX7_next_165 : decode cX7_next 165 = .ok (.aload_n 0, 1) := by decide +kernel
theorem dX7_next_166 : decode cX7_next 166 = .ok (.aload_n 0, 1) := by decide +kernel
theorem dX7_next_167 : decode cX7_next 167 = .ok (.getfield 55, 3) := by decide +kernel
theorem dX7_next_170 : decode cX7_next 170 = .ok (.iconst (-1), 1) := by decide +kernel
theorem dX7_next_171 : decode cX7_next 171 = .ok (.if_icmp .ne 9, 3) := by decide +kernel
theorem dX7_next_180 : decode cX7_next 180 = .ok (.sipush 258, 3) := by decide +kernel
theorem dX7_next_183 : decode cX7_next 183 = .ok (.putfield 31, 3) := by decide +kernel
theorem dX7_next_186 : decode cX7_next 186 = .ok (.goto 91, 3) := by decide +kernel
theorem dX7_next_174 : decode cX7_next 174 = .ok (.sipush 257, 3) := by decide +kernel
theorem dX7_next_177 : decode cX7_next 177 = .ok (.goto 6, 3) := by decide +kernel
theorem dX7_next_62 : decode cX7_next 62 = .ok (.aload_n 0, 1) := by decide +kernel
theorem dX7_next_63 : decode cX7_next 63 = .ok (.sipush 256, 3) := by decide +kernel
theorem dX7_next_66 : decode cX7_next 66 = .ok (.putfield 31, 3) := by decide +kernel
theorem dX7_next_69 : decode cX7_next 69 = .ok (.return_, 1) := by decide +kernel
theorem dX7_next_11 : decode cX7_next 11 = .ok (.aload_n 0, 1) := by decide +kernel
theorem dX7_next_12 : decode cX7_next 12 = .ok (.getfield 11, 3) := by decide +kernel
theorem dX7_next_15 : decode cX7_next 15 = .ok (.aload_n 0, 1) := by decide +kernel
theorem dX7_next_16 : decode cX7_next 16 = .ok (.getfield 19, 3) := by decide +kernel
theorem dX7_next_19 : decode cX7_next 19 = .ok (.iaload, 1) := by decide +kernel
theorem dX7_next_20 : decode cX7_next 20 = .ok (.bipush 32, 2) := by decide +kernel
theorem dX7_next_22 : decode cX7_next 22 = .ok (.if_icmp .ne 16, 3) := by decide +kernel
theorem dX7_next_25 : decode cX7_next 25 = .ok (.aload_n 0, 1) := by decide +kernel
theorem dX7_next_26 : decode cX7_next 26 = .ok (.dup, 1) := by decide +kernel
theorem dX7_next_27 : decode cX7_next 27 = .ok (.getfield 19, 3) := by decide +kernel
theorem dX7_next_30 : decode cX7_next 30 = .ok (.iconst 1, 1) := by decide +kernel
theorem dX7_next_31 : decode cX7_next 31 = .ok (.iadd, 1) := by decide +kernel
theorem dX7_next_32 : decode cX7_next 32 = .ok (.putfield 19, 3) := by decide +kernel
theorem dX7_next_35 : decode cX7_next 35 = .ok (.goto (-35), 3) := by decide +kernel
set_option maxHeartbeats 4000000 in
set_option maxRecDepth 100000 in
theorem c_s_wordIn3 (l : Launch) (D : va_G) (cA cB : ClassId) (h0 : Nat) (htb : Nat) (ln : Nat) (le : Nat) (ax : Nat) (kd : Int32) (pl : Nat) (lt : Nat) (vl : Int32) (ms : Int32) (tz : Nat → Int32) (i9 : Nat) (f0 : Int32) (hln : ln < 6001) (hle : le < 6001) (hax : ax < 6001) (hpl : pl < 6010) (hlt : lt < 6010) (htz : ∀ j, j < 6000 → ∃ k : Nat, k < 256 ∧ tz j = nI k) (hi9 : i9 < 5) (hpl2 : pl + lt ≤ 6000) : CI l yX7_wordIn cX7_wordIn 6 (some .int) 4 85 0 0 D cA cB [.ref h0, .ref (aK D i9), .int 3, .int f0] [(h0, .inr (7, [.ref htb, .int (nI ln), .int (nI le), .int (nI ax), .int kd, .int (nI pl), .int (nI lt), .int vl, .int ms])), (htb, .inl (cA, 6000, .inl tz))] (fun r W1 => ∃ (rv : Int32), r = rv ∧ W1 = [(h0, .inr (7, [.ref htb, .int (nI ln), .int (nI le), .int (nI ax), .int kd, .int (nI pl), .int (nI lt), .int vl, .int ms])), (htb, .inl (cA, 6000, .inl tz))]) := by
  refine mkI (lv0 := [(0, .ref h0), (1, .ref (aK D i9)), (2, .int 3), (3, .int f0)]) (by decide) (Nat.le_of_ble_eq_true rfl) rfl ?_
  intro p e s m below meth c A ls X hr hlocks hnm hE hA hP hD hS hl
  have hx := X.1
  have hb := X.2.1
  refine qW (fun Q9 hQ9 => ?_)
  have hsl := sl_le i9 (by omega)
  refine lv_aload_n hx hb dX7_wordIn_0 rfl (lv_at hl 0 rfl) ?_
  refine k_get (C := RX7) (T := TX7) (N := 9) (ci := 7) (v := .int (nI lt)) X hE hP 0 rfl rfl iX7 6 (by decide) w_377 rfl dX7_wordIn_1 ?_
  refine lv_iconst (v := 3) hx hb dX7_wordIn_4 (by decide) ?_
  refine lv_icmp_lt (tgt := 16) hx hb dX7_wordIn_5 (by decide) (fun c_5_1 => ?_) (fun c_5_1 => ?_)
  · have nc_5_1 : lt < 3 := (nI_ltI (a := lt) (b := 3) (by omega) (by omega)).mp c_5_1
    refine lv_iconst (v := (-1)) hx hb dX7_wordIn_16 (by decide) ?_
    rw [hQ9]
    exact endI X hr hlocks hP hD hS dX7_wordIn_17 ⟨(-1), rfl, rfl⟩
  · have nc_5_1 : 3 ≤ lt := Nat.not_lt.mp (fun q => c_5_1 ((nI_ltI (a := lt) (b := 3) (by omega) (by omega)).mpr q))
    refine lv_aload_n hx hb dX7_wordIn_8 rfl (lv_at hl 0 rfl) ?_
    refine k_get (C := RX7) (T := TX7) (N := 9) (ci := 7) (v := .int (nI lt)) X hE hP 0 rfl rfl iX7 6 (by decide) w_377 rfl dX7_wordIn_9 ?_
    refine lv_iload_n hx hb dX7_wordIn_12 rfl (lv_at hl 2 rfl) ?_
    refine lv_icmp_le (tgt := 18) hx hb dX7_wordIn_13 (by decide) (fun c_13_2 => ?_) (fun c_13_2 => ?_)
    · have nc_13_2 : lt ≤ 3 := (nI_leI (a := lt) (b := 3) (by omega) (by omega)).mp c_13_2
      refine lv_iconst (v := 0) hx hb dX7_wordIn_18 (by decide) ?_
      refine lv_istore (lv' := [(4, .int 0), (0, .ref h0), (1, .ref (aK D i9)), (2, .int 3), (3, .int f0)]) hx hb dX7_wordIn_19 hl (by decide) rfl (fun ls hl => ?_)
      have loop_21 : ∀ (n : Nat) (k4 : Nat), (k4 < 98) → 98 - k4 < n → ∀ (H : Heap) (locs : List Loc), va_P D classes [(h0, .inr (7, [.ref htb, .int (nI ln), .int (nI le), .int (nI ax), .int kd, .int (nI pl), .int (nI lt), .int vl, .int ms])), (htb, .inl (cA, 6000, .inl tz))] H → va_D A [(h0, .inr (7, [.ref htb, .int (nI ln), .int (nI le), .int (nI ax), .int kd, .int (nI pl), .int (nI lt), .int vl, .int ms])), (htb, .inl (cA, 6000, .inl tz))] → va_S A s.heap H locs → ∀ ls : Array Slot, lv_has ls 6 [(0, .ref h0), (1, .ref (aK D i9)), (2, .int 3), (3, .int f0), (4, .int (nI k4))] → W p l e { frames := 4, cells := 0, slots := 0, locals := 85 } s m (List.toArray [.ref h0, .ref (aK D i9), .int 3, .int f0]) below meth c H locs 0 0 Q9 (F0 m 21 ls []) := by
        intro n
        induction n with
        | zero => intro k4 hk4 hfuel; exact absurd hfuel (by omega)
        | succ n ih_21 =>
          intro k4 hk4 hfuel H locs hP hD hS ls hl
          refine lv_iload_n hx hb dX7_wordIn_21 rfl (lv_at hl 2 rfl) ?_
          refine lv_iload hx hb dX7_wordIn_22 (lv_at hl 4 rfl) ?_
          refine lv_iconst (v := 1) hx hb dX7_wordIn_24 (by decide) ?_
          refine lv_iadd hx hb dX7_wordIn_25 ?_
          refine tk (y := nI (k4 + 1)) (nI_add k4 1) ?_
          refine lv_imul hx hb dX7_wordIn_26 ?_
          refine tk (y := nI (3 * (k4 + 1))) (pk_mul 3 (k4 + 1)) ?_
          refine lv_aload_n hx hb dX7_wordIn_27 rfl (lv_at hl 1 rfl) ?_
          refine kVsi (n3 := 0) (As := []) (rest := [.int (nI (3 * (k4 + 1)))]) X hl.1 hE hP hD hS hA [0, 1] rfl (by decide) (c_s_length l D cA cB i9 (by first | assumption | omega | decide | rfl)) w_449 w_421 w_471 w_450 w_451 ((e_str hE).1 i9 (by omega : i9 < 5)).1 (by decide +kernel) rfl rfl (Nat.le_of_ble_eq_true rfl) ⟨(Nat.le_of_ble_eq_true rfl), (Nat.le_of_ble_eq_true rfl)⟩ ⟨(Nat.le_of_ble_eq_true rfl), (Nat.le_of_ble_eq_true rfl)⟩ dX7_wordIn_28 (fun r W1 H locs hw hP hD hS => ?_)
          obtain ⟨rfl, rfl⟩ := hw
          have hP : va_P D classes [(h0, .inr (7, [.ref htb, .int (nI ln), .int (nI le), .int (nI ax), .int kd, .int (nI pl), .int (nI lt), .int vl, .int ms])), (htb, .inl (cA, 6000, .inl tz))] H := hP
          have hD : va_D A [(h0, .inr (7, [.ref htb, .int (nI ln), .int (nI le), .int (nI ax), .int kd, .int (nI pl), .int (nI lt), .int vl, .int ms])), (htb, .inl (cA, 6000, .inl tz))] := hD
          refine lv_icmp_gt (tgt := 120) hx hb dX7_wordIn_31 (by decide) (fun c_31_3 => ?_) (fun c_31_3 => ?_)
          · have nc_31_3 : (sl i9) < (3 * (k4 + 1)) := (nI_ltI (a := sl i9) (b := 3 * (k4 + 1)) (by omega) (by omega)).mp c_31_3
            refine lv_iconst (v := (-1)) hx hb dX7_wordIn_120 (by decide) ?_
            rw [hQ9]
            exact endI X hr hlocks hP hD hS dX7_wordIn_121 ⟨(-1), rfl, rfl⟩
          · have nc_31_3 : (3 * (k4 + 1)) ≤ (sl i9) := Nat.not_lt.mp (fun q => c_31_3 ((nI_ltI (a := sl i9) (b := 3 * (k4 + 1)) (by omega) (by omega)).mpr q))
            refine lv_iconst (v := 0) hx hb dX7_wordIn_34 (by decide) ?_
            refine lv_istore (lv' := [(5, .int 0), (0, .ref h0), (1, .ref (aK D i9)), (2, .int 3), (3, .int f0), (4, .int (nI k4))]) hx hb dX7_wordIn_35 hl (by decide) rfl (fun ls hl => ?_)
            have loop_37 : ∀ (n : Nat) (j5 : Nat), (j5 < 6011) → (j5 ≤ lt) → lt + 1 - j5 < n → ∀ (H : Heap) (locs : List Loc), va_P D classes [(h0, .inr (7, [.ref htb, .int (nI ln), .int (nI le), .int (nI ax), .int kd, .int (nI pl), .int (nI lt), .int vl, .int ms])), (htb, .inl (cA, 6000, .inl tz))] H → va_D A [(h0, .inr (7, [.ref htb, .int (nI ln), .int (nI le), .int (nI ax), .int kd, .int (nI pl), .int (nI lt), .int vl, .int ms])), (htb, .inl (cA, 6000, .inl tz))] → va_S A s.heap H locs → ∀ ls : Array Slot, lv_has ls 6 [(0, .ref h0), (1, .ref (aK D i9)), (2, .int 3), (3, .int f0), (4, .int (nI k4)), (5, .int (nI j5))] → W p l e { frames := 4, cells := 0, slots := 0, locals := 85 } s m (List.toArray [.ref h0, .ref (aK D i9), .int 3, .int f0]) below meth c H locs 0 0 Q9 (F0 m 37 ls []) := by
              intro n
              induction n with
              | zero => intro j5 hj5 hj6 hfuel; exact absurd hfuel (by omega)
              | succ n ih_37 =>
                intro j5 hj5 hj6 hfuel H locs hP hD hS ls hl
                refine lv_iload hx hb dX7_wordIn_37 (lv_at hl 5 rfl) ?_
                refine lv_aload_n hx hb dX7_wordIn_39 rfl (lv_at hl 0 rfl) ?_
                refine k_get (C := RX7) (T := TX7) (N := 9) (ci := 7) (v := .int (nI lt)) X hE hP 0 rfl rfl iX7 6 (by decide) w_377 rfl dX7_wordIn_40 ?_
                refine lv_icmp_ge (tgt := 78) hx hb dX7_wordIn_43 (by decide) (fun c_43_4 => ?_) (fun c_43_4 => ?_)
                · have nc_43_4 : lt ≤ j5 := (nI_leI (a := lt) (b := j5) (by omega) (by omega)).mp c_43_4
                  refine lv_iload hx hb dX7_wordIn_78 (lv_at hl 5 rfl) ?_
                  refine lv_aload_n hx hb dX7_wordIn_80 rfl (lv_at hl 0 rfl) ?_
                  refine k_get (C := RX7) (T := TX7) (N := 9) (ci := 7) (v := .int (nI lt)) X hE hP 0 rfl rfl iX7 6 (by decide) w_377 rfl dX7_wordIn_81 ?_
                  refine lv_icmp_ne (tgt := 114) hx hb dX7_wordIn_84 (by decide) (fun c_84_5 => ?_) (fun c_84_5 => ?_)
                  · have nc_84_5 : ¬ j5 = lt := fun q => c_84_5 ((nI_eq (a := j5) (b := lt) (by omega) (by omega)).mpr q)
                    refine lv_iinc (v := nI (k4 + 1)) (lv' := [(4, .int (nI (k4 + 1))), (0, .ref h0), (1, .ref (aK D i9)), (2, .int 3), (3, .int f0), (5, .int (nI j5))]) hx hb dX7_wordIn_114 hl (k := 4) rfl (nI_1 k4) (by decide) rfl (fun ls hl => ?_)
                    refine lv_goto (tgt := 21) hx hb dX7_wordIn_117 (by decide) ?_
                    exact ih_21 (k4 + 1) (by omega) (by omega) _ _ hP hD hS ls (lv_sub hl [1, 2, 3, 4, 0] rfl)
                  · have nc_84_5 : j5 = lt := (nI_eq (a := j5) (b := lt) (by omega) (by omega)).mp c_84_5
                    refine lv_iload hx hb dX7_wordIn_87 (lv_at hl 5 rfl) ?_
                    refine lv_iload_n hx hb dX7_wordIn_89 rfl (lv_at hl 2 rfl) ?_
                    refine lv_icmp_eq (tgt := 109) hx hb dX7_wordIn_90 (by decide) (fun c_90_6 => ?_) (fun c_90_6 => ?_)
                    · have nc_90_6 : j5 = 3 := (nI_eq (a := j5) (b := 3) (by omega) (by omega)).mp c_90_6
                      refine lv_iload_n hx hb dX7_wordIn_109 rfl (lv_at hl 3 rfl) ?_
                      refine lv_iload hx hb dX7_wordIn_110 (lv_at hl 4 rfl) ?_
                      refine lv_iadd hx hb dX7_wordIn_112 ?_
                      rw [hQ9]
                      exact endI X hr hlocks hP hD hS dX7_wordIn_113 ⟨(f0 + (nI k4)), rfl, rfl⟩
                    · have nc_90_6 : ¬ j5 = 3 := fun q => c_90_6 ((nI_eq (a := j5) (b := 3) (by omega) (by omega)).mpr q)
                      refine lv_aload_n hx hb dX7_wordIn_93 rfl (lv_at hl 1 rfl) ?_
                      refine lv_iload_n hx hb dX7_wordIn_94 rfl (lv_at hl 2 rfl) ?_
                      refine lv_iload hx hb dX7_wordIn_95 (lv_at hl 4 rfl) ?_
                      refine lv_imul hx hb dX7_wordIn_97 ?_
                      refine tk (y := nI (3 * k4)) (pk_mul 3 k4) ?_
                      refine lv_iload hx hb dX7_wordIn_98 (lv_at hl 5 rfl) ?_
                      refine lv_iadd hx hb dX7_wordIn_100 ?_
                      refine tk (y := nI (3 * k4 + j5)) (nI_add (3 * k4) j5) ?_
                      refine kVsi (n3 := 1) (As := [.int (nI (3 * k4 + j5))]) (rest := []) X hl.1 hE hP hD hS hA [0, 1] rfl (by decide) (c_s_charAt l D cA cB i9 (3 * k4 + j5) (by first | assumption | omega | decide | rfl) (by first | assumption | omega | decide | rfl)) w_473 w_421 w_472 w_474 w_475 ((e_str hE).1 i9 (by omega : i9 < 5)).1 (by decide +kernel) rfl rfl (Nat.le_of_ble_eq_true rfl) ⟨(Nat.le_of_ble_eq_true rfl), (Nat.le_of_ble_eq_true rfl)⟩ ⟨(Nat.le_of_ble_eq_true rfl), (Nat.le_of_ble_eq_true rfl)⟩ dX7_wordIn_101 (fun r W1 H locs hw hP hD hS => ?_)
                      obtain ⟨rk_7, rfl, hf_8, rfl⟩ := hw
                      have hP : va_P D classes [(h0, .inr (7, [.ref htb, .int (nI ln), .int (nI le), .int (nI ax), .int kd, .int (nI pl), .int (nI lt), .int vl, .int ms])), (htb, .inl (cA, 6000, .inl tz))] H := hP
                      have hD : va_D A [(h0, .inr (7, [.ref htb, .int (nI ln), .int (nI le), .int (nI ax), .int kd, .int (nI pl), .int (nI lt), .int vl, .int ms])), (htb, .inl (cA, 6000, .inl tz))] := hD
                      refine lv_bipush (v := 32) hx hb dX7_wordIn_104 (by decide) ?_
                      refine lv_icmp_ne (tgt := 114) hx hb dX7_wordIn_106 (by decide) (fun c_106_9 => ?_) (fun c_106_9 => ?_)
                      · have nc_106_9 : ¬ rk_7 = 32 := fun q => c_106_9 ((nI_eq (a := rk_7) (b := 32) (by omega) (by omega)).mpr q)
                        refine lv_iinc (v := nI (k4 + 1)) (lv' := [(4, .int (nI (k4 + 1))), (0, .ref h0), (1, .ref (aK D i9)), (2, .int 3), (3, .int f0), (5, .int (nI j5))]) hx hb dX7_wordIn_114 hl (k := 4) rfl (nI_1 k4) (by decide) rfl (fun ls hl => ?_)
                        refine lv_goto (tgt := 21) hx hb dX7_wordIn_117 (by decide) ?_
                        exact ih_21 (k4 + 1) (by omega) (by omega) _ _ hP hD hS ls (lv_sub hl [1, 2, 3, 4, 0] rfl)
                      · have nc_106_9 : rk_7 = 32 := (nI_eq (a := rk_7) (b := 32) (by omega) (by omega)).mp c_106_9
                        refine lv_iload_n hx hb dX7_wordIn_109 rfl (lv_at hl 3 rfl) ?_
                        refine lv_iload hx hb dX7_wordIn_110 (lv_at hl 4 rfl) ?_
                        refine lv_iadd hx hb dX7_wordIn_112 ?_
                        rw [hQ9]
                        exact endI X hr hlocks hP hD hS dX7_wordIn_113 ⟨(f0 + (nI k4)), rfl, rfl⟩
                · have nc_43_4 : j5 < lt := Nat.not_le.mp (fun q => c_43_4 ((nI_leI (a := lt) (b := j5) (by omega) (by omega)).mpr q))
                  refine lv_aload_n hx hb dX7_wordIn_46 rfl (lv_at hl 1 rfl) ?_
                  refine lv_iload_n hx hb dX7_wordIn_47 rfl (lv_at hl 2 rfl) ?_
                  refine lv_iload hx hb dX7_wordIn_48 (lv_at hl 4 rfl) ?_
                  refine lv_imul hx hb dX7_wordIn_50 ?_
                  refine tk (y := nI (3 * k4)) (pk_mul 3 k4) ?_
                  refine lv_iload hx hb dX7_wordIn_51 (lv_at hl 5 rfl) ?_
                  refine lv_iadd hx hb dX7_wordIn_53 ?_
                  refine tk (y := nI (3 * k4 + j5)) (nI_add (3 * k4) j5) ?_
                  refine kVsi (n3 := 1) (As := [.int (nI (3 * k4 + j5))]) (rest := []) X hl.1 hE hP hD hS hA [0, 1] rfl (by decide) (c_s_charAt l D cA cB i9 (3 * k4 + j5) (by first | assumption | omega | decide | rfl) (by first | assumption | omega | decide | rfl)) w_473 w_421 w_472 w_474 w_475 ((e_str hE).1 i9 (by omega : i9 < 5)).1 (by decide +kernel) rfl rfl (Nat.le_of_ble_eq_true rfl) ⟨(Nat.le_of_ble_eq_true rfl), (Nat.le_of_ble_eq_true rfl)⟩ ⟨(Nat.le_of_ble_eq_true rfl), (Nat.le_of_ble_eq_true rfl)⟩ dX7_wordIn_54 (fun r W1 H locs hw hP hD hS => ?_)
                  obtain ⟨rk_10, rfl, hf_11, rfl⟩ := hw
                  have hP : va_P D classes [(h0, .inr (7, [.ref htb, .int (nI ln), .int (nI le), .int (nI ax), .int kd, .int (nI pl), .int (nI lt), .int vl, .int ms])), (htb, .inl (cA, 6000, .inl tz))] H := hP
                  have hD : va_D A [(h0, .inr (7, [.ref htb, .int (nI ln), .int (nI le), .int (nI ax), .int kd, .int (nI pl), .int (nI lt), .int vl, .int ms])), (htb, .inl (cA, 6000, .inl tz))] := hD
                  refine lv_aload_n hx hb dX7_wordIn_57 rfl (lv_at hl 0 rfl) ?_
                  refine k_get (C := RX7) (T := TX7) (N := 9) (ci := 7) (v := .ref htb) X hE hP 0 rfl rfl iX7 0 (by decide) w_368 rfl dX7_wordIn_58 ?_
                  refine lv_aload_n hx hb dX7_wordIn_61 rfl (lv_at hl 0 rfl) ?_
                  refine k_get (C := RX7) (T := TX7) (N := 9) (ci := 7) (v := .int (nI pl)) X hE hP 0 rfl rfl iX7 5 (by decide) w_376 rfl dX7_wordIn_62 ?_
                  refine lv_iload hx hb dX7_wordIn_65 (lv_at hl 5 rfl) ?_
                  refine lv_iadd hx hb dX7_wordIn_67 ?_
                  refine tk (y := nI (pl + j5)) (nI_add pl j5) ?_
                  obtain ⟨k_12, hk_12, ek_12⟩ := htz (pl + j5) (by omega)
                  refine k_ald (v := nI k_12) X hE hP 1 rfl (pl + j5) rfl (by omega) (by decide) ek_12 dX7_wordIn_68 ?_
                  refine lv_icmp_ne (tgt := 78) hx hb dX7_wordIn_69 (by decide) (fun c_69_13 => ?_) (fun c_69_13 => ?_)
                  · have nc_69_13 : ¬ rk_10 = k_12 := fun q => c_69_13 ((nI_eq (a := rk_10) (b := k_12) (by omega) (by omega)).mpr q)
                    refine lv_iload hx hb dX7_wordIn_78 (lv_at hl 5 rfl) ?_
                    refine lv_aload_n hx hb dX7_wordIn_80 rfl (lv_at hl 0 rfl) ?_
                    refine k_get (C := RX7) (T := TX7) (N := 9) (ci := 7) (v := .int (nI lt)) X hE hP 0 rfl rfl iX7 6 (by decide) w_377 rfl dX7_wordIn_81 ?_
                    refine lv_icmp_ne (tgt := 114) hx hb dX7_wordIn_84 (by decide) (fun c_84_14 => ?_) (fun c_84_14 => ?_)
                    · have nc_84_14 : ¬ j5 = lt := fun q => c_84_14 ((nI_eq (a := j5) (b := lt) (by omega) (by omega)).mpr q)
                      refine lv_iinc (v := nI (k4 + 1)) (lv' := [(4, .int (nI (k4 + 1))), (0, .ref h0), (1, .ref (aK D i9)), (2, .int 3), (3, .int f0), (5, .int (nI j5))]) hx hb dX7_wordIn_114 hl (k := 4) rfl (nI_1 k4) (by decide) rfl (fun ls hl => ?_)
                      refine lv_goto (tgt := 21) hx hb dX7_wordIn_117 (by decide) ?_
                      exact ih_21 (k4 + 1) (by omega) (by omega) _ _ hP hD hS ls (lv_sub hl [1, 2, 3, 4, 0] rfl)
                    · have nc_84_14 : j5 = lt := (nI_eq (a := j5) (b := lt) (by omega) (by omega)).mp c_84_14
                      refine lv_iload hx hb dX7_wordIn_87 (lv_at hl 5 rfl) ?_
                      refine lv_iload_n hx hb dX7_wordIn_89 rfl (lv_at hl 2 rfl) ?_
                      refine lv_icmp_eq (tgt := 109) hx hb dX7_wordIn_90 (by decide) (fun c_90_15 => ?_) (fun c_90_15 => ?_)
                      · have nc_90_15 : j5 = 3 := (nI_eq (a := j5) (b := 3) (by omega) (by omega)).mp c_90_15
                        refine lv_iload_n hx hb dX7_wordIn_109 rfl (lv_at hl 3 rfl) ?_
                        refine lv_iload hx hb dX7_wordIn_110 (lv_at hl 4 rfl) ?_
                        refine lv_iadd hx hb dX7_wordIn_112 ?_
                        rw [hQ9]
                        exact endI X hr hlocks hP hD hS dX7_wordIn_113 ⟨(f0 + (nI k4)), rfl, rfl⟩
                      · have nc_90_15 : ¬ j5 = 3 := fun q => c_90_15 ((nI_eq (a := j5) (b := 3) (by omega) (by omega)).mpr q)
                        refine lv_aload_n hx hb dX7_wordIn_93 rfl (lv_at hl 1 rfl) ?_
                        refine lv_iload_n hx hb dX7_wordIn_94 rfl (lv_at hl 2 rfl) ?_
                        refine lv_iload hx hb dX7_wordIn_95 (lv_at hl 4 rfl) ?_
                        refine lv_imul hx hb dX7_wordIn_97 ?_
                        refine tk (y := nI (3 * k4)) (pk_mul 3 k4) ?_
                        refine lv_iload hx hb dX7_wordIn_98 (lv_at hl 5 rfl) ?_
                        refine lv_iadd hx hb dX7_wordIn_100 ?_
                        refine tk (y := nI (3 * k4 + j5)) (nI_add (3 * k4) j5) ?_
                        refine kVsi (n3 := 1) (As := [.int (nI (3 * k4 + j5))]) (rest := []) X hl.1 hE hP hD hS hA [0, 1] rfl (by decide) (c_s_charAt l D cA cB i9 (3 * k4 + j5) (by first | assumption | omega | decide | rfl) (by first | assumption | omega | decide | rfl)) w_473 w_421 w_472 w_474 w_475 ((e_str hE).1 i9 (by omega : i9 < 5)).1 (by decide +kernel) rfl rfl (Nat.le_of_ble_eq_true rfl) ⟨(Nat.le_of_ble_eq_true rfl), (Nat.le_of_ble_eq_true rfl)⟩ ⟨(Nat.le_of_ble_eq_true rfl), (Nat.le_of_ble_eq_true rfl)⟩ dX7_wordIn_101 (fun r W1 H locs hw hP hD hS => ?_)
                        obtain ⟨rk_16, rfl, hf_17, rfl⟩ := hw
                        have hP : va_P D classes [(h0, .inr (7, [.ref htb, .int (nI ln), .int (nI le), .int (nI ax), .int kd, .int (nI pl), .int (nI lt), .int vl, .int ms])), (htb, .inl (cA, 6000, .inl tz))] H := hP
                        have hD : va_D A [(h0, .inr (7, [.ref htb, .int (nI ln), .int (nI le), .int (nI ax), .int kd, .int (nI pl), .int (nI lt), .int vl, .int ms])), (htb, .inl (cA, 6000, .inl tz))] := hD
                        refine lv_bipush (v := 32) hx hb dX7_wordIn_104 (by decide) ?_
                        refine lv_icmp_ne (tgt := 114) hx hb dX7_wordIn_106 (by decide) (fun c_106_18 => ?_) (fun c_106_18 => ?_)
                        · have nc_106_18 : ¬ rk_16 = 32 := fun q => c_106_18 ((nI_eq (a := rk_16) (b := 32) (by omega) (by omega)).mpr q)
                          refine lv_iinc (v := nI (k4 + 1)) (lv' := [(4, .int (nI (k4 + 1))), (0, .ref h0), (1, .ref (aK D i9)), (2, .int 3), (3, .int f0), (5, .int (nI j5))]) hx hb dX7_wordIn_114 hl (k := 4) rfl (nI_1 k4) (by decide) rfl (fun ls hl => ?_)
                          refine lv_goto (tgt := 21) hx hb dX7_wordIn_117 (by decide) ?_
                          exact ih_21 (k4 + 1) (by omega) (by omega) _ _ hP hD hS ls (lv_sub hl [1, 2, 3, 4, 0] rfl)
                        · have nc_106_18 : rk_16 = 32 := (nI_eq (a := rk_16) (b := 32) (by omega) (by omega)).mp c_106_18
                          refine lv_iload_n hx hb dX7_wordIn_109 rfl (lv_at hl 3 rfl) ?_
                          refine lv_iload hx hb dX7_wordIn_110 (lv_at hl 4 rfl) ?_
                          refine lv_iadd hx hb dX7_wordIn_112 ?_
                          rw [hQ9]
                          exact endI X hr hlocks hP hD hS dX7_wordIn_113 ⟨(f0 + (nI k4)), rfl, rfl⟩
                  · have nc_69_13 : rk_10 = k_12 := (nI_eq (a := rk_10) (b := k_12) (by omega) (by omega)).mp c_69_13
                    refine lv_iinc (v := nI (j5 + 1)) (lv' := [(5, .int (nI (j5 + 1))), (0, .ref h0), (1, .ref (aK D i9)), (2, .int 3), (3, .int f0), (4, .int (nI k4))]) hx hb dX7_wordIn_72 hl (k := 5) rfl (nI_1 j5) (by decide) rfl (fun ls hl => ?_)
                    refine lv_goto (tgt := 37) hx hb dX7_wordIn_75 (by decide) ?_
                    exact ih_37 (j5 + 1) (by omega) (by first | assumption | omega) (by omega) _ _ hP hD hS ls (lv_sub hl [1, 2, 3, 4, 5, 0] rfl)
            exact loop_37 6012 0 (by omega) (by first | assumption | omega) (by omega) _ _ hP hD hS ls (lv_sub hl [1, 2, 3, 4, 5, 0] rfl)
      exact loop_21 99 0 (by omega) (by omega) _ _ hP hD hS ls (lv_sub hl [1, 2, 3, 4, 0] rfl)
    · have nc_13_2 : 3 < lt := Nat.not_le.mp (fun q => c_13_2 ((nI_leI (a := lt) (b := 3) (by omega) (by omega)).mpr q))
      refine lv_iconst (v := (-1)) hx hb dX7_wordIn_16 (by decide) ?_
      rw [hQ9]
      exact endI X hr hlocks hP hD hS dX7_wordIn_17 ⟨(-1), rfl, rfl⟩
set_option maxHeartbeats 4000000 in
set_option maxRecDepth 100000 in
theorem c_s_wordIn5 (l : Launch) (D : va_G) (cA cB : ClassId) (h0 : Nat) (htb : Nat) (ln : Nat) (le : Nat) (ax : Nat) (kd : Int32) (pl : Nat) (lt : Nat) (vl : Int32) (ms : Int32) (tz : Nat → Int32) (i9 : Nat) (f0 : Int32) (hln : ln < 6001) (hle : le < 6001) (hax : ax < 6001) (hpl : pl < 6010) (hlt : lt < 6010) (htz : ∀ j, j < 6000 → ∃ k : Nat, k < 256 ∧ tz j = nI k) (hi9 : i9 < 5) (hpl2 : pl + lt ≤ 6000) : CI l yX7_wordIn cX7_wordIn 6 (some .int) 4 85 0 0 D cA cB [.ref h0, .ref (aK D i9), .int 5, .int f0] [(h0, .inr (7, [.ref htb, .int (nI ln), .int (nI le), .int (nI ax), .int kd, .int (nI pl), .int (nI lt), .int vl, .int ms])), (htb, .inl (cA, 6000, .inl tz))] (fun r W1 => ∃ (rv : Int32), r = rv ∧ W1 = [(h0, .inr (7, [.ref htb, .int (nI ln), .int (nI le), .int (nI ax), .int kd, .int (nI pl), .int (nI lt), .int vl, .int ms])), (htb, .inl (cA, 6000, .inl tz))]) := by
  refine mkI (lv0 := [(0, .ref h0), (1, .ref (aK D i9)), (2, .int 5), (3, .int f0)]) (by decide) (Nat.le_of_ble_eq_true rfl) rfl ?_
  intro p e s m below meth c A ls X hr hlocks hnm hE hA hP hD hS hl
  have hx := X.1
  have hb := X.2.1
  refine qW (fun Q9 hQ9 => ?_)
  have hsl := sl_le i9 (by omega)
  refine lv_aload_n hx hb dX7_wordIn_0 rfl (lv_at hl 0 rfl) ?_
  refine k_get (C := RX7) (T := TX7) (N := 9) (ci := 7) (v := .int (nI lt)) X hE hP 0 rfl rfl iX7 6 (by decide) w_377 rfl dX7_wordIn_1 ?_
  refine lv_iconst (v := 3) hx hb dX7_wordIn_4 (by decide) ?_
  refine lv_icmp_lt (tgt := 16) hx hb dX7_wordIn_5 (by decide) (fun c_5_1 => ?_) (fun c_5_1 => ?_)
  · have nc_5_1 : lt < 3 := (nI_ltI (a := lt) (b := 3) (by omega) (by omega)).mp c_5_1
    refine lv_iconst (v := (-1)) hx hb dX7_wordIn_16 (by decide) ?_
    rw [hQ9]
    exact endI X hr hlocks hP hD hS dX7_wordIn_17 ⟨(-1), rfl, rfl⟩
  · have nc_5_1 : 3 ≤ lt := Nat.not_lt.mp (fun q => c_5_1 ((nI_ltI (a := lt) (b := 3) (by omega) (by omega)).mpr q))
    refine lv_aload_n hx hb dX7_wordIn_8 rfl (lv_at hl 0 rfl) ?_
    refine k_get (C := RX7) (T := TX7) (N := 9) (ci := 7) (v := .int (nI lt)) X hE hP 0 rfl rfl iX7 6 (by decide) w_377 rfl dX7_wordIn_9 ?_
    refine lv_iload_n hx hb dX7_wordIn_12 rfl (lv_at hl 2 rfl) ?_
    refine lv_icmp_le (tgt := 18) hx hb dX7_wordIn_13 (by decide) (fun c_13_2 => ?_) (fun c_13_2 => ?_)
    · have nc_13_2 : lt ≤ 5 := (nI_leI (a := lt) (b := 5) (by omega) (by omega)).mp c_13_2
      refine lv_iconst (v := 0) hx hb dX7_wordIn_18 (by decide) ?_
      refine lv_istore (lv' := [(4, .int 0), (0, .ref h0), (1, .ref (aK D i9)), (2, .int 5), (3, .int f0)]) hx hb dX7_wordIn_19 hl (by decide) rfl (fun ls hl => ?_)
      have loop_21 : ∀ (n : Nat) (k4 : Nat), (k4 < 98) → 98 - k4 < n → ∀ (H : Heap) (locs : List Loc), va_P D classes [(h0, .inr (7, [.ref htb, .int (nI ln), .int (nI le), .int (nI ax), .int kd, .int (nI pl), .int (nI lt), .int vl, .int ms])), (htb, .inl (cA, 6000, .inl tz))] H → va_D A [(h0, .inr (7, [.ref htb, .int (nI ln), .int (nI le), .int (nI ax), .int kd, .int (nI pl), .int (nI lt), .int vl, .int ms])), (htb, .inl (cA, 6000, .inl tz))] → va_S A s.heap H locs → ∀ ls : Array Slot, lv_has ls 6 [(0, .ref h0), (1, .ref (aK D i9)), (2, .int 5), (3, .int f0), (4, .int (nI k4))] → W p l e { frames := 4, cells := 0, slots := 0, locals := 85 } s m (List.toArray [.ref h0, .ref (aK D i9), .int 5, .int f0]) below meth c H locs 0 0 Q9 (F0 m 21 ls []) := by
        intro n
        induction n with
        | zero => intro k4 hk4 hfuel; exact absurd hfuel (by omega)
        | succ n ih_21 =>
          intro k4 hk4 hfuel H locs hP hD hS ls hl
          refine lv_iload_n hx hb dX7_wordIn_21 rfl (lv_at hl 2 rfl) ?_
          refine lv_iload hx hb dX7_wordIn_22 (lv_at hl 4 rfl) ?_
          refine lv_iconst (v := 1) hx hb dX7_wordIn_24 (by decide) ?_
          refine lv_iadd hx hb dX7_wordIn_25 ?_
          refine tk (y := nI (k4 + 1)) (nI_add k4 1) ?_
          refine lv_imul hx hb dX7_wordIn_26 ?_
          refine tk (y := nI (5 * (k4 + 1))) (pk_mul 5 (k4 + 1)) ?_
          refine lv_aload_n hx hb dX7_wordIn_27 rfl (lv_at hl 1 rfl) ?_
          refine kVsi (n3 := 0) (As := []) (rest := [.int (nI (5 * (k4 + 1)))]) X hl.1 hE hP hD hS hA [0, 1] rfl (by decide) (c_s_length l D cA cB i9 (by first | assumption | omega | decide | rfl)) w_449 w_421 w_471 w_450 w_451 ((e_str hE).1 i9 (by omega : i9 < 5)).1 (by decide +kernel) rfl rfl (Nat.le_of_ble_eq_true rfl) ⟨(Nat.le_of_ble_eq_true rfl), (Nat.le_of_ble_eq_true rfl)⟩ ⟨(Nat.le_of_ble_eq_true rfl), (Nat.le_of_ble_eq_true rfl)⟩ dX7_wordIn_28 (fun r W1 H locs hw hP hD hS => ?_)
          obtain ⟨rfl, rfl⟩ := hw
          have hP : va_P D classes [(h0, .inr (7, [.ref htb, .int (nI ln), .int (nI le), .int (nI ax), .int kd, .int (nI pl), .int (nI lt), .int vl, .int ms])), (htb, .inl (cA, 6000, .inl tz))] H := hP
          have hD : va_D A [(h0, .inr (7, [.ref htb, .int (nI ln), .int (nI le), .int (nI ax), .int kd, .int (nI pl), .int (nI lt), .int vl, .int ms])), (htb, .inl (cA, 6000, .inl tz))] := hD
          refine lv_icmp_gt (tgt := 120) hx hb dX7_wordIn_31 (by decide) (fun c_31_3 => ?_) (fun c_31_3 => ?_)
          · have nc_31_3 : (sl i9) < (5 * (k4 + 1)) := (nI_ltI (a := sl i9) (b := 5 * (k4 + 1)) (by omega) (by omega)).mp c_31_3
            refine lv_iconst (v := (-1)) hx hb dX7_wordIn_120 (by decide) ?_
            rw [hQ9]
            exact endI X hr hlocks hP hD hS dX7_wordIn_121 ⟨(-1), rfl, rfl⟩
          · have nc_31_3 : (5 * (k4 + 1)) ≤ (sl i9) := Nat.not_lt.mp (fun q => c_31_3 ((nI_ltI (a := sl i9) (b := 5 * (k4 + 1)) (by omega) (by omega)).mpr q))
            refine lv_iconst (v := 0) hx hb dX7_wordIn_34 (by decide) ?_
            refine lv_istore (lv' := [(5, .int 0), (0, .ref h0), (1, .ref (aK D i9)), (2, .int 5), (3, .int f0), (4, .int (nI k4))]) hx hb dX7_wordIn_35 hl (by decide) rfl (fun ls hl => ?_)
            have loop_37 : ∀ (n : Nat) (j5 : Nat), (j5 < 6011) → (j5 ≤ lt) → lt + 1 - j5 < n → ∀ (H : Heap) (locs : List Loc), va_P D classes [(h0, .inr (7, [.ref htb, .int (nI ln), .int (nI le), .int (nI ax), .int kd, .int (nI pl), .int (nI lt), .int vl, .int ms])), (htb, .inl (cA, 6000, .inl tz))] H → va_D A [(h0, .inr (7, [.ref htb, .int (nI ln), .int (nI le), .int (nI ax), .int kd, .int (nI pl), .int (nI lt), .int vl, .int ms])), (htb, .inl (cA, 6000, .inl tz))] → va_S A s.heap H locs → ∀ ls : Array Slot, lv_has ls 6 [(0, .ref h0), (1, .ref (aK D i9)), (2, .int 5), (3, .int f0), (4, .int (nI k4)), (5, .int (nI j5))] → W p l e { frames := 4, cells := 0, slots := 0, locals := 85 } s m (List.toArray [.ref h0, .ref (aK D i9), .int 5, .int f0]) below meth c H locs 0 0 Q9 (F0 m 37 ls []) := by
              intro n
              induction n with
              | zero => intro j5 hj5 hj6 hfuel; exact absurd hfuel (by omega)
              | succ n ih_37 =>
                intro j5 hj5 hj6 hfuel H locs hP hD hS ls hl
                refine lv_iload hx hb dX7_wordIn_37 (lv_at hl 5 rfl) ?_
                refine lv_aload_n hx hb dX7_wordIn_39 rfl (lv_at hl 0 rfl) ?_
                refine k_get (C := RX7) (T := TX7) (N := 9) (ci := 7) (v := .int (nI lt)) X hE hP 0 rfl rfl iX7 6 (by decide) w_377 rfl dX7_wordIn_40 ?_
                refine lv_icmp_ge (tgt := 78) hx hb dX7_wordIn_43 (by decide) (fun c_43_4 => ?_) (fun c_43_4 => ?_)
                · have nc_43_4 : lt ≤ j5 := (nI_leI (a := lt) (b := j5) (by omega) (by omega)).mp c_43_4
                  refine lv_iload hx hb dX7_wordIn_78 (lv_at hl 5 rfl) ?_
                  refine lv_aload_n hx hb dX7_wordIn_80 rfl (lv_at hl 0 rfl) ?_
                  refine k_get (C := RX7) (T := TX7) (N := 9) (ci := 7) (v := .int (nI lt)) X hE hP 0 rfl rfl iX7 6 (by decide) w_377 rfl dX7_wordIn_81 ?_
                  refine lv_icmp_ne (tgt := 114) hx hb dX7_wordIn_84 (by decide) (fun c_84_5 => ?_) (fun c_84_5 => ?_)
                  · have nc_84_5 : ¬ j5 = lt := fun q => c_84_5 ((nI_eq (a := j5) (b := lt) (by omega) (by omega)).mpr q)
                    refine lv_iinc (v := nI (k4 + 1)) (lv' := [(4, .int (nI (k4 + 1))), (0, .ref h0), (1, .ref (aK D i9)), (2, .int 5), (3, .int f0), (5, .int (nI j5))]) hx hb dX7_wordIn_114 hl (k := 4) rfl (nI_1 k4) (by decide) rfl (fun ls hl => ?_)
                    refine lv_goto (tgt := 21) hx hb dX7_wordIn_117 (by decide) ?_
                    exact ih_21 (k4 + 1) (by omega) (by omega) _ _ hP hD hS ls (lv_sub hl [1, 2, 3, 4, 0] rfl)
                  · have nc_84_5 : j5 = lt := (nI_eq (a := j5) (b := lt) (by omega) (by omega)).mp c_84_5
                    refine lv_iload hx hb dX7_wordIn_87 (lv_at hl 5 rfl) ?_
                    refine lv_iload_n hx hb dX7_wordIn_89 rfl (lv_at hl 2 rfl) ?_
                    refine lv_icmp_eq (tgt := 109) hx hb dX7_wordIn_90 (by decide) (fun c_90_6 => ?_) (fun c_90_6 => ?_)
                    · have nc_90_6 : j5 = 5 := (nI_eq (a := j5) (b := 5) (by omega) (by omega)).mp c_90_6
                      refine lv_iload_n hx hb dX7_wordIn_109 rfl (lv_at hl 3 rfl) ?_
                      refine lv_iload hx hb dX7_wordIn_110 (lv_at hl 4 rfl) ?_
                      refine lv_iadd hx hb dX7_wordIn_112 ?_
                      rw [hQ9]
                      exact endI X hr hlocks hP hD hS dX7_wordIn_113 ⟨(f0 + (nI k4)), rfl, rfl⟩
                    · have nc_90_6 : ¬ j5 = 5 := fun q => c_90_6 ((nI_eq (a := j5) (b := 5) (by omega) (by omega)).mpr q)
                      refine lv_aload_n hx hb dX7_wordIn_93 rfl (lv_at hl 1 rfl) ?_
                      refine lv_iload_n hx hb dX7_wordIn_94 rfl (lv_at hl 2 rfl) ?_
                      refine lv_iload hx hb dX7_wordIn_95 (lv_at hl 4 rfl) ?_
                      refine lv_imul hx hb dX7_wordIn_97 ?_
                      refine tk (y := nI (5 * k4)) (pk_mul 5 k4) ?_
                      refine lv_iload hx hb dX7_wordIn_98 (lv_at hl 5 rfl) ?_
                      refine lv_iadd hx hb dX7_wordIn_100 ?_
                      refine tk (y := nI (5 * k4 + j5)) (nI_add (5 * k4) j5) ?_
                      refine kVsi (n3 := 1) (As := [.int (nI (5 * k4 + j5))]) (rest := []) X hl.1 hE hP hD hS hA [0, 1] rfl (by decide) (c_s_charAt l D cA cB i9 (5 * k4 + j5) (by first | assumption | omega | decide | rfl) (by first | assumption | omega | decide | rfl)) w_473 w_421 w_472 w_474 w_475 ((e_str hE).1 i9 (by omega : i9 < 5)).1 (by decide +kernel) rfl rfl (Nat.le_of_ble_eq_true rfl) ⟨(Nat.le_of_ble_eq_true rfl), (Nat.le_of_ble_eq_true rfl)⟩ ⟨(Nat.le_of_ble_eq_true rfl), (Nat.le_of_ble_eq_true rfl)⟩ dX7_wordIn_101 (fun r W1 H locs hw hP hD hS => ?_)
                      obtain ⟨rk_7, rfl, hf_8, rfl⟩ := hw
                      have hP : va_P D classes [(h0, .inr (7, [.ref htb, .int (nI ln), .int (nI le), .int (nI ax), .int kd, .int (nI pl), .int (nI lt), .int vl, .int ms])), (htb, .inl (cA, 6000, .inl tz))] H := hP
                      have hD : va_D A [(h0, .inr (7, [.ref htb, .int (nI ln), .int (nI le), .int (nI ax), .int kd, .int (nI pl), .int (nI lt), .int vl, .int ms])), (htb, .inl (cA, 6000, .inl tz))] := hD
                      refine lv_bipush (v := 32) hx hb dX7_wordIn_104 (by decide) ?_
                      refine lv_icmp_ne (tgt := 114) hx hb dX7_wordIn_106 (by decide) (fun c_106_9 => ?_) (fun c_106_9 => ?_)
                      · have nc_106_9 : ¬ rk_7 = 32 := fun q => c_106_9 ((nI_eq (a := rk_7) (b := 32) (by omega) (by omega)).mpr q)
                        refine lv_iinc (v := nI (k4 + 1)) (lv' := [(4, .int (nI (k4 + 1))), (0, .ref h0), (1, .ref (aK D i9)), (2, .int 5), (3, .int f0), (5, .int (nI j5))]) hx hb dX7_wordIn_114 hl (k := 4) rfl (nI_1 k4) (by decide) rfl (fun ls hl => ?_)
                        refine lv_goto (tgt := 21) hx hb dX7_wordIn_117 (by decide) ?_
                        exact ih_21 (k4 + 1) (by omega) (by omega) _ _ hP hD hS ls (lv_sub hl [1, 2, 3, 4, 0] rfl)
                      · have nc_106_9 : rk_7 = 32 := (nI_eq (a := rk_7) (b := 32) (by omega) (by omega)).mp c_106_9
                        refine lv_iload_n hx hb dX7_wordIn_109 rfl (lv_at hl 3 rfl) ?_
                        refine lv_iload hx hb dX7_wordIn_110 (lv_at hl 4 rfl) ?_
                        refine lv_iadd hx hb dX7_wordIn_112 ?_
                        rw [hQ9]
                        exact endI X hr hlocks hP hD hS dX7_wordIn_113 ⟨(f0 + (nI k4)), rfl, rfl⟩
                · have nc_43_4 : j5 < lt := Nat.not_le.mp (fun q => c_43_4 ((nI_leI (a := lt) (b := j5) (by omega) (by omega)).mpr q))
                  refine lv_aload_n hx hb dX7_wordIn_46 rfl (lv_at hl 1 rfl) ?_
                  refine lv_iload_n hx hb dX7_wordIn_47 rfl (lv_at hl 2 rfl) ?_
                  refine lv_iload hx hb dX7_wordIn_48 (lv_at hl 4 rfl) ?_
                  refine lv_imul hx hb dX7_wordIn_50 ?_
                  refine tk (y := nI (5 * k4)) (pk_mul 5 k4) ?_
                  refine lv_iload hx hb dX7_wordIn_51 (lv_at hl 5 rfl) ?_
                  refine lv_iadd hx hb dX7_wordIn_53 ?_
                  refine tk (y := nI (5 * k4 + j5)) (nI_add (5 * k4) j5) ?_
                  refine kVsi (n3 := 1) (As := [.int (nI (5 * k4 + j5))]) (rest := []) X hl.1 hE hP hD hS hA [0, 1] rfl (by decide) (c_s_charAt l D cA cB i9 (5 * k4 + j5) (by first | assumption | omega | decide | rfl) (by first | assumption | omega | decide | rfl)) w_473 w_421 w_472 w_474 w_475 ((e_str hE).1 i9 (by omega : i9 < 5)).1 (by decide +kernel) rfl rfl (Nat.le_of_ble_eq_true rfl) ⟨(Nat.le_of_ble_eq_true rfl), (Nat.le_of_ble_eq_true rfl)⟩ ⟨(Nat.le_of_ble_eq_true rfl), (Nat.le_of_ble_eq_true rfl)⟩ dX7_wordIn_54 (fun r W1 H locs hw hP hD hS => ?_)
                  obtain ⟨rk_10, rfl, hf_11, rfl⟩ := hw
                  have hP : va_P D classes [(h0, .inr (7, [.ref htb, .int (nI ln), .int (nI le), .int (nI ax), .int kd, .int (nI pl), .int (nI lt), .int vl, .int ms])), (htb, .inl (cA, 6000, .inl tz))] H := hP
                  have hD : va_D A [(h0, .inr (7, [.ref htb, .int (nI ln), .int (nI le), .int (nI ax), .int kd, .int (nI pl), .int (nI lt), .int vl, .int ms])), (htb, .inl (cA, 6000, .inl tz))] := hD
                  refine lv_aload_n hx hb dX7_wordIn_57 rfl (lv_at hl 0 rfl) ?_
                  refine k_get (C := RX7) (T := TX7) (N := 9) (ci := 7) (v := .ref htb) X hE hP 0 rfl rfl iX7 0 (by decide) w_368 rfl dX7_wordIn_58 ?_
                  refine lv_aload_n hx hb dX7_wordIn_61 rfl (lv_at hl 0 rfl) ?_
                  refine k_get (C := RX7) (T := TX7) (N := 9) (ci := 7) (v := .int (nI pl)) X hE hP 0 rfl rfl iX7 5 (by decide) w_376 rfl dX7_wordIn_62 ?_
                  refine lv_iload hx hb dX7_wordIn_65 (lv_at hl 5 rfl) ?_
                  refine lv_iadd hx hb dX7_wordIn_67 ?_
                  refine tk (y := nI (pl + j5)) (nI_add pl j5) ?_
                  obtain ⟨k_12, hk_12, ek_12⟩ := htz (pl + j5) (by omega)
                  refine k_ald (v := nI k_12) X hE hP 1 rfl (pl + j5) rfl (by omega) (by decide) ek_12 dX7_wordIn_68 ?_
                  refine lv_icmp_ne (tgt := 78) hx hb dX7_wordIn_69 (by decide) (fun c_69_13 => ?_) (fun c_69_13 => ?_)
                  · have nc_69_13 : ¬ rk_10 = k_12 := fun q => c_69_13 ((nI_eq (a := rk_10) (b := k_12) (by omega) (by omega)).mpr q)
                    refine lv_iload hx hb dX7_wordIn_78 (lv_at hl 5 rfl) ?_
                    refine lv_aload_n hx hb dX7_wordIn_80 rfl (lv_at hl 0 rfl) ?_
                    refine k_get (C := RX7) (T := TX7) (N := 9) (ci := 7) (v := .int (nI lt)) X hE hP 0 rfl rfl iX7 6 (by decide) w_377 rfl dX7_wordIn_81 ?_
                    refine lv_icmp_ne (tgt := 114) hx hb dX7_wordIn_84 (by decide) (fun c_84_14 => ?_) (fun c_84_14 => ?_)
                    · have nc_84_14 : ¬ j5 = lt := fun q => c_84_14 ((nI_eq (a := j5) (b := lt) (by omega) (by omega)).mpr q)
                      refine lv_iinc (v := nI (k4 + 1)) (lv' := [(4, .int (nI (k4 + 1))), (0, .ref h0), (1, .ref (aK D i9)), (2, .int 5), (3, .int f0), (5, .int (nI j5))]) hx hb dX7_wordIn_114 hl (k := 4) rfl (nI_1 k4) (by decide) rfl (fun ls hl => ?_)
                      refine lv_goto (tgt := 21) hx hb dX7_wordIn_117 (by decide) ?_
                      exact ih_21 (k4 + 1) (by omega) (by omega) _ _ hP hD hS ls (lv_sub hl [1, 2, 3, 4, 0] rfl)
                    · have nc_84_14 : j5 = lt := (nI_eq (a := j5) (b := lt) (by omega) (by omega)).mp c_84_14
                      refine lv_iload hx hb dX7_wordIn_87 (lv_at hl 5 rfl) ?_
                      refine lv_iload_n hx hb dX7_wordIn_89 rfl (lv_at hl 2 rfl) ?_
                      refine lv_icmp_eq (tgt := 109) hx hb dX7_wordIn_90 (by decide) (fun c_90_15 => ?_) (fun c_90_15 => ?_)
                      · have nc_90_15 : j5 = 5 := (nI_eq (a := j5) (b := 5) (by omega) (by omega)).mp c_90_15
                        refine lv_iload_n hx hb dX7_wordIn_109 rfl (lv_at hl 3 rfl) ?_
                        refine lv_iload hx hb dX7_wordIn_110 (lv_at hl 4 rfl) ?_
                        refine lv_iadd hx hb dX7_wordIn_112 ?_
                        rw [hQ9]
                        exact endI X hr hlocks hP hD hS dX7_wordIn_113 ⟨(f0 + (nI k4)), rfl, rfl⟩
                      · have nc_90_15 : ¬ j5 = 5 := fun q => c_90_15 ((nI_eq (a := j5) (b := 5) (by omega) (by omega)).mpr q)
                        refine lv_aload_n hx hb dX7_wordIn_93 rfl (lv_at hl 1 rfl) ?_
                        refine lv_iload_n hx hb dX7_wordIn_94 rfl (lv_at hl 2 rfl) ?_
                        refine lv_iload hx hb dX7_wordIn_95 (lv_at hl 4 rfl) ?_
                        refine lv_imul hx hb dX7_wordIn_97 ?_
                        refine tk (y := nI (5 * k4)) (pk_mul 5 k4) ?_
                        refine lv_iload hx hb dX7_wordIn_98 (lv_at hl 5 rfl) ?_
                        refine lv_iadd hx hb dX7_wordIn_100 ?_
                        refine tk (y := nI (5 * k4 + j5)) (nI_add (5 * k4) j5) ?_
                        refine kVsi (n3 := 1) (As := [.int (nI (5 * k4 + j5))]) (rest := []) X hl.1 hE hP hD hS hA [0, 1] rfl (by decide) (c_s_charAt l D cA cB i9 (5 * k4 + j5) (by first | assumption | omega | decide | rfl) (by first | assumption | omega | decide | rfl)) w_473 w_421 w_472 w_474 w_475 ((e_str hE).1 i9 (by omega : i9 < 5)).1 (by decide +kernel) rfl rfl (Nat.le_of_ble_eq_true rfl) ⟨(Nat.le_of_ble_eq_true rfl), (Nat.le_of_ble_eq_true rfl)⟩ ⟨(Nat.le_of_ble_eq_true rfl), (Nat.le_of_ble_eq_true rfl)⟩ dX7_wordIn_101 (fun r W1 H locs hw hP hD hS => ?_)
                        obtain ⟨rk_16, rfl, hf_17, rfl⟩ := hw
                        have hP : va_P D classes [(h0, .inr (7, [.ref htb, .int (nI ln), .int (nI le), .int (nI ax), .int kd, .int (nI pl), .int (nI lt), .int vl, .int ms])), (htb, .inl (cA, 6000, .inl tz))] H := hP
                        have hD : va_D A [(h0, .inr (7, [.ref htb, .int (nI ln), .int (nI le), .int (nI ax), .int kd, .int (nI pl), .int (nI lt), .int vl, .int ms])), (htb, .inl (cA, 6000, .inl tz))] := hD
                        refine lv_bipush (v := 32) hx hb dX7_wordIn_104 (by decide) ?_
                        refine lv_icmp_ne (tgt := 114) hx hb dX7_wordIn_106 (by decide) (fun c_106_18 => ?_) (fun c_106_18 => ?_)
                        · have nc_106_18 : ¬ rk_16 = 32 := fun q => c_106_18 ((nI_eq (a := rk_16) (b := 32) (by omega) (by omega)).mpr q)
                          refine lv_iinc (v := nI (k4 + 1)) (lv' := [(4, .int (nI (k4 + 1))), (0, .ref h0), (1, .ref (aK D i9)), (2, .int 5), (3, .int f0), (5, .int (nI j5))]) hx hb dX7_wordIn_114 hl (k := 4) rfl (nI_1 k4) (by decide) rfl (fun ls hl => ?_)
                          refine lv_goto (tgt := 21) hx hb dX7_wordIn_117 (by decide) ?_
                          exact ih_21 (k4 + 1) (by omega) (by omega) _ _ hP hD hS ls (lv_sub hl [1, 2, 3, 4, 0] rfl)
                        · have nc_106_18 : rk_16 = 32 := (nI_eq (a := rk_16) (b := 32) (by omega) (by omega)).mp c_106_18
                          refine lv_iload_n hx hb dX7_wordIn_109 rfl (lv_at hl 3 rfl) ?_
                          refine lv_iload hx hb dX7_wordIn_110 (lv_at hl 4 rfl) ?_
                          refine lv_iadd hx hb dX7_wordIn_112 ?_
                          rw [hQ9]
                          exact endI X hr hlocks hP hD hS dX7_wordIn_113 ⟨(f0 + (nI k4)), rfl, rfl⟩
                  · have nc_69_13 : rk_10 = k_12 := (nI_eq (a := rk_10) (b := k_12) (by omega) (by omega)).mp c_69_13
                    refine lv_iinc (v := nI (j5 + 1)) (lv' := [(5, .int (nI (j5 + 1))), (0, .ref h0), (1, .ref (aK D i9)), (2, .int 5), (3, .int f0), (4, .int (nI k4))]) hx hb dX7_wordIn_72 hl (k := 5) rfl (nI_1 j5) (by decide) rfl (fun ls hl => ?_)
                    refine lv_goto (tgt := 37) hx hb dX7_wordIn_75 (by decide) ?_
                    exact ih_37 (j5 + 1) (by omega) (by first | assumption | omega) (by omega) _ _ hP hD hS ls (lv_sub hl [1, 2, 3, 4, 5, 0] rfl)
            exact loop_37 6012 0 (by omega) (by first | assumption | omega) (by omega) _ _ hP hD hS ls (lv_sub hl [1, 2, 3, 4, 5, 0] rfl)
      exact loop_21 99 0 (by omega) (by omega) _ _ hP hD hS ls (lv_sub hl [1, 2, 3, 4, 0] rfl)
    · have nc_13_2 : 5 < lt := Nat.not_le.mp (fun q => c_13_2 ((nI_leI (a := lt) (b := 5) (by omega) (by omega)).mpr q))
      refine lv_iconst (v := (-1)) hx hb dX7_wordIn_16 (by decide) ?_
      rw [hQ9]
      exact endI X hr hlocks hP hD hS dX7_wordIn_17 ⟨(-1), rfl, rfl⟩
set_option maxHeartbeats 4000000 in
set_option maxRecDepth 100000 in
theorem c_s_next (l : Launch) (D : va_G) (cA cB : ClassId) (h0 : Nat) (htb : Nat) (ln : Nat) (le : Nat) (ax : Nat) (kd : Int32) (pl : Nat) (lt : Nat) (vl : Int32) (ms : Int32) (tz : Nat → Int32) (hln : ln < 6001) (hle : le < 6001) (hax : ax < 6001) (hpl : pl < 6010) (hlt : lt < 6010) (htz : ∀ j, j < 6000 → ∃ k : Nat, k < 256 ∧ tz j = nI k) (hal : ax ≤ le) : CV l yX7_next cX7_next 2 none 5 110 0 0 D cA cB [.ref h0] [(h0, .inr (7, [.ref htb, .int (nI ln), .int (nI le), .int (nI ax), .int kd, .int (nI pl), .int (nI lt), .int vl, .int ms])), (htb, .inl (cA, 6000, .inl tz))] (fun W1 => ∃ (ax2 : Nat) (kd2 : Int32) (pl2 : Nat) (lt2 : Nat) (vl2 : Int32) (ms2 : Int32), (ax2 < 6001) ∧ (pl2 < 6010) ∧ (lt2 < 6010) ∧ (ax2 ≤ le) ∧ (kd2 = 257 → pl2 + lt2 ≤ 6000) ∧ W1 = [(h0, .inr (7, [.ref htb, .int (nI ln), .int (nI le), .int (nI ax2), .int kd2, .int (nI pl2), .int (nI lt2), .int vl2, .int ms2])), (htb, .inl (cA, 6000, .inl tz))]) := by
  refine mkV (lv0 := [(0, .ref h0)]) (by decide) (Nat.le_of_ble_eq_true rfl) rfl ?_
  intro p e s m below meth c A ls X hr hlocks hnm hE hA hP hD hS hl
  have hx := X.1
  have hb := X.2.1
  refine qW (fun Q9 hQ9 => ?_)
  have loop_0 : ∀ (n : Nat) (axv : Nat), (axv < 6001) → (axv ≤ le) → le - axv < n → ∀ (H : Heap) (locs : List Loc), va_P D classes [(h0, .inr (7, [.ref htb, .int (nI ln), .int (nI le), .int (nI axv), .int kd, .int (nI pl), .int (nI lt), .int vl, .int ms])), (htb, .inl (cA, 6000, .inl tz))] H → va_D A [(h0, .inr (7, [.ref htb, .int (nI ln), .int (nI le), .int (nI axv), .int kd, .int (nI pl), .int (nI lt), .int vl, .int ms])), (htb, .inl (cA, 6000, .inl tz))] → va_S A s.heap H locs → ∀ ls : Array Slot, lv_has ls 2 [(0, .ref h0)] → W p l e { frames := 5, cells := 0, slots := 0, locals := 110 } s m (List.toArray [.ref h0]) below meth c H locs 0 0 Q9 (F0 m 0 ls []) := by
    intro n
    induction n with
    | zero => intro axv haxv hq0 hfuel; exact absurd hfuel (by omega)
    | succ n ih_0 =>
      intro axv haxv hq0 hfuel H locs hP hD hS ls hl
      refine lv_aload_n hx hb dX7_next_0 rfl (lv_at hl 0 rfl) ?_
      refine k_get (C := RX7) (T := TX7) (N := 9) (ci := 7) (v := .int (nI axv)) X hE hP 0 rfl rfl iX7 3 (by decide) w_366 rfl dX7_next_1 ?_
      refine lv_aload_n hx hb dX7_next_4 rfl (lv_at hl 0 rfl) ?_
      refine k_get (C := RX7) (T := TX7) (N := 9) (ci := 7) (v := .int (nI le)) X hE hP 0 rfl rfl iX7 2 (by decide) w_367 rfl dX7_next_5 ?_
      refine lv_icmp_ge (tgt := 38) hx hb dX7_next_8 (by decide) (fun c_8_1 => ?_) (fun c_8_1 => ?_)
      · have nc_8_1 : le ≤ axv := (nI_leI (a := le) (b := axv) (by omega) (by omega)).mp c_8_1
        refine lv_aload_n hx hb dX7_next_38 rfl (lv_at hl 0 rfl) ?_
        refine lv_aload_n hx hb dX7_next_39 rfl (lv_at hl 0 rfl) ?_
        refine k_get (C := RX7) (T := TX7) (N := 9) (ci := 7) (v := .int (nI axv)) X hE hP 0 rfl rfl iX7 3 (by decide) w_366 rfl dX7_next_40 ?_
        refine k_put (C := RX7) (T := TX7) (N := 9) (ci := 7) (v := .int (nI axv)) (ty := .int) X hE hP hD hS 0 rfl rfl iX7 tyX7 tyX7_ok nmX7 5 (by decide) w_376 rfl (by decide +kernel) rfl rfl (Nat.le_of_ble_eq_true rfl) [(h0, .inr (7, [.ref htb, .int (nI ln), .int (nI le), .int (nI axv), .int kd, .int (nI axv), .int (nI lt), .int vl, .int ms])), (htb, .inl (cA, 6000, .inl tz))] rfl dX7_next_43 (fun H locs hP hD hS => ?_)
        refine lv_aload_n hx hb dX7_next_46 rfl (lv_at hl 0 rfl) ?_
        refine lv_iconst (v := (-1)) hx hb dX7_next_47 (by decide) ?_
        refine k_put (C := RX7) (T := TX7) (N := 9) (ci := 7) (v := .int (-1)) (ty := .int) X hE hP hD hS 0 rfl rfl iX7 tyX7 tyX7_ok nmX7 8 (by decide) w_370 rfl (by decide +kernel) rfl rfl (Nat.le_of_ble_eq_true rfl) [(h0, .inr (7, [.ref htb, .int (nI ln), .int (nI le), .int (nI axv), .int kd, .int (nI axv), .int (nI lt), .int vl, .int (-1)])), (htb, .inl (cA, 6000, .inl tz))] rfl dX7_next_48 (fun H locs hP hD hS => ?_)
        refine lv_aload_n hx hb dX7_next_51 rfl (lv_at hl 0 rfl) ?_
        refine k_get (C := RX7) (T := TX7) (N := 9) (ci := 7) (v := .int (nI axv)) X hE hP 0 rfl rfl iX7 3 (by decide) w_366 rfl dX7_next_52 ?_
        refine lv_aload_n hx hb dX7_next_55 rfl (lv_at hl 0 rfl) ?_
        refine k_get (C := RX7) (T := TX7) (N := 9) (ci := 7) (v := .int (nI le)) X hE hP 0 rfl rfl iX7 2 (by decide) w_367 rfl dX7_next_56 ?_
        refine lv_icmp_lt (tgt := 70) hx hb dX7_next_59 (by decide) (fun c_59_2 => ?_) (fun c_59_2 => ?_)
        · have nc_59_2 : axv < le := (nI_ltI (a := axv) (b := le) (by omega) (by omega)).mp c_59_2
          refine lv_aload_n hx hb dX7_next_70 rfl (lv_at hl 0 rfl) ?_
          refine k_get (C := RX7) (T := TX7) (N := 9) (ci := 7) (v := .ref htb) X hE hP 0 rfl rfl iX7 0 (by decide) w_368 rfl dX7_next_71 ?_
          refine lv_aload_n hx hb dX7_next_74 rfl (lv_at hl 0 rfl) ?_
          refine k_get (C := RX7) (T := TX7) (N := 9) (ci := 7) (v := .int (nI axv)) X hE hP 0 rfl rfl iX7 3 (by decide) w_366 rfl dX7_next_75 ?_
          obtain ⟨k_3, hk_3, ek_3⟩ := htz axv (by omega)
          refine k_ald (v := nI k_3) X hE hP 1 rfl axv rfl (by omega) (by decide) ek_3 dX7_next_78 ?_
          refine lv_istore_n (lv' := [(1, .int (nI k_3)), (0, .ref h0)]) hx hb dX7_next_79 rfl hl (by decide) rfl (fun ls hl => ?_)
          refine lv_iload_n hx hb dX7_next_80 rfl (lv_at hl 0 rfl) ?_
          refine kSi (n3 := 1) (As := [.int (nI k_3)]) (rest := []) X hl.1 hE hP hD hS hA [] [(h0, .inr (7, [.ref htb, .int (nI ln), .int (nI le), .int (nI axv), .int kd, .int (nI axv), .int (nI lt), .int vl, .int (-1)])), (htb, .inl (cA, 6000, .inl tz))] [] [0, 1] rfl rfl rfl (by decide +kernel) (by decide +kernel) (by decide +kernel) (c_s_isLetter l D cA cB (nI k_3) ) w_379 w_374 w_378 w_380 (by decide +kernel) rfl rfl (Nat.le_of_ble_eq_true rfl) ⟨(Nat.le_of_ble_eq_true rfl), (Nat.le_of_ble_eq_true rfl)⟩ ⟨(Nat.le_of_ble_eq_true rfl), (Nat.le_of_ble_eq_true rfl)⟩ dX7_next_81 (fun r W1 H locs hw hP hD hS => ?_)
          obtain ⟨rk_4, rfl, hf_5, rfl⟩ := hw
          have hP : va_P D classes [(h0, .inr (7, [.ref htb, .int (nI ln), .int (nI le), .int (nI axv), .int kd, .int (nI axv), .int (nI lt), .int vl, .int (-1)])), (htb, .inl (cA, 6000, .inl tz))] H := hP
          have hD : va_D A [(h0, .inr (7, [.ref htb, .int (nI ln), .int (nI le), .int (nI axv), .int kd, .int (nI axv), .int (nI lt), .int vl, .int (-1)])), (htb, .inl (cA, 6000, .inl tz))] := hD
          refine lv_if_eq (tgt := 189) hx hb dX7_next_84 (by decide) (fun c_84_6 => ?_) (fun c_84_6 => ?_)
          · have nc_84_6 : rk_4 = 0 := (nI_eq (a := rk_4) (b := 0) (by omega) (by omega)).mp c_84_6
            refine lv_iload_n hx hb dX7_next_189 rfl (lv_at hl 0 rfl) ?_
            refine lv_bipush (v := 39) hx hb dX7_next_190 (by decide) ?_
            refine lv_icmp_ne (tgt := 202) hx hb dX7_next_192 (by decide) (fun c_192_7 => ?_) (fun c_192_7 => ?_)
            · have nc_192_7 : ¬ k_3 = 39 := fun q => c_192_7 ((nI_eq (a := k_3) (b := 39) (by omega) (by omega)).mpr q)
              refine lv_iload_n hx hb dX7_next_202 rfl (lv_at hl 0 rfl) ?_
              refine lv_bipush (v := 36) hx hb dX7_next_203 (by decide) ?_
              refine lv_icmp_ne (tgt := 228) hx hb dX7_next_205 (by decide) (fun c_205_8 => ?_) (fun c_205_8 => ?_)
              · have nc_205_8 : ¬ k_3 = 36 := fun q => c_205_8 ((nI_eq (a := k_3) (b := 36) (by omega) (by omega)).mpr q)
                refine lv_iload_n hx hb dX7_next_228 rfl (lv_at hl 0 rfl) ?_
                refine kSi (n3 := 1) (As := [.int (nI k_3)]) (rest := []) X hl.1 hE hP hD hS hA [] [(h0, .inr (7, [.ref htb, .int (nI ln), .int (nI le), .int (nI axv), .int kd, .int (nI axv), .int (nI lt), .int vl, .int (-1)])), (htb, .inl (cA, 6000, .inl tz))] [] [0, 1] rfl rfl rfl (by decide +kernel) (by decide +kernel) (by decide +kernel) (c_s_digit l D cA cB (nI k_3) ) w_373 w_374 w_372 w_375 (by decide +kernel) rfl rfl (Nat.le_of_ble_eq_true rfl) ⟨(Nat.le_of_ble_eq_true rfl), (Nat.le_of_ble_eq_true rfl)⟩ ⟨(Nat.le_of_ble_eq_true rfl), (Nat.le_of_ble_eq_true rfl)⟩ dX7_next_229 (fun r W1 H locs hw hP hD hS => ?_)
                obtain ⟨rv_9, er_10, rfl⟩ := hw
                have hP : va_P D classes [(h0, .inr (7, [.ref htb, .int (nI ln), .int (nI le), .int (nI axv), .int kd, .int (nI axv), .int (nI lt), .int vl, .int (-1)])), (htb, .inl (cA, 6000, .inl tz))] H := hP
                have hD : va_D A [(h0, .inr (7, [.ref htb, .int (nI ln), .int (nI le), .int (nI axv), .int kd, .int (nI axv), .int (nI lt), .int vl, .int (-1)])), (htb, .inl (cA, 6000, .inl tz))] := hD
                refine tk (y := rv_9) er_10 ?_
                refine lv_iconst (v := (-1)) hx hb dX7_next_232 (by decide) ?_
                refine lv_icmp_eq (tgt := 246) hx hb dX7_next_233 (by decide) (fun c_233 => ?_) (fun c_233 => ?_)
                · skip
                  refine lv_aload_n hx hb dX7_next_246 rfl (lv_at hl 1 rfl) ?_
                  refine lv_dup hx hb dX7_next_247 rfl ?_
                  refine k_get (C := RX7) (T := TX7) (N := 9) (ci := 7) (v := .int (nI axv)) X hE hP 0 rfl rfl iX7 3 (by decide) w_366 rfl dX7_next_248 ?_
                  refine lv_iconst (v := 1) hx hb dX7_next_251 (by decide) ?_
                  refine lv_iadd hx hb dX7_next_252 ?_
                  refine tk (y := nI (axv + 1)) (nI_add axv 1) ?_
                  refine k_put (C := RX7) (T := TX7) (N := 9) (ci := 7) (v := .int (nI (axv + 1))) (ty := .int) X hE hP hD hS 0 rfl rfl iX7 tyX7 tyX7_ok nmX7 3 (by decide) w_366 rfl (by decide +kernel) rfl rfl (Nat.le_of_ble_eq_true rfl) [(h0, .inr (7, [.ref htb, .int (nI ln), .int (nI le), .int (nI (axv + 1)), .int kd, .int (nI axv), .int (nI lt), .int vl, .int (-1)])), (htb, .inl (cA, 6000, .inl tz))] rfl dX7_next_253 (fun H locs hP hD hS => ?_)
                  refine lv_aload_n hx hb dX7_next_256 rfl (lv_at hl 1 rfl) ?_
                  refine va_ldcS hx hb X.2.2.2.1 (e_rTape73 hE) dX7_next_257 ?_
                  refine lv_iload_n hx hb dX7_next_259 rfl (lv_at hl 0 rfl) ?_
                  refine lv_i2c (v := nI k_3) hx hb dX7_next_260 (sf_i2c (by omega)) ?_
                  refine kVsi (n3 := 1) (As := [.int (nI k_3)]) (rest := [.ref h0]) X hl.1 hE hP hD hS hA [0, 1] rfl (by decide) (c_s_indexOf l D cA cB 4 (nI k_3) (by first | assumption | omega | decide | rfl)) w_477 w_421 w_476 w_478 w_479 ((e_str hE).1 4 (by decide)).1 (by decide +kernel) rfl rfl (Nat.le_of_ble_eq_true rfl) ⟨(Nat.le_of_ble_eq_true rfl), (Nat.le_of_ble_eq_true rfl)⟩ ⟨(Nat.le_of_ble_eq_true rfl), (Nat.le_of_ble_eq_true rfl)⟩ dX7_next_261 (fun r W1 H locs hw hP hD hS => ?_)
                  obtain ⟨rv_11, er_12, rfl⟩ := hw
                  have hP : va_P D classes [(h0, .inr (7, [.ref htb, .int (nI ln), .int (nI le), .int (nI (axv + 1)), .int kd, .int (nI axv), .int (nI lt), .int vl, .int (-1)])), (htb, .inl (cA, 6000, .inl tz))] H := hP
                  have hD : va_D A [(h0, .inr (7, [.ref htb, .int (nI ln), .int (nI le), .int (nI (axv + 1)), .int kd, .int (nI axv), .int (nI lt), .int vl, .int (-1)])), (htb, .inl (cA, 6000, .inl tz))] := hD
                  refine tk (y := rv_11) er_12 ?_
                  refine lv_if_lt (tgt := 271) hx hb dX7_next_264 (by decide) (fun c_264 => ?_) (fun c_264 => ?_)
                  · skip
                    refine lv_sipush (v := 260) hx hb dX7_next_271 (by decide) ?_
                    refine k_put (C := RX7) (T := TX7) (N := 9) (ci := 7) (v := .int 260) (ty := .int) X hE hP hD hS 0 rfl rfl iX7 tyX7 tyX7_ok nmX7 4 (by decide) w_369 rfl (by decide +kernel) rfl rfl (Nat.le_of_ble_eq_true rfl) [(h0, .inr (7, [.ref htb, .int (nI ln), .int (nI le), .int (nI (axv + 1)), .int 260, .int (nI axv), .int (nI lt), .int vl, .int (-1)])), (htb, .inl (cA, 6000, .inl tz))] rfl dX7_next_274 (fun H locs hP hD hS => ?_)
                    rw [hQ9]
                    exact endV X hr hlocks hP hD hS dX7_next_277 ⟨(axv + 1), 260, axv, lt, vl, (-1), (by omega), (by omega), hlt, (by omega), (fun q => absurd q (by decide)), rfl⟩
                  · skip
                    refine lv_iload_n hx hb dX7_next_267 rfl (lv_at hl 0 rfl) ?_
                    refine lv_goto (tgt := 274) hx hb dX7_next_268 (by decide) ?_
                    refine k_put (C := RX7) (T := TX7) (N := 9) (ci := 7) (v := .int (nI k_3)) (ty := .int) X hE hP hD hS 0 rfl rfl iX7 tyX7 tyX7_ok nmX7 4 (by decide) w_369 rfl (by decide +kernel) rfl rfl (Nat.le_of_ble_eq_true rfl) [(h0, .inr (7, [.ref htb, .int (nI ln), .int (nI le), .int (nI (axv + 1)), .int (nI k_3), .int (nI axv), .int (nI lt), .int vl, .int (-1)])), (htb, .inl (cA, 6000, .inl tz))] rfl dX7_next_274 (fun H locs hP hD hS => ?_)
                    rw [hQ9]
                    exact endV X hr hlocks hP hD hS dX7_next_277 ⟨(axv + 1), (nI k_3), axv, lt, vl, (-1), (by omega), (by omega), hlt, (by omega), (fun q => absurd q (nI_ne (a := k_3) (b := 257) (by omega) (by omega) (by omega))), rfl⟩
                · skip
                  refine lv_aload_n hx hb dX7_next_236 rfl (lv_at hl 1 rfl) ?_
                  refine lv_bipush (v := 10) hx hb dX7_next_237 (by decide) ?_
                  refine lv_iconst (v := 5) hx hb dX7_next_239 (by decide) ?_
                  refine kVv (n3 := 2) (As := [.int 10, .int 5]) (rest := []) X hl.1 hE hP hD hS hA [(h0, .inr (7, [.ref htb, .int (nI ln), .int (nI le), .int (nI axv), .int kd, .int (nI axv), .int (nI lt), .int vl, .int (-1)])), (htb, .inl (cA, 6000, .inl tz))] [] [0, 1] [] rfl rfl rfl (by decide +kernel) (by decide +kernel) (by decide +kernel) (c_s_readDigits l D cA cB h0 htb ln le axv kd axv lt vl (-1) tz 10 5 hle (by first | assumption | omega | decide | rfl) (by first | assumption | omega | decide | rfl) hlt hln (by decide)) w_481 w_374 w_480 w_482 w_483 0 (ci := 7) (T := TX7) (N := 9) rfl rfl (by decide +kernel) rfl rfl (Nat.le_of_ble_eq_true rfl) ⟨(Nat.le_of_ble_eq_true rfl), (Nat.le_of_ble_eq_true rfl)⟩ ⟨(Nat.le_of_ble_eq_true rfl), (Nat.le_of_ble_eq_true rfl)⟩ dX7_next_240 (fun W1 H locs hw hP hD hS => ?_)
                  obtain ⟨ax2_13, vl2_14, ms2_15, hf_16, hf_17, rfl⟩ := hw
                  have hP : va_P D classes [(h0, .inr (7, [.ref htb, .int (nI ln), .int (nI le), .int (nI ax2_13), .int 259, .int (nI axv), .int (nI lt), .int vl2_14, .int ms2_15])), (htb, .inl (cA, 6000, .inl tz))] H := hP
                  have hD : va_D A [(h0, .inr (7, [.ref htb, .int (nI ln), .int (nI le), .int (nI ax2_13), .int 259, .int (nI axv), .int (nI lt), .int vl2_14, .int ms2_15])), (htb, .inl (cA, 6000, .inl tz))] := hD
                  refine lv_goto (tgt := 277) hx hb dX7_next_243 (by decide) ?_
                  rw [hQ9]
                  exact endV X hr hlocks hP hD hS dX7_next_277 ⟨ax2_13, 259, axv, lt, vl2_14, ms2_15, (by omega), (by omega), hlt, (by omega), (fun q => absurd q (by decide)), rfl⟩
              · have nc_205_8 : k_3 = 36 := (nI_eq (a := k_3) (b := 36) (by omega) (by omega)).mp c_205_8
                refine lv_aload_n hx hb dX7_next_208 rfl (lv_at hl 1 rfl) ?_
                refine lv_dup hx hb dX7_next_209 rfl ?_
                refine k_get (C := RX7) (T := TX7) (N := 9) (ci := 7) (v := .int (nI axv)) X hE hP 0 rfl rfl iX7 3 (by decide) w_366 rfl dX7_next_210 ?_
                refine lv_iconst (v := 1) hx hb dX7_next_213 (by decide) ?_
                refine lv_iadd hx hb dX7_next_214 ?_
                refine tk (y := nI (axv + 1)) (nI_add axv 1) ?_
                refine k_put (C := RX7) (T := TX7) (N := 9) (ci := 7) (v := .int (nI (axv + 1))) (ty := .int) X hE hP hD hS 0 rfl rfl iX7 tyX7 tyX7_ok nmX7 3 (by decide) w_366 rfl (by decide +kernel) rfl rfl (Nat.le_of_ble_eq_true rfl) [(h0, .inr (7, [.ref htb, .int (nI ln), .int (nI le), .int (nI (axv + 1)), .int kd, .int (nI axv), .int (nI lt), .int vl, .int (-1)])), (htb, .inl (cA, 6000, .inl tz))] rfl dX7_next_215 (fun H locs hP hD hS => ?_)
                refine lv_aload_n hx hb dX7_next_218 rfl (lv_at hl 1 rfl) ?_
                refine lv_bipush (v := 16) hx hb dX7_next_219 (by decide) ?_
                refine lv_iconst (v := 4) hx hb dX7_next_221 (by decide) ?_
                refine kVv (n3 := 2) (As := [.int 16, .int 4]) (rest := []) X hl.1 hE hP hD hS hA [(h0, .inr (7, [.ref htb, .int (nI ln), .int (nI le), .int (nI (axv + 1)), .int kd, .int (nI axv), .int (nI lt), .int vl, .int (-1)])), (htb, .inl (cA, 6000, .inl tz))] [] [0, 1] [] rfl rfl rfl (by decide +kernel) (by decide +kernel) (by decide +kernel) (c_s_readDigits l D cA cB h0 htb ln le (axv + 1) kd axv lt vl (-1) tz 16 4 hle (by first | assumption | omega | decide | rfl) (by first | assumption | omega | decide | rfl) hlt hln (by decide)) w_481 w_374 w_480 w_482 w_483 0 (ci := 7) (T := TX7) (N := 9) rfl rfl (by decide +kernel) rfl rfl (Nat.le_of_ble_eq_true rfl) ⟨(Nat.le_of_ble_eq_true rfl), (Nat.le_of_ble_eq_true rfl)⟩ ⟨(Nat.le_of_ble_eq_true rfl), (Nat.le_of_ble_eq_true rfl)⟩ dX7_next_222 (fun W1 H locs hw hP hD hS => ?_)
                obtain ⟨ax2_18, vl2_19, ms2_20, hf_21, hf_22, rfl⟩ := hw
                have hP : va_P D classes [(h0, .inr (7, [.ref htb, .int (nI ln), .int (nI le), .int (nI ax2_18), .int 259, .int (nI axv), .int (nI lt), .int vl2_19, .int ms2_20])), (htb, .inl (cA, 6000, .inl tz))] H := hP
                have hD : va_D A [(h0, .inr (7, [.ref htb, .int (nI ln), .int (nI le), .int (nI ax2_18), .int 259, .int (nI axv), .int (nI lt), .int vl2_19, .int ms2_20])), (htb, .inl (cA, 6000, .inl tz))] := hD
                refine lv_goto (tgt := 277) hx hb dX7_next_225 (by decide) ?_
                rw [hQ9]
                exact endV X hr hlocks hP hD hS dX7_next_277 ⟨ax2_18, 259, axv, lt, vl2_19, ms2_20, (by omega), (by omega), hlt, (by omega), (fun q => absurd q (by decide)), rfl⟩
            · have nc_192_7 : k_3 = 39 := (nI_eq (a := k_3) (b := 39) (by omega) (by omega)).mp c_192_7
              refine lv_aload_n hx hb dX7_next_195 rfl (lv_at hl 1 rfl) ?_
              refine kVv (n3 := 0) (As := []) (rest := []) X hl.1 hE hP hD hS hA [(h0, .inr (7, [.ref htb, .int (nI ln), .int (nI le), .int (nI axv), .int kd, .int (nI axv), .int (nI lt), .int vl, .int (-1)])), (htb, .inl (cA, 6000, .inl tz))] [] [0, 1] [] rfl rfl rfl (by decide +kernel) (by decide +kernel) (by decide +kernel) (c_s_readQuoted l D cA cB h0 htb ln le axv kd axv lt vl (-1) tz hle (by first | assumption | omega | decide | rfl) (by first | assumption | omega | decide | rfl) hlt hln) w_485 w_374 w_484 w_486 w_487 0 (ci := 7) (T := TX7) (N := 9) rfl rfl (by decide +kernel) rfl rfl (Nat.le_of_ble_eq_true rfl) ⟨(Nat.le_of_ble_eq_true rfl), (Nat.le_of_ble_eq_true rfl)⟩ ⟨(Nat.le_of_ble_eq_true rfl), (Nat.le_of_ble_eq_true rfl)⟩ dX7_next_196 (fun W1 H locs hw hP hD hS => ?_)
              obtain ⟨ax2_23, vl2_24, ms2_25, hf_26, hf_27, rfl⟩ := hw
              have hP : va_P D classes [(h0, .inr (7, [.ref htb, .int (nI ln), .int (nI le), .int (nI ax2_23), .int 259, .int (nI axv), .int (nI lt), .int vl2_24, .int ms2_25])), (htb, .inl (cA, 6000, .inl tz))] H := hP
              have hD : va_D A [(h0, .inr (7, [.ref htb, .int (nI ln), .int (nI le), .int (nI ax2_23), .int 259, .int (nI axv), .int (nI lt), .int vl2_24, .int ms2_25])), (htb, .inl (cA, 6000, .inl tz))] := hD
              refine lv_goto (tgt := 277) hx hb dX7_next_199 (by decide) ?_
              rw [hQ9]
              exact endV X hr hlocks hP hD hS dX7_next_277 ⟨ax2_23, 259, axv, lt, vl2_24, ms2_25, (by omega), (by omega), hlt, (by omega), (fun q => absurd q (by decide)), rfl⟩
          · have nc_84_6 : ¬ rk_4 = 0 := fun q => c_84_6 ((nI_eq (a := rk_4) (b := 0) (by omega) (by omega)).mpr q)
            refine lv_aload_n hx hb dX7_next_87 rfl (lv_at hl 1 rfl) ?_
            refine kVv (n3 := 0) (As := []) (rest := []) X hl.1 hE hP hD hS hA [(h0, .inr (7, [.ref htb, .int (nI ln), .int (nI le), .int (nI axv), .int kd, .int (nI axv), .int (nI lt), .int vl, .int (-1)])), (htb, .inl (cA, 6000, .inl tz))] [] [0, 1] [] rfl rfl rfl (by decide +kernel) (by decide +kernel) (by decide +kernel) (c_s_readLetters l D cA cB h0 htb ln le axv kd axv lt vl (-1) tz hle (by first | assumption | omega | decide | rfl) (by first | assumption | omega | decide | rfl) hlt hln (by first | assumption | omega | decide | rfl)) w_489 w_374 w_488 w_490 w_491 0 (ci := 7) (T := TX7) (N := 9) rfl rfl (by decide +kernel) rfl rfl (Nat.le_of_ble_eq_true rfl) ⟨(Nat.le_of_ble_eq_true rfl), (Nat.le_of_ble_eq_true rfl)⟩ ⟨(Nat.le_of_ble_eq_true rfl), (Nat.le_of_ble_eq_true rfl)⟩ dX7_next_88 (fun W1 H locs hw hP hD hS => ?_)
            obtain ⟨ax2_28, kd2_29, pl2_30, lt2_31, hf_32, hf_33, hf_34, hf_35, hf_36, rfl⟩ := hw
            have hP : va_P D classes [(h0, .inr (7, [.ref htb, .int (nI ln), .int (nI le), .int (nI ax2_28), .int kd2_29, .int (nI pl2_30), .int (nI lt2_31), .int vl, .int (-1)])), (htb, .inl (cA, 6000, .inl tz))] H := hP
            have hD : va_D A [(h0, .inr (7, [.ref htb, .int (nI ln), .int (nI le), .int (nI ax2_28), .int kd2_29, .int (nI pl2_30), .int (nI lt2_31), .int vl, .int (-1)])), (htb, .inl (cA, 6000, .inl tz))] := hD
            refine lv_aload_n hx hb dX7_next_91 rfl (lv_at hl 1 rfl) ?_
            refine k_get (C := RX7) (T := TX7) (N := 9) (ci := 7) (v := .int kd2_29) X hE hP 0 rfl rfl iX7 4 (by decide) w_369 rfl dX7_next_92 ?_
            refine lv_sipush (v := 257) hx hb dX7_next_95 (by decide) ?_
            refine lv_icmp_ne (tgt := 277) hx hb dX7_next_98 (by decide) (fun c_98 => ?_) (fun c_98 => ?_)
            · skip
              rw [hQ9]
              exact endV X hr hlocks hP hD hS dX7_next_277 ⟨ax2_28, kd2_29, pl2_30, lt2_31, vl, (-1), (by omega), (by omega), (by omega), (by omega), hf_36, rfl⟩
            · skip
              refine lv_aload_n hx hb dX7_next_101 rfl (lv_at hl 1 rfl) ?_
              refine lv_aload_n hx hb dX7_next_102 rfl (lv_at hl 1 rfl) ?_
              refine va_ldcS hx hb X.2.2.2.1 (e_rTape41 hE) dX7_next_103 ?_
              refine lv_iconst (v := 3) hx hb dX7_next_105 (by decide) ?_
              refine lv_iconst (v := 0) hx hb dX7_next_106 (by decide) ?_
              refine kVi (n3 := 3) (As := [.ref (aK D 0), .int 3, .int 0]) (rest := [.ref h0]) X hl.1 hE hP hD hS hA [(h0, .inr (7, [.ref htb, .int (nI ln), .int (nI le), .int (nI ax2_28), .int kd2_29, .int (nI pl2_30), .int (nI lt2_31), .int vl, .int (-1)])), (htb, .inl (cA, 6000, .inl tz))] [] [0, 1] [] rfl rfl rfl (by decide +kernel) (by decide +kernel) (by decide +kernel) (c_s_wordIn3 l D cA cB h0 htb ln le ax2_28 kd2_29 pl2_30 lt2_31 vl (-1) tz 0 0 hln hle (by first | assumption | omega | decide | rfl) (by first | assumption | omega | decide | rfl) (by first | assumption | omega | decide | rfl) htz (by first | assumption | omega | decide | rfl) (hf_36 c_98)) w_493 w_374 w_492 w_494 w_495 0 (ci := 7) (T := TX7) (N := 9) rfl rfl (by decide +kernel) rfl rfl (Nat.le_of_ble_eq_true rfl) ⟨(Nat.le_of_ble_eq_true rfl), (Nat.le_of_ble_eq_true rfl)⟩ ⟨(Nat.le_of_ble_eq_true rfl), (Nat.le_of_ble_eq_true rfl)⟩ dX7_next_107 (fun r W1 H locs hw hP hD hS => ?_)
              obtain ⟨rv_37, er_38, rfl⟩ := hw
              have hP : va_P D classes [(h0, .inr (7, [.ref htb, .int (nI ln), .int (nI le), .int (nI ax2_28), .int kd2_29, .int (nI pl2_30), .int (nI lt2_31), .int vl, .int (-1)])), (htb, .inl (cA, 6000, .inl tz))] H := hP
              have hD : va_D A [(h0, .inr (7, [.ref htb, .int (nI ln), .int (nI le), .int (nI ax2_28), .int kd2_29, .int (nI pl2_30), .int (nI lt2_31), .int vl, .int (-1)])), (htb, .inl (cA, 6000, .inl tz))] := hD
              refine tk (y := rv_37) er_38 ?_
              refine lv_aload_n hx hb dX7_next_110 rfl (lv_at hl 1 rfl) ?_
              refine va_ldcS hx hb X.2.2.2.1 (e_rTape47 hE) dX7_next_111 ?_
              refine lv_iconst (v := 3) hx hb dX7_next_113 (by decide) ?_
              refine lv_bipush (v := 32) hx hb dX7_next_114 (by decide) ?_
              refine kVi (n3 := 3) (As := [.ref (aK D 1), .int 3, .int 32]) (rest := [.int rv_37, .ref h0]) X hl.1 hE hP hD hS hA [(h0, .inr (7, [.ref htb, .int (nI ln), .int (nI le), .int (nI ax2_28), .int kd2_29, .int (nI pl2_30), .int (nI lt2_31), .int vl, .int (-1)])), (htb, .inl (cA, 6000, .inl tz))] [] [0, 1] [] rfl rfl rfl (by decide +kernel) (by decide +kernel) (by decide +kernel) (c_s_wordIn3 l D cA cB h0 htb ln le ax2_28 kd2_29 pl2_30 lt2_31 vl (-1) tz 1 32 hln hle (by first | assumption | omega | decide | rfl) (by first | assumption | omega | decide | rfl) (by first | assumption | omega | decide | rfl) htz (by first | assumption | omega | decide | rfl) (hf_36 c_98)) w_493 w_374 w_492 w_494 w_495 0 (ci := 7) (T := TX7) (N := 9) rfl rfl (by decide +kernel) rfl rfl (Nat.le_of_ble_eq_true rfl) ⟨(Nat.le_of_ble_eq_true rfl), (Nat.le_of_ble_eq_true rfl)⟩ ⟨(Nat.le_of_ble_eq_true rfl), (Nat.le_of_ble_eq_true rfl)⟩ dX7_next_116 (fun r W1 H locs hw hP hD hS => ?_)
              obtain ⟨rv_39, er_40, rfl⟩ := hw
              have hP : va_P D classes [(h0, .inr (7, [.ref htb, .int (nI ln), .int (nI le), .int (nI ax2_28), .int kd2_29, .int (nI pl2_30), .int (nI lt2_31), .int vl, .int (-1)])), (htb, .inl (cA, 6000, .inl tz))] H := hP
              have hD : va_D A [(h0, .inr (7, [.ref htb, .int (nI ln), .int (nI le), .int (nI ax2_28), .int kd2_29, .int (nI pl2_30), .int (nI lt2_31), .int vl, .int (-1)])), (htb, .inl (cA, 6000, .inl tz))] := hD
              refine tk (y := rv_39) er_40 ?_
              refine va_mmax hx hb (X.2.2.1.trans hl.1.symm) X.2.2.2.1 (X.2.2.2.2 _ w_496) (X.2.2.2.2 _ w_42) (X.2.2.2.2 _ w_43) (X.2.2.2.2 _ w_44) (Nat.le_of_ble_eq_true rfl) (Nat.le_of_ble_eq_true rfl) (Nat.le_of_ble_eq_true rfl) (Nat.le_of_ble_eq_true rfl) dX7_next_119 ?_
              refine k_put (C := RX7) (T := TX7) (N := 9) (ci := 7) (v := .int ((if rv_37 < rv_39 then rv_39 else rv_37))) (ty := .int) X hE hP hD hS 0 rfl rfl iX7 tyX7 tyX7_ok nmX7 7 (by decide) w_371 rfl (by decide +kernel) rfl rfl (Nat.le_of_ble_eq_true rfl) [(h0, .inr (7, [.ref htb, .int (nI ln), .int (nI le), .int (nI ax2_28), .int kd2_29, .int (nI pl2_30), .int (nI lt2_31), .int ((if rv_37 < rv_39 then rv_39 else rv_37)), .int (-1)])), (htb, .inl (cA, 6000, .inl tz))] rfl dX7_next_122 (fun H locs hP hD hS => ?_)
              refine lv_aload_n hx hb dX7_next_125 rfl (lv_at hl 1 rfl) ?_
              refine lv_aload_n hx hb dX7_next_126 rfl (lv_at hl 1 rfl) ?_
              refine k_get (C := RX7) (T := TX7) (N := 9) (ci := 7) (v := .int ((if rv_37 < rv_39 then rv_39 else rv_37))) X hE hP 0 rfl rfl iX7 7 (by decide) w_371 rfl dX7_next_127 ?_
              refine lv_aload_n hx hb dX7_next_130 rfl (lv_at hl 1 rfl) ?_
              refine va_ldcS hx hb X.2.2.2.1 (e_rTape58 hE) dX7_next_131 ?_
              refine lv_iconst (v := 3) hx hb dX7_next_133 (by decide) ?_
              refine lv_bipush (v := 48) hx hb dX7_next_134 (by decide) ?_
              refine kVi (n3 := 3) (As := [.ref (aK D 2), .int 3, .int 48]) (rest := [.int ((if rv_37 < rv_39 then rv_39 else rv_37)), .ref h0]) X hl.1 hE hP hD hS hA [(h0, .inr (7, [.ref htb, .int (nI ln), .int (nI le), .int (nI ax2_28), .int kd2_29, .int (nI pl2_30), .int (nI lt2_31), .int ((if rv_37 < rv_39 then rv_39 else rv_37)), .int (-1)])), (htb, .inl (cA, 6000, .inl tz))] [] [0, 1] [] rfl rfl rfl (by decide +kernel) (by decide +kernel) (by decide +kernel) (c_s_wordIn3 l D cA cB h0 htb ln le ax2_28 kd2_29 pl2_30 lt2_31 (if rv_37 < rv_39 then rv_39 else rv_37) (-1) tz 2 48 hln hle (by first | assumption | omega | decide | rfl) (by first | assumption | omega | decide | rfl) (by first | assumption | omega | decide | rfl) htz (by first | assumption | omega | decide | rfl) (hf_36 c_98)) w_493 w_374 w_492 w_494 w_495 0 (ci := 7) (T := TX7) (N := 9) rfl rfl (by decide +kernel) rfl rfl (Nat.le_of_ble_eq_true rfl) ⟨(Nat.le_of_ble_eq_true rfl), (Nat.le_of_ble_eq_true rfl)⟩ ⟨(Nat.le_of_ble_eq_true rfl), (Nat.le_of_ble_eq_true rfl)⟩ dX7_next_136 (fun r W1 H locs hw hP hD hS => ?_)
              obtain ⟨rv_41, er_42, rfl⟩ := hw
              have hP : va_P D classes [(h0, .inr (7, [.ref htb, .int (nI ln), .int (nI le), .int (nI ax2_28), .int kd2_29, .int (nI pl2_30), .int (nI lt2_31), .int ((if rv_37 < rv_39 then rv_39 else rv_37)), .int (-1)])), (htb, .inl (cA, 6000, .inl tz))] H := hP
              have hD : va_D A [(h0, .inr (7, [.ref htb, .int (nI ln), .int (nI le), .int (nI ax2_28), .int kd2_29, .int (nI pl2_30), .int (nI lt2_31), .int ((if rv_37 < rv_39 then rv_39 else rv_37)), .int (-1)])), (htb, .inl (cA, 6000, .inl tz))] := hD
              refine tk (y := rv_41) er_42 ?_
              refine va_mmax hx hb (X.2.2.1.trans hl.1.symm) X.2.2.2.1 (X.2.2.2.2 _ w_496) (X.2.2.2.2 _ w_42) (X.2.2.2.2 _ w_43) (X.2.2.2.2 _ w_44) (Nat.le_of_ble_eq_true rfl) (Nat.le_of_ble_eq_true rfl) (Nat.le_of_ble_eq_true rfl) (Nat.le_of_ble_eq_true rfl) dX7_next_139 ?_
              refine k_put (C := RX7) (T := TX7) (N := 9) (ci := 7) (v := .int ((if (if rv_37 < rv_39 then rv_39 else rv_37) < rv_41 then rv_41 else (if rv_37 < rv_39 then rv_39 else rv_37)))) (ty := .int) X hE hP hD hS 0 rfl rfl iX7 tyX7 tyX7_ok nmX7 7 (by decide) w_371 rfl (by decide +kernel) rfl rfl (Nat.le_of_ble_eq_true rfl) [(h0, .inr (7, [.ref htb, .int (nI ln), .int (nI le), .int (nI ax2_28), .int kd2_29, .int (nI pl2_30), .int (nI lt2_31), .int ((if (if rv_37 < rv_39 then rv_39 else rv_37) < rv_41 then rv_41 else (if rv_37 < rv_39 then rv_39 else rv_37))), .int (-1)])), (htb, .inl (cA, 6000, .inl tz))] rfl dX7_next_142 (fun H locs hP hD hS => ?_)
              refine lv_aload_n hx hb dX7_next_145 rfl (lv_at hl 1 rfl) ?_
              refine lv_aload_n hx hb dX7_next_146 rfl (lv_at hl 1 rfl) ?_
              refine k_get (C := RX7) (T := TX7) (N := 9) (ci := 7) (v := .int ((if (if rv_37 < rv_39 then rv_39 else rv_37) < rv_41 then rv_41 else (if rv_37 < rv_39 then rv_39 else rv_37)))) X hE hP 0 rfl rfl iX7 7 (by decide) w_371 rfl dX7_next_147 ?_
              refine lv_aload_n hx hb dX7_next_150 rfl (lv_at hl 1 rfl) ?_
              refine va_ldcS hx hb X.2.2.2.1 (e_rTape60 hE) dX7_next_151 ?_
              refine lv_iconst (v := 5) hx hb dX7_next_153 (by decide) ?_
              refine lv_bipush (v := 80) hx hb dX7_next_154 (by decide) ?_
              refine kVi (n3 := 3) (As := [.ref (aK D 3), .int 5, .int 80]) (rest := [.int ((if (if rv_37 < rv_39 then rv_39 else rv_37) < rv_41 then rv_41 else (if rv_37 < rv_39 then rv_39 else rv_37))), .ref h0]) X hl.1 hE hP hD hS hA [(h0, .inr (7, [.ref htb, .int (nI ln), .int (nI le), .int (nI ax2_28), .int kd2_29, .int (nI pl2_30), .int (nI lt2_31), .int ((if (if rv_37 < rv_39 then rv_39 else rv_37) < rv_41 then rv_41 else (if rv_37 < rv_39 then rv_39 else rv_37))), .int (-1)])), (htb, .inl (cA, 6000, .inl tz))] [] [0, 1] [] rfl rfl rfl (by decide +kernel) (by decide +kernel) (by decide +kernel) (c_s_wordIn5 l D cA cB h0 htb ln le ax2_28 kd2_29 pl2_30 lt2_31 (if (if rv_37 < rv_39 then rv_39 else rv_37) < rv_41 then rv_41 else (if rv_37 < rv_39 then rv_39 else rv_37)) (-1) tz 3 80 hln hle (by first | assumption | omega | decide | rfl) (by first | assumption | omega | decide | rfl) (by first | assumption | omega | decide | rfl) htz (by first | assumption | omega | decide | rfl) (hf_36 c_98)) w_493 w_374 w_492 w_494 w_495 0 (ci := 7) (T := TX7) (N := 9) rfl rfl (by decide +kernel) rfl rfl (Nat.le_of_ble_eq_true rfl) ⟨(Nat.le_of_ble_eq_true rfl), (Nat.le_of_ble_eq_true rfl)⟩ ⟨(Nat.le_of_ble_eq_true rfl), (Nat.le_of_ble_eq_true rfl)⟩ dX7_next_156 (fun r W1 H locs hw hP hD hS => ?_)
              obtain ⟨rv_43, er_44, rfl⟩ := hw
              have hP : va_P D classes [(h0, .inr (7, [.ref htb, .int (nI ln), .int (nI le), .int (nI ax2_28), .int kd2_29, .int (nI pl2_30), .int (nI lt2_31), .int ((if (if rv_37 < rv_39 then rv_39 else rv_37) < rv_41 then rv_41 else (if rv_37 < rv_39 then rv_39 else rv_37))), .int (-1)])), (htb, .inl (cA, 6000, .inl tz))] H := hP
              have hD : va_D A [(h0, .inr (7, [.ref htb, .int (nI ln), .int (nI le), .int (nI ax2_28), .int kd2_29, .int (nI pl2_30), .int (nI lt2_31), .int ((if (if rv_37 < rv_39 then rv_39 else rv_37) < rv_41 then rv_41 else (if rv_37 < rv_39 then rv_39 else rv_37))), .int (-1)])), (htb, .inl (cA, 6000, .inl tz))] := hD
              refine tk (y := rv_43) er_44 ?_
              refine va_mmax hx hb (X.2.2.1.trans hl.1.symm) X.2.2.2.1 (X.2.2.2.2 _ w_496) (X.2.2.2.2 _ w_42) (X.2.2.2.2 _ w_43) (X.2.2.2.2 _ w_44) (Nat.le_of_ble_eq_true rfl) (Nat.le_of_ble_eq_true rfl) (Nat.le_of_ble_eq_true rfl) (Nat.le_of_ble_eq_true rfl) dX7_next_159 ?_
              refine k_put (C := RX7) (T := TX7) (N := 9) (ci := 7) (v := .int ((if (if (if rv_37 < rv_39 then rv_39 else rv_37) < rv_41 then rv_41 else (if rv_37 < rv_39 then rv_39 else rv_37)) < rv_43 then rv_43 else (if (if rv_37 < rv_39 then rv_39 else rv_37) < rv_41 then rv_41 else (if rv_37 < rv_39 then rv_39 else rv_37))))) (ty := .int) X hE hP hD hS 0 rfl rfl iX7 tyX7 tyX7_ok nmX7 7 (by decide) w_371 rfl (by decide +kernel) rfl rfl (Nat.le_of_ble_eq_true rfl) [(h0, .inr (7, [.ref htb, .int (nI ln), .int (nI le), .int (nI ax2_28), .int kd2_29, .int (nI pl2_30), .int (nI lt2_31), .int ((if (if (if rv_37 < rv_39 then rv_39 else rv_37) < rv_41 then rv_41 else (if rv_37 < rv_39 then rv_39 else rv_37)) < rv_43 then rv_43 else (if (if rv_37 < rv_39 then rv_39 else rv_37) < rv_41 then rv_41 else (if rv_37 < rv_39 then rv_39 else rv_37)))), .int (-1)])), (htb, .inl (cA, 6000, .inl tz))] rfl dX7_next_162 (fun H locs hP hD hS => ?_)
              refine lv_aload_n hx hb dX7_next_165 rfl (lv_at hl 1 rfl) ?_
              refine lv_aload_n hx hb dX7_next_166 rfl (lv_at hl 1 rfl) ?_
              refine k_get (C := RX7) (T := TX7) (N := 9) (ci := 7) (v := .int ((if (if (if rv_37 < rv_39 then rv_39 else rv_37) < rv_41 then rv_41 else (if rv_37 < rv_39 then rv_39 else rv_37)) < rv_43 then rv_43 else (if (if rv_37 < rv_39 then rv_39 else rv_37) < rv_41 then rv_41 else (if rv_37 < rv_39 then rv_39 else rv_37))))) X hE hP 0 rfl rfl iX7 7 (by decide) w_371 rfl dX7_next_167 ?_
              refine lv_iconst (v := (-1)) hx hb dX7_next_170 (by decide) ?_
              refine lv_icmp_ne (tgt := 180) hx hb dX7_next_171 (by decide) (fun c_171 => ?_) (fun c_171 => ?_)
              · skip
                refine lv_sipush (v := 258) hx hb dX7_next_180 (by decide) ?_
                refine k_put (C := RX7) (T := TX7) (N := 9) (ci := 7) (v := .int 258) (ty := .int) X hE hP hD hS 0 rfl rfl iX7 tyX7 tyX7_ok nmX7 4 (by decide) w_369 rfl (by decide +kernel) rfl rfl (Nat.le_of_ble_eq_true rfl) [(h0, .inr (7, [.ref htb, .int (nI ln), .int (nI le), .int (nI ax2_28), .int 258, .int (nI pl2_30), .int (nI lt2_31), .int ((if (if (if rv_37 < rv_39 then rv_39 else rv_37) < rv_41 then rv_41 else (if rv_37 < rv_39 then rv_39 else rv_37)) < rv_43 then rv_43 else (if (if rv_37 < rv_39 then rv_39 else rv_37) < rv_41 then rv_41 else (if rv_37 < rv_39 then rv_39 else rv_37)))), .int (-1)])), (htb, .inl (cA, 6000, .inl tz))] rfl dX7_next_183 (fun H locs hP hD hS => ?_)
                refine lv_goto (tgt := 277) hx hb dX7_next_186 (by decide) ?_
                rw [hQ9]
                exact endV X hr hlocks hP hD hS dX7_next_277 ⟨ax2_28, 258, pl2_30, lt2_31, (if (if (if rv_37 < rv_39 then rv_39 else rv_37) < rv_41 then rv_41 else (if rv_37 < rv_39 then rv_39 else rv_37)) < rv_43 then rv_43 else (if (if rv_37 < rv_39 then rv_39 else rv_37) < rv_41 then rv_41 else (if rv_37 < rv_39 then rv_39 else rv_37))), (-1), (by omega), (by omega), (by omega), (by omega), (fun q => absurd q (by decide)), rfl⟩
              · skip
                refine lv_sipush (v := 257) hx hb dX7_next_174 (by decide) ?_
                refine lv_goto (tgt := 183) hx hb dX7_next_177 (by decide) ?_
                refine k_put (C := RX7) (T := TX7) (N := 9) (ci := 7) (v := .int 257) (ty := .int) X hE hP hD hS 0 rfl rfl iX7 tyX7 tyX7_ok nmX7 4 (by decide) w_369 rfl (by decide +kernel) rfl rfl (Nat.le_of_ble_eq_true rfl) [(h0, .inr (7, [.ref htb, .int (nI ln), .int (nI le), .int (nI ax2_28), .int 257, .int (nI pl2_30), .int (nI lt2_31), .int ((if (if (if rv_37 < rv_39 then rv_39 else rv_37) < rv_41 then rv_41 else (if rv_37 < rv_39 then rv_39 else rv_37)) < rv_43 then rv_43 else (if (if rv_37 < rv_39 then rv_39 else rv_37) < rv_41 then rv_41 else (if rv_37 < rv_39 then rv_39 else rv_37)))), .int (-1)])), (htb, .inl (cA, 6000, .inl tz))] rfl dX7_next_183 (fun H locs hP hD hS => ?_)
                refine lv_goto (tgt := 277) hx hb dX7_next_186 (by decide) ?_
                rw [hQ9]
                exact endV X hr hlocks hP hD hS dX7_next_277 ⟨ax2_28, 257, pl2_30, lt2_31, (if (if (if rv_37 < rv_39 then rv_39 else rv_37) < rv_41 then rv_41 else (if rv_37 < rv_39 then rv_39 else rv_37)) < rv_43 then rv_43 else (if (if rv_37 < rv_39 then rv_39 else rv_37) < rv_41 then rv_41 else (if rv_37 < rv_39 then rv_39 else rv_37))), (-1), (by omega), (by omega), (by omega), (by omega), (fun _ => (hf_36 c_98)), rfl⟩
        · have nc_59_2 : le ≤ axv := Nat.not_lt.mp (fun q => c_59_2 ((nI_ltI (a := axv) (b := le) (by omega) (by omega)).mpr q))
          refine lv_aload_n hx hb dX7_next_62 rfl (lv_at hl 0 rfl) ?_
          refine lv_sipush (v := 256) hx hb dX7_next_63 (by decide) ?_
          refine k_put (C := RX7) (T := TX7) (N := 9) (ci := 7) (v := .int 256) (ty := .int) X hE hP hD hS 0 rfl rfl iX7 tyX7 tyX7_ok nmX7 4 (by decide) w_369 rfl (by decide +kernel) rfl rfl (Nat.le_of_ble_eq_true rfl) [(h0, .inr (7, [.ref htb, .int (nI ln), .int (nI le), .int (nI axv), .int 256, .int (nI axv), .int (nI lt), .int vl, .int (-1)])), (htb, .inl (cA, 6000, .inl tz))] rfl dX7_next_66 (fun H locs hP hD hS => ?_)
          rw [hQ9]
          exact endV X hr hlocks hP hD hS dX7_next_69 ⟨axv, 256, axv, lt, vl, (-1), haxv, (by omega), hlt, (by omega), (fun q => absurd q (by decide)), rfl⟩
      · have nc_8_1 : axv < le := Nat.not_le.mp (fun q => c_8_1 ((nI_leI (a := le) (b := axv) (by omega) (by omega)).mpr q))
        refine lv_aload_n hx hb dX7_next_11 rfl (lv_at hl 0 rfl) ?_
        refine k_get (C := RX7) (T := TX7) (N := 9) (ci := 7) (v := .ref htb) X hE hP 0 rfl rfl iX7 0 (by decide) w_368 rfl dX7_next_12 ?_
        refine lv_aload_n hx hb dX7_next_15 rfl (lv_at hl 0 rfl) ?_
        refine k_get (C := RX7) (T := TX7) (N := 9) (ci := 7) (v := .int (nI axv)) X hE hP 0 rfl rfl iX7 3 (by decide) w_366 rfl dX7_next_16 ?_
        obtain ⟨k_45, hk_45, ek_45⟩ := htz axv (by omega)
        refine k_ald (v := nI k_45) X hE hP 1 rfl axv rfl (by omega) (by decide) ek_45 dX7_next_19 ?_
        refine lv_bipush (v := 32) hx hb dX7_next_20 (by decide) ?_
        refine lv_icmp_ne (tgt := 38) hx hb dX7_next_22 (by decide) (fun c_22_46 => ?_) (fun c_22_46 => ?_)
        · have nc_22_46 : ¬ k_45 = 32 := fun q => c_22_46 ((nI_eq (a := k_45) (b := 32) (by omega) (by omega)).mpr q)
          refine lv_aload_n hx hb dX7_next_38 rfl (lv_at hl 0 rfl) ?_
          refine lv_aload_n hx hb dX7_next_39 rfl (lv_at hl 0 rfl) ?_
          refine k_get (C := RX7) (T := TX7) (N := 9) (ci := 7) (v := .int (nI axv)) X hE hP 0 rfl rfl iX7 3 (by decide) w_366 rfl dX7_next_40 ?_
          refine k_put (C := RX7) (T := TX7) (N := 9) (ci := 7) (v := .int (nI axv)) (ty := .int) X hE hP hD hS 0 rfl rfl iX7 tyX7 tyX7_ok nmX7 5 (by decide) w_376 rfl (by decide +kernel) rfl rfl (Nat.le_of_ble_eq_true rfl) [(h0, .inr (7, [.ref htb, .int (nI ln), .int (nI le), .int (nI axv), .int kd, .int (nI axv), .int (nI lt), .int vl, .int ms])), (htb, .inl (cA, 6000, .inl tz))] rfl dX7_next_43 (fun H locs hP hD hS => ?_)
          refine lv_aload_n hx hb dX7_next_46 rfl (lv_at hl 0 rfl) ?_
          refine lv_iconst (v := (-1)) hx hb dX7_next_47 (by decide) ?_
          refine k_put (C := RX7) (T := TX7) (N := 9) (ci := 7) (v := .int (-1)) (ty := .int) X hE hP hD hS 0 rfl rfl iX7 tyX7 tyX7_ok nmX7 8 (by decide) w_370 rfl (by decide +kernel) rfl rfl (Nat.le_of_ble_eq_true rfl) [(h0, .inr (7, [.ref htb, .int (nI ln), .int (nI le), .int (nI axv), .int kd, .int (nI axv), .int (nI lt), .int vl, .int (-1)])), (htb, .inl (cA, 6000, .inl tz))] rfl dX7_next_48 (fun H locs hP hD hS => ?_)
          refine lv_aload_n hx hb dX7_next_51 rfl (lv_at hl 0 rfl) ?_
          refine k_get (C := RX7) (T := TX7) (N := 9) (ci := 7) (v := .int (nI axv)) X hE hP 0 rfl rfl iX7 3 (by decide) w_366 rfl dX7_next_52 ?_
          refine lv_aload_n hx hb dX7_next_55 rfl (lv_at hl 0 rfl) ?_
          refine k_get (C := RX7) (T := TX7) (N := 9) (ci := 7) (v := .int (nI le)) X hE hP 0 rfl rfl iX7 2 (by decide) w_367 rfl dX7_next_56 ?_
          refine lv_icmp_lt (tgt := 70) hx hb dX7_next_59 (by decide) (fun c_59_47 => ?_) (fun c_59_47 => ?_)
          · have nc_59_47 : axv < le := (nI_ltI (a := axv) (b := le) (by omega) (by omega)).mp c_59_47
            refine lv_aload_n hx hb dX7_next_70 rfl (lv_at hl 0 rfl) ?_
            refine k_get (C := RX7) (T := TX7) (N := 9) (ci := 7) (v := .ref htb) X hE hP 0 rfl rfl iX7 0 (by decide) w_368 rfl dX7_next_71 ?_
            refine lv_aload_n hx hb dX7_next_74 rfl (lv_at hl 0 rfl) ?_
            refine k_get (C := RX7) (T := TX7) (N := 9) (ci := 7) (v := .int (nI axv)) X hE hP 0 rfl rfl iX7 3 (by decide) w_366 rfl dX7_next_75 ?_
            obtain ⟨k_48, hk_48, ek_48⟩ := htz axv (by omega)
            refine k_ald (v := nI k_48) X hE hP 1 rfl axv rfl (by omega) (by decide) ek_48 dX7_next_78 ?_
            refine lv_istore_n (lv' := [(1, .int (nI k_48)), (0, .ref h0)]) hx hb dX7_next_79 rfl hl (by decide) rfl (fun ls hl => ?_)
            refine lv_iload_n hx hb dX7_next_80 rfl (lv_at hl 0 rfl) ?_
            refine kSi (n3 := 1) (As := [.int (nI k_48)]) (rest := []) X hl.1 hE hP hD hS hA [] [(h0, .inr (7, [.ref htb, .int (nI ln), .int (nI le), .int (nI axv), .int kd, .int (nI axv), .int (nI lt), .int vl, .int (-1)])), (htb, .inl (cA, 6000, .inl tz))] [] [0, 1] rfl rfl rfl (by decide +kernel) (by decide +kernel) (by decide +kernel) (c_s_isLetter l D cA cB (nI k_48) ) w_379 w_374 w_378 w_380 (by decide +kernel) rfl rfl (Nat.le_of_ble_eq_true rfl) ⟨(Nat.le_of_ble_eq_true rfl), (Nat.le_of_ble_eq_true rfl)⟩ ⟨(Nat.le_of_ble_eq_true rfl), (Nat.le_of_ble_eq_true rfl)⟩ dX7_next_81 (fun r W1 H locs hw hP hD hS => ?_)
            obtain ⟨rk_49, rfl, hf_50, rfl⟩ := hw
            have hP : va_P D classes [(h0, .inr (7, [.ref htb, .int (nI ln), .int (nI le), .int (nI axv), .int kd, .int (nI axv), .int (nI lt), .int vl, .int (-1)])), (htb, .inl (cA, 6000, .inl tz))] H := hP
            have hD : va_D A [(h0, .inr (7, [.ref htb, .int (nI ln), .int (nI le), .int (nI axv), .int kd, .int (nI axv), .int (nI lt), .int vl, .int (-1)])), (htb, .inl (cA, 6000, .inl tz))] := hD
            refine lv_if_eq (tgt := 189) hx hb dX7_next_84 (by decide) (fun c_84_51 => ?_) (fun c_84_51 => ?_)
            · have nc_84_51 : rk_49 = 0 := (nI_eq (a := rk_49) (b := 0) (by omega) (by omega)).mp c_84_51
              refine lv_iload_n hx hb dX7_next_189 rfl (lv_at hl 0 rfl) ?_
              refine lv_bipush (v := 39) hx hb dX7_next_190 (by decide) ?_
              refine lv_icmp_ne (tgt := 202) hx hb dX7_next_192 (by decide) (fun c_192_52 => ?_) (fun c_192_52 => ?_)
              · have nc_192_52 : ¬ k_48 = 39 := fun q => c_192_52 ((nI_eq (a := k_48) (b := 39) (by omega) (by omega)).mpr q)
                refine lv_iload_n hx hb dX7_next_202 rfl (lv_at hl 0 rfl) ?_
                refine lv_bipush (v := 36) hx hb dX7_next_203 (by decide) ?_
                refine lv_icmp_ne (tgt := 228) hx hb dX7_next_205 (by decide) (fun c_205_53 => ?_) (fun c_205_53 => ?_)
                · have nc_205_53 : ¬ k_48 = 36 := fun q => c_205_53 ((nI_eq (a := k_48) (b := 36) (by omega) (by omega)).mpr q)
                  refine lv_iload_n hx hb dX7_next_228 rfl (lv_at hl 0 rfl) ?_
                  refine kSi (n3 := 1) (As := [.int (nI k_48)]) (rest := []) X hl.1 hE hP hD hS hA [] [(h0, .inr (7, [.ref htb, .int (nI ln), .int (nI le), .int (nI axv), .int kd, .int (nI axv), .int (nI lt), .int vl, .int (-1)])), (htb, .inl (cA, 6000, .inl tz))] [] [0, 1] rfl rfl rfl (by decide +kernel) (by decide +kernel) (by decide +kernel) (c_s_digit l D cA cB (nI k_48) ) w_373 w_374 w_372 w_375 (by decide +kernel) rfl rfl (Nat.le_of_ble_eq_true rfl) ⟨(Nat.le_of_ble_eq_true rfl), (Nat.le_of_ble_eq_true rfl)⟩ ⟨(Nat.le_of_ble_eq_true rfl), (Nat.le_of_ble_eq_true rfl)⟩ dX7_next_229 (fun r W1 H locs hw hP hD hS => ?_)
                  obtain ⟨rv_54, er_55, rfl⟩ := hw
                  have hP : va_P D classes [(h0, .inr (7, [.ref htb, .int (nI ln), .int (nI le), .int (nI axv), .int kd, .int (nI axv), .int (nI lt), .int vl, .int (-1)])), (htb, .inl (cA, 6000, .inl tz))] H := hP
                  have hD : va_D A [(h0, .inr (7, [.ref htb, .int (nI ln), .int (nI le), .int (nI axv), .int kd, .int (nI axv), .int (nI lt), .int vl, .int (-1)])), (htb, .inl (cA, 6000, .inl tz))] := hD
                  refine tk (y := rv_54) er_55 ?_
                  refine lv_iconst (v := (-1)) hx hb dX7_next_232 (by decide) ?_
                  refine lv_icmp_eq (tgt := 246) hx hb dX7_next_233 (by decide) (fun c_233 => ?_) (fun c_233 => ?_)
                  · skip
                    refine lv_aload_n hx hb dX7_next_246 rfl (lv_at hl 1 rfl) ?_
                    refine lv_dup hx hb dX7_next_247 rfl ?_
                    refine k_get (C := RX7) (T := TX7) (N := 9) (ci := 7) (v := .int (nI axv)) X hE hP 0 rfl rfl iX7 3 (by decide) w_366 rfl dX7_next_248 ?_
                    refine lv_iconst (v := 1) hx hb dX7_next_251 (by decide) ?_
                    refine lv_iadd hx hb dX7_next_252 ?_
                    refine tk (y := nI (axv + 1)) (nI_add axv 1) ?_
                    refine k_put (C := RX7) (T := TX7) (N := 9) (ci := 7) (v := .int (nI (axv + 1))) (ty := .int) X hE hP hD hS 0 rfl rfl iX7 tyX7 tyX7_ok nmX7 3 (by decide) w_366 rfl (by decide +kernel) rfl rfl (Nat.le_of_ble_eq_true rfl) [(h0, .inr (7, [.ref htb, .int (nI ln), .int (nI le), .int (nI (axv + 1)), .int kd, .int (nI axv), .int (nI lt), .int vl, .int (-1)])), (htb, .inl (cA, 6000, .inl tz))] rfl dX7_next_253 (fun H locs hP hD hS => ?_)
                    refine lv_aload_n hx hb dX7_next_256 rfl (lv_at hl 1 rfl) ?_
                    refine va_ldcS hx hb X.2.2.2.1 (e_rTape73 hE) dX7_next_257 ?_
                    refine lv_iload_n hx hb dX7_next_259 rfl (lv_at hl 0 rfl) ?_
                    refine lv_i2c (v := nI k_48) hx hb dX7_next_260 (sf_i2c (by omega)) ?_
                    refine kVsi (n3 := 1) (As := [.int (nI k_48)]) (rest := [.ref h0]) X hl.1 hE hP hD hS hA [0, 1] rfl (by decide) (c_s_indexOf l D cA cB 4 (nI k_48) (by first | assumption | omega | decide | rfl)) w_477 w_421 w_476 w_478 w_479 ((e_str hE).1 4 (by decide)).1 (by decide +kernel) rfl rfl (Nat.le_of_ble_eq_true rfl) ⟨(Nat.le_of_ble_eq_true rfl), (Nat.le_of_ble_eq_true rfl)⟩ ⟨(Nat.le_of_ble_eq_true rfl), (Nat.le_of_ble_eq_true rfl)⟩ dX7_next_261 (fun r W1 H locs hw hP hD hS => ?_)
                    obtain ⟨rv_56, er_57, rfl⟩ := hw
                    have hP : va_P D classes [(h0, .inr (7, [.ref htb, .int (nI ln), .int (nI le), .int (nI (axv + 1)), .int kd, .int (nI axv), .int (nI lt), .int vl, .int (-1)])), (htb, .inl (cA, 6000, .inl tz))] H := hP
                    have hD : va_D A [(h0, .inr (7, [.ref htb, .int (nI ln), .int (nI le), .int (nI (axv + 1)), .int kd, .int (nI axv), .int (nI lt), .int vl, .int (-1)])), (htb, .inl (cA, 6000, .inl tz))] := hD
                    refine tk (y := rv_56) er_57 ?_
                    refine lv_if_lt (tgt := 271) hx hb dX7_next_264 (by decide) (fun c_264 => ?_) (fun c_264 => ?_)
                    · skip
                      refine lv_sipush (v := 260) hx hb dX7_next_271 (by decide) ?_
                      refine k_put (C := RX7) (T := TX7) (N := 9) (ci := 7) (v := .int 260) (ty := .int) X hE hP hD hS 0 rfl rfl iX7 tyX7 tyX7_ok nmX7 4 (by decide) w_369 rfl (by decide +kernel) rfl rfl (Nat.le_of_ble_eq_true rfl) [(h0, .inr (7, [.ref htb, .int (nI ln), .int (nI le), .int (nI (axv + 1)), .int 260, .int (nI axv), .int (nI lt), .int vl, .int (-1)])), (htb, .inl (cA, 6000, .inl tz))] rfl dX7_next_274 (fun H locs hP hD hS => ?_)
                      rw [hQ9]
                      exact endV X hr hlocks hP hD hS dX7_next_277 ⟨(axv + 1), 260, axv, lt, vl, (-1), (by omega), (by omega), hlt, (by omega), (fun q => absurd q (by decide)), rfl⟩
                    · skip
                      refine lv_iload_n hx hb dX7_next_267 rfl (lv_at hl 0 rfl) ?_
                      refine lv_goto (tgt := 274) hx hb dX7_next_268 (by decide) ?_
                      refine k_put (C := RX7) (T := TX7) (N := 9) (ci := 7) (v := .int (nI k_48)) (ty := .int) X hE hP hD hS 0 rfl rfl iX7 tyX7 tyX7_ok nmX7 4 (by decide) w_369 rfl (by decide +kernel) rfl rfl (Nat.le_of_ble_eq_true rfl) [(h0, .inr (7, [.ref htb, .int (nI ln), .int (nI le), .int (nI (axv + 1)), .int (nI k_48), .int (nI axv), .int (nI lt), .int vl, .int (-1)])), (htb, .inl (cA, 6000, .inl tz))] rfl dX7_next_274 (fun H locs hP hD hS => ?_)
                      rw [hQ9]
                      exact endV X hr hlocks hP hD hS dX7_next_277 ⟨(axv + 1), (nI k_48), axv, lt, vl, (-1), (by omega), (by omega), hlt, (by omega), (fun q => absurd q (nI_ne (a := k_48) (b := 257) (by omega) (by omega) (by omega))), rfl⟩
                  · skip
                    refine lv_aload_n hx hb dX7_next_236 rfl (lv_at hl 1 rfl) ?_
                    refine lv_bipush (v := 10) hx hb dX7_next_237 (by decide) ?_
                    refine lv_iconst (v := 5) hx hb dX7_next_239 (by decide) ?_
                    refine kVv (n3 := 2) (As := [.int 10, .int 5]) (rest := []) X hl.1 hE hP hD hS hA [(h0, .inr (7, [.ref htb, .int (nI ln), .int (nI le), .int (nI axv), .int kd, .int (nI axv), .int (nI lt), .int vl, .int (-1)])), (htb, .inl (cA, 6000, .inl tz))] [] [0, 1] [] rfl rfl rfl (by decide +kernel) (by decide +kernel) (by decide +kernel) (c_s_readDigits l D cA cB h0 htb ln le axv kd axv lt vl (-1) tz 10 5 hle (by first | assumption | omega | decide | rfl) (by first | assumption | omega | decide | rfl) hlt hln (by decide)) w_481 w_374 w_480 w_482 w_483 0 (ci := 7) (T := TX7) (N := 9) rfl rfl (by decide +kernel) rfl rfl (Nat.le_of_ble_eq_true rfl) ⟨(Nat.le_of_ble_eq_true rfl), (Nat.le_of_ble_eq_true rfl)⟩ ⟨(Nat.le_of_ble_eq_true rfl), (Nat.le_of_ble_eq_true rfl)⟩ dX7_next_240 (fun W1 H locs hw hP hD hS => ?_)
                    obtain ⟨ax2_58, vl2_59, ms2_60, hf_61, hf_62, rfl⟩ := hw
                    have hP : va_P D classes [(h0, .inr (7, [.ref htb, .int (nI ln), .int (nI le), .int (nI ax2_58), .int 259, .int (nI axv), .int (nI lt), .int vl2_59, .int ms2_60])), (htb, .inl (cA, 6000, .inl tz))] H := hP
                    have hD : va_D A [(h0, .inr (7, [.ref htb, .int (nI ln), .int (nI le), .int (nI ax2_58), .int 259, .int (nI axv), .int (nI lt), .int vl2_59, .int ms2_60])), (htb, .inl (cA, 6000, .inl tz))] := hD
                    refine lv_goto (tgt := 277) hx hb dX7_next_243 (by decide) ?_
                    rw [hQ9]
                    exact endV X hr hlocks hP hD hS dX7_next_277 ⟨ax2_58, 259, axv, lt, vl2_59, ms2_60, (by omega), (by omega), hlt, (by omega), (fun q => absurd q (by decide)), rfl⟩
                · have nc_205_53 : k_48 = 36 := (nI_eq (a := k_48) (b := 36) (by omega) (by omega)).mp c_205_53
                  refine lv_aload_n hx hb dX7_next_208 rfl (lv_at hl 1 rfl) ?_
                  refine lv_dup hx hb dX7_next_209 rfl ?_
                  refine k_get (C := RX7) (T := TX7) (N := 9) (ci := 7) (v := .int (nI axv)) X hE hP 0 rfl rfl iX7 3 (by decide) w_366 rfl dX7_next_210 ?_
                  refine lv_iconst (v := 1) hx hb dX7_next_213 (by decide) ?_
                  refine lv_iadd hx hb dX7_next_214 ?_
                  refine tk (y := nI (axv + 1)) (nI_add axv 1) ?_
                  refine k_put (C := RX7) (T := TX7) (N := 9) (ci := 7) (v := .int (nI (axv + 1))) (ty := .int) X hE hP hD hS 0 rfl rfl iX7 tyX7 tyX7_ok nmX7 3 (by decide) w_366 rfl (by decide +kernel) rfl rfl (Nat.le_of_ble_eq_true rfl) [(h0, .inr (7, [.ref htb, .int (nI ln), .int (nI le), .int (nI (axv + 1)), .int kd, .int (nI axv), .int (nI lt), .int vl, .int (-1)])), (htb, .inl (cA, 6000, .inl tz))] rfl dX7_next_215 (fun H locs hP hD hS => ?_)
                  refine lv_aload_n hx hb dX7_next_218 rfl (lv_at hl 1 rfl) ?_
                  refine lv_bipush (v := 16) hx hb dX7_next_219 (by decide) ?_
                  refine lv_iconst (v := 4) hx hb dX7_next_221 (by decide) ?_
                  refine kVv (n3 := 2) (As := [.int 16, .int 4]) (rest := []) X hl.1 hE hP hD hS hA [(h0, .inr (7, [.ref htb, .int (nI ln), .int (nI le), .int (nI (axv + 1)), .int kd, .int (nI axv), .int (nI lt), .int vl, .int (-1)])), (htb, .inl (cA, 6000, .inl tz))] [] [0, 1] [] rfl rfl rfl (by decide +kernel) (by decide +kernel) (by decide +kernel) (c_s_readDigits l D cA cB h0 htb ln le (axv + 1) kd axv lt vl (-1) tz 16 4 hle (by first | assumption | omega | decide | rfl) (by first | assumption | omega | decide | rfl) hlt hln (by decide)) w_481 w_374 w_480 w_482 w_483 0 (ci := 7) (T := TX7) (N := 9) rfl rfl (by decide +kernel) rfl rfl (Nat.le_of_ble_eq_true rfl) ⟨(Nat.le_of_ble_eq_true rfl), (Nat.le_of_ble_eq_true rfl)⟩ ⟨(Nat.le_of_ble_eq_true rfl), (Nat.le_of_ble_eq_true rfl)⟩ dX7_next_222 (fun W1 H locs hw hP hD hS => ?_)
                  obtain ⟨ax2_63, vl2_64, ms2_65, hf_66, hf_67, rfl⟩ := hw
                  have hP : va_P D classes [(h0, .inr (7, [.ref htb, .int (nI ln), .int (nI le), .int (nI ax2_63), .int 259, .int (nI axv), .int (nI lt), .int vl2_64, .int ms2_65])), (htb, .inl (cA, 6000, .inl tz))] H := hP
                  have hD : va_D A [(h0, .inr (7, [.ref htb, .int (nI ln), .int (nI le), .int (nI ax2_63), .int 259, .int (nI axv), .int (nI lt), .int vl2_64, .int ms2_65])), (htb, .inl (cA, 6000, .inl tz))] := hD
                  refine lv_goto (tgt := 277) hx hb dX7_next_225 (by decide) ?_
                  rw [hQ9]
                  exact endV X hr hlocks hP hD hS dX7_next_277 ⟨ax2_63, 259, axv, lt, vl2_64, ms2_65, (by omega), (by omega), hlt, (by omega), (fun q => absurd q (by decide)), rfl⟩
              · have nc_192_52 : k_48 = 39 := (nI_eq (a := k_48) (b := 39) (by omega) (by omega)).mp c_192_52
                refine lv_aload_n hx hb dX7_next_195 rfl (lv_at hl 1 rfl) ?_
                refine kVv (n3 := 0) (As := []) (rest := []) X hl.1 hE hP hD hS hA [(h0, .inr (7, [.ref htb, .int (nI ln), .int (nI le), .int (nI axv), .int kd, .int (nI axv), .int (nI lt), .int vl, .int (-1)])), (htb, .inl (cA, 6000, .inl tz))] [] [0, 1] [] rfl rfl rfl (by decide +kernel) (by decide +kernel) (by decide +kernel) (c_s_readQuoted l D cA cB h0 htb ln le axv kd axv lt vl (-1) tz hle (by first | assumption | omega | decide | rfl) (by first | assumption | omega | decide | rfl) hlt hln) w_485 w_374 w_484 w_486 w_487 0 (ci := 7) (T := TX7) (N := 9) rfl rfl (by decide +kernel) rfl rfl (Nat.le_of_ble_eq_true rfl) ⟨(Nat.le_of_ble_eq_true rfl), (Nat.le_of_ble_eq_true rfl)⟩ ⟨(Nat.le_of_ble_eq_true rfl), (Nat.le_of_ble_eq_true rfl)⟩ dX7_next_196 (fun W1 H locs hw hP hD hS => ?_)
                obtain ⟨ax2_68, vl2_69, ms2_70, hf_71, hf_72, rfl⟩ := hw
                have hP : va_P D classes [(h0, .inr (7, [.ref htb, .int (nI ln), .int (nI le), .int (nI ax2_68), .int 259, .int (nI axv), .int (nI lt), .int vl2_69, .int ms2_70])), (htb, .inl (cA, 6000, .inl tz))] H := hP
                have hD : va_D A [(h0, .inr (7, [.ref htb, .int (nI ln), .int (nI le), .int (nI ax2_68), .int 259, .int (nI axv), .int (nI lt), .int vl2_69, .int ms2_70])), (htb, .inl (cA, 6000, .inl tz))] := hD
                refine lv_goto (tgt := 277) hx hb dX7_next_199 (by decide) ?_
                rw [hQ9]
                exact endV X hr hlocks hP hD hS dX7_next_277 ⟨ax2_68, 259, axv, lt, vl2_69, ms2_70, (by omega), (by omega), hlt, (by omega), (fun q => absurd q (by decide)), rfl⟩
            · have nc_84_51 : ¬ rk_49 = 0 := fun q => c_84_51 ((nI_eq (a := rk_49) (b := 0) (by omega) (by omega)).mpr q)
              refine lv_aload_n hx hb dX7_next_87 rfl (lv_at hl 1 rfl) ?_
              refine kVv (n3 := 0) (As := []) (rest := []) X hl.1 hE hP hD hS hA [(h0, .inr (7, [.ref htb, .int (nI ln), .int (nI le), .int (nI axv), .int kd, .int (nI axv), .int (nI lt), .int vl, .int (-1)])), (htb, .inl (cA, 6000, .inl tz))] [] [0, 1] [] rfl rfl rfl (by decide +kernel) (by decide +kernel) (by decide +kernel) (c_s_readLetters l D cA cB h0 htb ln le axv kd axv lt vl (-1) tz hle (by first | assumption | omega | decide | rfl) (by first | assumption | omega | decide | rfl) hlt hln (by first | assumption | omega | decide | rfl)) w_489 w_374 w_488 w_490 w_491 0 (ci := 7) (T := TX7) (N := 9) rfl rfl (by decide +kernel) rfl rfl (Nat.le_of_ble_eq_true rfl) ⟨(Nat.le_of_ble_eq_true rfl), (Nat.le_of_ble_eq_true rfl)⟩ ⟨(Nat.le_of_ble_eq_true rfl), (Nat.le_of_ble_eq_true rfl)⟩ dX7_next_88 (fun W1 H locs hw hP hD hS => ?_)
              obtain ⟨ax2_73, kd2_74, pl2_75, lt2_76, hf_77, hf_78, hf_79, hf_80, hf_81, rfl⟩ := hw
              have hP : va_P D classes [(h0, .inr (7, [.ref htb, .int (nI ln), .int (nI le), .int (nI ax2_73), .int kd2_74, .int (nI pl2_75), .int (nI lt2_76), .int vl, .int (-1)])), (htb, .inl (cA, 6000, .inl tz))] H := hP
              have hD : va_D A [(h0, .inr (7, [.ref htb, .int (nI ln), .int (nI le), .int (nI ax2_73), .int kd2_74, .int (nI pl2_75), .int (nI lt2_76), .int vl, .int (-1)])), (htb, .inl (cA, 6000, .inl tz))] := hD
              refine lv_aload_n hx hb dX7_next_91 rfl (lv_at hl 1 rfl) ?_
              refine k_get (C := RX7) (T := TX7) (N := 9) (ci := 7) (v := .int kd2_74) X hE hP 0 rfl rfl iX7 4 (by decide) w_369 rfl dX7_next_92 ?_
              refine lv_sipush (v := 257) hx hb dX7_next_95 (by decide) ?_
              refine lv_icmp_ne (tgt := 277) hx hb dX7_next_98 (by decide) (fun c_98 => ?_) (fun c_98 => ?_)
              · skip
                rw [hQ9]
                exact endV X hr hlocks hP hD hS dX7_next_277 ⟨ax2_73, kd2_74, pl2_75, lt2_76, vl, (-1), (by omega), (by omega), (by omega), (by omega), hf_81, rfl⟩
              · skip
                refine lv_aload_n hx hb dX7_next_101 rfl (lv_at hl 1 rfl) ?_
                refine lv_aload_n hx hb dX7_next_102 rfl (lv_at hl 1 rfl) ?_
                refine va_ldcS hx hb X.2.2.2.1 (e_rTape41 hE) dX7_next_103 ?_
                refine lv_iconst (v := 3) hx hb dX7_next_105 (by decide) ?_
                refine lv_iconst (v := 0) hx hb dX7_next_106 (by decide) ?_
                refine kVi (n3 := 3) (As := [.ref (aK D 0), .int 3, .int 0]) (rest := [.ref h0]) X hl.1 hE hP hD hS hA [(h0, .inr (7, [.ref htb, .int (nI ln), .int (nI le), .int (nI ax2_73), .int kd2_74, .int (nI pl2_75), .int (nI lt2_76), .int vl, .int (-1)])), (htb, .inl (cA, 6000, .inl tz))] [] [0, 1] [] rfl rfl rfl (by decide +kernel) (by decide +kernel) (by decide +kernel) (c_s_wordIn3 l D cA cB h0 htb ln le ax2_73 kd2_74 pl2_75 lt2_76 vl (-1) tz 0 0 hln hle (by first | assumption | omega | decide | rfl) (by first | assumption | omega | decide | rfl) (by first | assumption | omega | decide | rfl) htz (by first | assumption | omega | decide | rfl) (hf_81 c_98)) w_493 w_374 w_492 w_494 w_495 0 (ci := 7) (T := TX7) (N := 9) rfl rfl (by decide +kernel) rfl rfl (Nat.le_of_ble_eq_true rfl) ⟨(Nat.le_of_ble_eq_true rfl), (Nat.le_of_ble_eq_true rfl)⟩ ⟨(Nat.le_of_ble_eq_true rfl), (Nat.le_of_ble_eq_true rfl)⟩ dX7_next_107 (fun r W1 H locs hw hP hD hS => ?_)
                obtain ⟨rv_82, er_83, rfl⟩ := hw
                have hP : va_P D classes [(h0, .inr (7, [.ref htb, .int (nI ln), .int (nI le), .int (nI ax2_73), .int kd2_74, .int (nI pl2_75), .int (nI lt2_76), .int vl, .int (-1)])), (htb, .inl (cA, 6000, .inl tz))] H := hP
                have hD : va_D A [(h0, .inr (7, [.ref htb, .int (nI ln), .int (nI le), .int (nI ax2_73), .int kd2_74, .int (nI pl2_75), .int (nI lt2_76), .int vl, .int (-1)])), (htb, .inl (cA, 6000, .inl tz))] := hD
                refine tk (y := rv_82) er_83 ?_
                refine lv_aload_n hx hb dX7_next_110 rfl (lv_at hl 1 rfl) ?_
                refine va_ldcS hx hb X.2.2.2.1 (e_rTape47 hE) dX7_next_111 ?_
                refine lv_iconst (v := 3) hx hb dX7_next_113 (by decide) ?_
                refine lv_bipush (v := 32) hx hb dX7_next_114 (by decide) ?_
                refine kVi (n3 := 3) (As := [.ref (aK D 1), .int 3, .int 32]) (rest := [.int rv_82, .ref h0]) X hl.1 hE hP hD hS hA [(h0, .inr (7, [.ref htb, .int (nI ln), .int (nI le), .int (nI ax2_73), .int kd2_74, .int (nI pl2_75), .int (nI lt2_76), .int vl, .int (-1)])), (htb, .inl (cA, 6000, .inl tz))] [] [0, 1] [] rfl rfl rfl (by decide +kernel) (by decide +kernel) (by decide +kernel) (c_s_wordIn3 l D cA cB h0 htb ln le ax2_73 kd2_74 pl2_75 lt2_76 vl (-1) tz 1 32 hln hle (by first | assumption | omega | decide | rfl) (by first | assumption | omega | decide | rfl) (by first | assumption | omega | decide | rfl) htz (by first | assumption | omega | decide | rfl) (hf_81 c_98)) w_493 w_374 w_492 w_494 w_495 0 (ci := 7) (T := TX7) (N := 9) rfl rfl (by decide +kernel) rfl rfl (Nat.le_of_ble_eq_true rfl) ⟨(Nat.le_of_ble_eq_true rfl), (Nat.le_of_ble_eq_true rfl)⟩ ⟨(Nat.le_of_ble_eq_true rfl), (Nat.le_of_ble_eq_true rfl)⟩ dX7_next_116 (fun r W1 H locs hw hP hD hS => ?_)
                obtain ⟨rv_84, er_85, rfl⟩ := hw
                have hP : va_P D classes [(h0, .inr (7, [.ref htb, .int (nI ln), .int (nI le), .int (nI ax2_73), .int kd2_74, .int (nI pl2_75), .int (nI lt2_76), .int vl, .int (-1)])), (htb, .inl (cA, 6000, .inl tz))] H := hP
                have hD : va_D A [(h0, .inr (7, [.ref htb, .int (nI ln), .int (nI le), .int (nI ax2_73), .int kd2_74, .int (nI pl2_75), .int (nI lt2_76), .int vl, .int (-1)])), (htb, .inl (cA, 6000, .inl tz))] := hD
                refine tk (y := rv_84) er_85 ?_
                refine va_mmax hx hb (X.2.2.1.trans hl.1.symm) X.2.2.2.1 (X.2.2.2.2 _ w_496) (X.2.2.2.2 _ w_42) (X.2.2.2.2 _ w_43) (X.2.2.2.2 _ w_44) (Nat.le_of_ble_eq_true rfl) (Nat.le_of_ble_eq_true rfl) (Nat.le_of_ble_eq_true rfl) (Nat.le_of_ble_eq_true rfl) dX7_next_119 ?_
                refine k_put (C := RX7) (T := TX7) (N := 9) (ci := 7) (v := .int ((if rv_82 < rv_84 then rv_84 else rv_82))) (ty := .int) X hE hP hD hS 0 rfl rfl iX7 tyX7 tyX7_ok nmX7 7 (by decide) w_371 rfl (by decide +kernel) rfl rfl (Nat.le_of_ble_eq_true rfl) [(h0, .inr (7, [.ref htb, .int (nI ln), .int (nI le), .int (nI ax2_73), .int kd2_74, .int (nI pl2_75), .int (nI lt2_76), .int ((if rv_82 < rv_84 then rv_84 else rv_82)), .int (-1)])), (htb, .inl (cA, 6000, .inl tz))] rfl dX7_next_122 (fun H locs hP hD hS => ?_)
                refine lv_aload_n hx hb dX7_next_125 rfl (lv_at hl 1 rfl) ?_
                refine lv_aload_n hx hb dX7_next_126 rfl (lv_at hl 1 rfl) ?_
                refine k_get (C := RX7) (T := TX7) (N := 9) (ci := 7) (v := .int ((if rv_82 < rv_84 then rv_84 else rv_82))) X hE hP 0 rfl rfl iX7 7 (by decide) w_371 rfl dX7_next_127 ?_
                refine lv_aload_n hx hb dX7_next_130 rfl (lv_at hl 1 rfl) ?_
                refine va_ldcS hx hb X.2.2.2.1 (e_rTape58 hE) dX7_next_131 ?_
                refine lv_iconst (v := 3) hx hb dX7_next_133 (by decide) ?_
                refine lv_bipush (v := 48) hx hb dX7_next_134 (by decide) ?_
                refine kVi (n3 := 3) (As := [.ref (aK D 2), .int 3, .int 48]) (rest := [.int ((if rv_82 < rv_84 then rv_84 else rv_82)), .ref h0]) X hl.1 hE hP hD hS hA [(h0, .inr (7, [.ref htb, .int (nI ln), .int (nI le), .int (nI ax2_73), .int kd2_74, .int (nI pl2_75), .int (nI lt2_76), .int ((if rv_82 < rv_84 then rv_84 else rv_82)), .int (-1)])), (htb, .inl (cA, 6000, .inl tz))] [] [0, 1] [] rfl rfl rfl (by decide +kernel) (by decide +kernel) (by decide +kernel) (c_s_wordIn3 l D cA cB h0 htb ln le ax2_73 kd2_74 pl2_75 lt2_76 (if rv_82 < rv_84 then rv_84 else rv_82) (-1) tz 2 48 hln hle (by first | assumption | omega | decide | rfl) (by first | assumption | omega | decide | rfl) (by first | assumption | omega | decide | rfl) htz (by first | assumption | omega | decide | rfl) (hf_81 c_98)) w_493 w_374 w_492 w_494 w_495 0 (ci := 7) (T := TX7) (N := 9) rfl rfl (by decide +kernel) rfl rfl (Nat.le_of_ble_eq_true rfl) ⟨(Nat.le_of_ble_eq_true rfl), (Nat.le_of_ble_eq_true rfl)⟩ ⟨(Nat.le_of_ble_eq_true rfl), (Nat.le_of_ble_eq_true rfl)⟩ dX7_next_136 (fun r W1 H locs hw hP hD hS => ?_)
                obtain ⟨rv_86, er_87, rfl⟩ := hw
                have hP : va_P D classes [(h0, .inr (7, [.ref htb, .int (nI ln), .int (nI le), .int (nI ax2_73), .int kd2_74, .int (nI pl2_75), .int (nI lt2_76), .int ((if rv_82 < rv_84 then rv_84 else rv_82)), .int (-1)])), (htb, .inl (cA, 6000, .inl tz))] H := hP
                have hD : va_D A [(h0, .inr (7, [.ref htb, .int (nI ln), .int (nI le), .int (nI ax2_73), .int kd2_74, .int (nI pl2_75), .int (nI lt2_76), .int ((if rv_82 < rv_84 then rv_84 else rv_82)), .int (-1)])), (htb, .inl (cA, 6000, .inl tz))] := hD
                refine tk (y := rv_86) er_87 ?_
                refine va_mmax hx hb (X.2.2.1.trans hl.1.symm) X.2.2.2.1 (X.2.2.2.2 _ w_496) (X.2.2.2.2 _ w_42) (X.2.2.2.2 _ w_43) (X.2.2.2.2 _ w_44) (Nat.le_of_ble_eq_true rfl) (Nat.le_of_ble_eq_true rfl) (Nat.le_of_ble_eq_true rfl) (Nat.le_of_ble_eq_true rfl) dX7_next_139 ?_
                refine k_put (C := RX7) (T := TX7) (N := 9) (ci := 7) (v := .int ((if (if rv_82 < rv_84 then rv_84 else rv_82) < rv_86 then rv_86 else (if rv_82 < rv_84 then rv_84 else rv_82)))) (ty := .int) X hE hP hD hS 0 rfl rfl iX7 tyX7 tyX7_ok nmX7 7 (by decide) w_371 rfl (by decide +kernel) rfl rfl (Nat.le_of_ble_eq_true rfl) [(h0, .inr (7, [.ref htb, .int (nI ln), .int (nI le), .int (nI ax2_73), .int kd2_74, .int (nI pl2_75), .int (nI lt2_76), .int ((if (if rv_82 < rv_84 then rv_84 else rv_82) < rv_86 then rv_86 else (if rv_82 < rv_84 then rv_84 else rv_82))), .int (-1)])), (htb, .inl (cA, 6000, .inl tz))] rfl dX7_next_142 (fun H locs hP hD hS => ?_)
                refine lv_aload_n hx hb dX7_next_145 rfl (lv_at hl 1 rfl) ?_
                refine lv_aload_n hx hb dX7_next_146 rfl (lv_at hl 1 rfl) ?_
                refine k_get (C := RX7) (T := TX7) (N := 9) (ci := 7) (v := .int ((if (if rv_82 < rv_84 then rv_84 else rv_82) < rv_86 then rv_86 else (if rv_82 < rv_84 then rv_84 else rv_82)))) X hE hP 0 rfl rfl iX7 7 (by decide) w_371 rfl dX7_next_147 ?_
                refine lv_aload_n hx hb dX7_next_150 rfl (lv_at hl 1 rfl) ?_
                refine va_ldcS hx hb X.2.2.2.1 (e_rTape60 hE) dX7_next_151 ?_
                refine lv_iconst (v := 5) hx hb dX7_next_153 (by decide) ?_
                refine lv_bipush (v := 80) hx hb dX7_next_154 (by decide) ?_
                refine kVi (n3 := 3) (As := [.ref (aK D 3), .int 5, .int 80]) (rest := [.int ((if (if rv_82 < rv_84 then rv_84 else rv_82) < rv_86 then rv_86 else (if rv_82 < rv_84 then rv_84 else rv_82))), .ref h0]) X hl.1 hE hP hD hS hA [(h0, .inr (7, [.ref htb, .int (nI ln), .int (nI le), .int (nI ax2_73), .int kd2_74, .int (nI pl2_75), .int (nI lt2_76), .int ((if (if rv_82 < rv_84 then rv_84 else rv_82) < rv_86 then rv_86 else (if rv_82 < rv_84 then rv_84 else rv_82))), .int (-1)])), (htb, .inl (cA, 6000, .inl tz))] [] [0, 1] [] rfl rfl rfl (by decide +kernel) (by decide +kernel) (by decide +kernel) (c_s_wordIn5 l D cA cB h0 htb ln le ax2_73 kd2_74 pl2_75 lt2_76 (if (if rv_82 < rv_84 then rv_84 else rv_82) < rv_86 then rv_86 else (if rv_82 < rv_84 then rv_84 else rv_82)) (-1) tz 3 80 hln hle (by first | assumption | omega | decide | rfl) (by first | assumption | omega | decide | rfl) (by first | assumption | omega | decide | rfl) htz (by first | assumption | omega | decide | rfl) (hf_81 c_98)) w_493 w_374 w_492 w_494 w_495 0 (ci := 7) (T := TX7) (N := 9) rfl rfl (by decide +kernel) rfl rfl (Nat.le_of_ble_eq_true rfl) ⟨(Nat.le_of_ble_eq_true rfl), (Nat.le_of_ble_eq_true rfl)⟩ ⟨(Nat.le_of_ble_eq_true rfl), (Nat.le_of_ble_eq_true rfl)⟩ dX7_next_156 (fun r W1 H locs hw hP hD hS => ?_)
                obtain ⟨rv_88, er_89, rfl⟩ := hw
                have hP : va_P D classes [(h0, .inr (7, [.ref htb, .int (nI ln), .int (nI le), .int (nI ax2_73), .int kd2_74, .int (nI pl2_75), .int (nI lt2_76), .int ((if (if rv_82 < rv_84 then rv_84 else rv_82) < rv_86 then rv_86 else (if rv_82 < rv_84 then rv_84 else rv_82))), .int (-1)])), (htb, .inl (cA, 6000, .inl tz))] H := hP
                have hD : va_D A [(h0, .inr (7, [.ref htb, .int (nI ln), .int (nI le), .int (nI ax2_73), .int kd2_74, .int (nI pl2_75), .int (nI lt2_76), .int ((if (if rv_82 < rv_84 then rv_84 else rv_82) < rv_86 then rv_86 else (if rv_82 < rv_84 then rv_84 else rv_82))), .int (-1)])), (htb, .inl (cA, 6000, .inl tz))] := hD
                refine tk (y := rv_88) er_89 ?_
                refine va_mmax hx hb (X.2.2.1.trans hl.1.symm) X.2.2.2.1 (X.2.2.2.2 _ w_496) (X.2.2.2.2 _ w_42) (X.2.2.2.2 _ w_43) (X.2.2.2.2 _ w_44) (Nat.le_of_ble_eq_true rfl) (Nat.le_of_ble_eq_true rfl) (Nat.le_of_ble_eq_true rfl) (Nat.le_of_ble_eq_true rfl) dX7_next_159 ?_
                refine k_put (C := RX7) (T := TX7) (N := 9) (ci := 7) (v := .int ((if (if (if rv_82 < rv_84 then rv_84 else rv_82) < rv_86 then rv_86 else (if rv_82 < rv_84 then rv_84 else rv_82)) < rv_88 then rv_88 else (if (if rv_82 < rv_84 then rv_84 else rv_82) < rv_86 then rv_86 else (if rv_82 < rv_84 then rv_84 else rv_82))))) (ty := .int) X hE hP hD hS 0 rfl rfl iX7 tyX7 tyX7_ok nmX7 7 (by decide) w_371 rfl (by decide +kernel) rfl rfl (Nat.le_of_ble_eq_true rfl) [(h0, .inr (7, [.ref htb, .int (nI ln), .int (nI le), .int (nI ax2_73), .int kd2_74, .int (nI pl2_75), .int (nI lt2_76), .int ((if (if (if rv_82 < rv_84 then rv_84 else rv_82) < rv_86 then rv_86 else (if rv_82 < rv_84 then rv_84 else rv_82)) < rv_88 then rv_88 else (if (if rv_82 < rv_84 then rv_84 else rv_82) < rv_86 then rv_86 else (if rv_82 < rv_84 then rv_84 else rv_82)))), .int (-1)])), (htb, .inl (cA, 6000, .inl tz))] rfl dX7_next_162 (fun H locs hP hD hS => ?_)
                refine lv_aload_n hx hb dX7_next_165 rfl (lv_at hl 1 rfl) ?_
                refine lv_aload_n hx hb dX7_next_166 rfl (lv_at hl 1 rfl) ?_
                refine k_get (C := RX7) (T := TX7) (N := 9) (ci := 7) (v := .int ((if (if (if rv_82 < rv_84 then rv_84 else rv_82) < rv_86 then rv_86 else (if rv_82 < rv_84 then rv_84 else rv_82)) < rv_88 then rv_88 else (if (if rv_82 < rv_84 then rv_84 else rv_82) < rv_86 then rv_86 else (if rv_82 < rv_84 then rv_84 else rv_82))))) X hE hP 0 rfl rfl iX7 7 (by decide) w_371 rfl dX7_next_167 ?_
                refine lv_iconst (v := (-1)) hx hb dX7_next_170 (by decide) ?_
                refine lv_icmp_ne (tgt := 180) hx hb dX7_next_171 (by decide) (fun c_171 => ?_) (fun c_171 => ?_)
                · skip
                  refine lv_sipush (v := 258) hx hb dX7_next_180 (by decide) ?_
                  refine k_put (C := RX7) (T := TX7) (N := 9) (ci := 7) (v := .int 258) (ty := .int) X hE hP hD hS 0 rfl rfl iX7 tyX7 tyX7_ok nmX7 4 (by decide) w_369 rfl (by decide +kernel) rfl rfl (Nat.le_of_ble_eq_true rfl) [(h0, .inr (7, [.ref htb, .int (nI ln), .int (nI le), .int (nI ax2_73), .int 258, .int (nI pl2_75), .int (nI lt2_76), .int ((if (if (if rv_82 < rv_84 then rv_84 else rv_82) < rv_86 then rv_86 else (if rv_82 < rv_84 then rv_84 else rv_82)) < rv_88 then rv_88 else (if (if rv_82 < rv_84 then rv_84 else rv_82) < rv_86 then rv_86 else (if rv_82 < rv_84 then rv_84 else rv_82)))), .int (-1)])), (htb, .inl (cA, 6000, .inl tz))] rfl dX7_next_183 (fun H locs hP hD hS => ?_)
                  refine lv_goto (tgt := 277) hx hb dX7_next_186 (by decide) ?_
                  rw [hQ9]
                  exact endV X hr hlocks hP hD hS dX7_next_277 ⟨ax2_73, 258, pl2_75, lt2_76, (if (if (if rv_82 < rv_84 then rv_84 else rv_82) < rv_86 then rv_86 else (if rv_82 < rv_84 then rv_84 else rv_82)) < rv_88 then rv_88 else (if (if rv_82 < rv_84 then rv_84 else rv_82) < rv_86 then rv_86 else (if rv_82 < rv_84 then rv_84 else rv_82))), (-1), (by omega), (by omega), (by omega), (by omega), (fun q => absurd q (by decide)), rfl⟩
                · skip
                  refine lv_sipush (v := 257) hx hb dX7_next_174 (by decide) ?_
                  refine lv_goto (tgt := 183) hx hb dX7_next_177 (by decide) ?_
                  refine k_put (C := RX7) (T := TX7) (N := 9) (ci := 7) (v := .int 257) (ty := .int) X hE hP hD hS 0 rfl rfl iX7 tyX7 tyX7_ok nmX7 4 (by decide) w_369 rfl (by decide +kernel) rfl rfl (Nat.le_of_ble_eq_true rfl) [(h0, .inr (7, [.ref htb, .int (nI ln), .int (nI le), .int (nI ax2_73), .int 257, .int (nI pl2_75), .int (nI lt2_76), .int ((if (if (if rv_82 < rv_84 then rv_84 else rv_82) < rv_86 then rv_86 else (if rv_82 < rv_84 then rv_84 else rv_82)) < rv_88 then rv_88 else (if (if rv_82 < rv_84 then rv_84 else rv_82) < rv_86 then rv_86 else (if rv_82 < rv_84 then rv_84 else rv_82)))), .int (-1)])), (htb, .inl (cA, 6000, .inl tz))] rfl dX7_next_183 (fun H locs hP hD hS => ?_)
                  refine lv_goto (tgt := 277) hx hb dX7_next_186 (by decide) ?_
                  rw [hQ9]
                  exact endV X hr hlocks hP hD hS dX7_next_277 ⟨ax2_73, 257, pl2_75, lt2_76, (if (if (if rv_82 < rv_84 then rv_84 else rv_82) < rv_86 then rv_86 else (if rv_82 < rv_84 then rv_84 else rv_82)) < rv_88 then rv_88 else (if (if rv_82 < rv_84 then rv_84 else rv_82) < rv_86 then rv_86 else (if rv_82 < rv_84 then rv_84 else rv_82))), (-1), (by omega), (by omega), (by omega), (by omega), (fun _ => (hf_81 c_98)), rfl⟩
          · have nc_59_47 : le ≤ axv := Nat.not_lt.mp (fun q => c_59_47 ((nI_ltI (a := axv) (b := le) (by omega) (by omega)).mpr q))
            refine lv_aload_n hx hb dX7_next_62 rfl (lv_at hl 0 rfl) ?_
            refine lv_sipush (v := 256) hx hb dX7_next_63 (by decide) ?_
            refine k_put (C := RX7) (T := TX7) (N := 9) (ci := 7) (v := .int 256) (ty := .int) X hE hP hD hS 0 rfl rfl iX7 tyX7 tyX7_ok nmX7 4 (by decide) w_369 rfl (by decide +kernel) rfl rfl (Nat.le_of_ble_eq_true rfl) [(h0, .inr (7, [.ref htb, .int (nI ln), .int (nI le), .int (nI axv), .int 256, .int (nI axv), .int (nI lt), .int vl, .int (-1)])), (htb, .inl (cA, 6000, .inl tz))] rfl dX7_next_66 (fun H locs hP hD hS => ?_)
            rw [hQ9]
            exact endV X hr hlocks hP hD hS dX7_next_69 ⟨axv, 256, axv, lt, vl, (-1), haxv, (by omega), hlt, (by omega), (fun q => absurd q (by decide)), rfl⟩
        · have nc_22_46 : k_45 = 32 := (nI_eq (a := k_45) (b := 32) (by omega) (by omega)).mp c_22_46
          refine lv_aload_n hx hb dX7_next_25 rfl (lv_at hl 0 rfl) ?_
          refine lv_dup hx hb dX7_next_26 rfl ?_
          refine k_get (C := RX7) (T := TX7) (N := 9) (ci := 7) (v := .int (nI axv)) X hE hP 0 rfl rfl iX7 3 (by decide) w_366 rfl dX7_next_27 ?_
          refine lv_iconst (v := 1) hx hb dX7_next_30 (by decide) ?_
          refine lv_iadd hx hb dX7_next_31 ?_
          refine tk (y := nI (axv + 1)) (nI_add axv 1) ?_
          refine k_put (C := RX7) (T := TX7) (N := 9) (ci := 7) (v := .int (nI (axv + 1))) (ty := .int) X hE hP hD hS 0 rfl rfl iX7 tyX7 tyX7_ok nmX7 3 (by decide) w_366 rfl (by decide +kernel) rfl rfl (Nat.le_of_ble_eq_true rfl) [(h0, .inr (7, [.ref htb, .int (nI ln), .int (nI le), .int (nI (axv + 1)), .int kd, .int (nI pl), .int (nI lt), .int vl, .int ms])), (htb, .inl (cA, 6000, .inl tz))] rfl dX7_next_32 (fun H locs hP hD hS => ?_)
          refine lv_goto (tgt := 0) hx hb dX7_next_35 (by decide) ?_
          exact ih_0 (axv + 1) (by omega) (by first | assumption | omega) (by omega) _ _ hP hD hS ls hl
  exact loop_0 6002 ax hax (by first | assumption | omega) (by omega) _ _ hP hD hS ls hl
