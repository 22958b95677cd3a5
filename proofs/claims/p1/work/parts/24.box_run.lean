abbrev cX4_interruptComes : ByteArray := prog_6_method_7_code
def yX4_interruptComes : MethodName := ⟨RX4, "interruptComes", "()Z"⟩
abbrev cX4_whyToEnd : ByteArray := prog_6_method_6_code
def yX4_whyToEnd : MethodName := ⟨RX4, "whyToEnd", "(Z)I"⟩
abbrev cX4_takeByte : ByteArray := prog_6_method_13_code
def yX4_takeByte : MethodName := ⟨RX4, "takeByte", "()I"⟩
abbrev cX3_keep : ByteArray := prog_5_method_3_code
def yX3_keep : MethodName := ⟨RX3, "keep", "([I)V"⟩
def RJ9 : String := "java/lang/Math"
abbrev cJ9_min_7cf53 : ByteArray := prog_13_method_69_code
def yJ9_min_7cf53 : MethodName := ⟨RJ9, "min", "(II)I"⟩
abbrev cX3_keepCode : ByteArray := prog_5_method_4_code
def yX3_keepCode : MethodName := ⟨RX3, "keepCode", "(I)V"⟩
abbrev cX8_isShort : ByteArray := prog_1_method_26_code
def yX8_isShort : MethodName := ⟨RX8, "isShort", "(I)Z"⟩
abbrev cX4_setNz : ByteArray := prog_6_method_25_code
def yX4_setNz : MethodName := ⟨RX4, "setNz", "(I)V"⟩
abbrev cX4_set : ByteArray := prog_6_method_27_code
def yX4_set : MethodName := ⟨RX4, "set", "(II)V"⟩
abbrev cX4_useValue : ByteArray := prog_6_method_28_code
def yX4_useValue : MethodName := ⟨RX4, "useValue", "(II)V"⟩
abbrev cX4_doCode : ByteArray := prog_6_method_11_code
def yX4_doCode : MethodName := ⟨RX4, "doCode", "(I)I"⟩
abbrev cX1_passBells : ByteArray := prog_3_method_17_code
def yX1_passBells : MethodName := ⟨RX1, "passBells", "(I)V"⟩
abbrev cX1_pass : ByteArray := prog_3_method_14_code
def yX1_pass : MethodName := ⟨RX1, "pass", "(I)Z"⟩
abbrev cJ9_max_7cf53 : ByteArray := prog_13_method_65_code
def yJ9_max_7cf53 : MethodName := ⟨RJ9, "max", "(II)I"⟩
abbrev cX4_doStep : ByteArray := prog_6_method_8_code
def yX4_doStep : MethodName := ⟨RX4, "doStep", "()V"⟩
set_option maxRecDepth 100000 in
theorem w_161 : (Cond.fieldLink "BelfryBox$Past" 19 "BelfryBox$Past" "latest" "I" : Cond) ∈ gw := List.mem_filter.mpr ⟨List.mem_append_right _ (tb1 (List.mem_of_getElem? (i := 60) rfl)), rfl⟩
set_option maxRecDepth 100000 in
theorem w_162 : (Cond.methodLink "BelfryBox$Past" 22 yJ9_min_7cf53 : Cond) ∈ gw := List.mem_filter.mpr ⟨List.mem_append_right _ (tb3 (List.mem_of_getElem? (i := 197) rfl)), rfl⟩
set_option maxRecDepth 100000 in
theorem w_163 : (Cond.static yJ9_min_7cf53 : Cond) ∈ gw := List.mem_filter.mpr ⟨List.mem_append_right _ (tb2 (List.mem_of_getElem? (i := 213) rfl)), rfl⟩
set_option maxRecDepth 100000 in
theorem w_164 : (Cond.initialized "java/lang/Math" : Cond) ∈ gw := List.mem_filter.mpr ⟨List.mem_append_right _ (tb1 (List.mem_of_getElem? (i := 16) rfl)), rfl⟩
set_option maxRecDepth 100000 in
theorem w_165 : (Cond.code yJ9_min_7cf53 prog_13_method_69_code 2 (Option.some Jvm.ClassFile.FieldType.int) : Cond) ∈ gw := List.mem_filter.mpr ⟨List.mem_append_right _ (tb2 (List.mem_of_getElem? (i := 214) rfl)), rfl⟩
set_option maxRecDepth 100000 in
theorem w_166 : (Cond.methodLink "BelfryBox$Past" 28 ⟨"java/lang/System", "arraycopy", "(Ljava/lang/Object;ILjava/lang/Object;II)V"⟩ : Cond) ∈ gw := List.mem_filter.mpr ⟨List.mem_append_right _ (tb3 (List.mem_of_getElem? (i := 198) rfl)), rfl⟩
set_option maxRecDepth 100000 in
theorem w_167 : (Cond.native ⟨"java/lang/System", "arraycopy", "(Ljava/lang/Object;ILjava/lang/Object;II)V"⟩ : Cond) ∈ gw := List.mem_filter.mpr ⟨List.mem_append_right _ (tb3 (List.mem_of_getElem? (i := 110) rfl)), rfl⟩
set_option maxRecDepth 100000 in
theorem w_168 : (Cond.static ⟨"java/lang/System", "arraycopy", "(Ljava/lang/Object;ILjava/lang/Object;II)V"⟩ : Cond) ∈ gw := List.mem_filter.mpr ⟨List.mem_append_right _ (tb3 (List.mem_of_getElem? (i := 109) rfl)), rfl⟩
set_option maxRecDepth 100000 in
theorem w_169 : (Cond.initialized "java/lang/System" : Cond) ∈ gw := List.mem_filter.mpr ⟨List.mem_append_right _ (tb1 (List.mem_of_getElem? (i := 18) rfl)), rfl⟩
set_option maxRecDepth 100000 in
theorem w_170 : (Cond.methodLink "BelfryBox$Processor" 156 yX4_setNz : Cond) ∈ gw := List.mem_filter.mpr ⟨List.mem_append_right _ (tb4 (List.mem_of_getElem? (i := 14) rfl)), rfl⟩
set_option maxRecDepth 100000 in
theorem w_171 : (Cond.code yX4_setNz prog_6_method_25_code 2 (Option.none : Option Jvm.ClassFile.FieldType) : Cond) ∈ gw := List.mem_filter.mpr ⟨List.mem_append_right _ (tb4 (List.mem_of_getElem? (i := 17) rfl)), rfl⟩
set_option maxRecDepth 100000 in
theorem w_172 : (Cond.instanceMethod yX4_setNz : Cond) ∈ gw := List.mem_filter.mpr ⟨List.mem_append_right _ (tb4 (List.mem_of_getElem? (i := 16) rfl)), rfl⟩
set_option maxRecDepth 100000 in
theorem w_173 : (Cond.selects "BelfryBox$Processor" yX4_setNz yX4_setNz : Cond) ∈ gw := List.mem_filter.mpr ⟨List.mem_append_left _ (List.mem_map.mpr ⟨(⟨"BelfryBox$Processor", "setNz", "(I)V"⟩, 7), sl3 (List.mem_of_getElem? (i := 6) rfl), rfl⟩), rfl⟩
set_option maxRecDepth 100000 in
theorem w_174 : (Cond.methodLink "BelfryBox$Processor" 159 yX4_set : Cond) ∈ gw := List.mem_filter.mpr ⟨List.mem_append_right _ (tb4 (List.mem_of_getElem? (i := 10) rfl)), rfl⟩
set_option maxRecDepth 100000 in
theorem w_175 : (Cond.code yX4_set prog_6_method_27_code 3 (Option.none : Option Jvm.ClassFile.FieldType) : Cond) ∈ gw := List.mem_filter.mpr ⟨List.mem_append_right _ (tb4 (List.mem_of_getElem? (i := 13) rfl)), rfl⟩
set_option maxRecDepth 100000 in
theorem w_176 : (Cond.instanceMethod yX4_set : Cond) ∈ gw := List.mem_filter.mpr ⟨List.mem_append_right _ (tb4 (List.mem_of_getElem? (i := 12) rfl)), rfl⟩
set_option maxRecDepth 100000 in
theorem w_177 : (Cond.selects "BelfryBox$Processor" yX4_set yX4_set : Cond) ∈ gw := List.mem_filter.mpr ⟨List.mem_append_left _ (List.mem_map.mpr ⟨(⟨"BelfryBox$Processor", "set", "(II)V"⟩, 7), sl3 (List.mem_of_getElem? (i := 5) rfl), rfl⟩), rfl⟩
set_option maxRecDepth 100000 in
theorem w_178 : (Cond.code yX8_isShort prog_1_method_26_code 1 (Option.some Jvm.ClassFile.FieldType.boolean) : Cond) ∈ gw := List.mem_filter.mpr ⟨List.mem_append_right _ (tb3 (List.mem_of_getElem? (i := 229) rfl)), rfl⟩
set_option maxRecDepth 100000 in
theorem w_179 : (Cond.static yX8_isShort : Cond) ∈ gw := List.mem_filter.mpr ⟨List.mem_append_right _ (tb3 (List.mem_of_getElem? (i := 228) rfl)), rfl⟩
set_option maxRecDepth 100000 in
theorem w_180 : (Cond.methodLink "BelfryBox$Processor" 82 yX4_takeByte : Cond) ∈ gw := List.mem_filter.mpr ⟨List.mem_append_right _ (tb3 (List.mem_of_getElem? (i := 199) rfl)), rfl⟩
set_option maxRecDepth 100000 in
theorem w_181 : (Cond.code yX4_takeByte prog_6_method_13_code 2 (Option.some Jvm.ClassFile.FieldType.int) : Cond) ∈ gw := List.mem_filter.mpr ⟨List.mem_append_right _ (tb3 (List.mem_of_getElem? (i := 202) rfl)), rfl⟩
set_option maxRecDepth 100000 in
theorem w_182 : (Cond.instanceMethod yX4_takeByte : Cond) ∈ gw := List.mem_filter.mpr ⟨List.mem_append_right _ (tb3 (List.mem_of_getElem? (i := 201) rfl)), rfl⟩
set_option maxRecDepth 100000 in
theorem w_183 : (Cond.selects "BelfryBox$Processor" yX4_takeByte yX4_takeByte : Cond) ∈ gw := List.mem_filter.mpr ⟨List.mem_append_left _ (List.mem_map.mpr ⟨(⟨"BelfryBox$Processor", "takeByte", "()I"⟩, 7), sl2 (List.mem_of_getElem? (i := 11) rfl), rfl⟩), rfl⟩
set_option maxRecDepth 100000 in
theorem w_184 : (Cond.methodLink "BelfryBox$Processor" 125 yX4_useValue : Cond) ∈ gw := List.mem_filter.mpr ⟨List.mem_append_right _ (tb4 (List.mem_of_getElem? (i := 102) rfl)), rfl⟩
set_option maxRecDepth 100000 in
theorem w_185 : (Cond.code yX4_useValue prog_6_method_28_code 3 (Option.none : Option Jvm.ClassFile.FieldType) : Cond) ∈ gw := List.mem_filter.mpr ⟨List.mem_append_right _ (tb4 (List.mem_of_getElem? (i := 105) rfl)), rfl⟩
set_option maxRecDepth 100000 in
theorem w_186 : (Cond.instanceMethod yX4_useValue : Cond) ∈ gw := List.mem_filter.mpr ⟨List.mem_append_right _ (tb4 (List.mem_of_getElem? (i := 104) rfl)), rfl⟩
set_option maxRecDepth 100000 in
theorem w_187 : (Cond.selects "BelfryBox$Processor" yX4_useValue yX4_useValue : Cond) ∈ gw := List.mem_filter.mpr ⟨List.mem_append_left _ (List.mem_map.mpr ⟨(⟨"BelfryBox$Processor", "useValue", "(II)V"⟩, 7), sl4 (List.mem_of_getElem? (i := 9) rfl), rfl⟩), rfl⟩
set_option maxRecDepth 100000 in
theorem w_188 : (Cond.fieldLink "BelfryBox$Processor" 132 "BelfryBox$Processor" "WAY_CYCLES" "[I" : Cond) ∈ gw := List.mem_filter.mpr ⟨List.mem_append_right _ (tb4 (List.mem_of_getElem? (i := 171) rfl)), rfl⟩
set_option maxRecDepth 100000 in
theorem w_189 : (Cond.fieldLink "BelfryBox$Processor" 135 "BelfryBox$Processor" "MORE_CYCLES" "[I" : Cond) ∈ gw := List.mem_filter.mpr ⟨List.mem_append_right _ (tb4 (List.mem_of_getElem? (i := 173) rfl)), rfl⟩
set_option maxRecDepth 100000 in
theorem w_190 : (Cond.methodLink "BelfryBox$Devices" 59 yX1_passBells : Cond) ∈ gw := List.mem_filter.mpr ⟨List.mem_append_right _ (tb4 (List.mem_of_getElem? (i := 187) rfl)), rfl⟩
set_option maxRecDepth 100000 in
theorem w_191 : (Cond.code yX1_passBells prog_3_method_17_code 3 (Option.none : Option Jvm.ClassFile.FieldType) : Cond) ∈ gw := List.mem_filter.mpr ⟨List.mem_append_right _ (tb4 (List.mem_of_getElem? (i := 190) rfl)), rfl⟩
set_option maxRecDepth 100000 in
theorem w_192 : (Cond.instanceMethod yX1_passBells : Cond) ∈ gw := List.mem_filter.mpr ⟨List.mem_append_right _ (tb4 (List.mem_of_getElem? (i := 189) rfl)), rfl⟩
set_option maxRecDepth 100000 in
theorem w_193 : (Cond.selects "BelfryBox$Devices" yX1_passBells yX1_passBells : Cond) ∈ gw := List.mem_filter.mpr ⟨List.mem_append_left _ (List.mem_map.mpr ⟨(⟨"BelfryBox$Devices", "passBells", "(I)V"⟩, 5), sl5 (List.mem_of_getElem? (i := 11) rfl), rfl⟩), rfl⟩
set_option maxRecDepth 100000 in
theorem w_194 : (Cond.methodLink "BelfryBox$Devices" 62 yJ9_max_7cf53 : Cond) ∈ gw := List.mem_filter.mpr ⟨List.mem_append_right _ (tb4 (List.mem_of_getElem? (i := 191) rfl)), rfl⟩
set_option maxRecDepth 100000 in
theorem w_195 : (Cond.static yJ9_max_7cf53 : Cond) ∈ gw := List.mem_filter.mpr ⟨List.mem_append_right _ (tb2 (List.mem_of_getElem? (i := 180) rfl)), rfl⟩
set_option maxRecDepth 100000 in
theorem w_196 : (Cond.code yJ9_max_7cf53 prog_13_method_65_code 2 (Option.some Jvm.ClassFile.FieldType.int) : Cond) ∈ gw := List.mem_filter.mpr ⟨List.mem_append_right _ (tb2 (List.mem_of_getElem? (i := 181) rfl)), rfl⟩
set_option maxRecDepth 100000 in
theorem w_197 : (Cond.methodLink "BelfryBox$Processor" 78 yX3_keep : Cond) ∈ gw := List.mem_filter.mpr ⟨List.mem_append_right _ (tb3 (List.mem_of_getElem? (i := 193) rfl)), rfl⟩
set_option maxRecDepth 100000 in
theorem w_198 : (Cond.code yX3_keep prog_5_method_3_code 2 (Option.none : Option Jvm.ClassFile.FieldType) : Cond) ∈ gw := List.mem_filter.mpr ⟨List.mem_append_right _ (tb3 (List.mem_of_getElem? (i := 196) rfl)), rfl⟩
set_option maxRecDepth 100000 in
theorem w_199 : (Cond.instanceMethod yX3_keep : Cond) ∈ gw := List.mem_filter.mpr ⟨List.mem_append_right _ (tb3 (List.mem_of_getElem? (i := 194) rfl)), rfl⟩
set_option maxRecDepth 100000 in
theorem w_200 : (Cond.selects "BelfryBox$Past" yX3_keep yX3_keep : Cond) ∈ gw := List.mem_filter.mpr ⟨List.mem_append_right _ (tb3 (List.mem_of_getElem? (i := 195) rfl)), rfl⟩
set_option maxRecDepth 100000 in
theorem w_201 : (Cond.methodLink "BelfryBox$Processor" 69 yX4_interruptComes : Cond) ∈ gw := List.mem_filter.mpr ⟨List.mem_append_right _ (tb3 (List.mem_of_getElem? (i := 181) rfl)), rfl⟩
set_option maxRecDepth 100000 in
theorem w_202 : (Cond.code yX4_interruptComes prog_6_method_7_code 1 (Option.some Jvm.ClassFile.FieldType.boolean) : Cond) ∈ gw := List.mem_filter.mpr ⟨List.mem_append_right _ (tb3 (List.mem_of_getElem? (i := 184) rfl)), rfl⟩
set_option maxRecDepth 100000 in
theorem w_203 : (Cond.instanceMethod yX4_interruptComes : Cond) ∈ gw := List.mem_filter.mpr ⟨List.mem_append_right _ (tb3 (List.mem_of_getElem? (i := 183) rfl)), rfl⟩
set_option maxRecDepth 100000 in
theorem w_204 : (Cond.selects "BelfryBox$Processor" yX4_interruptComes yX4_interruptComes : Cond) ∈ gw := List.mem_filter.mpr ⟨List.mem_append_left _ (List.mem_map.mpr ⟨(⟨"BelfryBox$Processor", "interruptComes", "()Z"⟩, 7), sl2 (List.mem_of_getElem? (i := 9) rfl), rfl⟩), rfl⟩
set_option maxRecDepth 100000 in
theorem w_205 : (Cond.methodLink "BelfryBox$Processor" 86 yX3_keepCode : Cond) ∈ gw := List.mem_filter.mpr ⟨List.mem_append_right _ (tb3 (List.mem_of_getElem? (i := 203) rfl)), rfl⟩
set_option maxRecDepth 100000 in
theorem w_206 : (Cond.code yX3_keepCode prog_5_method_4_code 2 (Option.none : Option Jvm.ClassFile.FieldType) : Cond) ∈ gw := List.mem_filter.mpr ⟨List.mem_append_right _ (tb3 (List.mem_of_getElem? (i := 206) rfl)), rfl⟩
set_option maxRecDepth 100000 in
theorem w_207 : (Cond.instanceMethod yX3_keepCode : Cond) ∈ gw := List.mem_filter.mpr ⟨List.mem_append_right _ (tb3 (List.mem_of_getElem? (i := 204) rfl)), rfl⟩
set_option maxRecDepth 100000 in
theorem w_208 : (Cond.selects "BelfryBox$Past" yX3_keepCode yX3_keepCode : Cond) ∈ gw := List.mem_filter.mpr ⟨List.mem_append_right _ (tb3 (List.mem_of_getElem? (i := 205) rfl)), rfl⟩
set_option maxRecDepth 100000 in
theorem w_209 : (Cond.methodLink "BelfryBox$Processor" 93 yX4_doCode : Cond) ∈ gw := List.mem_filter.mpr ⟨List.mem_append_right _ (tb3 (List.mem_of_getElem? (i := 223) rfl)), rfl⟩
set_option maxRecDepth 100000 in
theorem w_210 : (Cond.code yX4_doCode prog_6_method_11_code 5 (Option.some Jvm.ClassFile.FieldType.int) : Cond) ∈ gw := List.mem_filter.mpr ⟨List.mem_append_right _ (tb3 (List.mem_of_getElem? (i := 226) rfl)), rfl⟩
set_option maxRecDepth 100000 in
theorem w_211 : (Cond.instanceMethod yX4_doCode : Cond) ∈ gw := List.mem_filter.mpr ⟨List.mem_append_right _ (tb3 (List.mem_of_getElem? (i := 225) rfl)), rfl⟩
set_option maxRecDepth 100000 in
theorem w_212 : (Cond.selects "BelfryBox$Processor" yX4_doCode yX4_doCode : Cond) ∈ gw := List.mem_filter.mpr ⟨List.mem_append_left _ (List.mem_map.mpr ⟨(⟨"BelfryBox$Processor", "doCode", "(I)I"⟩, 7), sl2 (List.mem_of_getElem? (i := 15) rfl), rfl⟩), rfl⟩
set_option maxRecDepth 100000 in
theorem w_213 : (Cond.methodLink "BelfryBox$Processor" 96 yX1_pass : Cond) ∈ gw := List.mem_filter.mpr ⟨List.mem_append_right _ (tb4 (List.mem_of_getElem? (i := 175) rfl)), rfl⟩
set_option maxRecDepth 100000 in
theorem w_214 : (Cond.code yX1_pass prog_3_method_14_code 3 (Option.some Jvm.ClassFile.FieldType.boolean) : Cond) ∈ gw := List.mem_filter.mpr ⟨List.mem_append_right _ (tb4 (List.mem_of_getElem? (i := 178) rfl)), rfl⟩
set_option maxRecDepth 100000 in
theorem w_215 : (Cond.instanceMethod yX1_pass : Cond) ∈ gw := List.mem_filter.mpr ⟨List.mem_append_right _ (tb4 (List.mem_of_getElem? (i := 176) rfl)), rfl⟩
set_option maxRecDepth 100000 in
theorem w_216 : (Cond.selects "BelfryBox$Devices" yX1_pass yX1_pass : Cond) ∈ gw := List.mem_filter.mpr ⟨List.mem_append_right _ (tb4 (List.mem_of_getElem? (i := 177) rfl)), rfl⟩
theorem nw_32 : (Cond.methodLinkNest "BelfryBox$Processor" 109 yX8_isShort "BelfryBox" : Cond) ∈ nests := List.mem_of_getElem? (i := 32) rfl
theorem dX4_interruptComes_0 : decode cX4_interruptComes 0 = .ok (.aload_n 0, 1) := by decide +kernel
theorem dX4_interruptComes_1 : decode cX4_interruptComes 1 = .ok (.getfield 15, 3) := by decide +kernel
theorem dX4_interruptComes_4 : decode cX4_interruptComes 4 = .ok (.iconst 5, 1) := by decide +kernel
theorem dX4_interruptComes_5 : decode cX4_interruptComes 5 = .ok (.iaload, 1) := by decide +kernel
theorem dX4_interruptComes_6 : decode cX4_interruptComes 6 = .ok (.iconst 4, 1) := by decide +kernel
theorem dX4_interruptComes_7 : decode cX4_interruptComes 7 = .ok (.iand, 1) := by decide +kernel
theorem dX4_interruptComes_8 : decode cX4_interruptComes 8 = .ok (.ifCond .ne 17, 3) := by decide +kernel
theorem dX4_interruptComes_25 : decode cX4_interruptComes 25 = .ok (.iconst 0, 1) := by decide +kernel
theorem dX4_interruptComes_26 : decode cX4_interruptComes 26 = .ok (.ireturn, 1) := by decide +kernel
theorem dX4_whyToEnd_0 : decode cX4_whyToEnd 0 = .ok (.iload_n 1, 1) := by decide +kernel
theorem dX4_whyToEnd_1 : decode cX4_whyToEnd 1 = .ok (.ifCond .eq 5, 3) := by decide +kernel
theorem dX4_whyToEnd_6 : decode cX4_whyToEnd 6 = .ok (.aload_n 0, 1) := by decide +kernel
theorem dX4_whyToEnd_7 : decode cX4_whyToEnd 7 = .ok (.getfield 15, 3) := by decide +kernel
theorem dX4_whyToEnd_10 : decode cX4_whyToEnd 10 = .ok (.bipush 6, 2) := by decide +kernel
theorem dX4_whyToEnd_12 : decode cX4_whyToEnd 12 = .ok (.iaload, 1) := by decide +kernel
theorem dX4_whyToEnd_13 : decode cX4_whyToEnd 13 = .ok (.ifCond .eq 5, 3) := by decide +kernel
theorem dX4_whyToEnd_18 : decode cX4_whyToEnd 18 = .ok (.aload_n 0, 1) := by decide +kernel
theorem dX4_whyToEnd_19 : decode cX4_whyToEnd 19 = .ok (.aload_n 0, 1) := by decide +kernel
theorem dX4_whyToEnd_20 : decode cX4_whyToEnd 20 = .ok (.getfield 15, 3) := by decide +kernel
theorem dX4_whyToEnd_23 : decode cX4_whyToEnd 23 = .ok (.iconst 4, 1) := by decide +kernel
theorem dX4_whyToEnd_24 : decode cX4_whyToEnd 24 = .ok (.iaload, 1) := by decide +kernel
theorem dX4_whyToEnd_25 : decode cX4_whyToEnd 25 = .ok (.invokevirtual 66, 3) := by decide +kernel
theorem dX4_whyToEnd_28 : decode cX4_whyToEnd 28 = .ok (.sipush 216, 3) := by decide +kernel
theorem dX4_whyToEnd_31 : decode cX4_whyToEnd 31 = .ok (.if_icmp .ne 24, 3) := by decide +kernel
theorem dX4_whyToEnd_55 : decode cX4_whyToEnd 55 = .ok (.iconst 0, 1) := by decide +kernel
theorem dX4_whyToEnd_56 : decode cX4_whyToEnd 56 = .ok (.istore_n 2, 1) := by decide +kernel
theorem dX4_whyToEnd_57 : decode cX4_whyToEnd 57 = .ok (.iload_n 2, 1) := by decide +kernel
theorem dX4_whyToEnd_58 : decode cX4_whyToEnd 58 = .ok (.ifCond .eq 14, 3) := by decide +kernel
theorem dX4_whyToEnd_72 : decode cX4_whyToEnd 72 = .ok (.iconst 0, 1) := by decide +kernel
theorem dX4_whyToEnd_73 : decode cX4_whyToEnd 73 = .ok (.ireturn, 1) := by decide +kernel
theorem dX4_takeByte_0 : decode cX4_takeByte 0 = .ok (.aload_n 0, 1) := by decide +kernel
theorem dX4_takeByte_1 : decode cX4_takeByte 1 = .ok (.aload_n 0, 1) := by decide +kernel
theorem dX4_takeByte_2 : decode cX4_takeByte 2 = .ok (.getfield 15, 3) := by decide +kernel
theorem dX4_takeByte_5 : decode cX4_takeByte 5 = .ok (.iconst 4, 1) := by decide +kernel
theorem dX4_takeByte_6 : decode cX4_takeByte 6 = .ok (.iaload, 1) := by decide +kernel
theorem dX4_takeByte_7 : decode cX4_takeByte 7 = .ok (.invokevirtual 66, 3) := by decide +kernel
theorem dX4_takeByte_10 : decode cX4_takeByte 10 = .ok (.istore_n 1, 1) := by decide +kernel
theorem dX4_takeByte_11 : decode cX4_takeByte 11 = .ok (.aload_n 0, 1) := by decide +kernel
theorem dX4_takeByte_12 : decode cX4_takeByte 12 = .ok (.getfield 15, 3) := by decide +kernel
theorem dX4_takeByte_15 : decode cX4_takeByte 15 = .ok (.iconst 4, 1) := by decide +kernel
theorem dX4_takeByte_16 : decode cX4_takeByte 16 = .ok (.aload_n 0, 1) := by decide +kernel
theorem dX4_takeByte_17 : decode cX4_takeByte 17 = .ok (.getfield 15, 3) := by decide +kernel
theorem dX4_takeByte_20 : decode cX4_takeByte 20 = .ok (.iconst 4, 1) := by decide +kernel
theorem dX4_takeByte_21 : decode cX4_takeByte 21 = .ok (.iaload, 1) := by decide +kernel
theorem dX4_takeByte_22 : decode cX4_takeByte 22 = .ok (.iconst 1, 1) := by decide +kernel
theorem dX4_takeByte_23 : decode cX4_takeByte 23 = .ok (.iadd, 1) := by decide +kernel
theorem dX4_takeByte_24 : decode cX4_takeByte 24 = .ok (.sipush 4095, 3) := by decide +kernel
theorem dX4_takeByte_27 : decode cX4_takeByte 27 = .ok (.iand, 1) := by decide +kernel
theorem dX4_takeByte_28 : decode cX4_takeByte 28 = .ok (.iastore, 1) := by decide +kernel
theorem dX4_takeByte_29 : decode cX4_takeByte 29 = .ok (.iload_n 1, 1) := by decide +kernel
theorem dX4_takeByte_30 : decode cX4_takeByte 30 = .ok (.ireturn, 1) := by decide +kernel
theorem dX3_keep_0 : decode cX3_keep 0 = .ok (.aload_n 0, 1) := by decide +kernel
theorem dX3_keep_1 : decode cX3_keep 1 = .ok (.aload_n 0, 1) := by decide +kernel
theorem dX3_keep_2 : decode cX3_keep 2 = .ok (.getfield 19, 3) := by decide +kernel
theorem dX3_keep_5 : decode cX3_keep 5 = .ok (.iconst 1, 1) := by decide +kernel
theorem dX3_keep_6 : decode cX3_keep 6 = .ok (.iadd, 1) := by decide +kernel
theorem dX3_keep_7 : decode cX3_keep 7 = .ok (.sipush 256, 3) := by decide +kernel
theorem dX3_keep_10 : decode cX3_keep 10 = .ok (.irem, 1) := by decide +kernel
theorem dX3_keep_11 : decode cX3_keep 11 = .ok (.putfield 19, 3) := by decide +kernel
theorem dX3_keep_14 : decode cX3_keep 14 = .ok (.aload_n 0, 1) := by decide +kernel
theorem dX3_keep_15 : decode cX3_keep 15 = .ok (.aload_n 0, 1) := by decide +kernel
theorem dX3_keep_16 : decode cX3_keep 16 = .ok (.getfield 15, 3) := by decide +kernel
theorem dX3_keep_19 : decode cX3_keep 19 = .ok (.iconst 1, 1) := by decide +kernel
theorem dX3_keep_20 : decode cX3_keep 20 = .ok (.iadd, 1) := by decide +kernel
theorem dX3_keep_21 : decode cX3_keep 21 = .ok (.sipush 256, 3) := by decide +kernel
theorem dX3_keep_24 : decode cX3_keep 24 = .ok (.invokestatic 22, 3) := by decide +kernel
theorem dX3_keep_27 : decode cX3_keep 27 = .ok (.putfield 15, 3) := by decide +kernel
theorem dX3_keep_30 : decode cX3_keep 30 = .ok (.aload_n 1, 1) := by decide +kernel
theorem dX3_keep_31 : decode cX3_keep 31 = .ok (.iconst 0, 1) := by decide +kernel
theorem dX3_keep_32 : decode cX3_keep 32 = .ok (.aload_n 0, 1) := by decide +kernel
theorem dX3_keep_33 : decode cX3_keep 33 = .ok (.getfield 11, 3) := by decide +kernel
theorem dX3_keep_36 : decode cX3_keep 36 = .ok (.aload_n 0, 1) := by decide +kernel
theorem dX3_keep_37 : decode cX3_keep 37 = .ok (.getfield 19, 3) := by decide +kernel
theorem dX3_keep_40 : decode cX3_keep 40 = .ok (.bipush 42, 2) := by decide +kernel
theorem dX3_keep_42 : decode cX3_keep 42 = .ok (.imul, 1) := by decide +kernel
theorem dX3_keep_43 : decode cX3_keep 43 = .ok (.bipush 34, 2) := by decide +kernel
theorem dX3_keep_45 : decode cX3_keep 45 = .ok (.invokestatic 28, 3) := by decide +kernel
theorem dX3_keep_48 : decode cX3_keep 48 = .ok (.aload_n 0, 1) := by decide +kernel
theorem dX3_keep_49 : decode cX3_keep 49 = .ok (.getfield 11, 3) := by decide +kernel
theorem dX3_keep_52 : decode cX3_keep 52 = .ok (.aload_n 0, 1) := by decide +kernel
theorem dX3_keep_53 : decode cX3_keep 53 = .ok (.getfield 19, 3) := by decide +kernel
theorem dX3_keep_56 : decode cX3_keep 56 = .ok (.bipush 42, 2) := by decide +kernel
theorem dX3_keep_58 : decode cX3_keep 58 = .ok (.imul, 1) := by decide +kernel
theorem dX3_keep_59 : decode cX3_keep 59 = .ok (.bipush 35, 2) := by decide +kernel
theorem dX3_keep_61 : decode cX3_keep 61 = .ok (.iadd, 1) := by decide +kernel
theorem dX3_keep_62 : decode cX3_keep 62 = .ok (.iconst 0, 1) := by decide +kernel
theorem dX3_keep_63 : decode cX3_keep 63 = .ok (.iastore, 1) := by decide +kernel
theorem dX3_keep_64 : decode cX3_keep 64 = .ok (.return_, 1) := by decide +kernel
theorem dX3_keepCode_0 : decode cX3_keepCode 0 = .ok (.aload_n 0, 1) := by decide +kernel
theorem dX3_keepCode_1 : decode cX3_keepCode 1 = .ok (.getfield 11, 3) := by decide +kernel
theorem dX3_keepCode_4 : decode cX3_keepCode 4 = .ok (.aload_n 0, 1) := by decide +kernel
theorem dX3_keepCode_5 : decode cX3_keepCode 5 = .ok (.getfield 19, 3) := by decide +kernel
theorem dX3_keepCode_8 : decode cX3_keepCode 8 = .ok (.bipush 42, 2) := by decide +kernel
theorem dX3_keepCode_10 : decode cX3_keepCode 10 = .ok (.imul, 1) := by decide +kernel
theorem dX3_keepCode_11 : decode cX3_keepCode 11 = .ok (.bipush 34, 2) := by decide +kernel
theorem dX3_keepCode_13 : decode cX3_keepCode 13 = .ok (.iadd, 1) := by decide +kernel
theorem dX3_keepCode_14 : decode cX3_keepCode 14 = .ok (.iload_n 1, 1) := by decide +kernel
theorem dX3_keepCode_15 : decode cX3_keepCode 15 = .ok (.iastore, 1) := by decide +kernel
theorem dX3_keepCode_16 : decode cX3_keepCode 16 = .ok (.return_, 1) := by decide +kernel
theorem dX8_isShort_0 : decode cX8_isShort 0 = .ok (.iload_n 0, 1) := by decide +kernel
theorem dX8_isShort_1 : decode cX8_isShort 1 = .ok (.bipush 7, 2) := by decide +kernel
theorem dX8_isShort_3 : decode cX8_isShort 3 = .ok (.iand, 1) := by decide +kernel
theorem dX8_isShort_4 : decode cX8_isShort 4 = .ok (.ifCond .ne 15, 3) := by decide +kernel
theorem dX8_isShort_7 : decode cX8_isShort 7 = .ok (.iload_n 0, 1) := by decide +kernel
theorem dX8_isShort_8 : decode cX8_isShort 8 = .ok (.iconst 3, 1) := by decide +kernel
theorem dX8_isShort_9 : decode cX8_isShort 9 = .ok (.ishr, 1) := by decide +kernel
theorem dX8_isShort_10 : decode cX8_isShort 10 = .ok (.bipush 16, 2) := by decide +kernel
theorem dX8_isShort_12 : decode cX8_isShort 12 = .ok (.if_icmp .lt 7, 3) := by decide +kernel
theorem dX8_isShort_19 : decode cX8_isShort 19 = .ok (.iconst 0, 1) := by decide +kernel
theorem dX8_isShort_20 : decode cX8_isShort 20 = .ok (.ireturn, 1) := by decide +kernel
theorem dX4_setNz_0 : decode cX4_setNz 0 = .ok (.aload_n 0, 1) := by decide +kernel
theorem dX4_setNz_1 : decode cX4_setNz 1 = .ok (.getfield 15, 3) := by decide +kernel
theorem dX4_setNz_4 : decode cX4_setNz 4 = .ok (.iconst 5, 1) := by decide +kernel
theorem dX4_setNz_5 : decode cX4_setNz 5 = .ok (.aload_n 0, 1) := by decide +kernel
theorem dX4_setNz_6 : decode cX4_setNz 6 = .ok (.getfield 15, 3) := by decide +kernel
theorem dX4_setNz_9 : decode cX4_setNz 9 = .ok (.iconst 5, 1) := by decide +kernel
theorem dX4_setNz_10 : decode cX4_setNz 10 = .ok (.iaload, 1) := by decide +kernel
theorem dX4_setNz_11 : decode cX4_setNz 11 = .ok (.sipush (-131), 3) := by decide +kernel
theorem dX4_setNz_14 : decode cX4_setNz 14 = .ok (.iand, 1) := by decide +kernel
theorem dX4_setNz_15 : decode cX4_setNz 15 = .ok (.iload_n 1, 1) := by decide +kernel
theorem dX4_setNz_16 : decode cX4_setNz 16 = .ok (.sipush 128, 3) := by decide +kernel
theorem dX4_setNz_19 : decode cX4_setNz 19 = .ok (.iand, 1) := by decide +kernel
theorem dX4_setNz_20 : decode cX4_setNz 20 = .ok (.ior, 1) := by decide +kernel
theorem dX4_setNz_21 : decode cX4_setNz 21 = .ok (.iload_n 1, 1) := by decide +kernel
theorem dX4_setNz_22 : decode cX4_setNz 22 = .ok (.ifCond .ne 7, 3) := by decide +kernel
theorem dX4_setNz_25 : decode cX4_setNz 25 = .ok (.iconst 2, 1) := by decide +kernel
theorem dX4_setNz_26 : decode cX4_setNz 26 = .ok (.goto 4, 3) := by decide +kernel
theorem dX4_setNz_30 : decode cX4_setNz 30 = .ok (.ior, 1) := by decide +kernel
theorem dX4_setNz_31 : decode cX4_setNz 31 = .ok (.iastore, 1) := by decide +kernel
theorem dX4_setNz_32 : decode cX4_setNz 32 = .ok (.return_, 1) := by decide +kernel
theorem dX4_set_0 : decode cX4_set 0 = .ok (.aload_n 0, 1) := by decide +kernel
theorem dX4_set_1 : decode cX4_set 1 = .ok (.getfield 15, 3) := by decide +kernel
theorem dX4_set_4 : decode cX4_set 4 = .ok (.iload_n 1, 1) := by decide +kernel
theorem dX4_set_5 : decode cX4_set 5 = .ok (.iload_n 2, 1) := by decide +kernel
theorem dX4_set_6 : decode cX4_set 6 = .ok (.sipush 255, 3) := by decide +kernel
theorem dX4_set_9 : decode cX4_set 9 = .ok (.iand, 1) := by decide +kernel
theorem dX4_set_10 : decode cX4_set 10 = .ok (.iastore, 1) := by decide +kernel
theorem dX4_set_11 : decode cX4_set 11 = .ok (.aload_n 0, 1) := by decide +kernel
theorem dX4_set_12 : decode cX4_set 12 = .ok (.iload_n 2, 1) := by decide +kernel
theorem dX4_set_13 : decode cX4_set 13 = .ok (.sipush 255, 3) := by decide +kernel
theorem dX4_set_16 : decode cX4_set 16 = .ok (.iand, 1) := by decide +kernel
theorem dX4_set_17 : decode cX4_set 17 = .ok (.invokevirtual 156, 3) := by decide +kernel
theorem dX4_set_20 : decode cX4_set 20 = .ok (.return_, 1) := by decide +kernel
theorem dX4_useValue_0 : decode cX4_useValue 0 = .ok (.iload_n 1, 1) := by decide +kernel
theorem dX4_useValue_1 : decode cX4_useValue 1 = .ok (.tableswitch 245 0 14 #[75, 84, 93, 102, 110, 122, 138, 154, 170, 184, 198, 212, 220, 228, 236], 75) := by decide +kernel
theorem dX4_useValue_76 : decode cX4_useValue 76 = .ok (.aload_n 0, 1) := by decide +kernel
theorem dX4_useValue_77 : decode cX4_useValue 77 = .ok (.iconst 0, 1) := by decide +kernel
theorem dX4_useValue_78 : decode cX4_useValue 78 = .ok (.iload_n 2, 1) := by decide +kernel
theorem dX4_useValue_79 : decode cX4_useValue 79 = .ok (.invokevirtual 159, 3) := by decide +kernel
theorem dX4_useValue_82 : decode cX4_useValue 82 = .ok (.goto 170, 3) := by decide +kernel
theorem dX4_useValue_252 : decode cX4_useValue 252 = .ok (.return_, 1) := by decide +kernel
theorem dX4_doCode_0 : decode cX4_doCode 0 = .ok (.iload_n 1, 1) := by decide +kernel
theorem dX4_doCode_1 : decode cX4_doCode 1 = .ok (.iconst 3, 1) := by decide +kernel
theorem dX4_doCode_2 : decode cX4_doCode 2 = .ok (.ishr, 1) := by decide +kernel
theorem dX4_doCode_3 : decode cX4_doCode 3 = .ok (.istore_n 2, 1) := by decide +kernel
theorem dX4_doCode_4 : decode cX4_doCode 4 = .ok (.iload_n 1, 1) := by decide +kernel
theorem dX4_doCode_5 : decode cX4_doCode 5 = .ok (.bipush 7, 2) := by decide +kernel
theorem dX4_doCode_7 : decode cX4_doCode 7 = .ok (.iand, 1) := by decide +kernel
theorem dX4_doCode_8 : decode cX4_doCode 8 = .ok (.istore_n 3, 1) := by decide +kernel
theorem dX4_doCode_9 : decode cX4_doCode 9 = .ok (.iload_n 1, 1) := by decide +kernel
theorem dX4_doCode_10 : decode cX4_doCode 10 = .ok (.invokestatic 109, 3) := by decide +kernel
theorem dX4_doCode_13 : decode cX4_doCode 13 = .ok (.ifCond .eq 32, 3) := by decide +kernel
theorem dX4_doCode_45 : decode cX4_doCode 45 = .ok (.iload_n 2, 1) := by decide +kernel
theorem dX4_doCode_46 : decode cX4_doCode 46 = .ok (.bipush 16, 2) := by decide +kernel
theorem dX4_doCode_48 : decode cX4_doCode 48 = .ok (.if_icmp .ge 31, 3) := by decide +kernel
theorem dX4_doCode_51 : decode cX4_doCode 51 = .ok (.aload_n 0, 1) := by decide +kernel
theorem dX4_doCode_52 : decode cX4_doCode 52 = .ok (.iload_n 2, 1) := by decide +kernel
theorem dX4_doCode_53 : decode cX4_doCode 53 = .ok (.iload_n 3, 1) := by decide +kernel
theorem dX4_doCode_54 : decode cX4_doCode 54 = .ok (.ifCond .ne 10, 3) := by decide +kernel
theorem dX4_doCode_57 : decode cX4_doCode 57 = .ok (.aload_n 0, 1) := by decide +kernel
theorem dX4_doCode_58 : decode cX4_doCode 58 = .ok (.invokevirtual 82, 3) := by decide +kernel
theorem dX4_doCode_61 : decode cX4_doCode 61 = .ok (.goto 12, 3) := by decide +kernel
theorem dX4_doCode_73 : decode cX4_doCode 73 = .ok (.invokevirtual 125, 3) := by decide +kernel
theorem dX4_doCode_76 : decode cX4_doCode 76 = .ok (.goto 13, 3) := by decide +kernel
theorem dX4_doCode_89 : decode cX4_doCode 89 = .ok (.getstatic 132, 3) := by decide +kernel
theorem dX4_doCode_92 : decode cX4_doCode 92 = .ok (.iload_n 3, 1) := by decide +kernel
theorem dX4_doCode_93 : decode cX4_doCode 93 = .ok (.iaload, 1) := by decide +kernel
theorem dX4_doCode_94 : decode cX4_doCode 94 = .ok (.getstatic 135, 3) := by decide +kernel
theorem dX4_doCode_97 : decode cX4_doCode 97 = .ok (.iload_n 2, 1) := by decide +kernel
theorem dX4_doCode_98 : decode cX4_doCode 98 = .ok (.iaload, 1) := by decide +kernel
theorem dX4_doCode_99 : decode cX4_doCode 99 = .ok (.iadd, 1) := by decide +kernel
theorem dX4_doCode_100 : decode cX4_doCode 100 = .ok (.ireturn, 1) := by decide +kernel
theorem dX1_passBells_0 : decode cX1_passBells 0 = .ok (.bipush 20, 2) := by decide +kernel
theorem dX1_passBells_2 : decode cX1_passBells 2 = .ok (.istore_n 2, 1) := by decide +kernel
theorem dX1_passBells_3 : decode cX1_passBells 3 = .ok (.iload_n 2, 1) := by decide +kernel
theorem dX1_passBells_4 : decode cX1_passBells 4 = .ok (.bipush 28, 2) := by decide +kernel
theorem dX1_passBells_6 : decode cX1_passBells 6 = .ok (.if_icmp .ge 59, 3) := by decide +kernel
theorem dX1_passBells_9 : decode cX1_passBells 9 = .ok (.aload_n 0, 1) := by decide +kernel
theorem dX1_passBells_10 : decode cX1_passBells 10 = .ok (.getfield 24, 3) := by decide +kernel
theorem dX1_passBells_13 : decode cX1_passBells 13 = .ok (.iload_n 2, 1) := by decide +kernel
theorem dX1_passBells_14 : decode cX1_passBells 14 = .ok (.iaload, 1) := by decide +kernel
theorem dX1_passBells_15 : decode cX1_passBells 15 = .ok (.iload_n 1, 1) := by decide +kernel
theorem dX1_passBells_16 : decode cX1_passBells 16 = .ok (.if_icmp .le 16, 3) := by decide +kernel
theorem dX1_passBells_32 : decode cX1_passBells 32 = .ok (.aload_n 0, 1) := by decide +kernel
theorem dX1_passBells_33 : decode cX1_passBells 33 = .ok (.getfield 24, 3) := by decide +kernel
theorem dX1_passBells_36 : decode cX1_passBells 36 = .ok (.iload_n 2, 1) := by decide +kernel
theorem dX1_passBells_37 : decode cX1_passBells 37 = .ok (.iaload, 1) := by decide +kernel
theorem dX1_passBells_38 : decode cX1_passBells 38 = .ok (.ifCond .le 21, 3) := by decide +kernel
theorem dX1_passBells_59 : decode cX1_passBells 59 = .ok (.iinc 2 1, 3) := by decide +kernel
theorem dX1_passBells_62 : decode cX1_passBells 62 = .ok (.goto (-59), 3) := by decide +kernel
theorem dX1_passBells_65 : decode cX1_passBells 65 = .ok (.return_, 1) := by decide +kernel
theorem dX1_pass_0 : decode cX1_pass 0 = .ok (.aload_n 0, 1) := by decide +kernel
theorem dX1_pass_1 : decode cX1_pass 1 = .ok (.getfield 24, 3) := by decide +kernel
theorem dX1_pass_4 : decode cX1_pass 4 = .ok (.bipush 7, 2) := by decide +kernel
theorem dX1_pass_6 : decode cX1_pass 6 = .ok (.dup2, 1) := by decide +kernel
theorem dX1_pass_7 : decode cX1_pass 7 = .ok (.iaload, 1) := by decide +kernel
theorem dX1_pass_8 : decode cX1_pass 8 = .ok (.iload_n 1, 1) := by decide +kernel
theorem dX1_pass_9 : decode cX1_pass 9 = .ok (.iadd, 1) := by decide +kernel
theorem dX1_pass_10 : decode cX1_pass 10 = .ok (.iastore, 1) := by decide +kernel
theorem dX1_pass_11 : decode cX1_pass 11 = .ok (.aload_n 0, 1) := by decide +kernel
theorem dX1_pass_12 : decode cX1_pass 12 = .ok (.getfield 24, 3) := by decide +kernel
theorem dX1_pass_15 : decode cX1_pass 15 = .ok (.bipush 10, 2) := by decide +kernel
theorem dX1_pass_17 : decode cX1_pass 17 = .ok (.iaload, 1) := by decide +kernel
theorem dX1_pass_18 : decode cX1_pass 18 = .ok (.ifCond .eq 8, 3) := by decide +kernel
theorem dX1_pass_26 : decode cX1_pass 26 = .ok (.aload_n 0, 1) := by decide +kernel
theorem dX1_pass_27 : decode cX1_pass 27 = .ok (.getfield 24, 3) := by decide +kernel
theorem dX1_pass_30 : decode cX1_pass 30 = .ok (.bipush 11, 2) := by decide +kernel
theorem dX1_pass_32 : decode cX1_pass 32 = .ok (.iaload, 1) := by decide +kernel
theorem dX1_pass_33 : decode cX1_pass 33 = .ok (.ifCond .eq 8, 3) := by decide +kernel
theorem dX1_pass_41 : decode cX1_pass 41 = .ok (.aload_n 0, 1) := by decide +kernel
theorem dX1_pass_42 : decode cX1_pass 42 = .ok (.iload_n 1, 1) := by decide +kernel
theorem dX1_pass_43 : decode cX1_pass 43 = .ok (.invokevirtual 59, 3) := by decide +kernel
theorem dX1_pass_46 : decode cX1_pass 46 = .ok (.aload_n 0, 1) := by decide +kernel
theorem dX1_pass_47 : decode cX1_pass 47 = .ok (.getfield 24, 3) := by decide +kernel
theorem dX1_pass_50 : decode cX1_pass 50 = .ok (.bipush 17, 2) := by decide +kernel
theorem dX1_pass_52 : decode cX1_pass 52 = .ok (.iaload, 1) := by decide +kernel
theorem dX1_pass_53 : decode cX1_pass 53 = .ok (.ifCond .le 18, 3) := by decide +kernel
theorem dX1_pass_71 : decode cX1_pass 71 = .ok (.iconst 0, 1) := by decide +kernel
theorem dX1_pass_72 : decode cX1_pass 72 = .ok (.istore_n 2, 1) := by decide +kernel
theorem dX1_pass_73 : decode cX1_pass 73 = .ok (.aload_n 0, 1) := by decide +kernel
theorem dX1_pass_74 : decode cX1_pass 74 = .ok (.getfield 24, 3) := by decide +kernel
theorem dX1_pass_77 : decode cX1_pass 77 = .ok (.bipush 17, 2) := by decide +kernel
theorem dX1_pass_79 : decode cX1_pass 79 = .ok (.iconst 0, 1) := by decide +kernel
theorem dX1_pass_80 : decode cX1_pass 80 = .ok (.aload_n 0, 1) := by decide +kernel
theorem dX1_pass_81 : decode cX1_pass 81 = .ok (.getfield 24, 3) := by decide +kernel
theorem dX1_pass_84 : decode cX1_pass 84 = .ok (.bipush 17, 2) := by decide +kernel
theorem dX1_pass_86 : decode cX1_pass 86 = .ok (.iaload, 1) := by decide +kernel
theorem dX1_pass_87 : decode cX1_pass 87 = .ok (.iload_n 1, 1) := by decide +kernel
theorem dX1_pass_88 : decode cX1_pass 88 = .ok (.isub, 1) := by decide +kernel
theorem dX1_pass_89 : decode cX1_pass 89 = .ok (.invokestatic 62, 3) := by decide +kernel
theorem dX1_pass_92 : decode cX1_pass 92 = .ok (.iastore, 1) := by decide +kernel
theorem dX1_pass_93 : decode cX1_pass 93 = .ok (.iload_n 2, 1) := by decide +kernel
theorem dX1_pass_94 : decode cX1_pass 94 = .ok (.ireturn, 1) := by decide +kernel
theorem dX4_doStep_0 : decode cX4_doStep 0 = .ok (.aload_n 0, 1) := by decide +kernel
theorem dX4_doStep_1 : decode cX4_doStep 1 = .ok (.getfield 25, 3) := by decide +kernel
theorem dX4_doStep_4 : decode cX4_doStep 4 = .ok (.aload_n 0, 1) := by decide +kernel
theorem dX4_doStep_5 : decode cX4_doStep 5 = .ok (.getfield 15, 3) := by decide +kernel
theorem dX4_doStep_8 : decode cX4_doStep 8 = .ok (.invokevirtual 78, 3) := by decide +kernel
theorem dX4_doStep_11 : decode cX4_doStep 11 = .ok (.aload_n 0, 1) := by decide +kernel
theorem dX4_doStep_12 : decode cX4_doStep 12 = .ok (.invokevirtual 69, 3) := by decide +kernel
theorem dX4_doStep_15 : decode cX4_doStep 15 = .ok (.ifCond .eq 9, 3) := by decide +kernel
theorem dX4_doStep_24 : decode cX4_doStep 24 = .ok (.aload_n 0, 1) := by decide +kernel
theorem dX4_doStep_25 : decode cX4_doStep 25 = .ok (.invokevirtual 82, 3) := by decide +kernel
theorem dX4_doStep_28 : decode cX4_doStep 28 = .ok (.istore_n 1, 1) := by decide +kernel
theorem dX4_doStep_29 : decode cX4_doStep 29 = .ok (.aload_n 0, 1) := by decide +kernel
theorem dX4_doStep_30 : decode cX4_doStep 30 = .ok (.getfield 25, 3) := by decide +kernel
theorem dX4_doStep_33 : decode cX4_doStep 33 = .ok (.iload_n 1, 1) := by decide +kernel
theorem dX4_doStep_34 : decode cX4_doStep 34 = .ok (.invokevirtual 86, 3) := by decide +kernel
theorem dX4_doStep_37 : decode cX4_doStep 37 = .ok (.aload_n 0, 1) := by decide +kernel
theorem dX4_doStep_38 : decode cX4_doStep 38 = .ok (.getfield 9, 3) := by decide +kernel
theorem dX4_doStep_41 : decode cX4_doStep 41 = .ok (.iload_n 1, 1) := by decide +kernel
theorem dX4_doStep_42 : decode cX4_doStep 42 = .ok (.dup2, 1) := by decide +kernel
theorem dX4_doStep_43 : decode cX4_doStep 43 = .ok (.iaload, 1) := by decide +kernel
theorem dX4_doStep_44 : decode cX4_doStep 44 = .ok (.iconst 1, 1) := by decide +kernel
theorem dX4_doStep_45 : decode cX4_doStep 45 = .ok (.iadd, 1) := by decide +kernel
theorem dX4_doStep_46 : decode cX4_doStep 46 = .ok (.iastore, 1) := by decide +kernel
theorem dX4_doStep_47 : decode cX4_doStep 47 = .ok (.iload_n 1, 1) := by decide +kernel
theorem dX4_doStep_48 : decode cX4_doStep 48 = .ok (.sipush 256, 3) := by decide +kernel
theorem dX4_doStep_51 : decode cX4_doStep 51 = .ok (.if_icmp .ne 10, 3) := by decide +kernel
theorem dX4_doStep_61 : decode cX4_doStep 61 = .ok (.aload_n 0, 1) := by decide +kernel
theorem dX4_doStep_62 : decode cX4_doStep 62 = .ok (.iload_n 1, 1) := by decide +kernel
theorem dX4_doStep_63 : decode cX4_doStep 63 = .ok (.invokevirtual 93, 3) := by decide +kernel
theorem dX4_doStep_66 : decode cX4_doStep 66 = .ok (.istore_n 2, 1) := by decide +kernel
theorem dX4_doStep_67 : decode cX4_doStep 67 = .ok (.aload_n 0, 1) := by decide +kernel
theorem dX4_doStep_68 : decode cX4_doStep 68 = .ok (.getfield 21, 3) := by decide +kernel
theorem dX4_doStep_71 : decode cX4_doStep 71 = .ok (.iload_n 2, 1) := by decide +kernel
theorem dX4_doStep_72 : decode cX4_doStep 72 = .ok (.invokevirtual 96, 3) := by decide +kernel
theorem dX4_doStep_75 : decode cX4_doStep 75 = .ok (.ifCond .eq 7, 3) := by decide +kernel
theorem dX4_doStep_82 : decode cX4_doStep 82 = .ok (.return_, 1) := by decide +kernel
/-- what stays of the numbers while a fresh object runs: it isn't halted, clock, drum and watch stand, I is set, the bells are quiet -/
def InvN (f : Nat → Int32) : Prop := f 6 = 0 ∧ f 10 = 0 ∧ f 11 = 0 ∧ f 17 = 0 ∧ (f 5 = 4 ∨ f 5 = 6) ∧ f 20 = 0 ∧ f 21 = 0 ∧ f 22 = 0 ∧ f 23 = 0 ∧ f 24 = 0 ∧ f 25 = 0 ∧ f 26 = 0 ∧ f 27 = 0
theorem f5_and {f : Nat → Int32} (h : InvN f) : ¬ (f 5) &&& 4 = 0 := by
  rcases h.2.2.2.2.1 with q | q <;> rw [q] <;> decide
theorem f5_nz {f : Nat → Int32} (h : f 5 = 4 ∨ f 5 = 6) : (((f 5) &&& (-131)) ||| 0) ||| 2 = 6 := by
  rcases h with q | q <;> rw [q] <;> decide
theorem min256 (k : Nat) (h : k ≤ 256) : (if 256 < nI (k + 1) then 256 else nI (k + 1)) = nI (min (k + 1) 256) := by
  show (if nI 256 < nI (k + 1) then nI 256 else nI (k + 1)) = _
  by_cases q : 256 < k + 1
  · rw [if_pos (nI_lt q (by omega)), Nat.min_eq_right (by omega)]
  · rw [if_neg (nI_nlt (by omega) (by omega)), Nat.min_eq_left (by omega)]
theorem frn_inv {f : Nat → Int32} (h : frn f) : InvN f := ⟨h 6 (by decide), h 10 (by decide), h 11 (by decide), h 17 (by decide), Or.inl (h 5 (by decide)), h 20 (by decide), h 21 (by decide), h 22 (by decide), h 23 (by decide), h 24 (by decide), h 25 (by decide), h 26 (by decide), h 27 (by decide)⟩
def sp_run (a : Int32) : Int32 := if a < 1 then -1 else if a ≤ 2000 then a else -1
def sp_text (a : Int32) : Int32 := if isA a = 0 then -1 else 2
set_option maxHeartbeats 4000000 in
set_option maxRecDepth 100000 in
theorem c_interruptComes (l : Launch) (D : va_G) (cA cB : ClassId) (h0 : Nat) (hn : Nat) (hs : Nat) (hd : Nat) (hp : Nat) (hc : Nat) (wy : Int32) (dn : Int32) (f : Nat → Int32) (hI : InvN f) : CI l yX4_interruptComes cX4_interruptComes 1 (some .boolean) 0 0 0 0 D cA cB [.ref h0] [(h0, .inr (4, [.ref hn, .ref hs, .ref hd, .ref hp, .ref hc, .int wy, .int dn])), (hn, .inl (cA, 34, .inl f))] (fun r W1 => r = 0 ∧ W1 = [(h0, .inr (4, [.ref hn, .ref hs, .ref hd, .ref hp, .ref hc, .int wy, .int dn])), (hn, .inl (cA, 34, .inl f))]) := by
  refine mkI (lv0 := [(0, .ref h0)]) (by decide) (Nat.le_of_ble_eq_true rfl) rfl ?_
  intro p e s m below meth c A ls X hr hlocks hnm hE hA hP hD hS hl
  have hx := X.1
  have hb := X.2.1
  refine lv_aload_n hx hb dX4_interruptComes_0 rfl (lv_at hl 0 rfl) ?_
  refine k_get (C := RX4) (T := TX4) (N := 7) (ci := 4) (v := .ref hn) X hE hP 0 rfl rfl iX4 0 (by decide) w_25 rfl dX4_interruptComes_1 ?_
  refine lv_iconst (v := 5) hx hb dX4_interruptComes_4 (by decide) ?_
  refine k_ald (v := f 5) X hE hP 1 rfl 5 rfl (by decide) (by decide) rfl dX4_interruptComes_5 ?_
  refine lv_iconst (v := 4) hx hb dX4_interruptComes_6 (by decide) ?_
  refine lv_iand hx hb dX4_interruptComes_7 ?_
  refine lv_if_ne (tgt := 25) hx hb dX4_interruptComes_8 (by decide) (fun c_8 => ?_) (fun c_8 => absurd c_8 (f5_and hI))
  refine lv_iconst (v := 0) hx hb dX4_interruptComes_25 (by decide) ?_
  exact endZ X hr rfl hlocks hP hD hS dX4_interruptComes_26 ⟨rfl, rfl⟩
set_option maxHeartbeats 4000000 in
set_option maxRecDepth 100000 in
theorem c_whyToEnd0 (l : Launch) (D : va_G) (cA cB : ClassId) (h0 : Nat) (hn : Nat) (hs : Nat) (hd : Nat) (hp : Nat) (hc : Nat) (wy : Int32) (dn : Int32) (f : Nat → Int32) (st : Nat → Int32) (hI : InvN f) (hz : ∀ j, j < 4096 → st j = 0) : CI l yX4_whyToEnd cX4_whyToEnd 3 (some .int) 1 21 0 0 D cA cB [.ref h0, .int 0] [(h0, .inr (4, [.ref hn, .ref hs, .ref hd, .ref hp, .ref hc, .int wy, .int dn])), (hn, .inl (cA, 34, .inl f)), (hs, .inl (cA, 4096, .inl st))] (fun r W1 => r = 0 ∧ W1 = [(h0, .inr (4, [.ref hn, .ref hs, .ref hd, .ref hp, .ref hc, .int wy, .int dn])), (hn, .inl (cA, 34, .inl f)), (hs, .inl (cA, 4096, .inl st))]) := by
  refine mkI (lv0 := [(0, .ref h0), (1, .int 0)]) (by decide) (Nat.le_of_ble_eq_true rfl) rfl ?_
  intro p e s m below meth c A ls X hr hlocks hnm hE hA hP hD hS hl
  have hx := X.1
  have hb := X.2.1
  refine lv_iload_n hx hb dX4_whyToEnd_0 rfl (lv_at hl 1 rfl) ?_
  refine lv_if_eq (tgt := 6) hx hb dX4_whyToEnd_1 (by decide) (fun c_1 => ?_) (fun c_1 => absurd (by decide) c_1)
  refine lv_aload_n hx hb dX4_whyToEnd_6 rfl (lv_at hl 0 rfl) ?_
  refine k_get (C := RX4) (T := TX4) (N := 7) (ci := 4) (v := .ref hn) X hE hP 0 rfl rfl iX4 0 (by decide) w_25 rfl dX4_whyToEnd_7 ?_
  refine lv_bipush (v := 6) hx hb dX4_whyToEnd_10 (by decide) ?_
  refine k_ald (v := 0) X hE hP 1 rfl 6 rfl (by decide) (by decide) hI.1 dX4_whyToEnd_12 ?_
  refine lv_if_eq (tgt := 18) hx hb dX4_whyToEnd_13 (by decide) (fun c_13 => ?_) (fun c_13 => absurd (by decide) c_13)
  obtain ⟨j1, hj1, ej1⟩ := pk_andE (f 4) (m := 4095) 12 (by decide)
  refine lv_aload_n hx hb dX4_whyToEnd_18 rfl (lv_at hl 0 rfl) ?_
  refine lv_aload_n hx hb dX4_whyToEnd_19 rfl (lv_at hl 0 rfl) ?_
  refine k_get (C := RX4) (T := TX4) (N := 7) (ci := 4) (v := .ref hn) X hE hP 0 rfl rfl iX4 0 (by decide) w_25 rfl dX4_whyToEnd_20 ?_
  refine lv_iconst (v := 4) hx hb dX4_whyToEnd_23 (by decide) ?_
  refine k_ald (v := f 4) X hE hP 1 rfl 4 rfl (by decide) (by decide) rfl dX4_whyToEnd_24 ?_
  refine kVi (n3 := 1) (As := [.int (f 4)]) (rest := []) X hl.1 hE hP hD hS hA [(h0, .inr (4, [.ref hn, .ref hs, .ref hd, .ref hp, .ref hc, .int wy, .int dn])), (hs, .inl (cA, 4096, .inl st))] [(hn, .inl (cA, 34, .inl f))] [0, 2] [1] rfl rfl rfl (by decide) (by decide) (by decide) (c_byteAt l D cA cB h0 hn hs hd hp hc wy dn (f 4) j1 st ej1 hj1) w_43 w_44 w_42 w_45 w_46 0 (ci := 4) (T := TX4) (N := 7) rfl rfl (by decide +kernel) rfl rfl (Nat.le_of_ble_eq_true rfl) ⟨(Nat.le_of_ble_eq_true rfl), (Nat.le_of_ble_eq_true rfl)⟩ ⟨(Nat.le_of_ble_eq_true rfl), (Nat.le_of_ble_eq_true rfl)⟩ dX4_whyToEnd_25 (fun r W1 H locs hw hP hD hS => ?_)
  obtain ⟨rfl, rfl⟩ := hw
  have hP : va_P D classes [(hn, .inl (cA, 34, .inl f)), (h0, .inr (4, [.ref hn, .ref hs, .ref hd, .ref hp, .ref hc, .int wy, .int dn])), (hs, .inl (cA, 4096, .inl st))] H := hP
  have hD : va_D A [(hn, .inl (cA, 34, .inl f)), (h0, .inr (4, [.ref hn, .ref hs, .ref hd, .ref hp, .ref hc, .int wy, .int dn])), (hs, .inl (cA, 4096, .inl st))] := hD
  refine tk (y := 0) (hz j1 hj1) ?_
  refine lv_sipush (v := 216) hx hb dX4_whyToEnd_28 (by decide) ?_
  refine lv_icmp_ne (tgt := 55) hx hb dX4_whyToEnd_31 (by decide) (fun c_31 => ?_) (fun c_31 => absurd c_31 (by decide))
  refine lv_iconst (v := 0) hx hb dX4_whyToEnd_55 (by decide) ?_
  refine lv_istore_n (lv' := [(2, .int 0), (0, .ref h0), (1, .int 0)]) hx hb dX4_whyToEnd_56 rfl hl (by decide) rfl (fun ls hl => ?_)
  refine lv_iload_n hx hb dX4_whyToEnd_57 rfl (lv_at hl 0 rfl) ?_
  refine lv_if_eq (tgt := 72) hx hb dX4_whyToEnd_58 (by decide) (fun c_58 => ?_) (fun c_58 => absurd (by decide) c_58)
  refine lv_iconst (v := 0) hx hb dX4_whyToEnd_72 (by decide) ?_
  have hP : va_P D classes [(h0, .inr (4, [.ref hn, .ref hs, .ref hd, .ref hp, .ref hc, .int wy, .int dn])), (hn, .inl (cA, 34, .inl f)), (hs, .inl (cA, 4096, .inl st))] _ := hP.sub [1, 0, 2] rfl
  have hD : va_D A [(h0, .inr (4, [.ref hn, .ref hs, .ref hd, .ref hp, .ref hc, .int wy, .int dn])), (hn, .inl (cA, 34, .inl f)), (hs, .inl (cA, 4096, .inl st))] := hD.sub [1, 0, 2] (by decide) rfl
  exact endI X hr hlocks hP hD hS dX4_whyToEnd_73 ⟨rfl, rfl⟩
set_option maxHeartbeats 4000000 in
set_option maxRecDepth 100000 in
theorem c_takeByte (l : Launch) (D : va_G) (cA cB : ClassId) (h0 : Nat) (hn : Nat) (hs : Nat) (hd : Nat) (hp : Nat) (hc : Nat) (wy : Int32) (dn : Int32) (f : Nat → Int32) (st : Nat → Int32) (hz : ∀ j, j < 4096 → st j = 0) : CI l yX4_takeByte cX4_takeByte 2 (some .int) 1 21 0 0 D cA cB [.ref h0] [(h0, .inr (4, [.ref hn, .ref hs, .ref hd, .ref hp, .ref hc, .int wy, .int dn])), (hn, .inl (cA, 34, .inl f)), (hs, .inl (cA, 4096, .inl st))] (fun r W1 => r = 0 ∧ W1 = [(h0, .inr (4, [.ref hn, .ref hs, .ref hd, .ref hp, .ref hc, .int wy, .int dn])), (hn, .inl (cA, 34, .inl (upd f 4 (((f 4) + 1) &&& 4095)))), (hs, .inl (cA, 4096, .inl st))]) := by
  refine mkI (lv0 := [(0, .ref h0)]) (by decide) (Nat.le_of_ble_eq_true rfl) rfl ?_
  intro p e s m below meth c A ls X hr hlocks hnm hE hA hP hD hS hl
  have hx := X.1
  have hb := X.2.1
  obtain ⟨j1, hj1, ej1⟩ := pk_andE (f 4) (m := 4095) 12 (by decide)
  refine lv_aload_n hx hb dX4_takeByte_0 rfl (lv_at hl 0 rfl) ?_
  refine lv_aload_n hx hb dX4_takeByte_1 rfl (lv_at hl 0 rfl) ?_
  refine k_get (C := RX4) (T := TX4) (N := 7) (ci := 4) (v := .ref hn) X hE hP 0 rfl rfl iX4 0 (by decide) w_25 rfl dX4_takeByte_2 ?_
  refine lv_iconst (v := 4) hx hb dX4_takeByte_5 (by decide) ?_
  refine k_ald (v := f 4) X hE hP 1 rfl 4 rfl (by decide) (by decide) rfl dX4_takeByte_6 ?_
  refine kVi (n3 := 1) (As := [.int (f 4)]) (rest := []) X hl.1 hE hP hD hS hA [(h0, .inr (4, [.ref hn, .ref hs, .ref hd, .ref hp, .ref hc, .int wy, .int dn])), (hs, .inl (cA, 4096, .inl st))] [(hn, .inl (cA, 34, .inl f))] [0, 2] [1] rfl rfl rfl (by decide) (by decide) (by decide) (c_byteAt l D cA cB h0 hn hs hd hp hc wy dn (f 4) j1 st ej1 hj1) w_43 w_44 w_42 w_45 w_46 0 (ci := 4) (T := TX4) (N := 7) rfl rfl (by decide +kernel) rfl rfl (Nat.le_of_ble_eq_true rfl) ⟨(Nat.le_of_ble_eq_true rfl), (Nat.le_of_ble_eq_true rfl)⟩ ⟨(Nat.le_of_ble_eq_true rfl), (Nat.le_of_ble_eq_true rfl)⟩ dX4_takeByte_7 (fun r W1 H locs hw hP hD hS => ?_)
  obtain ⟨rfl, rfl⟩ := hw
  have hP : va_P D classes [(hn, .inl (cA, 34, .inl f)), (h0, .inr (4, [.ref hn, .ref hs, .ref hd, .ref hp, .ref hc, .int wy, .int dn])), (hs, .inl (cA, 4096, .inl st))] H := hP
  have hD : va_D A [(hn, .inl (cA, 34, .inl f)), (h0, .inr (4, [.ref hn, .ref hs, .ref hd, .ref hp, .ref hc, .int wy, .int dn])), (hs, .inl (cA, 4096, .inl st))] := hD
  refine tk (y := 0) (hz j1 hj1) ?_
  refine lv_istore_n (lv' := [(1, .int 0), (0, .ref h0)]) hx hb dX4_takeByte_10 rfl hl (by decide) rfl (fun ls hl => ?_)
  refine lv_aload_n hx hb dX4_takeByte_11 rfl (lv_at hl 1 rfl) ?_
  refine k_get (C := RX4) (T := TX4) (N := 7) (ci := 4) (v := .ref hn) X hE hP 1 rfl rfl iX4 0 (by decide) w_25 rfl dX4_takeByte_12 ?_
  refine lv_iconst (v := 4) hx hb dX4_takeByte_15 (by decide) ?_
  refine lv_aload_n hx hb dX4_takeByte_16 rfl (lv_at hl 1 rfl) ?_
  refine k_get (C := RX4) (T := TX4) (N := 7) (ci := 4) (v := .ref hn) X hE hP 1 rfl rfl iX4 0 (by decide) w_25 rfl dX4_takeByte_17 ?_
  refine lv_iconst (v := 4) hx hb dX4_takeByte_20 (by decide) ?_
  refine k_ald (v := f 4) X hE hP 0 rfl 4 rfl (by decide) (by decide) rfl dX4_takeByte_21 ?_
  refine lv_iconst (v := 1) hx hb dX4_takeByte_22 (by decide) ?_
  refine lv_iadd hx hb dX4_takeByte_23 ?_
  refine lv_sipush (v := 4095) hx hb dX4_takeByte_24 (by decide) ?_
  refine lv_iand hx hb dX4_takeByte_27 ?_
  refine k_ast X hE hP hD hS 0 rfl 4 rfl (by decide) (by decide) [(hn, .inl (cA, 34, .inl (upd f 4 (((f 4) + 1) &&& 4095)))), (h0, .inr (4, [.ref hn, .ref hs, .ref hd, .ref hp, .ref hc, .int wy, .int dn])), (hs, .inl (cA, 4096, .inl st))] rfl dX4_takeByte_28 (fun H locs hP hD hS => ?_)
  refine lv_iload_n hx hb dX4_takeByte_29 rfl (lv_at hl 0 rfl) ?_
  have hP : va_P D classes [(h0, .inr (4, [.ref hn, .ref hs, .ref hd, .ref hp, .ref hc, .int wy, .int dn])), (hn, .inl (cA, 34, .inl (upd f 4 (((f 4) + 1) &&& 4095)))), (hs, .inl (cA, 4096, .inl st))] _ := hP.sub [1, 0, 2] rfl
  have hD : va_D A [(h0, .inr (4, [.ref hn, .ref hs, .ref hd, .ref hp, .ref hc, .int wy, .int dn])), (hn, .inl (cA, 34, .inl (upd f 4 (((f 4) + 1) &&& 4095)))), (hs, .inl (cA, 4096, .inl st))] := hD.sub [1, 0, 2] (by decide) rfl
  exact endI X hr hlocks hP hD hS dX4_takeByte_30 ⟨rfl, rfl⟩
set_option maxHeartbeats 4000000 in
set_option maxRecDepth 100000 in
theorem c_keep (l : Launch) (D : va_G) (cA cB : ClassId) (h0 : Nat) (he : Nat) (hn : Nat) (la : Nat) (ke : Nat) (f : Nat → Int32) (g : Nat → Int32) (hla : la < 256) (hke : ke ≤ 256) : CV l yX3_keep cX3_keep 2 none 1 40 0 0 D cA cB [.ref h0, .ref hn] [(h0, .inr (3, [.ref he, .int (nI la), .int (nI ke)])), (hn, .inl (cA, 34, .inl f)), (he, .inl (cA, 10752, .inl g))] (fun W1 => ∃ (la2 : Nat) (ke2 : Nat) (g2 : Nat → Int32), (la2 < 256) ∧ (ke2 ≤ 256) ∧ W1 = [(h0, .inr (3, [.ref he, .int (nI la2), .int (nI ke2)])), (hn, .inl (cA, 34, .inl f)), (he, .inl (cA, 10752, .inl g2))]) := by
  refine mkV (lv0 := [(0, .ref h0), (1, .ref hn)]) (by decide) (Nat.le_of_ble_eq_true rfl) rfl ?_
  intro p e s m below meth c A ls X hr hlocks hnm hE hA hP hD hS hl
  have hx := X.1
  have hb := X.2.1
  have hm := Nat.mod_lt (la + 1) (show 0 < 256 by decide)
  refine lv_aload_n hx hb dX3_keep_0 rfl (lv_at hl 0 rfl) ?_
  refine lv_aload_n hx hb dX3_keep_1 rfl (lv_at hl 0 rfl) ?_
  refine k_get (C := RX3) (T := TX3) (N := 3) (ci := 3) (v := .int (nI la)) X hE hP 0 rfl rfl iX3 1 (by decide) w_161 rfl dX3_keep_2 ?_
  refine lv_iconst (v := 1) hx hb dX3_keep_5 (by decide) ?_
  refine lv_iadd hx hb dX3_keep_6 ?_
  refine tk (y := nI (la + 1)) (nI_1 la) ?_
  refine lv_sipush (v := 256) hx hb dX3_keep_7 (by decide) ?_
  refine lv_irem hx hb dX3_keep_10 (by decide) ?_
  refine tk (y := nI ((la + 1) % 256)) (pk_rem (a := la + 1) (d := 256) (by omega) (by decide) (by decide)) ?_
  refine k_put (C := RX3) (T := TX3) (N := 3) (ci := 3) (v := .int (nI ((la + 1) % 256))) (ty := .int) X hE hP hD hS 0 rfl rfl iX3 tyX3 tyX3_ok nmX3 1 (by decide) w_161 rfl (by decide +kernel) rfl rfl (Nat.le_of_ble_eq_true rfl) [(h0, .inr (3, [.ref he, .int (nI ((la + 1) % 256)), .int (nI ke)])), (hn, .inl (cA, 34, .inl f)), (he, .inl (cA, 10752, .inl g))] rfl dX3_keep_11 (fun H locs hP hD hS => ?_)
  refine lv_aload_n hx hb dX3_keep_14 rfl (lv_at hl 0 rfl) ?_
  refine lv_aload_n hx hb dX3_keep_15 rfl (lv_at hl 0 rfl) ?_
  refine k_get (C := RX3) (T := TX3) (N := 3) (ci := 3) (v := .int (nI ke)) X hE hP 0 rfl rfl iX3 2 (by decide) w_41 rfl dX3_keep_16 ?_
  refine lv_iconst (v := 1) hx hb dX3_keep_19 (by decide) ?_
  refine lv_iadd hx hb dX3_keep_20 ?_
  refine tk (y := nI (ke + 1)) (nI_1 ke) ?_
  refine lv_sipush (v := 256) hx hb dX3_keep_21 (by decide) ?_
  refine va_mmin hx hb (X.2.2.1.trans hl.1.symm) X.2.2.2.1 (X.2.2.2.2 _ w_162) (X.2.2.2.2 _ w_163) (X.2.2.2.2 _ w_164) (X.2.2.2.2 _ w_165) (Nat.le_of_ble_eq_true rfl) (Nat.le_of_ble_eq_true rfl) (Nat.le_of_ble_eq_true rfl) (Nat.le_of_ble_eq_true rfl) dX3_keep_24 ?_
  refine tk (y := nI (min (ke + 1) 256)) (min256 ke hke) ?_
  refine k_put (C := RX3) (T := TX3) (N := 3) (ci := 3) (v := .int (nI (min (ke + 1) 256))) (ty := .int) X hE hP hD hS 0 rfl rfl iX3 tyX3 tyX3_ok nmX3 2 (by decide) w_41 rfl (by decide +kernel) rfl rfl (Nat.le_of_ble_eq_true rfl) [(h0, .inr (3, [.ref he, .int (nI ((la + 1) % 256)), .int (nI (min (ke + 1) 256))])), (hn, .inl (cA, 34, .inl f)), (he, .inl (cA, 10752, .inl g))] rfl dX3_keep_27 (fun H locs hP hD hS => ?_)
  refine lv_aload_n hx hb dX3_keep_30 rfl (lv_at hl 1 rfl) ?_
  refine lv_iconst (v := 0) hx hb dX3_keep_31 (by decide) ?_
  refine lv_aload_n hx hb dX3_keep_32 rfl (lv_at hl 0 rfl) ?_
  refine k_get (C := RX3) (T := TX3) (N := 3) (ci := 3) (v := .ref he) X hE hP 0 rfl rfl iX3 0 (by decide) w_7 rfl dX3_keep_33 ?_
  refine lv_aload_n hx hb dX3_keep_36 rfl (lv_at hl 0 rfl) ?_
  refine k_get (C := RX3) (T := TX3) (N := 3) (ci := 3) (v := .int (nI ((la + 1) % 256))) X hE hP 0 rfl rfl iX3 1 (by decide) w_161 rfl dX3_keep_37 ?_
  refine lv_bipush (v := 42) hx hb dX3_keep_40 (by decide) ?_
  refine lv_imul hx hb dX3_keep_42 ?_
  refine tk (y := nI (((la + 1) % 256) * 42)) (pk_mul _ 42) ?_
  refine lv_bipush (v := 34) hx hb dX3_keep_43 (by decide) ?_
  refine va_copyi (ty := .int) hx hb (X.2.2.1.trans hl.1.symm) X.2.2.2.1 (X.2.2.2.2 _ w_166) (X.2.2.2.2 _ w_167) (X.2.2.2.2 _ w_168) (X.2.2.2.2 _ w_169) hE.1 hP hD hS 1 2 0 0 rfl rfl rfl rfl rfl (by decide) (nI_pos (by omega)) (by decide) (by decide) (by rw [nI_clamp (by omega)]; show _ + 34 ≤ 10752; omega) (fun _ _ => rfl) (Nat.le_of_ble_eq_true rfl) (Nat.le_of_ble_eq_true rfl) dX3_keep_45 (fun H locs hP hD hS => ?_)
  obtain ⟨g_1, eg_1⟩ : ∃ z, z = va_cpy f g (0 : Int32).toNatClampNeg (nI (((la + 1) % 256) * 42) : Int32).toNatClampNeg (34 : Int32).toNatClampNeg := ⟨_, rfl⟩
  rw [← eg_1] at hP hD
  have hP : va_P D classes [(h0, .inr (3, [.ref he, .int (nI ((la + 1) % 256)), .int (nI (min (ke + 1) 256))])), (hn, .inl (cA, 34, .inl f)), (he, .inl (cA, 10752, .inl g_1))] H := hP
  have hD : va_D A [(h0, .inr (3, [.ref he, .int (nI ((la + 1) % 256)), .int (nI (min (ke + 1) 256))])), (hn, .inl (cA, 34, .inl f)), (he, .inl (cA, 10752, .inl g_1))] := hD
  refine lv_aload_n hx hb dX3_keep_48 rfl (lv_at hl 0 rfl) ?_
  refine k_get (C := RX3) (T := TX3) (N := 3) (ci := 3) (v := .ref he) X hE hP 0 rfl rfl iX3 0 (by decide) w_7 rfl dX3_keep_49 ?_
  refine lv_aload_n hx hb dX3_keep_52 rfl (lv_at hl 0 rfl) ?_
  refine k_get (C := RX3) (T := TX3) (N := 3) (ci := 3) (v := .int (nI ((la + 1) % 256))) X hE hP 0 rfl rfl iX3 1 (by decide) w_161 rfl dX3_keep_53 ?_
  refine lv_bipush (v := 42) hx hb dX3_keep_56 (by decide) ?_
  refine lv_imul hx hb dX3_keep_58 ?_
  refine tk (y := nI (((la + 1) % 256) * 42)) (pk_mul _ 42) ?_
  refine lv_bipush (v := 35) hx hb dX3_keep_59 (by decide) ?_
  refine lv_iadd hx hb dX3_keep_61 ?_
  refine tk (y := nI ((((la + 1) % 256) * 42) + 35)) (nI_add _ 35) ?_
  refine lv_iconst (v := 0) hx hb dX3_keep_62 (by decide) ?_
  refine k_ast X hE hP hD hS 2 rfl ((((la + 1) % 256) * 42) + 35) rfl (by omega) (by decide) [(h0, .inr (3, [.ref he, .int (nI ((la + 1) % 256)), .int (nI (min (ke + 1) 256))])), (hn, .inl (cA, 34, .inl f)), (he, .inl (cA, 10752, .inl (upd g_1 ((((la + 1) % 256) * 42) + 35) 0)))] rfl dX3_keep_63 (fun H locs hP hD hS => ?_)
  exact endV X hr hlocks hP hD hS dX3_keep_64 ⟨((la + 1) % 256), (min (ke + 1) 256), (upd g_1 ((((la + 1) % 256) * 42) + 35) 0), (Nat.mod_lt _ (by decide)), (Nat.min_le_right _ _), rfl⟩
set_option maxHeartbeats 4000000 in
set_option maxRecDepth 100000 in
theorem c_keepCode0 (l : Launch) (D : va_G) (cA cB : ClassId) (h0 : Nat) (he : Nat) (la : Nat) (ke : Int32) (g : Nat → Int32) (hla : la < 256) : CV l yX3_keepCode cX3_keepCode 2 none 0 0 0 0 D cA cB [.ref h0, .int 0] [(h0, .inr (3, [.ref he, .int (nI la), .int ke])), (he, .inl (cA, 10752, .inl g))] (fun W1 => ∃ (g2 : Nat → Int32), W1 = [(h0, .inr (3, [.ref he, .int (nI la), .int ke])), (he, .inl (cA, 10752, .inl g2))]) := by
  refine mkV (lv0 := [(0, .ref h0), (1, .int 0)]) (by decide) (Nat.le_of_ble_eq_true rfl) rfl ?_
  intro p e s m below meth c A ls X hr hlocks hnm hE hA hP hD hS hl
  have hx := X.1
  have hb := X.2.1
  refine lv_aload_n hx hb dX3_keepCode_0 rfl (lv_at hl 0 rfl) ?_
  refine k_get (C := RX3) (T := TX3) (N := 3) (ci := 3) (v := .ref he) X hE hP 0 rfl rfl iX3 0 (by decide) w_7 rfl dX3_keepCode_1 ?_
  refine lv_aload_n hx hb dX3_keepCode_4 rfl (lv_at hl 0 rfl) ?_
  refine k_get (C := RX3) (T := TX3) (N := 3) (ci := 3) (v := .int (nI la)) X hE hP 0 rfl rfl iX3 1 (by decide) w_161 rfl dX3_keepCode_5 ?_
  refine lv_bipush (v := 42) hx hb dX3_keepCode_8 (by decide) ?_
  refine lv_imul hx hb dX3_keepCode_10 ?_
  refine tk (y := nI (la * 42)) (pk_mul _ 42) ?_
  refine lv_bipush (v := 34) hx hb dX3_keepCode_11 (by decide) ?_
  refine lv_iadd hx hb dX3_keepCode_13 ?_
  refine tk (y := nI (la * 42 + 34)) (nI_add _ 34) ?_
  refine lv_iload_n hx hb dX3_keepCode_14 rfl (lv_at hl 1 rfl) ?_
  refine k_ast X hE hP hD hS 1 rfl (la * 42 + 34) rfl (by omega) (by decide) [(h0, .inr (3, [.ref he, .int (nI la), .int ke])), (he, .inl (cA, 10752, .inl (upd g (la * 42 + 34) 0)))] rfl dX3_keepCode_15 (fun H locs hP hD hS => ?_)
  exact endV X hr hlocks hP hD hS dX3_keepCode_16 ⟨(upd g (la * 42 + 34) 0), rfl⟩
set_option maxHeartbeats 4000000 in
set_option maxRecDepth 100000 in
theorem c_isShort0 (l : Launch) (D : va_G) (cA cB : ClassId)   : CI l yX8_isShort cX8_isShort 1 (some .boolean) 0 0 0 0 D cA cB [.int 0] [] (fun r W1 => r = 0 ∧ W1 = []) := by
  refine mkI (lv0 := [(0, .int 0)]) (by decide) (Nat.le_of_ble_eq_true rfl) rfl ?_
  intro p e s m below meth c A ls X hr hlocks hnm hE hA hP hD hS hl
  have hx := X.1
  have hb := X.2.1
  refine lv_iload_n hx hb dX8_isShort_0 rfl (lv_at hl 0 rfl) ?_
  refine lv_bipush (v := 7) hx hb dX8_isShort_1 (by decide) ?_
  refine lv_iand hx hb dX8_isShort_3 ?_
  refine tk (y := 0) (by decide) ?_
  refine lv_if_ne (tgt := 19) hx hb dX8_isShort_4 (by decide) (fun c_4 => absurd (by decide) c_4) (fun c_4 => ?_)
  refine lv_iload_n hx hb dX8_isShort_7 rfl (lv_at hl 0 rfl) ?_
  refine lv_iconst (v := 3) hx hb dX8_isShort_8 (by decide) ?_
  refine lv_ishr hx hb dX8_isShort_9 ?_
  refine tk (y := 0) (by decide) ?_
  refine lv_bipush (v := 16) hx hb dX8_isShort_10 (by decide) ?_
  refine lv_icmp_lt (tgt := 19) hx hb dX8_isShort_12 (by decide) (fun c_12 => ?_) (fun c_12 => absurd (by decide) c_12)
  refine lv_iconst (v := 0) hx hb dX8_isShort_19 (by decide) ?_
  exact endZ X hr rfl hlocks hP hD hS dX8_isShort_20 ⟨rfl, rfl⟩
set_option maxHeartbeats 4000000 in
set_option maxRecDepth 100000 in
theorem c_setNz0 (l : Launch) (D : va_G) (cA cB : ClassId) (h0 : Nat) (hn : Nat) (hs : Nat) (hd : Nat) (hp : Nat) (hc : Nat) (wy : Int32) (dn : Int32) (f : Nat → Int32) (hF : f 5 = 4 ∨ f 5 = 6) : CV l yX4_setNz cX4_setNz 2 none 0 0 0 0 D cA cB [.ref h0, .int 0] [(h0, .inr (4, [.ref hn, .ref hs, .ref hd, .ref hp, .ref hc, .int wy, .int dn])), (hn, .inl (cA, 34, .inl f))] (fun W1 => W1 = [(h0, .inr (4, [.ref hn, .ref hs, .ref hd, .ref hp, .ref hc, .int wy, .int dn])), (hn, .inl (cA, 34, .inl (upd f 5 6)))]) := by
  refine mkV (lv0 := [(0, .ref h0), (1, .int 0)]) (by decide) (Nat.le_of_ble_eq_true rfl) rfl ?_
  intro p e s m below meth c A ls X hr hlocks hnm hE hA hP hD hS hl
  have hx := X.1
  have hb := X.2.1
  refine lv_aload_n hx hb dX4_setNz_0 rfl (lv_at hl 0 rfl) ?_
  refine k_get (C := RX4) (T := TX4) (N := 7) (ci := 4) (v := .ref hn) X hE hP 0 rfl rfl iX4 0 (by decide) w_25 rfl dX4_setNz_1 ?_
  refine lv_iconst (v := 5) hx hb dX4_setNz_4 (by decide) ?_
  refine lv_aload_n hx hb dX4_setNz_5 rfl (lv_at hl 0 rfl) ?_
  refine k_get (C := RX4) (T := TX4) (N := 7) (ci := 4) (v := .ref hn) X hE hP 0 rfl rfl iX4 0 (by decide) w_25 rfl dX4_setNz_6 ?_
  refine lv_iconst (v := 5) hx hb dX4_setNz_9 (by decide) ?_
  refine k_ald (v := f 5) X hE hP 1 rfl 5 rfl (by decide) (by decide) rfl dX4_setNz_10 ?_
  refine lv_sipush (v := (-131)) hx hb dX4_setNz_11 (by decide) ?_
  refine lv_iand hx hb dX4_setNz_14 ?_
  refine lv_iload_n hx hb dX4_setNz_15 rfl (lv_at hl 1 rfl) ?_
  refine lv_sipush (v := 128) hx hb dX4_setNz_16 (by decide) ?_
  refine lv_iand hx hb dX4_setNz_19 ?_
  refine tk (y := 0) (by decide) ?_
  refine lv_ior hx hb dX4_setNz_20 ?_
  refine lv_iload_n hx hb dX4_setNz_21 rfl (lv_at hl 1 rfl) ?_
  refine lv_if_ne (tgt := 29) hx hb dX4_setNz_22 (by decide) (fun c_22 => absurd (by decide) c_22) (fun c_22 => ?_)
  refine lv_iconst (v := 2) hx hb dX4_setNz_25 (by decide) ?_
  refine lv_goto (tgt := 30) hx hb dX4_setNz_26 (by decide) ?_
  refine lv_ior hx hb dX4_setNz_30 ?_
  refine tk (y := 6) (f5_nz hF) ?_
  refine k_ast X hE hP hD hS 1 rfl 5 rfl (by decide) (by decide) [(h0, .inr (4, [.ref hn, .ref hs, .ref hd, .ref hp, .ref hc, .int wy, .int dn])), (hn, .inl (cA, 34, .inl (upd f 5 6)))] rfl dX4_setNz_31 (fun H locs hP hD hS => ?_)
  exact endV X hr hlocks hP hD hS dX4_setNz_32 rfl
set_option maxHeartbeats 4000000 in
set_option maxRecDepth 100000 in
theorem c_set00 (l : Launch) (D : va_G) (cA cB : ClassId) (h0 : Nat) (hn : Nat) (hs : Nat) (hd : Nat) (hp : Nat) (hc : Nat) (wy : Int32) (dn : Int32) (f : Nat → Int32) (hF : f 5 = 4 ∨ f 5 = 6) : CV l yX4_set cX4_set 3 none 1 21 0 0 D cA cB [.ref h0, .int 0, .int 0] [(h0, .inr (4, [.ref hn, .ref hs, .ref hd, .ref hp, .ref hc, .int wy, .int dn])), (hn, .inl (cA, 34, .inl f))] (fun W1 => W1 = [(h0, .inr (4, [.ref hn, .ref hs, .ref hd, .ref hp, .ref hc, .int wy, .int dn])), (hn, .inl (cA, 34, .inl (upd (upd f 0 0) 5 6)))]) := by
  refine mkV (lv0 := [(0, .ref h0), (1, .int 0), (2, .int 0)]) (by decide) (Nat.le_of_ble_eq_true rfl) rfl ?_
  intro p e s m below meth c A ls X hr hlocks hnm hE hA hP hD hS hl
  have hx := X.1
  have hb := X.2.1
  refine lv_aload_n hx hb dX4_set_0 rfl (lv_at hl 0 rfl) ?_
  refine k_get (C := RX4) (T := TX4) (N := 7) (ci := 4) (v := .ref hn) X hE hP 0 rfl rfl iX4 0 (by decide) w_25 rfl dX4_set_1 ?_
  refine lv_iload_n hx hb dX4_set_4 rfl (lv_at hl 1 rfl) ?_
  refine lv_iload_n hx hb dX4_set_5 rfl (lv_at hl 2 rfl) ?_
  refine lv_sipush (v := 255) hx hb dX4_set_6 (by decide) ?_
  refine lv_iand hx hb dX4_set_9 ?_
  refine tk (y := 0) (by decide) ?_
  refine k_ast X hE hP hD hS 1 rfl 0 rfl (by decide) (by decide) [(h0, .inr (4, [.ref hn, .ref hs, .ref hd, .ref hp, .ref hc, .int wy, .int dn])), (hn, .inl (cA, 34, .inl (upd f 0 0)))] rfl dX4_set_10 (fun H locs hP hD hS => ?_)
  refine lv_aload_n hx hb dX4_set_11 rfl (lv_at hl 0 rfl) ?_
  refine lv_iload_n hx hb dX4_set_12 rfl (lv_at hl 2 rfl) ?_
  refine lv_sipush (v := 255) hx hb dX4_set_13 (by decide) ?_
  refine lv_iand hx hb dX4_set_16 ?_
  refine tk (y := 0) (by decide) ?_
  refine kVv (n3 := 1) (As := [.int 0]) (rest := []) X hl.1 hE hP hD hS hA [(h0, .inr (4, [.ref hn, .ref hs, .ref hd, .ref hp, .ref hc, .int wy, .int dn])), (hn, .inl (cA, 34, .inl (upd f 0 0)))] [] [0, 1] [] rfl rfl rfl (by decide) (by decide) (by decide) (c_setNz0 l D cA cB h0 hn hs hd hp hc wy dn (upd f 0 0) hF) w_171 w_44 w_170 w_172 w_173 0 (ci := 4) (T := TX4) (N := 7) rfl rfl (by decide +kernel) rfl rfl (Nat.le_of_ble_eq_true rfl) ⟨(Nat.le_of_ble_eq_true rfl), (Nat.le_of_ble_eq_true rfl)⟩ ⟨(Nat.le_of_ble_eq_true rfl), (Nat.le_of_ble_eq_true rfl)⟩ dX4_set_17 (fun W1 H locs hw hP hD hS => ?_)
  obtain rfl := hw
  have hP : va_P D classes [(h0, .inr (4, [.ref hn, .ref hs, .ref hd, .ref hp, .ref hc, .int wy, .int dn])), (hn, .inl (cA, 34, .inl (upd (upd f 0 0) 5 6)))] H := hP
  have hD : va_D A [(h0, .inr (4, [.ref hn, .ref hs, .ref hd, .ref hp, .ref hc, .int wy, .int dn])), (hn, .inl (cA, 34, .inl (upd (upd f 0 0) 5 6)))] := hD
  exact endV X hr hlocks hP hD hS dX4_set_20 rfl
set_option maxHeartbeats 4000000 in
set_option maxRecDepth 100000 in
theorem c_useValue00 (l : Launch) (D : va_G) (cA cB : ClassId) (h0 : Nat) (hn : Nat) (hs : Nat) (hd : Nat) (hp : Nat) (hc : Nat) (wy : Int32) (dn : Int32) (f : Nat → Int32) (hF : f 5 = 4 ∨ f 5 = 6) : CV l yX4_useValue cX4_useValue 3 none 2 43 0 0 D cA cB [.ref h0, .int 0, .int 0] [(h0, .inr (4, [.ref hn, .ref hs, .ref hd, .ref hp, .ref hc, .int wy, .int dn])), (hn, .inl (cA, 34, .inl f))] (fun W1 => W1 = [(h0, .inr (4, [.ref hn, .ref hs, .ref hd, .ref hp, .ref hc, .int wy, .int dn])), (hn, .inl (cA, 34, .inl (upd (upd f 0 0) 5 6)))]) := by
  refine mkV (lv0 := [(0, .ref h0), (1, .int 0), (2, .int 0)]) (by decide) (Nat.le_of_ble_eq_true rfl) rfl ?_
  intro p e s m below meth c A ls X hr hlocks hnm hE hA hP hD hS hl
  have hx := X.1
  have hb := X.2.1
  refine lv_iload_n hx hb dX4_useValue_0 rfl (lv_at hl 1 rfl) ?_
  refine lv_tableIn (tgt := 76) (off := 75) hx hb dX4_useValue_1 (by decide) (by decide) (by decide) (by decide) ?_
  refine lv_aload_n hx hb dX4_useValue_76 rfl (lv_at hl 0 rfl) ?_
  refine lv_iconst (v := 0) hx hb dX4_useValue_77 (by decide) ?_
  refine lv_iload_n hx hb dX4_useValue_78 rfl (lv_at hl 2 rfl) ?_
  refine kVv (n3 := 2) (As := [.int 0, .int 0]) (rest := []) X hl.1 hE hP hD hS hA [(h0, .inr (4, [.ref hn, .ref hs, .ref hd, .ref hp, .ref hc, .int wy, .int dn])), (hn, .inl (cA, 34, .inl f))] [] [0, 1] [] rfl rfl rfl (by decide) (by decide) (by decide) (c_set00 l D cA cB h0 hn hs hd hp hc wy dn f hF) w_175 w_44 w_174 w_176 w_177 0 (ci := 4) (T := TX4) (N := 7) rfl rfl (by decide +kernel) rfl rfl (Nat.le_of_ble_eq_true rfl) ⟨(Nat.le_of_ble_eq_true rfl), (Nat.le_of_ble_eq_true rfl)⟩ ⟨(Nat.le_of_ble_eq_true rfl), (Nat.le_of_ble_eq_true rfl)⟩ dX4_useValue_79 (fun W1 H locs hw hP hD hS => ?_)
  obtain rfl := hw
  have hP : va_P D classes [(h0, .inr (4, [.ref hn, .ref hs, .ref hd, .ref hp, .ref hc, .int wy, .int dn])), (hn, .inl (cA, 34, .inl (upd (upd f 0 0) 5 6)))] H := hP
  have hD : va_D A [(h0, .inr (4, [.ref hn, .ref hs, .ref hd, .ref hp, .ref hc, .int wy, .int dn])), (hn, .inl (cA, 34, .inl (upd (upd f 0 0) 5 6)))] := hD
  refine lv_goto (tgt := 252) hx hb dX4_useValue_82 (by decide) ?_
  exact endV X hr hlocks hP hD hS dX4_useValue_252 rfl
set_option maxHeartbeats 4000000 in
set_option maxRecDepth 100000 in
theorem c_doCode0 (l : Launch) (D : va_G) (cA cB : ClassId) (h0 : Nat) (hn : Nat) (hs : Nat) (hd : Nat) (hp : Nat) (hc : Nat) (wy : Int32) (dn : Int32) (f : Nat → Int32) (st : Nat → Int32) (hF : f 5 = 4 ∨ f 5 = 6) (hz : ∀ j, j < 4096 → st j = 0) : CI l yX4_doCode cX4_doCode 5 (some .int) 3 65 0 0 D cA cB [.ref h0, .int 0] [(h0, .inr (4, [.ref hn, .ref hs, .ref hd, .ref hp, .ref hc, .int wy, .int dn])), (hn, .inl (cA, 34, .inl f)), (hs, .inl (cA, 4096, .inl st))] (fun r W1 => r = 2 ∧ W1 = [(h0, .inr (4, [.ref hn, .ref hs, .ref hd, .ref hp, .ref hc, .int wy, .int dn])), (hn, .inl (cA, 34, .inl (upd (upd (upd f 4 (((f 4) + 1) &&& 4095)) 0 0) 5 6))), (hs, .inl (cA, 4096, .inl st))]) := by
  refine mkI (lv0 := [(0, .ref h0), (1, .int 0)]) (by decide) (Nat.le_of_ble_eq_true rfl) rfl ?_
  intro p e s m below meth c A ls X hr hlocks hnm hE hA hP hD hS hl
  have hx := X.1
  have hb := X.2.1
  refine lv_iload_n hx hb dX4_doCode_0 rfl (lv_at hl 1 rfl) ?_
  refine lv_iconst (v := 3) hx hb dX4_doCode_1 (by decide) ?_
  refine lv_ishr hx hb dX4_doCode_2 ?_
  refine tk (y := 0) (by decide) ?_
  refine lv_istore_n (lv' := [(2, .int 0), (0, .ref h0), (1, .int 0)]) hx hb dX4_doCode_3 rfl hl (by decide) rfl (fun ls hl => ?_)
  refine lv_iload_n hx hb dX4_doCode_4 rfl (lv_at hl 2 rfl) ?_
  refine lv_bipush (v := 7) hx hb dX4_doCode_5 (by decide) ?_
  refine lv_iand hx hb dX4_doCode_7 ?_
  refine tk (y := 0) (by decide) ?_
  refine lv_istore_n (lv' := [(3, .int 0), (2, .int 0), (0, .ref h0), (1, .int 0)]) hx hb dX4_doCode_8 rfl hl (by decide) rfl (fun ls hl => ?_)
  refine lv_iload_n hx hb dX4_doCode_9 rfl (lv_at hl 3 rfl) ?_
  refine kSNi (n3 := 1) (As := [.int 0]) (rest := []) X hl.1 hE hP hD hS hA [] [(h0, .inr (4, [.ref hn, .ref hs, .ref hd, .ref hp, .ref hc, .int wy, .int dn])), (hn, .inl (cA, 34, .inl f)), (hs, .inl (cA, 4096, .inl st))] [] [0, 1, 2] rfl rfl rfl (by decide) (by decide) (by decide) (c_isShort0 l D cA cB  ) w_178 w_116 nw_32 w_179 (by decide +kernel) rfl rfl (Nat.le_of_ble_eq_true rfl) ⟨(Nat.le_of_ble_eq_true rfl), (Nat.le_of_ble_eq_true rfl)⟩ ⟨(Nat.le_of_ble_eq_true rfl), (Nat.le_of_ble_eq_true rfl)⟩ dX4_doCode_10 (fun r W1 H locs hw hP hD hS => ?_)
  obtain ⟨rfl, rfl⟩ := hw
  have hP : va_P D classes [(h0, .inr (4, [.ref hn, .ref hs, .ref hd, .ref hp, .ref hc, .int wy, .int dn])), (hn, .inl (cA, 34, .inl f)), (hs, .inl (cA, 4096, .inl st))] H := hP
  have hD : va_D A [(h0, .inr (4, [.ref hn, .ref hs, .ref hd, .ref hp, .ref hc, .int wy, .int dn])), (hn, .inl (cA, 34, .inl f)), (hs, .inl (cA, 4096, .inl st))] := hD
  refine lv_if_eq (tgt := 45) hx hb dX4_doCode_13 (by decide) (fun c_13 => ?_) (fun c_13 => absurd (by decide) c_13)
  refine lv_iload_n hx hb dX4_doCode_45 rfl (lv_at hl 1 rfl) ?_
  refine lv_bipush (v := 16) hx hb dX4_doCode_46 (by decide) ?_
  refine lv_icmp_ge (tgt := 79) hx hb dX4_doCode_48 (by decide) (fun c_48 => absurd c_48 (by decide)) (fun c_48 => ?_)
  refine lv_aload_n hx hb dX4_doCode_51 rfl (lv_at hl 2 rfl) ?_
  refine lv_iload_n hx hb dX4_doCode_52 rfl (lv_at hl 1 rfl) ?_
  refine lv_iload_n hx hb dX4_doCode_53 rfl (lv_at hl 0 rfl) ?_
  refine lv_if_ne (tgt := 64) hx hb dX4_doCode_54 (by decide) (fun c_54 => absurd (by decide) c_54) (fun c_54 => ?_)
  refine lv_aload_n hx hb dX4_doCode_57 rfl (lv_at hl 2 rfl) ?_
  refine kVi (n3 := 0) (As := []) (rest := [.int 0, .ref h0]) X hl.1 hE hP hD hS hA [(h0, .inr (4, [.ref hn, .ref hs, .ref hd, .ref hp, .ref hc, .int wy, .int dn])), (hn, .inl (cA, 34, .inl f)), (hs, .inl (cA, 4096, .inl st))] [] [0, 1, 2] [] rfl rfl rfl (by decide) (by decide) (by decide) (c_takeByte l D cA cB h0 hn hs hd hp hc wy dn f st hz) w_181 w_44 w_180 w_182 w_183 0 (ci := 4) (T := TX4) (N := 7) rfl rfl (by decide +kernel) rfl rfl (Nat.le_of_ble_eq_true rfl) ⟨(Nat.le_of_ble_eq_true rfl), (Nat.le_of_ble_eq_true rfl)⟩ ⟨(Nat.le_of_ble_eq_true rfl), (Nat.le_of_ble_eq_true rfl)⟩ dX4_doCode_58 (fun r W1 H locs hw hP hD hS => ?_)
  obtain ⟨rfl, rfl⟩ := hw
  have hP : va_P D classes [(h0, .inr (4, [.ref hn, .ref hs, .ref hd, .ref hp, .ref hc, .int wy, .int dn])), (hn, .inl (cA, 34, .inl (upd f 4 (((f 4) + 1) &&& 4095)))), (hs, .inl (cA, 4096, .inl st))] H := hP
  have hD : va_D A [(h0, .inr (4, [.ref hn, .ref hs, .ref hd, .ref hp, .ref hc, .int wy, .int dn])), (hn, .inl (cA, 34, .inl (upd f 4 (((f 4) + 1) &&& 4095)))), (hs, .inl (cA, 4096, .inl st))] := hD
  refine lv_goto (tgt := 73) hx hb dX4_doCode_61 (by decide) ?_
  refine kVv (n3 := 2) (As := [.int 0, .int 0]) (rest := []) X hl.1 hE hP hD hS hA [(h0, .inr (4, [.ref hn, .ref hs, .ref hd, .ref hp, .ref hc, .int wy, .int dn])), (hn, .inl (cA, 34, .inl (upd f 4 (((f 4) + 1) &&& 4095))))] [(hs, .inl (cA, 4096, .inl st))] [0, 1] [2] rfl rfl rfl (by decide) (by decide) (by decide) (c_useValue00 l D cA cB h0 hn hs hd hp hc wy dn (upd f 4 (((f 4) + 1) &&& 4095)) hF) w_185 w_44 w_184 w_186 w_187 0 (ci := 4) (T := TX4) (N := 7) rfl rfl (by decide +kernel) rfl rfl (Nat.le_of_ble_eq_true rfl) ⟨(Nat.le_of_ble_eq_true rfl), (Nat.le_of_ble_eq_true rfl)⟩ ⟨(Nat.le_of_ble_eq_true rfl), (Nat.le_of_ble_eq_true rfl)⟩ dX4_doCode_73 (fun W1 H locs hw hP hD hS => ?_)
  obtain rfl := hw
  have hP : va_P D classes [(hs, .inl (cA, 4096, .inl st)), (h0, .inr (4, [.ref hn, .ref hs, .ref hd, .ref hp, .ref hc, .int wy, .int dn])), (hn, .inl (cA, 34, .inl (upd (upd (upd f 4 (((f 4) + 1) &&& 4095)) 0 0) 5 6)))] H := hP
  have hD : va_D A [(hs, .inl (cA, 4096, .inl st)), (h0, .inr (4, [.ref hn, .ref hs, .ref hd, .ref hp, .ref hc, .int wy, .int dn])), (hn, .inl (cA, 34, .inl (upd (upd (upd f 4 (((f 4) + 1) &&& 4095)) 0 0) 5 6)))] := hD
  refine lv_goto (tgt := 89) hx hb dX4_doCode_76 (by decide) ?_
  refine va_gets (C := "BelfryBox$Processor") (n := "WAY_CYCLES") (d := "[I") hx hb (e_z1 hE) hS X.2.2.2.1 (X.2.2.2.2 _ w_188) (fun _ h9 => h9) dX4_doCode_89 ?_
  refine lv_iload_n hx hb dX4_doCode_92 rfl (lv_at hl 0 rfl) ?_
  refine va_ti hx hb (e_t1 hE) hS (vp_in_nI (n := 0) (N := 8) (by decide) (by decide)) (v := .int 2) rfl dX4_doCode_93 ?_
  refine va_gets (C := "BelfryBox$Processor") (n := "MORE_CYCLES") (d := "[I") hx hb (e_z2 hE) hS X.2.2.2.1 (X.2.2.2.2 _ w_189) (fun _ h9 => h9) dX4_doCode_94 ?_
  refine lv_iload_n hx hb dX4_doCode_97 rfl (lv_at hl 1 rfl) ?_
  refine va_ti hx hb (e_t2 hE) hS (vp_in_nI (n := 0) (N := 32) (by decide) (by decide)) (v := .int 0) rfl dX4_doCode_98 ?_
  refine lv_iadd hx hb dX4_doCode_99 ?_
  refine tk (y := 2) (by decide) ?_
  have hP : va_P D classes [(h0, .inr (4, [.ref hn, .ref hs, .ref hd, .ref hp, .ref hc, .int wy, .int dn])), (hn, .inl (cA, 34, .inl (upd (upd (upd f 4 (((f 4) + 1) &&& 4095)) 0 0) 5 6))), (hs, .inl (cA, 4096, .inl st))] _ := hP.sub [1, 2, 0] rfl
  have hD : va_D A [(h0, .inr (4, [.ref hn, .ref hs, .ref hd, .ref hp, .ref hc, .int wy, .int dn])), (hn, .inl (cA, 34, .inl (upd (upd (upd f 4 (((f 4) + 1) &&& 4095)) 0 0) 5 6))), (hs, .inl (cA, 4096, .inl st))] := hD.sub [1, 2, 0] (by decide) rfl
  exact endI X hr hlocks hP hD hS dX4_doCode_100 ⟨rfl, rfl⟩
set_option maxHeartbeats 4000000 in
set_option maxRecDepth 100000 in
theorem c_passBells2 (l : Launch) (D : va_G) (cA cB : ClassId) (h0 : Nat) (hn : Nat) (h1 : Nat) (h2 : Nat) (h3 : Nat) (h4 : Nat) (f : Nat → Int32) (b20 : f 20 = 0) (b21 : f 21 = 0) (b22 : f 22 = 0) (b23 : f 23 = 0) (b24 : f 24 = 0) (b25 : f 25 = 0) (b26 : f 26 = 0) (b27 : f 27 = 0) : CV l yX1_passBells cX1_passBells 3 none 0 0 0 0 D cA cB [.ref h0, .int 2] [(h0, .inr (1, [.ref hn, .ref h1, .ref h2, .ref h3, .ref h4])), (hn, .inl (cA, 34, .inl f))] (fun W1 => W1 = [(h0, .inr (1, [.ref hn, .ref h1, .ref h2, .ref h3, .ref h4])), (hn, .inl (cA, 34, .inl f))]) := by
  refine mkV (lv0 := [(0, .ref h0), (1, .int 2)]) (by decide) (Nat.le_of_ble_eq_true rfl) rfl ?_
  intro p e s m below meth c A ls X hr hlocks hnm hE hA hP hD hS hl
  have hx := X.1
  have hb := X.2.1
  refine lv_bipush (v := 20) hx hb dX1_passBells_0 (by decide) ?_
  refine lv_istore_n (lv' := [(2, .int 20), (0, .ref h0), (1, .int 2)]) hx hb dX1_passBells_2 rfl hl (by decide) rfl (fun ls hl => ?_)
  refine lv_iload_n hx hb dX1_passBells_3 rfl (lv_at hl 0 rfl) ?_
  refine lv_bipush (v := 28) hx hb dX1_passBells_4 (by decide) ?_
  refine lv_icmp_ge (tgt := 65) hx hb dX1_passBells_6 (by decide) (fun c_6 => absurd c_6 (by decide)) (fun c_6 => ?_)
  refine lv_aload_n hx hb dX1_passBells_9 rfl (lv_at hl 1 rfl) ?_
  refine k_get (C := RX1) (T := TX1) (N := 5) (ci := 1) (v := .ref hn) X hE hP 0 rfl rfl iX1 0 (by decide) w_22 rfl dX1_passBells_10 ?_
  refine lv_iload_n hx hb dX1_passBells_13 rfl (lv_at hl 0 rfl) ?_
  refine k_ald (v := 0) X hE hP 1 rfl 20 rfl (by decide) (by decide) b20 dX1_passBells_14 ?_
  refine lv_iload_n hx hb dX1_passBells_15 rfl (lv_at hl 2 rfl) ?_
  refine lv_icmp_le (tgt := 32) hx hb dX1_passBells_16 (by decide) (fun c_16 => ?_) (fun c_16 => absurd (by decide) c_16)
  refine lv_aload_n hx hb dX1_passBells_32 rfl (lv_at hl 1 rfl) ?_
  refine k_get (C := RX1) (T := TX1) (N := 5) (ci := 1) (v := .ref hn) X hE hP 0 rfl rfl iX1 0 (by decide) w_22 rfl dX1_passBells_33 ?_
  refine lv_iload_n hx hb dX1_passBells_36 rfl (lv_at hl 0 rfl) ?_
  refine k_ald (v := 0) X hE hP 1 rfl 20 rfl (by decide) (by decide) b20 dX1_passBells_37 ?_
  refine lv_if_le (tgt := 59) hx hb dX1_passBells_38 (by decide) (fun c_38 => ?_) (fun c_38 => absurd (by decide) c_38)
  refine lv_iinc (v := 21) (lv' := [(2, .int 21), (0, .ref h0), (1, .int 2)]) hx hb dX1_passBells_59 hl (k := 0) rfl (by decide) (by decide) rfl (fun ls hl => ?_)
  refine lv_goto (tgt := 3) hx hb dX1_passBells_62 (by decide) ?_
  refine lv_iload_n hx hb dX1_passBells_3 rfl (lv_at hl 0 rfl) ?_
  refine lv_bipush (v := 28) hx hb dX1_passBells_4 (by decide) ?_
  refine lv_icmp_ge (tgt := 65) hx hb dX1_passBells_6 (by decide) (fun c_6_1 => absurd c_6_1 (by decide)) (fun c_6_1 => ?_)
  refine lv_aload_n hx hb dX1_passBells_9 rfl (lv_at hl 1 rfl) ?_
  refine k_get (C := RX1) (T := TX1) (N := 5) (ci := 1) (v := .ref hn) X hE hP 0 rfl rfl iX1 0 (by decide) w_22 rfl dX1_passBells_10 ?_
  refine lv_iload_n hx hb dX1_passBells_13 rfl (lv_at hl 0 rfl) ?_
  refine k_ald (v := 0) X hE hP 1 rfl 21 rfl (by decide) (by decide) b21 dX1_passBells_14 ?_
  refine lv_iload_n hx hb dX1_passBells_15 rfl (lv_at hl 2 rfl) ?_
  refine lv_icmp_le (tgt := 32) hx hb dX1_passBells_16 (by decide) (fun c_16_2 => ?_) (fun c_16_2 => absurd (by decide) c_16_2)
  refine lv_aload_n hx hb dX1_passBells_32 rfl (lv_at hl 1 rfl) ?_
  refine k_get (C := RX1) (T := TX1) (N := 5) (ci := 1) (v := .ref hn) X hE hP 0 rfl rfl iX1 0 (by decide) w_22 rfl dX1_passBells_33 ?_
  refine lv_iload_n hx hb dX1_passBells_36 rfl (lv_at hl 0 rfl) ?_
  refine k_ald (v := 0) X hE hP 1 rfl 21 rfl (by decide) (by decide) b21 dX1_passBells_37 ?_
  refine lv_if_le (tgt := 59) hx hb dX1_passBells_38 (by decide) (fun c_38_3 => ?_) (fun c_38_3 => absurd (by decide) c_38_3)
  refine lv_iinc (v := 22) (lv' := [(2, .int 22), (0, .ref h0), (1, .int 2)]) hx hb dX1_passBells_59 hl (k := 0) rfl (by decide) (by decide) rfl (fun ls hl => ?_)
  refine lv_goto (tgt := 3) hx hb dX1_passBells_62 (by decide) ?_
  refine lv_iload_n hx hb dX1_passBells_3 rfl (lv_at hl 0 rfl) ?_
  refine lv_bipush (v := 28) hx hb dX1_passBells_4 (by decide) ?_
  refine lv_icmp_ge (tgt := 65) hx hb dX1_passBells_6 (by decide) (fun c_6_4 => absurd c_6_4 (by decide)) (fun c_6_4 => ?_)
  refine lv_aload_n hx hb dX1_passBells_9 rfl (lv_at hl 1 rfl) ?_
  refine k_get (C := RX1) (T := TX1) (N := 5) (ci := 1) (v := .ref hn) X hE hP 0 rfl rfl iX1 0 (by decide) w_22 rfl dX1_passBells_10 ?_
  refine lv_iload_n hx hb dX1_passBells_13 rfl (lv_at hl 0 rfl) ?_
  refine k_ald (v := 0) X hE hP 1 rfl 22 rfl (by decide) (by decide) b22 dX1_passBells_14 ?_
  refine lv_iload_n hx hb dX1_passBells_15 rfl (lv_at hl 2 rfl) ?_
  refine lv_icmp_le (tgt := 32) hx hb dX1_passBells_16 (by decide) (fun c_16_5 => ?_) (fun c_16_5 => absurd (by decide) c_16_5)
  refine lv_aload_n hx hb dX1_passBells_32 rfl (lv_at hl 1 rfl) ?_
  refine k_get (C := RX1) (T := TX1) (N := 5) (ci := 1) (v := .ref hn) X hE hP 0 rfl rfl iX1 0 (by decide) w_22 rfl dX1_passBells_33 ?_
  refine lv_iload_n hx hb dX1_passBells_36 rfl (lv_at hl 0 rfl) ?_
  refine k_ald (v := 0) X hE hP 1 rfl 22 rfl (by decide) (by decide) b22 dX1_passBells_37 ?_
  refine lv_if_le (tgt := 59) hx hb dX1_passBells_38 (by decide) (fun c_38_6 => ?_) (fun c_38_6 => absurd (by decide) c_38_6)
  refine lv_iinc (v := 23) (lv' := [(2, .int 23), (0, .ref h0), (1, .int 2)]) hx hb dX1_passBells_59 hl (k := 0) rfl (by decide) (by decide) rfl (fun ls hl => ?_)
  refine lv_goto (tgt := 3) hx hb dX1_passBells_62 (by decide) ?_
  refine lv_iload_n hx hb dX1_passBells_3 rfl (lv_at hl 0 rfl) ?_
  refine lv_bipush (v := 28) hx hb dX1_passBells_4 (by decide) ?_
  refine lv_icmp_ge (tgt := 65) hx hb dX1_passBells_6 (by decide) (fun c_6_7 => absurd c_6_7 (by decide)) (fun c_6_7 => ?_)
  refine lv_aload_n hx hb dX1_passBells_9 rfl (lv_at hl 1 rfl) ?_
  refine k_get (C := RX1) (T := TX1) (N := 5) (ci := 1) (v := .ref hn) X hE hP 0 rfl rfl iX1 0 (by decide) w_22 rfl dX1_passBells_10 ?_
  refine lv_iload_n hx hb dX1_passBells_13 rfl (lv_at hl 0 rfl) ?_
  refine k_ald (v := 0) X hE hP 1 rfl 23 rfl (by decide) (by decide) b23 dX1_passBells_14 ?_
  refine lv_iload_n hx hb dX1_passBells_15 rfl (lv_at hl 2 rfl) ?_
  refine lv_icmp_le (tgt := 32) hx hb dX1_passBells_16 (by decide) (fun c_16_8 => ?_) (fun c_16_8 => absurd (by decide) c_16_8)
  refine lv_aload_n hx hb dX1_passBells_32 rfl (lv_at hl 1 rfl) ?_
  refine k_get (C := RX1) (T := TX1) (N := 5) (ci := 1) (v := .ref hn) X hE hP 0 rfl rfl iX1 0 (by decide) w_22 rfl dX1_passBells_33 ?_
  refine lv_iload_n hx hb dX1_passBells_36 rfl (lv_at hl 0 rfl) ?_
  refine k_ald (v := 0) X hE hP 1 rfl 23 rfl (by decide) (by decide) b23 dX1_passBells_37 ?_
  refine lv_if_le (tgt := 59) hx hb dX1_passBells_38 (by decide) (fun c_38_9 => ?_) (fun c_38_9 => absurd (by decide) c_38_9)
  refine lv_iinc (v := 24) (lv' := [(2, .int 24), (0, .ref h0), (1, .int 2)]) hx hb dX1_passBells_59 hl (k := 0) rfl (by decide) (by decide) rfl (fun ls hl => ?_)
  refine lv_goto (tgt := 3) hx hb dX1_passBells_62 (by decide) ?_
  refine lv_iload_n hx hb dX1_passBells_3 rfl (lv_at hl 0 rfl) ?_
  refine lv_bipush (v := 28) hx hb dX1_passBells_4 (by decide) ?_
  refine lv_icmp_ge (tgt := 65) hx hb dX1_passBells_6 (by decide) (fun c_6_10 => absurd c_6_10 (by decide)) (fun c_6_10 => ?_)
  refine lv_aload_n hx hb dX1_passBells_9 rfl (lv_at hl 1 rfl) ?_
  refine k_get (C := RX1) (T := TX1) (N := 5) (ci := 1) (v := .ref hn) X hE hP 0 rfl rfl iX1 0 (by decide) w_22 rfl dX1_passBells_10 ?_
  refine lv_iload_n hx hb dX1_passBells_13 rfl (lv_at hl 0 rfl) ?_
  refine k_ald (v := 0) X hE hP 1 rfl 24 rfl (by decide) (by decide) b24 dX1_passBells_14 ?_
  refine lv_iload_n hx hb dX1_passBells_15 rfl (lv_at hl 2 rfl) ?_
  refine lv_icmp_le (tgt := 32) hx hb dX1_passBells_16 (by decide) (fun c_16_11 => ?_) (fun c_16_11 => absurd (by decide) c_16_11)
  refine lv_aload_n hx hb dX1_passBells_32 rfl (lv_at hl 1 rfl) ?_
  refine k_get (C := RX1) (T := TX1) (N := 5) (ci := 1) (v := .ref hn) X hE hP 0 rfl rfl iX1 0 (by decide) w_22 rfl dX1_passBells_33 ?_
  refine lv_iload_n hx hb dX1_passBells_36 rfl (lv_at hl 0 rfl) ?_
  refine k_ald (v := 0) X hE hP 1 rfl 24 rfl (by decide) (by decide) b24 dX1_passBells_37 ?_
  refine lv_if_le (tgt := 59) hx hb dX1_passBells_38 (by decide) (fun c_38_12 => ?_) (fun c_38_12 => absurd (by decide) c_38_12)
  refine lv_iinc (v := 25) (lv' := [(2, .int 25), (0, .ref h0), (1, .int 2)]) hx hb dX1_passBells_59 hl (k := 0) rfl (by decide) (by decide) rfl (fun ls hl => ?_)
  refine lv_goto (tgt := 3) hx hb dX1_passBells_62 (by decide) ?_
  refine lv_iload_n hx hb dX1_passBells_3 rfl (lv_at hl 0 rfl) ?_
  refine lv_bipush (v := 28) hx hb dX1_passBells_4 (by decide) ?_
  refine lv_icmp_ge (tgt := 65) hx hb dX1_passBells_6 (by decide) (fun c_6_13 => absurd c_6_13 (by decide)) (fun c_6_13 => ?_)
  refine lv_aload_n hx hb dX1_passBells_9 rfl (lv_at hl 1 rfl) ?_
  refine k_get (C := RX1) (T := TX1) (N := 5) (ci := 1) (v := .ref hn) X hE hP 0 rfl rfl iX1 0 (by decide) w_22 rfl dX1_passBells_10 ?_
  refine lv_iload_n hx hb dX1_passBells_13 rfl (lv_at hl 0 rfl) ?_
  refine k_ald (v := 0) X hE hP 1 rfl 25 rfl (by decide) (by decide) b25 dX1_passBells_14 ?_
  refine lv_iload_n hx hb dX1_passBells_15 rfl (lv_at hl 2 rfl) ?_
  refine lv_icmp_le (tgt := 32) hx hb dX1_passBells_16 (by decide) (fun c_16_14 => ?_) (fun c_16_14 => absurd (by decide) c_16_14)
  refine lv_aload_n hx hb dX1_passBells_32 rfl (lv_at hl 1 rfl) ?_
  refine k_get (C := RX1) (T := TX1) (N := 5) (ci := 1) (v := .ref hn) X hE hP 0 rfl rfl iX1 0 (by decide) w_22 rfl dX1_passBells_33 ?_
  refine lv_iload_n hx hb dX1_passBells_36 rfl (lv_at hl 0 rfl) ?_
  refine k_ald (v := 0) X hE hP 1 rfl 25 rfl (by decide) (by decide) b25 dX1_passBells_37 ?_
  refine lv_if_le (tgt := 59) hx hb dX1_passBells_38 (by decide) (fun c_38_15 => ?_) (fun c_38_15 => absurd (by decide) c_38_15)
  refine lv_iinc (v := 26) (lv' := [(2, .int 26), (0, .ref h0), (1, .int 2)]) hx hb dX1_passBells_59 hl (k := 0) rfl (by decide) (by decide) rfl (fun ls hl => ?_)
  refine lv_goto (tgt := 3) hx hb dX1_passBells_62 (by decide) ?_
  refine lv_iload_n hx hb dX1_passBells_3 rfl (lv_at hl 0 rfl) ?_
  refine lv_bipush (v := 28) hx hb dX1_passBells_4 (by decide) ?_
  refine lv_icmp_ge (tgt := 65) hx hb dX1_passBells_6 (by decide) (fun c_6_16 => absurd c_6_16 (by decide)) (fun c_6_16 => ?_)
  refine lv_aload_n hx hb dX1_passBells_9 rfl (lv_at hl 1 rfl) ?_
  refine k_get (C := RX1) (T := TX1) (N := 5) (ci := 1) (v := .ref hn) X hE hP 0 rfl rfl iX1 0 (by decide) w_22 rfl dX1_passBells_10 ?_
  refine lv_iload_n hx hb dX1_passBells_13 rfl (lv_at hl 0 rfl) ?_
  refine k_ald (v := 0) X hE hP 1 rfl 26 rfl (by decide) (by decide) b26 dX1_passBells_14 ?_
  refine lv_iload_n hx hb dX1_passBells_15 rfl (lv_at hl 2 rfl) ?_
  refine lv_icmp_le (tgt := 32) hx hb dX1_passBells_16 (by decide) (fun c_16_17 => ?_) (fun c_16_17 => absurd (by decide) c_16_17)
  refine lv_aload_n hx hb dX1_passBells_32 rfl (lv_at hl 1 rfl) ?_
  refine k_get (C := RX1) (T := TX1) (N := 5) (ci := 1) (v := .ref hn) X hE hP 0 rfl rfl iX1 0 (by decide) w_22 rfl dX1_passBells_33 ?_
  refine lv_iload_n hx hb dX1_passBells_36 rfl (lv_at hl 0 rfl) ?_
  refine k_ald (v := 0) X hE hP 1 rfl 26 rfl (by decide) (by decide) b26 dX1_passBells_37 ?_
  refine lv_if_le (tgt := 59) hx hb dX1_passBells_38 (by decide) (fun c_38_18 => ?_) (fun c_38_18 => absurd (by decide) c_38_18)
  refine lv_iinc (v := 27) (lv' := [(2, .int 27), (0, .ref h0), (1, .int 2)]) hx hb dX1_passBells_59 hl (k := 0) rfl (by decide) (by decide) rfl (fun ls hl => ?_)
  refine lv_goto (tgt := 3) hx hb dX1_passBells_62 (by decide) ?_
  refine lv_iload_n hx hb dX1_passBells_3 rfl (lv_at hl 0 rfl) ?_
  refine lv_bipush (v := 28) hx hb dX1_passBells_4 (by decide) ?_
  refine lv_icmp_ge (tgt := 65) hx hb dX1_passBells_6 (by decide) (fun c_6_19 => absurd c_6_19 (by decide)) (fun c_6_19 => ?_)
  refine lv_aload_n hx hb dX1_passBells_9 rfl (lv_at hl 1 rfl) ?_
  refine k_get (C := RX1) (T := TX1) (N := 5) (ci := 1) (v := .ref hn) X hE hP 0 rfl rfl iX1 0 (by decide) w_22 rfl dX1_passBells_10 ?_
  refine lv_iload_n hx hb dX1_passBells_13 rfl (lv_at hl 0 rfl) ?_
  refine k_ald (v := 0) X hE hP 1 rfl 27 rfl (by decide) (by decide) b27 dX1_passBells_14 ?_
  refine lv_iload_n hx hb dX1_passBells_15 rfl (lv_at hl 2 rfl) ?_
  refine lv_icmp_le (tgt := 32) hx hb dX1_passBells_16 (by decide) (fun c_16_20 => ?_) (fun c_16_20 => absurd (by decide) c_16_20)
  refine lv_aload_n hx hb dX1_passBells_32 rfl (lv_at hl 1 rfl) ?_
  refine k_get (C := RX1) (T := TX1) (N := 5) (ci := 1) (v := .ref hn) X hE hP 0 rfl rfl iX1 0 (by decide) w_22 rfl dX1_passBells_33 ?_
  refine lv_iload_n hx hb dX1_passBells_36 rfl (lv_at hl 0 rfl) ?_
  refine k_ald (v := 0) X hE hP 1 rfl 27 rfl (by decide) (by decide) b27 dX1_passBells_37 ?_
  refine lv_if_le (tgt := 59) hx hb dX1_passBells_38 (by decide) (fun c_38_21 => ?_) (fun c_38_21 => absurd (by decide) c_38_21)
  refine lv_iinc (v := 28) (lv' := [(2, .int 28), (0, .ref h0), (1, .int 2)]) hx hb dX1_passBells_59 hl (k := 0) rfl (by decide) (by decide) rfl (fun ls hl => ?_)
  refine lv_goto (tgt := 3) hx hb dX1_passBells_62 (by decide) ?_
  refine lv_iload_n hx hb dX1_passBells_3 rfl (lv_at hl 0 rfl) ?_
  refine lv_bipush (v := 28) hx hb dX1_passBells_4 (by decide) ?_
  refine lv_icmp_ge (tgt := 65) hx hb dX1_passBells_6 (by decide) (fun c_6_22 => ?_) (fun c_6_22 => absurd (by decide) c_6_22)
  exact endV X hr hlocks hP hD hS dX1_passBells_65 rfl
set_option maxHeartbeats 4000000 in
set_option maxRecDepth 100000 in
theorem c_pass2 (l : Launch) (D : va_G) (cA cB : ClassId) (h0 : Nat) (hn : Nat) (h1 : Nat) (h2 : Nat) (h3 : Nat) (h4 : Nat) (f : Nat → Int32) (hI : InvN f) : CI l yX1_pass cX1_pass 3 (some .boolean) 1 22 0 0 D cA cB [.ref h0, .int 2] [(h0, .inr (1, [.ref hn, .ref h1, .ref h2, .ref h3, .ref h4])), (hn, .inl (cA, 34, .inl f))] (fun r W1 => r = 0 ∧ W1 = [(h0, .inr (1, [.ref hn, .ref h1, .ref h2, .ref h3, .ref h4])), (hn, .inl (cA, 34, .inl (upd (upd f 7 ((f 7) + 2)) 17 0)))]) := by
  refine mkI (lv0 := [(0, .ref h0), (1, .int 2)]) (by decide) (Nat.le_of_ble_eq_true rfl) rfl ?_
  intro p e s m below meth c A ls X hr hlocks hnm hE hA hP hD hS hl
  have hx := X.1
  have hb := X.2.1
  refine lv_aload_n hx hb dX1_pass_0 rfl (lv_at hl 0 rfl) ?_
  refine k_get (C := RX1) (T := TX1) (N := 5) (ci := 1) (v := .ref hn) X hE hP 0 rfl rfl iX1 0 (by decide) w_22 rfl dX1_pass_1 ?_
  refine lv_bipush (v := 7) hx hb dX1_pass_4 (by decide) ?_
  refine lv_dup2_11 hx hb dX1_pass_6 rfl rfl ?_
  refine k_ald (v := f 7) X hE hP 1 rfl 7 rfl (by decide) (by decide) rfl dX1_pass_7 ?_
  refine lv_iload_n hx hb dX1_pass_8 rfl (lv_at hl 1 rfl) ?_
  refine lv_iadd hx hb dX1_pass_9 ?_
  refine k_ast X hE hP hD hS 1 rfl 7 rfl (by decide) (by decide) [(h0, .inr (1, [.ref hn, .ref h1, .ref h2, .ref h3, .ref h4])), (hn, .inl (cA, 34, .inl (upd f 7 ((f 7) + 2))))] rfl dX1_pass_10 (fun H locs hP hD hS => ?_)
  refine lv_aload_n hx hb dX1_pass_11 rfl (lv_at hl 0 rfl) ?_
  refine k_get (C := RX1) (T := TX1) (N := 5) (ci := 1) (v := .ref hn) X hE hP 0 rfl rfl iX1 0 (by decide) w_22 rfl dX1_pass_12 ?_
  refine lv_bipush (v := 10) hx hb dX1_pass_15 (by decide) ?_
  refine k_ald (v := 0) X hE hP 1 rfl 10 rfl (by decide) (by decide) hI.2.1 dX1_pass_17 ?_
  refine lv_if_eq (tgt := 26) hx hb dX1_pass_18 (by decide) (fun c_18 => ?_) (fun c_18 => absurd (by decide) c_18)
  refine lv_aload_n hx hb dX1_pass_26 rfl (lv_at hl 0 rfl) ?_
  refine k_get (C := RX1) (T := TX1) (N := 5) (ci := 1) (v := .ref hn) X hE hP 0 rfl rfl iX1 0 (by decide) w_22 rfl dX1_pass_27 ?_
  refine lv_bipush (v := 11) hx hb dX1_pass_30 (by decide) ?_
  refine k_ald (v := 0) X hE hP 1 rfl 11 rfl (by decide) (by decide) hI.2.2.1 dX1_pass_32 ?_
  refine lv_if_eq (tgt := 41) hx hb dX1_pass_33 (by decide) (fun c_33 => ?_) (fun c_33 => absurd (by decide) c_33)
  refine lv_aload_n hx hb dX1_pass_41 rfl (lv_at hl 0 rfl) ?_
  refine lv_iload_n hx hb dX1_pass_42 rfl (lv_at hl 1 rfl) ?_
  refine kVv (n3 := 1) (As := [.int 2]) (rest := []) X hl.1 hE hP hD hS hA [(h0, .inr (1, [.ref hn, .ref h1, .ref h2, .ref h3, .ref h4])), (hn, .inl (cA, 34, .inl (upd f 7 ((f 7) + 2))))] [] [0, 1] [] rfl rfl rfl (by decide) (by decide) (by decide) (c_passBells2 l D cA cB h0 hn h1 h2 h3 h4 (upd f 7 ((f 7) + 2)) hI.2.2.2.2.2.1 hI.2.2.2.2.2.2.1 hI.2.2.2.2.2.2.2.1 hI.2.2.2.2.2.2.2.2.1 hI.2.2.2.2.2.2.2.2.2.1 hI.2.2.2.2.2.2.2.2.2.2.1 hI.2.2.2.2.2.2.2.2.2.2.2.1 hI.2.2.2.2.2.2.2.2.2.2.2.2) w_191 w_69 w_190 w_192 w_193 0 (ci := 1) (T := TX1) (N := 5) rfl rfl (by decide +kernel) rfl rfl (Nat.le_of_ble_eq_true rfl) ⟨(Nat.le_of_ble_eq_true rfl), (Nat.le_of_ble_eq_true rfl)⟩ ⟨(Nat.le_of_ble_eq_true rfl), (Nat.le_of_ble_eq_true rfl)⟩ dX1_pass_43 (fun W1 H locs hw hP hD hS => ?_)
  obtain rfl := hw
  have hP : va_P D classes [(h0, .inr (1, [.ref hn, .ref h1, .ref h2, .ref h3, .ref h4])), (hn, .inl (cA, 34, .inl (upd f 7 ((f 7) + 2))))] H := hP
  have hD : va_D A [(h0, .inr (1, [.ref hn, .ref h1, .ref h2, .ref h3, .ref h4])), (hn, .inl (cA, 34, .inl (upd f 7 ((f 7) + 2))))] := hD
  refine lv_aload_n hx hb dX1_pass_46 rfl (lv_at hl 0 rfl) ?_
  refine k_get (C := RX1) (T := TX1) (N := 5) (ci := 1) (v := .ref hn) X hE hP 0 rfl rfl iX1 0 (by decide) w_22 rfl dX1_pass_47 ?_
  refine lv_bipush (v := 17) hx hb dX1_pass_50 (by decide) ?_
  refine k_ald (v := 0) X hE hP 1 rfl 17 rfl (by decide) (by decide) hI.2.2.2.1 dX1_pass_52 ?_
  refine lv_if_le (tgt := 71) hx hb dX1_pass_53 (by decide) (fun c_53 => ?_) (fun c_53 => absurd (by decide) c_53)
  refine lv_iconst (v := 0) hx hb dX1_pass_71 (by decide) ?_
  refine lv_istore_n (lv' := [(2, .int 0), (0, .ref h0), (1, .int 2)]) hx hb dX1_pass_72 rfl hl (by decide) rfl (fun ls hl => ?_)
  refine lv_aload_n hx hb dX1_pass_73 rfl (lv_at hl 1 rfl) ?_
  refine k_get (C := RX1) (T := TX1) (N := 5) (ci := 1) (v := .ref hn) X hE hP 0 rfl rfl iX1 0 (by decide) w_22 rfl dX1_pass_74 ?_
  refine lv_bipush (v := 17) hx hb dX1_pass_77 (by decide) ?_
  refine lv_iconst (v := 0) hx hb dX1_pass_79 (by decide) ?_
  refine lv_aload_n hx hb dX1_pass_80 rfl (lv_at hl 1 rfl) ?_
  refine k_get (C := RX1) (T := TX1) (N := 5) (ci := 1) (v := .ref hn) X hE hP 0 rfl rfl iX1 0 (by decide) w_22 rfl dX1_pass_81 ?_
  refine lv_bipush (v := 17) hx hb dX1_pass_84 (by decide) ?_
  refine k_ald (v := 0) X hE hP 1 rfl 17 rfl (by decide) (by decide) hI.2.2.2.1 dX1_pass_86 ?_
  refine lv_iload_n hx hb dX1_pass_87 rfl (lv_at hl 2 rfl) ?_
  refine lv_isub hx hb dX1_pass_88 ?_
  refine tk (y := (-2)) (by decide) ?_
  refine va_mmax hx hb (X.2.2.1.trans hl.1.symm) X.2.2.2.1 (X.2.2.2.2 _ w_194) (X.2.2.2.2 _ w_195) (X.2.2.2.2 _ w_164) (X.2.2.2.2 _ w_196) (Nat.le_of_ble_eq_true rfl) (Nat.le_of_ble_eq_true rfl) (Nat.le_of_ble_eq_true rfl) (Nat.le_of_ble_eq_true rfl) dX1_pass_89 ?_
  refine tk (y := 0) (by decide) ?_
  refine k_ast X hE hP hD hS 1 rfl 17 rfl (by decide) (by decide) [(h0, .inr (1, [.ref hn, .ref h1, .ref h2, .ref h3, .ref h4])), (hn, .inl (cA, 34, .inl (upd (upd f 7 ((f 7) + 2)) 17 0)))] rfl dX1_pass_92 (fun H locs hP hD hS => ?_)
  refine lv_iload_n hx hb dX1_pass_93 rfl (lv_at hl 0 rfl) ?_
  exact endZ X hr rfl hlocks hP hD hS dX1_pass_94 ⟨rfl, rfl⟩
set_option maxHeartbeats 4000000 in
set_option maxRecDepth 100000 in
theorem c_doStep0 (l : Launch) (D : va_G) (cA cB : ClassId) (h0 : Nat) (hn : Nat) (hs : Nat) (hd : Nat) (hp : Nat) (hc : Nat) (wy : Int32) (dn : Int32) (he : Nat) (h1 : Nat) (h2 : Nat) (h3 : Nat) (h4 : Nat) (f : Nat → Int32) (st : Nat → Int32) (g : Nat → Int32) (ct : Nat → Int32) (la : Nat) (ke : Nat) (hI : InvN f) (hz : ∀ j, j < 4096 → st j = 0) (hla : la < 256) (hke : ke ≤ 256) : CV l yX4_doStep cX4_doStep 3 none 4 89 0 0 D cA cB [.ref h0] [(h0, .inr (4, [.ref hn, .ref hs, .ref hd, .ref hp, .ref hc, .int wy, .int dn])), (hn, .inl (cA, 34, .inl f)), (hs, .inl (cA, 4096, .inl st)), (hp, .inr (3, [.ref he, .int (nI la), .int (nI ke)])), (he, .inl (cA, 10752, .inl g)), (hc, .inl (cA, 257, .inl ct)), (hd, .inr (1, [.ref hn, .ref h1, .ref h2, .ref h3, .ref h4]))] (fun W1 => ∃ (f2 : Nat → Int32) (la2 : Nat) (ke2 : Nat) (g2 : Nat → Int32) (ct2 : Nat → Int32), (InvN f2) ∧ (la2 < 256) ∧ (ke2 ≤ 256) ∧ W1 = [(h0, .inr (4, [.ref hn, .ref hs, .ref hd, .ref hp, .ref hc, .int wy, .int dn])), (hn, .inl (cA, 34, .inl f2)), (hs, .inl (cA, 4096, .inl st)), (hp, .inr (3, [.ref he, .int (nI la2), .int (nI ke2)])), (he, .inl (cA, 10752, .inl g2)), (hc, .inl (cA, 257, .inl ct2)), (hd, .inr (1, [.ref hn, .ref h1, .ref h2, .ref h3, .ref h4]))]) := by
  refine mkV (lv0 := [(0, .ref h0)]) (by decide) (Nat.le_of_ble_eq_true rfl) rfl ?_
  intro p e s m below meth c A ls X hr hlocks hnm hE hA hP hD hS hl
  have hx := X.1
  have hb := X.2.1
  refine lv_aload_n hx hb dX4_doStep_0 rfl (lv_at hl 0 rfl) ?_
  refine k_get (C := RX4) (T := TX4) (N := 7) (ci := 4) (v := .ref hp) X hE hP 0 rfl rfl iX4 3 (by decide) w_28 rfl dX4_doStep_1 ?_
  refine lv_aload_n hx hb dX4_doStep_4 rfl (lv_at hl 0 rfl) ?_
  refine k_get (C := RX4) (T := TX4) (N := 7) (ci := 4) (v := .ref hn) X hE hP 0 rfl rfl iX4 0 (by decide) w_25 rfl dX4_doStep_5 ?_
  refine kVv (n3 := 1) (As := [.ref hn]) (rest := []) X hl.1 hE hP hD hS hA [(hp, .inr (3, [.ref he, .int (nI la), .int (nI ke)])), (hn, .inl (cA, 34, .inl f)), (he, .inl (cA, 10752, .inl g))] [(h0, .inr (4, [.ref hn, .ref hs, .ref hd, .ref hp, .ref hc, .int wy, .int dn])), (hs, .inl (cA, 4096, .inl st)), (hc, .inl (cA, 257, .inl ct)), (hd, .inr (1, [.ref hn, .ref h1, .ref h2, .ref h3, .ref h4]))] [3, 1, 4] [0, 2, 5, 6] rfl rfl rfl (by decide) (by decide) (by decide) (c_keep l D cA cB hp he hn la ke f g hla hke) w_198 w_61 w_197 w_199 w_200 0 (ci := 3) (T := TX3) (N := 3) rfl rfl (by decide +kernel) rfl rfl (Nat.le_of_ble_eq_true rfl) ⟨(Nat.le_of_ble_eq_true rfl), (Nat.le_of_ble_eq_true rfl)⟩ ⟨(Nat.le_of_ble_eq_true rfl), (Nat.le_of_ble_eq_true rfl)⟩ dX4_doStep_8 (fun W1 H locs hw hP hD hS => ?_)
  obtain ⟨la2_1, ke2_2, g2_3, hf_4, hf_5, rfl⟩ := hw
  have hP : va_P D classes [(h0, .inr (4, [.ref hn, .ref hs, .ref hd, .ref hp, .ref hc, .int wy, .int dn])), (hs, .inl (cA, 4096, .inl st)), (hc, .inl (cA, 257, .inl ct)), (hd, .inr (1, [.ref hn, .ref h1, .ref h2, .ref h3, .ref h4])), (hp, .inr (3, [.ref he, .int (nI la2_1), .int (nI ke2_2)])), (hn, .inl (cA, 34, .inl f)), (he, .inl (cA, 10752, .inl g2_3))] H := hP
  have hD : va_D A [(h0, .inr (4, [.ref hn, .ref hs, .ref hd, .ref hp, .ref hc, .int wy, .int dn])), (hs, .inl (cA, 4096, .inl st)), (hc, .inl (cA, 257, .inl ct)), (hd, .inr (1, [.ref hn, .ref h1, .ref h2, .ref h3, .ref h4])), (hp, .inr (3, [.ref he, .int (nI la2_1), .int (nI ke2_2)])), (hn, .inl (cA, 34, .inl f)), (he, .inl (cA, 10752, .inl g2_3))] := hD
  refine lv_aload_n hx hb dX4_doStep_11 rfl (lv_at hl 0 rfl) ?_
  refine kVi (n3 := 0) (As := []) (rest := []) X hl.1 hE hP hD hS hA [(h0, .inr (4, [.ref hn, .ref hs, .ref hd, .ref hp, .ref hc, .int wy, .int dn])), (hn, .inl (cA, 34, .inl f))] [(hs, .inl (cA, 4096, .inl st)), (hc, .inl (cA, 257, .inl ct)), (hd, .inr (1, [.ref hn, .ref h1, .ref h2, .ref h3, .ref h4])), (hp, .inr (3, [.ref he, .int (nI la2_1), .int (nI ke2_2)])), (he, .inl (cA, 10752, .inl g2_3))] [0, 5] [1, 2, 3, 4, 6] rfl rfl rfl (by decide) (by decide) (by decide) (c_interruptComes l D cA cB h0 hn hs hd hp hc wy dn f hI) w_202 w_44 w_201 w_203 w_204 0 (ci := 4) (T := TX4) (N := 7) rfl rfl (by decide +kernel) rfl rfl (Nat.le_of_ble_eq_true rfl) ⟨(Nat.le_of_ble_eq_true rfl), (Nat.le_of_ble_eq_true rfl)⟩ ⟨(Nat.le_of_ble_eq_true rfl), (Nat.le_of_ble_eq_true rfl)⟩ dX4_doStep_12 (fun r W1 H locs hw hP hD hS => ?_)
  obtain ⟨rfl, rfl⟩ := hw
  have hP : va_P D classes [(hs, .inl (cA, 4096, .inl st)), (hc, .inl (cA, 257, .inl ct)), (hd, .inr (1, [.ref hn, .ref h1, .ref h2, .ref h3, .ref h4])), (hp, .inr (3, [.ref he, .int (nI la2_1), .int (nI ke2_2)])), (he, .inl (cA, 10752, .inl g2_3)), (h0, .inr (4, [.ref hn, .ref hs, .ref hd, .ref hp, .ref hc, .int wy, .int dn])), (hn, .inl (cA, 34, .inl f))] H := hP
  have hD : va_D A [(hs, .inl (cA, 4096, .inl st)), (hc, .inl (cA, 257, .inl ct)), (hd, .inr (1, [.ref hn, .ref h1, .ref h2, .ref h3, .ref h4])), (hp, .inr (3, [.ref he, .int (nI la2_1), .int (nI ke2_2)])), (he, .inl (cA, 10752, .inl g2_3)), (h0, .inr (4, [.ref hn, .ref hs, .ref hd, .ref hp, .ref hc, .int wy, .int dn])), (hn, .inl (cA, 34, .inl f))] := hD
  refine lv_if_eq (tgt := 24) hx hb dX4_doStep_15 (by decide) (fun c_15 => ?_) (fun c_15 => absurd (by decide) c_15)
  refine lv_aload_n hx hb dX4_doStep_24 rfl (lv_at hl 0 rfl) ?_
  refine kVi (n3 := 0) (As := []) (rest := []) X hl.1 hE hP hD hS hA [(h0, .inr (4, [.ref hn, .ref hs, .ref hd, .ref hp, .ref hc, .int wy, .int dn])), (hn, .inl (cA, 34, .inl f)), (hs, .inl (cA, 4096, .inl st))] [(hc, .inl (cA, 257, .inl ct)), (hd, .inr (1, [.ref hn, .ref h1, .ref h2, .ref h3, .ref h4])), (hp, .inr (3, [.ref he, .int (nI la2_1), .int (nI ke2_2)])), (he, .inl (cA, 10752, .inl g2_3))] [5, 6, 0] [1, 2, 3, 4] rfl rfl rfl (by decide) (by decide) (by decide) (c_takeByte l D cA cB h0 hn hs hd hp hc wy dn f st hz) w_181 w_44 w_180 w_182 w_183 0 (ci := 4) (T := TX4) (N := 7) rfl rfl (by decide +kernel) rfl rfl (Nat.le_of_ble_eq_true rfl) ⟨(Nat.le_of_ble_eq_true rfl), (Nat.le_of_ble_eq_true rfl)⟩ ⟨(Nat.le_of_ble_eq_true rfl), (Nat.le_of_ble_eq_true rfl)⟩ dX4_doStep_25 (fun r W1 H locs hw hP hD hS => ?_)
  obtain ⟨rfl, rfl⟩ := hw
  have hP : va_P D classes [(hc, .inl (cA, 257, .inl ct)), (hd, .inr (1, [.ref hn, .ref h1, .ref h2, .ref h3, .ref h4])), (hp, .inr (3, [.ref he, .int (nI la2_1), .int (nI ke2_2)])), (he, .inl (cA, 10752, .inl g2_3)), (h0, .inr (4, [.ref hn, .ref hs, .ref hd, .ref hp, .ref hc, .int wy, .int dn])), (hn, .inl (cA, 34, .inl (upd f 4 (((f 4) + 1) &&& 4095)))), (hs, .inl (cA, 4096, .inl st))] H := hP
  have hD : va_D A [(hc, .inl (cA, 257, .inl ct)), (hd, .inr (1, [.ref hn, .ref h1, .ref h2, .ref h3, .ref h4])), (hp, .inr (3, [.ref he, .int (nI la2_1), .int (nI ke2_2)])), (he, .inl (cA, 10752, .inl g2_3)), (h0, .inr (4, [.ref hn, .ref hs, .ref hd, .ref hp, .ref hc, .int wy, .int dn])), (hn, .inl (cA, 34, .inl (upd f 4 (((f 4) + 1) &&& 4095)))), (hs, .inl (cA, 4096, .inl st))] := hD
  refine lv_istore_n (lv' := [(1, .int 0), (0, .ref h0)]) hx hb dX4_doStep_28 rfl hl (by decide) rfl (fun ls hl => ?_)
  refine lv_aload_n hx hb dX4_doStep_29 rfl (lv_at hl 1 rfl) ?_
  refine k_get (C := RX4) (T := TX4) (N := 7) (ci := 4) (v := .ref hp) X hE hP 4 rfl rfl iX4 3 (by decide) w_28 rfl dX4_doStep_30 ?_
  refine lv_iload_n hx hb dX4_doStep_33 rfl (lv_at hl 0 rfl) ?_
  refine kVv (n3 := 1) (As := [.int 0]) (rest := []) X hl.1 hE hP hD hS hA [(hp, .inr (3, [.ref he, .int (nI la2_1), .int (nI ke2_2)])), (he, .inl (cA, 10752, .inl g2_3))] [(hc, .inl (cA, 257, .inl ct)), (hd, .inr (1, [.ref hn, .ref h1, .ref h2, .ref h3, .ref h4])), (h0, .inr (4, [.ref hn, .ref hs, .ref hd, .ref hp, .ref hc, .int wy, .int dn])), (hn, .inl (cA, 34, .inl (upd f 4 (((f 4) + 1) &&& 4095)))), (hs, .inl (cA, 4096, .inl st))] [2, 3] [0, 1, 4, 5, 6] rfl rfl rfl (by decide) (by decide) (by decide) (c_keepCode0 l D cA cB hp he la2_1 (nI ke2_2) g2_3 hf_4) w_206 w_61 w_205 w_207 w_208 0 (ci := 3) (T := TX3) (N := 3) rfl rfl (by decide +kernel) rfl rfl (Nat.le_of_ble_eq_true rfl) ⟨(Nat.le_of_ble_eq_true rfl), (Nat.le_of_ble_eq_true rfl)⟩ ⟨(Nat.le_of_ble_eq_true rfl), (Nat.le_of_ble_eq_true rfl)⟩ dX4_doStep_34 (fun W1 H locs hw hP hD hS => ?_)
  obtain ⟨g2_6, rfl⟩ := hw
  have hP : va_P D classes [(hc, .inl (cA, 257, .inl ct)), (hd, .inr (1, [.ref hn, .ref h1, .ref h2, .ref h3, .ref h4])), (h0, .inr (4, [.ref hn, .ref hs, .ref hd, .ref hp, .ref hc, .int wy, .int dn])), (hn, .inl (cA, 34, .inl (upd f 4 (((f 4) + 1) &&& 4095)))), (hs, .inl (cA, 4096, .inl st)), (hp, .inr (3, [.ref he, .int (nI la2_1), .int ((nI ke2_2))])), (he, .inl (cA, 10752, .inl g2_6))] H := hP
  have hD : va_D A [(hc, .inl (cA, 257, .inl ct)), (hd, .inr (1, [.ref hn, .ref h1, .ref h2, .ref h3, .ref h4])), (h0, .inr (4, [.ref hn, .ref hs, .ref hd, .ref hp, .ref hc, .int wy, .int dn])), (hn, .inl (cA, 34, .inl (upd f 4 (((f 4) + 1) &&& 4095)))), (hs, .inl (cA, 4096, .inl st)), (hp, .inr (3, [.ref he, .int (nI la2_1), .int ((nI ke2_2))])), (he, .inl (cA, 10752, .inl g2_6))] := hD
  refine lv_aload_n hx hb dX4_doStep_37 rfl (lv_at hl 1 rfl) ?_
  refine k_get (C := RX4) (T := TX4) (N := 7) (ci := 4) (v := .ref hc) X hE hP 2 rfl rfl iX4 4 (by decide) w_24 rfl dX4_doStep_38 ?_
  refine lv_iload_n hx hb dX4_doStep_41 rfl (lv_at hl 0 rfl) ?_
  refine lv_dup2_11 hx hb dX4_doStep_42 rfl rfl ?_
  refine k_ald (v := ct 0) X hE hP 0 rfl 0 rfl (by decide) (by decide) rfl dX4_doStep_43 ?_
  refine lv_iconst (v := 1) hx hb dX4_doStep_44 (by decide) ?_
  refine lv_iadd hx hb dX4_doStep_45 ?_
  refine k_ast X hE hP hD hS 0 rfl 0 rfl (by decide) (by decide) [(hc, .inl (cA, 257, .inl (upd ct 0 ((ct 0) + 1)))), (hd, .inr (1, [.ref hn, .ref h1, .ref h2, .ref h3, .ref h4])), (h0, .inr (4, [.ref hn, .ref hs, .ref hd, .ref hp, .ref hc, .int wy, .int dn])), (hn, .inl (cA, 34, .inl (upd f 4 (((f 4) + 1) &&& 4095)))), (hs, .inl (cA, 4096, .inl st)), (hp, .inr (3, [.ref he, .int (nI la2_1), .int ((nI ke2_2))])), (he, .inl (cA, 10752, .inl g2_6))] rfl dX4_doStep_46 (fun H locs hP hD hS => ?_)
  refine lv_iload_n hx hb dX4_doStep_47 rfl (lv_at hl 0 rfl) ?_
  refine lv_sipush (v := 256) hx hb dX4_doStep_48 (by decide) ?_
  refine lv_icmp_ne (tgt := 61) hx hb dX4_doStep_51 (by decide) (fun c_51 => ?_) (fun c_51 => absurd c_51 (by decide))
  refine lv_aload_n hx hb dX4_doStep_61 rfl (lv_at hl 1 rfl) ?_
  refine lv_iload_n hx hb dX4_doStep_62 rfl (lv_at hl 0 rfl) ?_
  refine kVi (n3 := 1) (As := [.int 0]) (rest := []) X hl.1 hE hP hD hS hA [(h0, .inr (4, [.ref hn, .ref hs, .ref hd, .ref hp, .ref hc, .int wy, .int dn])), (hn, .inl (cA, 34, .inl (upd f 4 (((f 4) + 1) &&& 4095)))), (hs, .inl (cA, 4096, .inl st))] [(hc, .inl (cA, 257, .inl (upd ct 0 ((ct 0) + 1)))), (hd, .inr (1, [.ref hn, .ref h1, .ref h2, .ref h3, .ref h4])), (hp, .inr (3, [.ref he, .int (nI la2_1), .int ((nI ke2_2))])), (he, .inl (cA, 10752, .inl g2_6))] [2, 3, 4] [0, 1, 5, 6] rfl rfl rfl (by decide) (by decide) (by decide) (c_doCode0 l D cA cB h0 hn hs hd hp hc wy dn (upd f 4 (((f 4) + 1) &&& 4095)) st hI.2.2.2.2.1 hz) w_210 w_44 w_209 w_211 w_212 0 (ci := 4) (T := TX4) (N := 7) rfl rfl (by decide +kernel) rfl rfl (Nat.le_of_ble_eq_true rfl) ⟨(Nat.le_of_ble_eq_true rfl), (Nat.le_of_ble_eq_true rfl)⟩ ⟨(Nat.le_of_ble_eq_true rfl), (Nat.le_of_ble_eq_true rfl)⟩ dX4_doStep_63 (fun r W1 H locs hw hP hD hS => ?_)
  obtain ⟨rfl, rfl⟩ := hw
  have hP : va_P D classes [(hc, .inl (cA, 257, .inl (upd ct 0 ((ct 0) + 1)))), (hd, .inr (1, [.ref hn, .ref h1, .ref h2, .ref h3, .ref h4])), (hp, .inr (3, [.ref he, .int (nI la2_1), .int ((nI ke2_2))])), (he, .inl (cA, 10752, .inl g2_6)), (h0, .inr (4, [.ref hn, .ref hs, .ref hd, .ref hp, .ref hc, .int wy, .int dn])), (hn, .inl (cA, 34, .inl (upd (upd (upd (upd f 4 (((f 4) + 1) &&& 4095)) 4 ((((upd f 4 (((f 4) + 1) &&& 4095)) 4) + 1) &&& 4095)) 0 0) 5 6))), (hs, .inl (cA, 4096, .inl st))] H := hP
  have hD : va_D A [(hc, .inl (cA, 257, .inl (upd ct 0 ((ct 0) + 1)))), (hd, .inr (1, [.ref hn, .ref h1, .ref h2, .ref h3, .ref h4])), (hp, .inr (3, [.ref he, .int (nI la2_1), .int ((nI ke2_2))])), (he, .inl (cA, 10752, .inl g2_6)), (h0, .inr (4, [.ref hn, .ref hs, .ref hd, .ref hp, .ref hc, .int wy, .int dn])), (hn, .inl (cA, 34, .inl (upd (upd (upd (upd f 4 (((f 4) + 1) &&& 4095)) 4 ((((upd f 4 (((f 4) + 1) &&& 4095)) 4) + 1) &&& 4095)) 0 0) 5 6))), (hs, .inl (cA, 4096, .inl st))] := hD
  refine lv_istore_n (lv' := [(2, .int 2), (1, .int 0), (0, .ref h0)]) hx hb dX4_doStep_66 rfl hl (by decide) rfl (fun ls hl => ?_)
  refine lv_aload_n hx hb dX4_doStep_67 rfl (lv_at hl 2 rfl) ?_
  refine k_get (C := RX4) (T := TX4) (N := 7) (ci := 4) (v := .ref hd) X hE hP 4 rfl rfl iX4 2 (by decide) w_27 rfl dX4_doStep_68 ?_
  refine lv_iload_n hx hb dX4_doStep_71 rfl (lv_at hl 0 rfl) ?_
  refine kVi (n3 := 1) (As := [.int 2]) (rest := []) X hl.1 hE hP hD hS hA [(hd, .inr (1, [.ref hn, .ref h1, .ref h2, .ref h3, .ref h4])), (hn, .inl (cA, 34, .inl (upd (upd (upd (upd f 4 (((f 4) + 1) &&& 4095)) 4 ((((upd f 4 (((f 4) + 1) &&& 4095)) 4) + 1) &&& 4095)) 0 0) 5 6)))] [(hc, .inl (cA, 257, .inl (upd ct 0 ((ct 0) + 1)))), (hp, .inr (3, [.ref he, .int (nI la2_1), .int ((nI ke2_2))])), (he, .inl (cA, 10752, .inl g2_6)), (h0, .inr (4, [.ref hn, .ref hs, .ref hd, .ref hp, .ref hc, .int wy, .int dn])), (hs, .inl (cA, 4096, .inl st))] [1, 5] [0, 2, 3, 4, 6] rfl rfl rfl (by decide) (by decide) (by decide) (c_pass2 l D cA cB hd hn h1 h2 h3 h4 (upd (upd (upd (upd f 4 (((f 4) + 1) &&& 4095)) 4 ((((upd f 4 (((f 4) + 1) &&& 4095)) 4) + 1) &&& 4095)) 0 0) 5 6) (show InvN _ from ⟨hI.1, hI.2.1, hI.2.2.1, hI.2.2.2.1, Or.inr rfl, hI.2.2.2.2.2⟩)) w_214 w_69 w_213 w_215 w_216 0 (ci := 1) (T := TX1) (N := 5) rfl rfl (by decide +kernel) rfl rfl (Nat.le_of_ble_eq_true rfl) ⟨(Nat.le_of_ble_eq_true rfl), (Nat.le_of_ble_eq_true rfl)⟩ ⟨(Nat.le_of_ble_eq_true rfl), (Nat.le_of_ble_eq_true rfl)⟩ dX4_doStep_72 (fun r W1 H locs hw hP hD hS => ?_)
  obtain ⟨rfl, rfl⟩ := hw
  have hP : va_P D classes [(hc, .inl (cA, 257, .inl (upd ct 0 ((ct 0) + 1)))), (hp, .inr (3, [.ref he, .int (nI la2_1), .int ((nI ke2_2))])), (he, .inl (cA, 10752, .inl g2_6)), (h0, .inr (4, [.ref hn, .ref hs, .ref hd, .ref hp, .ref hc, .int wy, .int dn])), (hs, .inl (cA, 4096, .inl st)), (hd, .inr (1, [.ref hn, .ref h1, .ref h2, .ref h3, .ref h4])), (hn, .inl (cA, 34, .inl (upd (upd (upd (upd (upd (upd f 4 (((f 4) + 1) &&& 4095)) 4 ((((upd f 4 (((f 4) + 1) &&& 4095)) 4) + 1) &&& 4095)) 0 0) 5 6) 7 (((upd (upd (upd (upd f 4 (((f 4) + 1) &&& 4095)) 4 ((((upd f 4 (((f 4) + 1) &&& 4095)) 4) + 1) &&& 4095)) 0 0) 5 6) 7) + 2)) 17 0)))] H := hP
  have hD : va_D A [(hc, .inl (cA, 257, .inl (upd ct 0 ((ct 0) + 1)))), (hp, .inr (3, [.ref he, .int (nI la2_1), .int ((nI ke2_2))])), (he, .inl (cA, 10752, .inl g2_6)), (h0, .inr (4, [.ref hn, .ref hs, .ref hd, .ref hp, .ref hc, .int wy, .int dn])), (hs, .inl (cA, 4096, .inl st)), (hd, .inr (1, [.ref hn, .ref h1, .ref h2, .ref h3, .ref h4])), (hn, .inl (cA, 34, .inl (upd (upd (upd (upd (upd (upd f 4 (((f 4) + 1) &&& 4095)) 4 ((((upd f 4 (((f 4) + 1) &&& 4095)) 4) + 1) &&& 4095)) 0 0) 5 6) 7 (((upd (upd (upd (upd f 4 (((f 4) + 1) &&& 4095)) 4 ((((upd f 4 (((f 4) + 1) &&& 4095)) 4) + 1) &&& 4095)) 0 0) 5 6) 7) + 2)) 17 0)))] := hD
  refine lv_if_eq (tgt := 82) hx hb dX4_doStep_75 (by decide) (fun c_75 => ?_) (fun c_75 => absurd (by decide) c_75)
  have hP : va_P D classes [(h0, .inr (4, [.ref hn, .ref hs, .ref hd, .ref hp, .ref hc, .int wy, .int dn])), (hn, .inl (cA, 34, .inl (upd (upd (upd (upd (upd (upd f 4 (((f 4) + 1) &&& 4095)) 4 ((((upd f 4 (((f 4) + 1) &&& 4095)) 4) + 1) &&& 4095)) 0 0) 5 6) 7 (((upd (upd (upd (upd f 4 (((f 4) + 1) &&& 4095)) 4 ((((upd f 4 (((f 4) + 1) &&& 4095)) 4) + 1) &&& 4095)) 0 0) 5 6) 7) + 2)) 17 0))), (hs, .inl (cA, 4096, .inl st)), (hp, .inr (3, [.ref he, .int (nI la2_1), .int ((nI ke2_2))])), (he, .inl (cA, 10752, .inl g2_6)), (hc, .inl (cA, 257, .inl (upd ct 0 ((ct 0) + 1)))), (hd, .inr (1, [.ref hn, .ref h1, .ref h2, .ref h3, .ref h4]))] _ := hP.sub [3, 6, 4, 1, 2, 0, 5] rfl
  have hD : va_D A [(h0, .inr (4, [.ref hn, .ref hs, .ref hd, .ref hp, .ref hc, .int wy, .int dn])), (hn, .inl (cA, 34, .inl (upd (upd (upd (upd (upd (upd f 4 (((f 4) + 1) &&& 4095)) 4 ((((upd f 4 (((f 4) + 1) &&& 4095)) 4) + 1) &&& 4095)) 0 0) 5 6) 7 (((upd (upd (upd (upd f 4 (((f 4) + 1) &&& 4095)) 4 ((((upd f 4 (((f 4) + 1) &&& 4095)) 4) + 1) &&& 4095)) 0 0) 5 6) 7) + 2)) 17 0))), (hs, .inl (cA, 4096, .inl st)), (hp, .inr (3, [.ref he, .int (nI la2_1), .int ((nI ke2_2))])), (he, .inl (cA, 10752, .inl g2_6)), (hc, .inl (cA, 257, .inl (upd ct 0 ((ct 0) + 1)))), (hd, .inr (1, [.ref hn, .ref h1, .ref h2, .ref h3, .ref h4]))] := hD.sub [3, 6, 4, 1, 2, 0, 5] (by decide) rfl
  exact endV X hr hlocks hP hD hS dX4_doStep_82 ⟨(upd (upd (upd (upd (upd (upd f 4 (((f 4) + 1) &&& 4095)) 4 ((((upd f 4 (((f 4) + 1) &&& 4095)) 4) + 1) &&& 4095)) 0 0) 5 6) 7 (((upd (upd (upd (upd f 4 (((f 4) + 1) &&& 4095)) 4 ((((upd f 4 (((f 4) + 1) &&& 4095)) 4) + 1) &&& 4095)) 0 0) 5 6) 7) + 2)) 17 0), la2_1, ke2_2, g2_6, (upd ct 0 ((ct 0) + 1)), (show InvN _ from ⟨hI.1, hI.2.1, hI.2.2.1, rfl, Or.inr rfl, hI.2.2.2.2.2⟩), hf_4, hf_5, rfl⟩
