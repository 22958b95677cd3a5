abbrev cX4_push : ByteArray := prog_6_method_20_code
def yX4_push : MethodName := ⟨RX4, "push", "(I)V"⟩
abbrev cX4_pushPlace : ByteArray := prog_6_method_21_code
def yX4_pushPlace : MethodName := ⟨RX4, "pushPlace", "()V"⟩
abbrev cX4_enter : ByteArray := prog_6_method_10_code
def yX4_enter : MethodName := ⟨RX4, "enter", "(I)V"⟩
abbrev cX4_interrupt : ByteArray := prog_6_method_9_code
def yX4_interrupt : MethodName := ⟨RX4, "interrupt", "()I"⟩
abbrev cX4_useStack : ByteArray := prog_6_method_47_code
def yX4_useStack : MethodName := ⟨RX4, "useStack", "(I)V"⟩
abbrev cX4_readAt : ByteArray := prog_6_method_18_code
def yX4_readAt : MethodName := ⟨RX4, "readAt", "(I)I"⟩
abbrev cX4_writeAt : ByteArray := prog_6_method_19_code
def yX4_writeAt : MethodName := ⟨RX4, "writeAt", "(II)V"⟩
abbrev cX4_useAddress : ByteArray := prog_6_method_35_code
def yX4_useAddress : MethodName := ⟨RX4, "useAddress", "(II)V"⟩
abbrev cX4_doShort : ByteArray := prog_6_method_39_code
def yX4_doShort : MethodName := ⟨RX4, "doShort", "(II)I"⟩
abbrev cX4_doOwn : ByteArray := prog_6_method_44_code
def yX4_doOwn : MethodName := ⟨RX4, "doOwn", "(I)I"⟩
abbrev cX4_interruptComes : ByteArray := prog_6_method_7_code
def yX4_interruptComes : MethodName := ⟨RX4, "interruptComes", "()Z"⟩
abbrev cX4_reset : ByteArray := prog_6_method_4_code
def yX4_reset : MethodName := ⟨RX4, "reset", "()V"⟩
abbrev cX4_doCode : ByteArray := prog_6_method_11_code
def yX4_doCode : MethodName := ⟨RX4, "doCode", "(I)I"⟩
abbrev cX4_doStep : ByteArray := prog_6_method_8_code
def yX4_doStep : MethodName := ⟨RX4, "doStep", "()V"⟩
abbrev cX4_whyToEnd : ByteArray := prog_6_method_6_code
def yX4_whyToEnd : MethodName := ⟨RX4, "whyToEnd", "(Z)I"⟩
set_option maxRecDepth 100000 in
theorem w_161 : (Cond.fieldLink "BelfryBox$Processor" 25 "BelfryBox$Processor" "past" "LBelfryBox$Past;" : Cond) ∈ gw := List.mem_filter.mpr ⟨List.mem_append_right _ (tb1 (List.mem_of_getElem? (i := 79) rfl)), rfl⟩
set_option maxRecDepth 100000 in
theorem w_162 : (Cond.methodLink "BelfryBox$Processor" 150 yX3_keepByte : Cond) ∈ gw := List.mem_filter.mpr ⟨List.mem_append_right _ (tb3 (List.mem_of_getElem? (i := 219) rfl)), rfl⟩
set_option maxRecDepth 100000 in
theorem w_163 : (Cond.code yX3_keepByte prog_5_method_5_code 5 (Option.none : Option Jvm.ClassFile.FieldType) : Cond) ∈ gw := List.mem_filter.mpr ⟨List.mem_append_right _ (tb3 (List.mem_of_getElem? (i := 222) rfl)), rfl⟩
set_option maxRecDepth 100000 in
theorem w_164 : (Cond.initialized "BelfryBox$Past" : Cond) ∈ gw := List.mem_filter.mpr ⟨List.mem_append_right _ (tb1 (List.mem_of_getElem? (i := 3) rfl)), rfl⟩
set_option maxRecDepth 100000 in
theorem w_165 : (Cond.instanceMethod yX3_keepByte : Cond) ∈ gw := List.mem_filter.mpr ⟨List.mem_append_right _ (tb3 (List.mem_of_getElem? (i := 220) rfl)), rfl⟩
set_option maxRecDepth 100000 in
theorem w_166 : (Cond.selects "BelfryBox$Past" yX3_keepByte yX3_keepByte : Cond) ∈ gw := List.mem_filter.mpr ⟨List.mem_append_right _ (tb3 (List.mem_of_getElem? (i := 221) rfl)), rfl⟩
set_option maxRecDepth 100000 in
theorem w_167 : (Cond.methodLink "BelfryBox$Processor" 106 yX4_push : Cond) ∈ gw := List.mem_filter.mpr ⟨List.mem_append_right _ (tb3 (List.mem_of_getElem? (i := 215) rfl)), rfl⟩
set_option maxRecDepth 100000 in
theorem w_168 : (Cond.code yX4_push prog_6_method_20_code 3 (Option.none : Option Jvm.ClassFile.FieldType) : Cond) ∈ gw := List.mem_filter.mpr ⟨List.mem_append_right _ (tb3 (List.mem_of_getElem? (i := 218) rfl)), rfl⟩
set_option maxRecDepth 100000 in
theorem w_169 : (Cond.instanceMethod yX4_push : Cond) ∈ gw := List.mem_filter.mpr ⟨List.mem_append_right _ (tb3 (List.mem_of_getElem? (i := 217) rfl)), rfl⟩
set_option maxRecDepth 100000 in
theorem w_170 : (Cond.selects "BelfryBox$Processor" yX4_push yX4_push : Cond) ∈ gw := List.mem_filter.mpr ⟨List.mem_append_left _ (List.mem_map.mpr ⟨(⟨"BelfryBox$Processor", "push", "(I)V"⟩, 7), sl2 (List.mem_of_getElem? (i := 14) rfl), rfl⟩), rfl⟩
set_option maxRecDepth 100000 in
theorem w_171 : (Cond.methodLink "BelfryBox$Processor" 103 yX4_enter : Cond) ∈ gw := List.mem_filter.mpr ⟨List.mem_append_right _ (tb3 (List.mem_of_getElem? (i := 211) rfl)), rfl⟩
set_option maxRecDepth 100000 in
theorem w_172 : (Cond.code yX4_enter prog_6_method_10_code 2 (Option.none : Option Jvm.ClassFile.FieldType) : Cond) ∈ gw := List.mem_filter.mpr ⟨List.mem_append_right _ (tb3 (List.mem_of_getElem? (i := 214) rfl)), rfl⟩
set_option maxRecDepth 100000 in
theorem w_173 : (Cond.instanceMethod yX4_enter : Cond) ∈ gw := List.mem_filter.mpr ⟨List.mem_append_right _ (tb3 (List.mem_of_getElem? (i := 213) rfl)), rfl⟩
set_option maxRecDepth 100000 in
theorem w_174 : (Cond.selects "BelfryBox$Processor" yX4_enter yX4_enter : Cond) ∈ gw := List.mem_filter.mpr ⟨List.mem_append_left _ (List.mem_map.mpr ⟨(⟨"BelfryBox$Processor", "enter", "(I)V"⟩, 7), sl2 (List.mem_of_getElem? (i := 13) rfl), rfl⟩), rfl⟩
set_option maxRecDepth 100000 in
theorem w_175 : (Cond.fieldLink "BelfryBox$Processor" 21 "BelfryBox$Processor" "devices" "LBelfryBox$Devices;" : Cond) ∈ gw := List.mem_filter.mpr ⟨List.mem_append_right _ (tb1 (List.mem_of_getElem? (i := 78) rfl)), rfl⟩
set_option maxRecDepth 100000 in
theorem w_176 : (Cond.methodLink "BelfryBox$Processor" 144 yX1_readPort : Cond) ∈ gw := List.mem_filter.mpr ⟨List.mem_append_right _ (tb4 (List.mem_of_getElem? (i := 81) rfl)), rfl⟩
set_option maxRecDepth 100000 in
theorem w_177 : (Cond.code yX1_readPort prog_3_method_6_code 2 (Option.some Jvm.ClassFile.FieldType.int) : Cond) ∈ gw := List.mem_filter.mpr ⟨List.mem_append_right _ (tb4 (List.mem_of_getElem? (i := 84) rfl)), rfl⟩
set_option maxRecDepth 100000 in
theorem w_178 : (Cond.instanceMethod yX1_readPort : Cond) ∈ gw := List.mem_filter.mpr ⟨List.mem_append_right _ (tb4 (List.mem_of_getElem? (i := 82) rfl)), rfl⟩
set_option maxRecDepth 100000 in
theorem w_179 : (Cond.selects "BelfryBox$Devices" yX1_readPort yX1_readPort : Cond) ∈ gw := List.mem_filter.mpr ⟨List.mem_append_right _ (tb4 (List.mem_of_getElem? (i := 83) rfl)), rfl⟩
set_option maxRecDepth 100000 in
theorem w_180 : (Cond.methodLink "BelfryBox$Processor" 147 yX1_writePort : Cond) ∈ gw := List.mem_filter.mpr ⟨List.mem_append_right _ (tb4 (List.mem_of_getElem? (i := 142) rfl)), rfl⟩
set_option maxRecDepth 100000 in
theorem w_181 : (Cond.code yX1_writePort prog_3_method_7_code 3 (Option.none : Option Jvm.ClassFile.FieldType) : Cond) ∈ gw := List.mem_filter.mpr ⟨List.mem_append_right _ (tb4 (List.mem_of_getElem? (i := 145) rfl)), rfl⟩
set_option maxRecDepth 100000 in
theorem w_182 : (Cond.instanceMethod yX1_writePort : Cond) ∈ gw := List.mem_filter.mpr ⟨List.mem_append_right _ (tb4 (List.mem_of_getElem? (i := 143) rfl)), rfl⟩
set_option maxRecDepth 100000 in
theorem w_183 : (Cond.selects "BelfryBox$Devices" yX1_writePort yX1_writePort : Cond) ∈ gw := List.mem_filter.mpr ⟨List.mem_append_right _ (tb4 (List.mem_of_getElem? (i := 144) rfl)), rfl⟩
set_option maxRecDepth 100000 in
theorem w_184 : (Cond.methodLink "BelfryBox$Processor" 187 yX4_writeAt : Cond) ∈ gw := List.mem_filter.mpr ⟨List.mem_append_right _ (tb4 (List.mem_of_getElem? (i := 138) rfl)), rfl⟩
set_option maxRecDepth 100000 in
theorem w_185 : (Cond.code yX4_writeAt prog_6_method_19_code 3 (Option.none : Option Jvm.ClassFile.FieldType) : Cond) ∈ gw := List.mem_filter.mpr ⟨List.mem_append_right _ (tb4 (List.mem_of_getElem? (i := 141) rfl)), rfl⟩
set_option maxRecDepth 100000 in
theorem w_186 : (Cond.instanceMethod yX4_writeAt : Cond) ∈ gw := List.mem_filter.mpr ⟨List.mem_append_right _ (tb4 (List.mem_of_getElem? (i := 140) rfl)), rfl⟩
set_option maxRecDepth 100000 in
theorem w_187 : (Cond.selects "BelfryBox$Processor" yX4_writeAt yX4_writeAt : Cond) ∈ gw := List.mem_filter.mpr ⟨List.mem_append_left _ (List.mem_map.mpr ⟨(⟨"BelfryBox$Processor", "writeAt", "(II)V"⟩, 7), sl5 (List.mem_of_getElem? (i := 2) rfl), rfl⟩), rfl⟩
set_option maxRecDepth 100000 in
theorem w_188 : (Cond.methodLink "BelfryBox$Processor" 122 yX4_readAt : Cond) ∈ gw := List.mem_filter.mpr ⟨List.mem_append_right _ (tb4 (List.mem_of_getElem? (i := 77) rfl)), rfl⟩
set_option maxRecDepth 100000 in
theorem w_189 : (Cond.code yX4_readAt prog_6_method_18_code 2 (Option.some Jvm.ClassFile.FieldType.int) : Cond) ∈ gw := List.mem_filter.mpr ⟨List.mem_append_right _ (tb4 (List.mem_of_getElem? (i := 80) rfl)), rfl⟩
set_option maxRecDepth 100000 in
theorem w_190 : (Cond.instanceMethod yX4_readAt : Cond) ∈ gw := List.mem_filter.mpr ⟨List.mem_append_right _ (tb4 (List.mem_of_getElem? (i := 79) rfl)), rfl⟩
set_option maxRecDepth 100000 in
theorem w_191 : (Cond.selects "BelfryBox$Processor" yX4_readAt yX4_readAt : Cond) ∈ gw := List.mem_filter.mpr ⟨List.mem_append_left _ (List.mem_map.mpr ⟨(⟨"BelfryBox$Processor", "readAt", "(I)I"⟩, 7), sl4 (List.mem_of_getElem? (i := 5) rfl), rfl⟩), rfl⟩
set_option maxRecDepth 100000 in
theorem w_192 : (Cond.methodLink "BelfryBox$Processor" 193 yX4_changed : Cond) ∈ gw := List.mem_filter.mpr ⟨List.mem_append_right _ (tb4 (List.mem_of_getElem? (i := 159) rfl)), rfl⟩
set_option maxRecDepth 100000 in
theorem w_193 : (Cond.code yX4_changed prog_6_method_36_code 4 (Option.some Jvm.ClassFile.FieldType.int) : Cond) ∈ gw := List.mem_filter.mpr ⟨List.mem_append_right _ (tb4 (List.mem_of_getElem? (i := 162) rfl)), rfl⟩
set_option maxRecDepth 100000 in
theorem w_194 : (Cond.instanceMethod yX4_changed : Cond) ∈ gw := List.mem_filter.mpr ⟨List.mem_append_right _ (tb4 (List.mem_of_getElem? (i := 161) rfl)), rfl⟩
set_option maxRecDepth 100000 in
theorem w_195 : (Cond.selects "BelfryBox$Processor" yX4_changed yX4_changed : Cond) ∈ gw := List.mem_filter.mpr ⟨List.mem_append_left _ (List.mem_map.mpr ⟨(⟨"BelfryBox$Processor", "changed", "(II)I"⟩, 7), sl5 (List.mem_of_getElem? (i := 6) rfl), rfl⟩), rfl⟩
set_option maxRecDepth 100000 in
theorem w_196 : (Cond.methodLink "BelfryBox$Processor" 190 yX4_pushPlace : Cond) ∈ gw := List.mem_filter.mpr ⟨List.mem_append_right _ (tb4 (List.mem_of_getElem? (i := 42) rfl)), rfl⟩
set_option maxRecDepth 100000 in
theorem w_197 : (Cond.code yX4_pushPlace prog_6_method_21_code 1 (Option.none : Option Jvm.ClassFile.FieldType) : Cond) ∈ gw := List.mem_filter.mpr ⟨List.mem_append_right _ (tb4 (List.mem_of_getElem? (i := 45) rfl)), rfl⟩
set_option maxRecDepth 100000 in
theorem w_198 : (Cond.instanceMethod yX4_pushPlace : Cond) ∈ gw := List.mem_filter.mpr ⟨List.mem_append_right _ (tb4 (List.mem_of_getElem? (i := 44) rfl)), rfl⟩
set_option maxRecDepth 100000 in
theorem w_199 : (Cond.selects "BelfryBox$Processor" yX4_pushPlace yX4_pushPlace : Cond) ∈ gw := List.mem_filter.mpr ⟨List.mem_append_left _ (List.mem_map.mpr ⟨(⟨"BelfryBox$Processor", "pushPlace", "()V"⟩, 7), sl3 (List.mem_of_getElem? (i := 13) rfl), rfl⟩), rfl⟩
set_option maxRecDepth 100000 in
theorem w_200 : (Cond.methodLink "BelfryBox$Processor" 205 yX4_branch : Cond) ∈ gw := List.mem_filter.mpr ⟨List.mem_append_right _ (tb4 (List.mem_of_getElem? (i := 53) rfl)), rfl⟩
set_option maxRecDepth 100000 in
theorem w_201 : (Cond.code yX4_branch prog_6_method_41_code 3 (Option.some Jvm.ClassFile.FieldType.int) : Cond) ∈ gw := List.mem_filter.mpr ⟨List.mem_append_right _ (tb4 (List.mem_of_getElem? (i := 56) rfl)), rfl⟩
set_option maxRecDepth 100000 in
theorem w_202 : (Cond.instanceMethod yX4_branch : Cond) ∈ gw := List.mem_filter.mpr ⟨List.mem_append_right _ (tb4 (List.mem_of_getElem? (i := 55) rfl)), rfl⟩
set_option maxRecDepth 100000 in
theorem w_203 : (Cond.selects "BelfryBox$Processor" yX4_branch yX4_branch : Cond) ∈ gw := List.mem_filter.mpr ⟨List.mem_append_left _ (List.mem_map.mpr ⟨(⟨"BelfryBox$Processor", "branch", "(II)I"⟩, 7), sl3 (List.mem_of_getElem? (i := 15) rfl), rfl⟩), rfl⟩
set_option maxRecDepth 100000 in
theorem w_204 : (Cond.methodLink "BelfryBox$Processor" 229 yX4_changeRegister : Cond) ∈ gw := List.mem_filter.mpr ⟨List.mem_append_right _ (tb4 (List.mem_of_getElem? (i := 30) rfl)), rfl⟩
set_option maxRecDepth 100000 in
theorem w_205 : (Cond.code yX4_changeRegister prog_6_method_49_code 2 (Option.none : Option Jvm.ClassFile.FieldType) : Cond) ∈ gw := List.mem_filter.mpr ⟨List.mem_append_right _ (tb4 (List.mem_of_getElem? (i := 33) rfl)), rfl⟩
set_option maxRecDepth 100000 in
theorem w_206 : (Cond.instanceMethod yX4_changeRegister : Cond) ∈ gw := List.mem_filter.mpr ⟨List.mem_append_right _ (tb4 (List.mem_of_getElem? (i := 32) rfl)), rfl⟩
set_option maxRecDepth 100000 in
theorem w_207 : (Cond.selects "BelfryBox$Processor" yX4_changeRegister yX4_changeRegister : Cond) ∈ gw := List.mem_filter.mpr ⟨List.mem_append_left _ (List.mem_map.mpr ⟨(⟨"BelfryBox$Processor", "changeRegister", "(I)V"⟩, 7), sl3 (List.mem_of_getElem? (i := 10) rfl), rfl⟩), rfl⟩
set_option maxRecDepth 100000 in
theorem w_208 : (Cond.methodLink "BelfryBox$Processor" 226 yX4_changeFlag : Cond) ∈ gw := List.mem_filter.mpr ⟨List.mem_append_right _ (tb4 (List.mem_of_getElem? (i := 22) rfl)), rfl⟩
set_option maxRecDepth 100000 in
theorem w_209 : (Cond.code yX4_changeFlag prog_6_method_48_code 2 (Option.none : Option Jvm.ClassFile.FieldType) : Cond) ∈ gw := List.mem_filter.mpr ⟨List.mem_append_right _ (tb4 (List.mem_of_getElem? (i := 25) rfl)), rfl⟩
set_option maxRecDepth 100000 in
theorem w_210 : (Cond.instanceMethod yX4_changeFlag : Cond) ∈ gw := List.mem_filter.mpr ⟨List.mem_append_right _ (tb4 (List.mem_of_getElem? (i := 24) rfl)), rfl⟩
set_option maxRecDepth 100000 in
theorem w_211 : (Cond.selects "BelfryBox$Processor" yX4_changeFlag yX4_changeFlag : Cond) ∈ gw := List.mem_filter.mpr ⟨List.mem_append_left _ (List.mem_map.mpr ⟨(⟨"BelfryBox$Processor", "changeFlag", "(I)V"⟩, 7), sl3 (List.mem_of_getElem? (i := 8) rfl), rfl⟩), rfl⟩
set_option maxRecDepth 100000 in
theorem w_212 : (Cond.methodLink "BelfryBox$Processor" 223 yX4_useStack : Cond) ∈ gw := List.mem_filter.mpr ⟨List.mem_append_right _ (tb4 (List.mem_of_getElem? (i := 18) rfl)), rfl⟩
set_option maxRecDepth 100000 in
theorem w_213 : (Cond.code yX4_useStack prog_6_method_47_code 2 (Option.none : Option Jvm.ClassFile.FieldType) : Cond) ∈ gw := List.mem_filter.mpr ⟨List.mem_append_right _ (tb4 (List.mem_of_getElem? (i := 21) rfl)), rfl⟩
set_option maxRecDepth 100000 in
theorem w_214 : (Cond.instanceMethod yX4_useStack : Cond) ∈ gw := List.mem_filter.mpr ⟨List.mem_append_right _ (tb4 (List.mem_of_getElem? (i := 20) rfl)), rfl⟩
set_option maxRecDepth 100000 in
theorem w_215 : (Cond.selects "BelfryBox$Processor" yX4_useStack yX4_useStack : Cond) ∈ gw := List.mem_filter.mpr ⟨List.mem_append_left _ (List.mem_map.mpr ⟨(⟨"BelfryBox$Processor", "useStack", "(I)V"⟩, 7), sl3 (List.mem_of_getElem? (i := 7) rfl), rfl⟩), rfl⟩
set_option maxRecDepth 100000 in
theorem w_216 : (Cond.methodLink "BelfryBox$Processor" 220 yX4_move : Cond) ∈ gw := List.mem_filter.mpr ⟨List.mem_append_right _ (tb4 (List.mem_of_getElem? (i := 6) rfl)), rfl⟩
set_option maxRecDepth 100000 in
theorem w_217 : (Cond.code yX4_move prog_6_method_46_code 2 (Option.none : Option Jvm.ClassFile.FieldType) : Cond) ∈ gw := List.mem_filter.mpr ⟨List.mem_append_right _ (tb4 (List.mem_of_getElem? (i := 9) rfl)), rfl⟩
set_option maxRecDepth 100000 in
theorem w_218 : (Cond.instanceMethod yX4_move : Cond) ∈ gw := List.mem_filter.mpr ⟨List.mem_append_right _ (tb4 (List.mem_of_getElem? (i := 8) rfl)), rfl⟩
set_option maxRecDepth 100000 in
theorem w_219 : (Cond.selects "BelfryBox$Processor" yX4_move yX4_move : Cond) ∈ gw := List.mem_filter.mpr ⟨List.mem_append_left _ (List.mem_map.mpr ⟨(⟨"BelfryBox$Processor", "move", "(I)V"⟩, 7), sl3 (List.mem_of_getElem? (i := 4) rfl), rfl⟩), rfl⟩
set_option maxRecDepth 100000 in
theorem w_220 : (Cond.methodLink "BelfryBox$Processor" 217 yX4_doEnding : Cond) ∈ gw := List.mem_filter.mpr ⟨List.mem_append_right _ (tb3 (List.mem_of_getElem? (i := 234) rfl)), rfl⟩
set_option maxRecDepth 100000 in
theorem w_221 : (Cond.code yX4_doEnding prog_6_method_45_code 2 (Option.some Jvm.ClassFile.FieldType.int) : Cond) ∈ gw := List.mem_filter.mpr ⟨List.mem_append_right _ (tb3 (List.mem_of_getElem? (i := 237) rfl)), rfl⟩
set_option maxRecDepth 100000 in
theorem w_222 : (Cond.instanceMethod yX4_doEnding : Cond) ∈ gw := List.mem_filter.mpr ⟨List.mem_append_right _ (tb3 (List.mem_of_getElem? (i := 236) rfl)), rfl⟩
set_option maxRecDepth 100000 in
theorem w_223 : (Cond.selects "BelfryBox$Processor" yX4_doEnding yX4_doEnding : Cond) ∈ gw := List.mem_filter.mpr ⟨List.mem_append_left _ (List.mem_map.mpr ⟨(⟨"BelfryBox$Processor", "doEnding", "(I)I"⟩, 7), sl3 (List.mem_of_getElem? (i := 1) rfl), rfl⟩), rfl⟩
set_option maxRecDepth 100000 in
theorem w_224 : (Cond.methodLink "BelfryBox$Processor" 73 yX1_lineIsOn : Cond) ∈ gw := List.mem_filter.mpr ⟨List.mem_append_right _ (tb3 (List.mem_of_getElem? (i := 185) rfl)), rfl⟩
set_option maxRecDepth 100000 in
theorem w_225 : (Cond.code yX1_lineIsOn prog_3_method_2_code 1 (Option.some Jvm.ClassFile.FieldType.boolean) : Cond) ∈ gw := List.mem_filter.mpr ⟨List.mem_append_right _ (tb3 (List.mem_of_getElem? (i := 188) rfl)), rfl⟩
set_option maxRecDepth 100000 in
theorem w_226 : (Cond.instanceMethod yX1_lineIsOn : Cond) ∈ gw := List.mem_filter.mpr ⟨List.mem_append_right _ (tb3 (List.mem_of_getElem? (i := 186) rfl)), rfl⟩
set_option maxRecDepth 100000 in
theorem w_227 : (Cond.selects "BelfryBox$Devices" yX1_lineIsOn yX1_lineIsOn : Cond) ∈ gw := List.mem_filter.mpr ⟨List.mem_append_right _ (tb3 (List.mem_of_getElem? (i := 187) rfl)), rfl⟩
set_option maxRecDepth 100000 in
theorem w_228 : (Cond.methodLink "BelfryBox$Processor" 35 yX4_start : Cond) ∈ gw := List.mem_filter.mpr ⟨List.mem_append_right _ (tb2 (List.mem_of_getElem? (i := 30) rfl)), rfl⟩
set_option maxRecDepth 100000 in
theorem w_229 : (Cond.code yX4_start prog_6_method_3_code 1 (Option.none : Option Jvm.ClassFile.FieldType) : Cond) ∈ gw := List.mem_filter.mpr ⟨List.mem_append_right _ (tb2 (List.mem_of_getElem? (i := 33) rfl)), rfl⟩
set_option maxRecDepth 100000 in
theorem w_230 : (Cond.instanceMethod yX4_start : Cond) ∈ gw := List.mem_filter.mpr ⟨List.mem_append_right _ (tb2 (List.mem_of_getElem? (i := 32) rfl)), rfl⟩
set_option maxRecDepth 100000 in
theorem w_231 : (Cond.selects "BelfryBox$Processor" yX4_start yX4_start : Cond) ∈ gw := List.mem_filter.mpr ⟨List.mem_append_left _ (List.mem_map.mpr ⟨(⟨"BelfryBox$Processor", "start", "()V"⟩, 7), sl1 (List.mem_of_getElem? (i := 0) rfl), rfl⟩), rfl⟩
set_option maxRecDepth 100000 in
theorem w_232 : (Cond.code yX8_isShort prog_1_method_26_code 1 (Option.some Jvm.ClassFile.FieldType.boolean) : Cond) ∈ gw := List.mem_filter.mpr ⟨List.mem_append_right _ (tb3 (List.mem_of_getElem? (i := 229) rfl)), rfl⟩
set_option maxRecDepth 100000 in
theorem w_233 : (Cond.static yX8_isShort : Cond) ∈ gw := List.mem_filter.mpr ⟨List.mem_append_right _ (tb3 (List.mem_of_getElem? (i := 228) rfl)), rfl⟩
set_option maxRecDepth 100000 in
theorem w_234 : (Cond.methodLink "BelfryBox$Processor" 119 yX4_findAddress : Cond) ∈ gw := List.mem_filter.mpr ⟨List.mem_append_right _ (tb4 (List.mem_of_getElem? (i := 65) rfl)), rfl⟩
set_option maxRecDepth 100000 in
theorem w_235 : (Cond.code yX4_findAddress prog_6_method_15_code 2 (Option.some Jvm.ClassFile.FieldType.int) : Cond) ∈ gw := List.mem_filter.mpr ⟨List.mem_append_right _ (tb4 (List.mem_of_getElem? (i := 68) rfl)), rfl⟩
set_option maxRecDepth 100000 in
theorem w_236 : (Cond.instanceMethod yX4_findAddress : Cond) ∈ gw := List.mem_filter.mpr ⟨List.mem_append_right _ (tb4 (List.mem_of_getElem? (i := 67) rfl)), rfl⟩
set_option maxRecDepth 100000 in
theorem w_237 : (Cond.selects "BelfryBox$Processor" yX4_findAddress yX4_findAddress : Cond) ∈ gw := List.mem_filter.mpr ⟨List.mem_append_left _ (List.mem_map.mpr ⟨(⟨"BelfryBox$Processor", "findAddress", "(I)I"⟩, 7), sl4 (List.mem_of_getElem? (i := 2) rfl), rfl⟩), rfl⟩
set_option maxRecDepth 100000 in
theorem w_238 : (Cond.methodLink "BelfryBox$Processor" 129 yX4_useAddress : Cond) ∈ gw := List.mem_filter.mpr ⟨List.mem_append_right _ (tb4 (List.mem_of_getElem? (i := 134) rfl)), rfl⟩
set_option maxRecDepth 100000 in
theorem w_239 : (Cond.code yX4_useAddress prog_6_method_35_code 3 (Option.none : Option Jvm.ClassFile.FieldType) : Cond) ∈ gw := List.mem_filter.mpr ⟨List.mem_append_right _ (tb4 (List.mem_of_getElem? (i := 137) rfl)), rfl⟩
set_option maxRecDepth 100000 in
theorem w_240 : (Cond.instanceMethod yX4_useAddress : Cond) ∈ gw := List.mem_filter.mpr ⟨List.mem_append_right _ (tb4 (List.mem_of_getElem? (i := 136) rfl)), rfl⟩
set_option maxRecDepth 100000 in
theorem w_241 : (Cond.selects "BelfryBox$Processor" yX4_useAddress yX4_useAddress : Cond) ∈ gw := List.mem_filter.mpr ⟨List.mem_append_left _ (List.mem_map.mpr ⟨(⟨"BelfryBox$Processor", "useAddress", "(II)V"⟩, 7), sl5 (List.mem_of_getElem? (i := 1) rfl), rfl⟩), rfl⟩
set_option maxRecDepth 100000 in
theorem w_242 : (Cond.fieldLink "BelfryBox$Processor" 132 "BelfryBox$Processor" "WAY_CYCLES" "[I" : Cond) ∈ gw := List.mem_filter.mpr ⟨List.mem_append_right _ (tb4 (List.mem_of_getElem? (i := 171) rfl)), rfl⟩
set_option maxRecDepth 100000 in
theorem w_243 : (Cond.fieldLink "BelfryBox$Processor" 135 "BelfryBox$Processor" "MORE_CYCLES" "[I" : Cond) ∈ gw := List.mem_filter.mpr ⟨List.mem_append_right _ (tb4 (List.mem_of_getElem? (i := 173) rfl)), rfl⟩
set_option maxRecDepth 100000 in
theorem w_244 : (Cond.methodLink "BelfryBox$Processor" 125 yX4_useValue : Cond) ∈ gw := List.mem_filter.mpr ⟨List.mem_append_right _ (tb4 (List.mem_of_getElem? (i := 102) rfl)), rfl⟩
set_option maxRecDepth 100000 in
theorem w_245 : (Cond.code yX4_useValue prog_6_method_28_code 3 (Option.none : Option Jvm.ClassFile.FieldType) : Cond) ∈ gw := List.mem_filter.mpr ⟨List.mem_append_right _ (tb4 (List.mem_of_getElem? (i := 105) rfl)), rfl⟩
set_option maxRecDepth 100000 in
theorem w_246 : (Cond.instanceMethod yX4_useValue : Cond) ∈ gw := List.mem_filter.mpr ⟨List.mem_append_right _ (tb4 (List.mem_of_getElem? (i := 104) rfl)), rfl⟩
set_option maxRecDepth 100000 in
theorem w_247 : (Cond.selects "BelfryBox$Processor" yX4_useValue yX4_useValue : Cond) ∈ gw := List.mem_filter.mpr ⟨List.mem_append_left _ (List.mem_map.mpr ⟨(⟨"BelfryBox$Processor", "useValue", "(II)V"⟩, 7), sl4 (List.mem_of_getElem? (i := 9) rfl), rfl⟩), rfl⟩
set_option maxRecDepth 100000 in
theorem w_248 : (Cond.methodLink "BelfryBox$Processor" 115 yX4_doShort : Cond) ∈ gw := List.mem_filter.mpr ⟨List.mem_append_right _ (tb4 (List.mem_of_getElem? (i := 38) rfl)), rfl⟩
set_option maxRecDepth 100000 in
theorem w_249 : (Cond.code yX4_doShort prog_6_method_39_code 3 (Option.some Jvm.ClassFile.FieldType.int) : Cond) ∈ gw := List.mem_filter.mpr ⟨List.mem_append_right _ (tb4 (List.mem_of_getElem? (i := 41) rfl)), rfl⟩
set_option maxRecDepth 100000 in
theorem w_250 : (Cond.instanceMethod yX4_doShort : Cond) ∈ gw := List.mem_filter.mpr ⟨List.mem_append_right _ (tb4 (List.mem_of_getElem? (i := 40) rfl)), rfl⟩
set_option maxRecDepth 100000 in
theorem w_251 : (Cond.selects "BelfryBox$Processor" yX4_doShort yX4_doShort : Cond) ∈ gw := List.mem_filter.mpr ⟨List.mem_append_left _ (List.mem_map.mpr ⟨(⟨"BelfryBox$Processor", "doShort", "(II)I"⟩, 7), sl3 (List.mem_of_getElem? (i := 12) rfl), rfl⟩), rfl⟩
set_option maxRecDepth 100000 in
theorem w_252 : (Cond.methodLink "BelfryBox$Processor" 112 yX4_doOwn : Cond) ∈ gw := List.mem_filter.mpr ⟨List.mem_append_right _ (tb3 (List.mem_of_getElem? (i := 230) rfl)), rfl⟩
set_option maxRecDepth 100000 in
theorem w_253 : (Cond.code yX4_doOwn prog_6_method_44_code 2 (Option.some Jvm.ClassFile.FieldType.int) : Cond) ∈ gw := List.mem_filter.mpr ⟨List.mem_append_right _ (tb3 (List.mem_of_getElem? (i := 233) rfl)), rfl⟩
set_option maxRecDepth 100000 in
theorem w_254 : (Cond.instanceMethod yX4_doOwn : Cond) ∈ gw := List.mem_filter.mpr ⟨List.mem_append_right _ (tb3 (List.mem_of_getElem? (i := 232) rfl)), rfl⟩
set_option maxRecDepth 100000 in
theorem w_255 : (Cond.selects "BelfryBox$Processor" yX4_doOwn yX4_doOwn : Cond) ∈ gw := List.mem_filter.mpr ⟨List.mem_append_left _ (List.mem_map.mpr ⟨(⟨"BelfryBox$Processor", "doOwn", "(I)I"⟩, 7), sl3 (List.mem_of_getElem? (i := 0) rfl), rfl⟩), rfl⟩
set_option maxRecDepth 100000 in
theorem w_256 : (Cond.methodLink "BelfryBox$Processor" 78 yX3_keep : Cond) ∈ gw := List.mem_filter.mpr ⟨List.mem_append_right _ (tb3 (List.mem_of_getElem? (i := 193) rfl)), rfl⟩
set_option maxRecDepth 100000 in
theorem w_257 : (Cond.code yX3_keep prog_5_method_3_code 2 (Option.none : Option Jvm.ClassFile.FieldType) : Cond) ∈ gw := List.mem_filter.mpr ⟨List.mem_append_right _ (tb3 (List.mem_of_getElem? (i := 196) rfl)), rfl⟩
set_option maxRecDepth 100000 in
theorem w_258 : (Cond.instanceMethod yX3_keep : Cond) ∈ gw := List.mem_filter.mpr ⟨List.mem_append_right _ (tb3 (List.mem_of_getElem? (i := 194) rfl)), rfl⟩
set_option maxRecDepth 100000 in
theorem w_259 : (Cond.selects "BelfryBox$Past" yX3_keep yX3_keep : Cond) ∈ gw := List.mem_filter.mpr ⟨List.mem_append_right _ (tb3 (List.mem_of_getElem? (i := 195) rfl)), rfl⟩
set_option maxRecDepth 100000 in
theorem w_260 : (Cond.methodLink "BelfryBox$Processor" 69 yX4_interruptComes : Cond) ∈ gw := List.mem_filter.mpr ⟨List.mem_append_right _ (tb3 (List.mem_of_getElem? (i := 181) rfl)), rfl⟩
set_option maxRecDepth 100000 in
theorem w_261 : (Cond.code yX4_interruptComes prog_6_method_7_code 1 (Option.some Jvm.ClassFile.FieldType.boolean) : Cond) ∈ gw := List.mem_filter.mpr ⟨List.mem_append_right _ (tb3 (List.mem_of_getElem? (i := 184) rfl)), rfl⟩
set_option maxRecDepth 100000 in
theorem w_262 : (Cond.instanceMethod yX4_interruptComes : Cond) ∈ gw := List.mem_filter.mpr ⟨List.mem_append_right _ (tb3 (List.mem_of_getElem? (i := 183) rfl)), rfl⟩
set_option maxRecDepth 100000 in
theorem w_263 : (Cond.selects "BelfryBox$Processor" yX4_interruptComes yX4_interruptComes : Cond) ∈ gw := List.mem_filter.mpr ⟨List.mem_append_left _ (List.mem_map.mpr ⟨(⟨"BelfryBox$Processor", "interruptComes", "()Z"⟩, 7), sl2 (List.mem_of_getElem? (i := 9) rfl), rfl⟩), rfl⟩
set_option maxRecDepth 100000 in
theorem w_264 : (Cond.methodLink "BelfryBox$Processor" 86 yX3_keepCode : Cond) ∈ gw := List.mem_filter.mpr ⟨List.mem_append_right _ (tb3 (List.mem_of_getElem? (i := 203) rfl)), rfl⟩
set_option maxRecDepth 100000 in
theorem w_265 : (Cond.code yX3_keepCode prog_5_method_4_code 2 (Option.none : Option Jvm.ClassFile.FieldType) : Cond) ∈ gw := List.mem_filter.mpr ⟨List.mem_append_right _ (tb3 (List.mem_of_getElem? (i := 206) rfl)), rfl⟩
set_option maxRecDepth 100000 in
theorem w_266 : (Cond.instanceMethod yX3_keepCode : Cond) ∈ gw := List.mem_filter.mpr ⟨List.mem_append_right _ (tb3 (List.mem_of_getElem? (i := 204) rfl)), rfl⟩
set_option maxRecDepth 100000 in
theorem w_267 : (Cond.selects "BelfryBox$Past" yX3_keepCode yX3_keepCode : Cond) ∈ gw := List.mem_filter.mpr ⟨List.mem_append_right _ (tb3 (List.mem_of_getElem? (i := 205) rfl)), rfl⟩
set_option maxRecDepth 100000 in
theorem w_268 : (Cond.fieldLink "BelfryBox$Processor" 9 "BelfryBox$Processor" "counts" "[I" : Cond) ∈ gw := List.mem_filter.mpr ⟨List.mem_append_right _ (tb1 (List.mem_of_getElem? (i := 80) rfl)), rfl⟩
set_option maxRecDepth 100000 in
theorem w_269 : (Cond.methodLink "BelfryBox$Processor" 93 yX4_doCode : Cond) ∈ gw := List.mem_filter.mpr ⟨List.mem_append_right _ (tb3 (List.mem_of_getElem? (i := 223) rfl)), rfl⟩
set_option maxRecDepth 100000 in
theorem w_270 : (Cond.code yX4_doCode prog_6_method_11_code 5 (Option.some Jvm.ClassFile.FieldType.int) : Cond) ∈ gw := List.mem_filter.mpr ⟨List.mem_append_right _ (tb3 (List.mem_of_getElem? (i := 226) rfl)), rfl⟩
set_option maxRecDepth 100000 in
theorem w_271 : (Cond.instanceMethod yX4_doCode : Cond) ∈ gw := List.mem_filter.mpr ⟨List.mem_append_right _ (tb3 (List.mem_of_getElem? (i := 225) rfl)), rfl⟩
set_option maxRecDepth 100000 in
theorem w_272 : (Cond.selects "BelfryBox$Processor" yX4_doCode yX4_doCode : Cond) ∈ gw := List.mem_filter.mpr ⟨List.mem_append_left _ (List.mem_map.mpr ⟨(⟨"BelfryBox$Processor", "doCode", "(I)I"⟩, 7), sl2 (List.mem_of_getElem? (i := 15) rfl), rfl⟩), rfl⟩
set_option maxRecDepth 100000 in
theorem w_273 : (Cond.methodLink "BelfryBox$Processor" 96 yX1_pass : Cond) ∈ gw := List.mem_filter.mpr ⟨List.mem_append_right _ (tb4 (List.mem_of_getElem? (i := 175) rfl)), rfl⟩
set_option maxRecDepth 100000 in
theorem w_274 : (Cond.code yX1_pass prog_3_method_14_code 3 (Option.some Jvm.ClassFile.FieldType.boolean) : Cond) ∈ gw := List.mem_filter.mpr ⟨List.mem_append_right _ (tb4 (List.mem_of_getElem? (i := 178) rfl)), rfl⟩
set_option maxRecDepth 100000 in
theorem w_275 : (Cond.instanceMethod yX1_pass : Cond) ∈ gw := List.mem_filter.mpr ⟨List.mem_append_right _ (tb4 (List.mem_of_getElem? (i := 176) rfl)), rfl⟩
set_option maxRecDepth 100000 in
theorem w_276 : (Cond.selects "BelfryBox$Devices" yX1_pass yX1_pass : Cond) ∈ gw := List.mem_filter.mpr ⟨List.mem_append_right _ (tb4 (List.mem_of_getElem? (i := 177) rfl)), rfl⟩
set_option maxRecDepth 100000 in
theorem w_277 : (Cond.methodLink "BelfryBox$Processor" 100 yX4_reset : Cond) ∈ gw := List.mem_filter.mpr ⟨List.mem_append_right _ (tb4 (List.mem_of_getElem? (i := 192) rfl)), rfl⟩
set_option maxRecDepth 100000 in
theorem w_278 : (Cond.code yX4_reset prog_6_method_4_code 1 (Option.none : Option Jvm.ClassFile.FieldType) : Cond) ∈ gw := List.mem_filter.mpr ⟨List.mem_append_right _ (tb4 (List.mem_of_getElem? (i := 195) rfl)), rfl⟩
set_option maxRecDepth 100000 in
theorem w_279 : (Cond.instanceMethod yX4_reset : Cond) ∈ gw := List.mem_filter.mpr ⟨List.mem_append_right _ (tb4 (List.mem_of_getElem? (i := 194) rfl)), rfl⟩
set_option maxRecDepth 100000 in
theorem w_280 : (Cond.selects "BelfryBox$Processor" yX4_reset yX4_reset : Cond) ∈ gw := List.mem_filter.mpr ⟨List.mem_append_left _ (List.mem_map.mpr ⟨(⟨"BelfryBox$Processor", "reset", "()V"⟩, 7), sl5 (List.mem_of_getElem? (i := 12) rfl), rfl⟩), rfl⟩
set_option maxRecDepth 100000 in
theorem w_281 : (Cond.methodLink "BelfryBox$Processor" 90 yX4_interrupt : Cond) ∈ gw := List.mem_filter.mpr ⟨List.mem_append_right _ (tb3 (List.mem_of_getElem? (i := 207) rfl)), rfl⟩
set_option maxRecDepth 100000 in
theorem w_282 : (Cond.code yX4_interrupt prog_6_method_9_code 1 (Option.some Jvm.ClassFile.FieldType.int) : Cond) ∈ gw := List.mem_filter.mpr ⟨List.mem_append_right _ (tb3 (List.mem_of_getElem? (i := 210) rfl)), rfl⟩
set_option maxRecDepth 100000 in
theorem w_283 : (Cond.instanceMethod yX4_interrupt : Cond) ∈ gw := List.mem_filter.mpr ⟨List.mem_append_right _ (tb3 (List.mem_of_getElem? (i := 209) rfl)), rfl⟩
set_option maxRecDepth 100000 in
theorem w_284 : (Cond.selects "BelfryBox$Processor" yX4_interrupt yX4_interrupt : Cond) ∈ gw := List.mem_filter.mpr ⟨List.mem_append_left _ (List.mem_map.mpr ⟨(⟨"BelfryBox$Processor", "interrupt", "()I"⟩, 7), sl2 (List.mem_of_getElem? (i := 12) rfl), rfl⟩), rfl⟩
theorem nw_32 : (Cond.methodLinkNest "BelfryBox$Processor" 109 yX8_isShort "BelfryBox" : Cond) ∈ nests := List.mem_of_getElem? (i := 32) rfl
theorem dX4_push_0 : decode cX4_push 0 = .ok (.sipush 256, 3) := by decide +kernel
theorem dX4_push_3 : decode cX4_push 3 = .ok (.aload_n 0, 1) := by decide +kernel
theorem dX4_push_4 : decode cX4_push 4 = .ok (.getfield 15, 3) := by decide +kernel
theorem dX4_push_7 : decode cX4_push 7 = .ok (.iconst 3, 1) := by decide +kernel
theorem dX4_push_8 : decode cX4_push 8 = .ok (.iaload, 1) := by decide +kernel
theorem dX4_push_9 : decode cX4_push 9 = .ok (.iadd, 1) := by decide +kernel
theorem dX4_push_10 : decode cX4_push 10 = .ok (.istore_n 2, 1) := by decide +kernel
theorem dX4_push_11 : decode cX4_push 11 = .ok (.aload_n 0, 1) := by decide +kernel
theorem dX4_push_12 : decode cX4_push 12 = .ok (.getfield 25, 3) := by decide +kernel
theorem dX4_push_15 : decode cX4_push 15 = .ok (.iload_n 2, 1) := by decide +kernel
theorem dX4_push_16 : decode cX4_push 16 = .ok (.aload_n 0, 1) := by decide +kernel
theorem dX4_push_17 : decode cX4_push 17 = .ok (.getfield 18, 3) := by decide +kernel
theorem dX4_push_20 : decode cX4_push 20 = .ok (.iload_n 2, 1) := by decide +kernel
theorem dX4_push_21 : decode cX4_push 21 = .ok (.iaload, 1) := by decide +kernel
theorem dX4_push_22 : decode cX4_push 22 = .ok (.invokevirtual 150, 3) := by decide +kernel
theorem dX4_push_25 : decode cX4_push 25 = .ok (.aload_n 0, 1) := by decide +kernel
theorem dX4_push_26 : decode cX4_push 26 = .ok (.getfield 18, 3) := by decide +kernel
theorem dX4_push_29 : decode cX4_push 29 = .ok (.iload_n 2, 1) := by decide +kernel
theorem dX4_push_30 : decode cX4_push 30 = .ok (.iload_n 1, 1) := by decide +kernel
theorem dX4_push_31 : decode cX4_push 31 = .ok (.iastore, 1) := by decide +kernel
theorem dX4_push_32 : decode cX4_push 32 = .ok (.aload_n 0, 1) := by decide +kernel
theorem dX4_push_33 : decode cX4_push 33 = .ok (.getfield 15, 3) := by decide +kernel
theorem dX4_push_36 : decode cX4_push 36 = .ok (.iconst 3, 1) := by decide +kernel
theorem dX4_push_37 : decode cX4_push 37 = .ok (.aload_n 0, 1) := by decide +kernel
theorem dX4_push_38 : decode cX4_push 38 = .ok (.getfield 15, 3) := by decide +kernel
theorem dX4_push_41 : decode cX4_push 41 = .ok (.iconst 3, 1) := by decide +kernel
theorem dX4_push_42 : decode cX4_push 42 = .ok (.iaload, 1) := by decide +kernel
theorem dX4_push_43 : decode cX4_push 43 = .ok (.iconst 1, 1) := by decide +kernel
theorem dX4_push_44 : decode cX4_push 44 = .ok (.isub, 1) := by decide +kernel
theorem dX4_push_45 : decode cX4_push 45 = .ok (.sipush 255, 3) := by decide +kernel
theorem dX4_push_48 : decode cX4_push 48 = .ok (.iand, 1) := by decide +kernel
theorem dX4_push_49 : decode cX4_push 49 = .ok (.iastore, 1) := by decide +kernel
theorem dX4_push_50 : decode cX4_push 50 = .ok (.return_, 1) := by decide +kernel
theorem dX4_pushPlace_0 : decode cX4_pushPlace 0 = .ok (.aload_n 0, 1) := by decide +kernel
theorem dX4_pushPlace_1 : decode cX4_pushPlace 1 = .ok (.aload_n 0, 1) := by decide +kernel
theorem dX4_pushPlace_2 : decode cX4_pushPlace 2 = .ok (.getfield 15, 3) := by decide +kernel
theorem dX4_pushPlace_5 : decode cX4_pushPlace 5 = .ok (.iconst 4, 1) := by decide +kernel
theorem dX4_pushPlace_6 : decode cX4_pushPlace 6 = .ok (.iaload, 1) := by decide +kernel
theorem dX4_pushPlace_7 : decode cX4_pushPlace 7 = .ok (.bipush 8, 2) := by decide +kernel
theorem dX4_pushPlace_9 : decode cX4_pushPlace 9 = .ok (.ishr, 1) := by decide +kernel
theorem dX4_pushPlace_10 : decode cX4_pushPlace 10 = .ok (.invokevirtual 106, 3) := by decide +kernel
theorem dX4_pushPlace_13 : decode cX4_pushPlace 13 = .ok (.aload_n 0, 1) := by decide +kernel
theorem dX4_pushPlace_14 : decode cX4_pushPlace 14 = .ok (.aload_n 0, 1) := by decide +kernel
theorem dX4_pushPlace_15 : decode cX4_pushPlace 15 = .ok (.getfield 15, 3) := by decide +kernel
theorem dX4_pushPlace_18 : decode cX4_pushPlace 18 = .ok (.iconst 4, 1) := by decide +kernel
theorem dX4_pushPlace_19 : decode cX4_pushPlace 19 = .ok (.iaload, 1) := by decide +kernel
theorem dX4_pushPlace_20 : decode cX4_pushPlace 20 = .ok (.sipush 255, 3) := by decide +kernel
theorem dX4_pushPlace_23 : decode cX4_pushPlace 23 = .ok (.iand, 1) := by decide +kernel
theorem dX4_pushPlace_24 : decode cX4_pushPlace 24 = .ok (.invokevirtual 106, 3) := by decide +kernel
theorem dX4_pushPlace_27 : decode cX4_pushPlace 27 = .ok (.return_, 1) := by decide +kernel
theorem dX4_enter_0 : decode cX4_enter 0 = .ok (.aload_n 0, 1) := by decide +kernel
theorem dX4_enter_1 : decode cX4_enter 1 = .ok (.aload_n 0, 1) := by decide +kernel
theorem dX4_enter_2 : decode cX4_enter 2 = .ok (.getfield 15, 3) := by decide +kernel
theorem dX4_enter_5 : decode cX4_enter 5 = .ok (.iconst 4, 1) := by decide +kernel
theorem dX4_enter_6 : decode cX4_enter 6 = .ok (.iaload, 1) := by decide +kernel
theorem dX4_enter_7 : decode cX4_enter 7 = .ok (.bipush 8, 2) := by decide +kernel
theorem dX4_enter_9 : decode cX4_enter 9 = .ok (.ishr, 1) := by decide +kernel
theorem dX4_enter_10 : decode cX4_enter 10 = .ok (.invokevirtual 106, 3) := by decide +kernel
theorem dX4_enter_13 : decode cX4_enter 13 = .ok (.aload_n 0, 1) := by decide +kernel
theorem dX4_enter_14 : decode cX4_enter 14 = .ok (.aload_n 0, 1) := by decide +kernel
theorem dX4_enter_15 : decode cX4_enter 15 = .ok (.getfield 15, 3) := by decide +kernel
theorem dX4_enter_18 : decode cX4_enter 18 = .ok (.iconst 4, 1) := by decide +kernel
theorem dX4_enter_19 : decode cX4_enter 19 = .ok (.iaload, 1) := by decide +kernel
theorem dX4_enter_20 : decode cX4_enter 20 = .ok (.sipush 255, 3) := by decide +kernel
theorem dX4_enter_23 : decode cX4_enter 23 = .ok (.iand, 1) := by decide +kernel
theorem dX4_enter_24 : decode cX4_enter 24 = .ok (.invokevirtual 106, 3) := by decide +kernel
theorem dX4_enter_27 : decode cX4_enter 27 = .ok (.aload_n 0, 1) := by decide +kernel
theorem dX4_enter_28 : decode cX4_enter 28 = .ok (.aload_n 0, 1) := by decide +kernel
theorem dX4_enter_29 : decode cX4_enter 29 = .ok (.getfield 15, 3) := by decide +kernel
theorem dX4_enter_32 : decode cX4_enter 32 = .ok (.iconst 5, 1) := by decide +kernel
theorem dX4_enter_33 : decode cX4_enter 33 = .ok (.iaload, 1) := by decide +kernel
theorem dX4_enter_34 : decode cX4_enter 34 = .ok (.invokevirtual 106, 3) := by decide +kernel
theorem dX4_enter_37 : decode cX4_enter 37 = .ok (.aload_n 0, 1) := by decide +kernel
theorem dX4_enter_38 : decode cX4_enter 38 = .ok (.getfield 15, 3) := by decide +kernel
theorem dX4_enter_41 : decode cX4_enter 41 = .ok (.iconst 5, 1) := by decide +kernel
theorem dX4_enter_42 : decode cX4_enter 42 = .ok (.dup2, 1) := by decide +kernel
theorem dX4_enter_43 : decode cX4_enter 43 = .ok (.iaload, 1) := by decide +kernel
theorem dX4_enter_44 : decode cX4_enter 44 = .ok (.iconst 4, 1) := by decide +kernel
theorem dX4_enter_45 : decode cX4_enter 45 = .ok (.ior, 1) := by decide +kernel
theorem dX4_enter_46 : decode cX4_enter 46 = .ok (.iastore, 1) := by decide +kernel
theorem dX4_enter_47 : decode cX4_enter 47 = .ok (.aload_n 0, 1) := by decide +kernel
theorem dX4_enter_48 : decode cX4_enter 48 = .ok (.getfield 15, 3) := by decide +kernel
theorem dX4_enter_51 : decode cX4_enter 51 = .ok (.iconst 4, 1) := by decide +kernel
theorem dX4_enter_52 : decode cX4_enter 52 = .ok (.aload_n 0, 1) := by decide +kernel
theorem dX4_enter_53 : decode cX4_enter 53 = .ok (.iload_n 1, 1) := by decide +kernel
theorem dX4_enter_54 : decode cX4_enter 54 = .ok (.invokevirtual 43, 3) := by decide +kernel
theorem dX4_enter_57 : decode cX4_enter 57 = .ok (.iastore, 1) := by decide +kernel
theorem dX4_enter_58 : decode cX4_enter 58 = .ok (.return_, 1) := by decide +kernel
theorem dX4_interrupt_0 : decode cX4_interrupt 0 = .ok (.aload_n 0, 1) := by decide +kernel
theorem dX4_interrupt_1 : decode cX4_interrupt 1 = .ok (.sipush 4076, 3) := by decide +kernel
theorem dX4_interrupt_4 : decode cX4_interrupt 4 = .ok (.invokevirtual 103, 3) := by decide +kernel
theorem dX4_interrupt_7 : decode cX4_interrupt 7 = .ok (.bipush 7, 2) := by decide +kernel
theorem dX4_interrupt_9 : decode cX4_interrupt 9 = .ok (.ireturn, 1) := by decide +kernel
theorem dX4_useStack_0 : decode cX4_useStack 0 = .ok (.iload_n 1, 1) := by decide +kernel
theorem dX4_useStack_1 : decode cX4_useStack 1 = .ok (.tableswitch 131 10 16 #[43, 56, 68, 81, 93, 106, 118], 43) := by decide +kernel
theorem dX4_useStack_44 : decode cX4_useStack 44 = .ok (.aload_n 0, 1) := by decide +kernel
theorem dX4_useStack_45 : decode cX4_useStack 45 = .ok (.aload_n 0, 1) := by decide +kernel
theorem dX4_useStack_46 : decode cX4_useStack 46 = .ok (.getfield 15, 3) := by decide +kernel
theorem dX4_useStack_49 : decode cX4_useStack 49 = .ok (.iconst 0, 1) := by decide +kernel
theorem dX4_useStack_50 : decode cX4_useStack 50 = .ok (.iaload, 1) := by decide +kernel
theorem dX4_useStack_51 : decode cX4_useStack 51 = .ok (.invokevirtual 106, 3) := by decide +kernel
theorem dX4_useStack_54 : decode cX4_useStack 54 = .ok (.goto 92, 3) := by decide +kernel
theorem dX4_useStack_146 : decode cX4_useStack 146 = .ok (.return_, 1) := by decide +kernel
theorem dX4_useStack_57 : decode cX4_useStack 57 = .ok (.aload_n 0, 1) := by decide +kernel
theorem dX4_useStack_58 : decode cX4_useStack 58 = .ok (.iconst 0, 1) := by decide +kernel
theorem dX4_useStack_59 : decode cX4_useStack 59 = .ok (.aload_n 0, 1) := by decide +kernel
theorem dX4_useStack_60 : decode cX4_useStack 60 = .ok (.invokevirtual 153, 3) := by decide +kernel
theorem dX4_useStack_63 : decode cX4_useStack 63 = .ok (.invokevirtual 159, 3) := by decide +kernel
theorem dX4_useStack_66 : decode cX4_useStack 66 = .ok (.goto 80, 3) := by decide +kernel
theorem dX4_useStack_69 : decode cX4_useStack 69 = .ok (.aload_n 0, 1) := by decide +kernel
theorem dX4_useStack_70 : decode cX4_useStack 70 = .ok (.aload_n 0, 1) := by decide +kernel
theorem dX4_useStack_71 : decode cX4_useStack 71 = .ok (.getfield 15, 3) := by decide +kernel
theorem dX4_useStack_74 : decode cX4_useStack 74 = .ok (.iconst 1, 1) := by decide +kernel
theorem dX4_useStack_75 : decode cX4_useStack 75 = .ok (.iaload, 1) := by decide +kernel
theorem dX4_useStack_76 : decode cX4_useStack 76 = .ok (.invokevirtual 106, 3) := by decide +kernel
theorem dX4_useStack_79 : decode cX4_useStack 79 = .ok (.goto 67, 3) := by decide +kernel
theorem dX4_useStack_82 : decode cX4_useStack 82 = .ok (.aload_n 0, 1) := by decide +kernel
theorem dX4_useStack_83 : decode cX4_useStack 83 = .ok (.iconst 1, 1) := by decide +kernel
theorem dX4_useStack_84 : decode cX4_useStack 84 = .ok (.aload_n 0, 1) := by decide +kernel
theorem dX4_useStack_85 : decode cX4_useStack 85 = .ok (.invokevirtual 153, 3) := by decide +kernel
theorem dX4_useStack_88 : decode cX4_useStack 88 = .ok (.invokevirtual 159, 3) := by decide +kernel
theorem dX4_useStack_91 : decode cX4_useStack 91 = .ok (.goto 55, 3) := by decide +kernel
theorem dX4_useStack_94 : decode cX4_useStack 94 = .ok (.aload_n 0, 1) := by decide +kernel
theorem dX4_useStack_95 : decode cX4_useStack 95 = .ok (.aload_n 0, 1) := by decide +kernel
theorem dX4_useStack_96 : decode cX4_useStack 96 = .ok (.getfield 15, 3) := by decide +kernel
theorem dX4_useStack_99 : decode cX4_useStack 99 = .ok (.iconst 2, 1) := by decide +kernel
theorem dX4_useStack_100 : decode cX4_useStack 100 = .ok (.iaload, 1) := by decide +kernel
theorem dX4_useStack_101 : decode cX4_useStack 101 = .ok (.invokevirtual 106, 3) := by decide +kernel
theorem dX4_useStack_104 : decode cX4_useStack 104 = .ok (.goto 42, 3) := by decide +kernel
theorem dX4_useStack_107 : decode cX4_useStack 107 = .ok (.aload_n 0, 1) := by decide +kernel
theorem dX4_useStack_108 : decode cX4_useStack 108 = .ok (.iconst 2, 1) := by decide +kernel
theorem dX4_useStack_109 : decode cX4_useStack 109 = .ok (.aload_n 0, 1) := by decide +kernel
theorem dX4_useStack_110 : decode cX4_useStack 110 = .ok (.invokevirtual 153, 3) := by decide +kernel
theorem dX4_useStack_113 : decode cX4_useStack 113 = .ok (.invokevirtual 159, 3) := by decide +kernel
theorem dX4_useStack_116 : decode cX4_useStack 116 = .ok (.goto 30, 3) := by decide +kernel
theorem dX4_useStack_119 : decode cX4_useStack 119 = .ok (.aload_n 0, 1) := by decide +kernel
theorem dX4_useStack_120 : decode cX4_useStack 120 = .ok (.aload_n 0, 1) := by decide +kernel
theorem dX4_useStack_121 : decode cX4_useStack 121 = .ok (.getfield 15, 3) := by decide +kernel
theorem dX4_useStack_124 : decode cX4_useStack 124 = .ok (.iconst 5, 1) := by decide +kernel
theorem dX4_useStack_125 : decode cX4_useStack 125 = .ok (.iaload, 1) := by decide +kernel
theorem dX4_useStack_126 : decode cX4_useStack 126 = .ok (.invokevirtual 106, 3) := by decide +kernel
theorem dX4_useStack_129 : decode cX4_useStack 129 = .ok (.goto 17, 3) := by decide +kernel
theorem dX4_useStack_132 : decode cX4_useStack 132 = .ok (.aload_n 0, 1) := by decide +kernel
theorem dX4_useStack_133 : decode cX4_useStack 133 = .ok (.getfield 15, 3) := by decide +kernel
theorem dX4_useStack_136 : decode cX4_useStack 136 = .ok (.iconst 5, 1) := by decide +kernel
theorem dX4_useStack_137 : decode cX4_useStack 137 = .ok (.aload_n 0, 1) := by decide +kernel
theorem dX4_useStack_138 : decode cX4_useStack 138 = .ok (.invokevirtual 153, 3) := by decide +kernel
theorem dX4_useStack_141 : decode cX4_useStack 141 = .ok (.sipush 199, 3) := by decide +kernel
theorem dX4_useStack_144 : decode cX4_useStack 144 = .ok (.iand, 1) := by decide +kernel
theorem dX4_useStack_145 : decode cX4_useStack 145 = .ok (.iastore, 1) := by decide +kernel
theorem dX4_readAt_0 : decode cX4_readAt 0 = .ok (.iload_n 1, 1) := by decide +kernel
theorem dX4_readAt_1 : decode cX4_readAt 1 = .ok (.sipush 4080, 3) := by decide +kernel
theorem dX4_readAt_4 : decode cX4_readAt 4 = .ok (.if_icmp .lt 18, 3) := by decide +kernel
theorem dX4_readAt_22 : decode cX4_readAt 22 = .ok (.aload_n 0, 1) := by decide +kernel
theorem dX4_readAt_23 : decode cX4_readAt 23 = .ok (.iload_n 1, 1) := by decide +kernel
theorem dX4_readAt_24 : decode cX4_readAt 24 = .ok (.invokevirtual 66, 3) := by decide +kernel
theorem dX4_readAt_27 : decode cX4_readAt 27 = .ok (.ireturn, 1) := by decide +kernel
theorem dX4_readAt_7 : decode cX4_readAt 7 = .ok (.aload_n 0, 1) := by decide +kernel
theorem dX4_readAt_8 : decode cX4_readAt 8 = .ok (.getfield 21, 3) := by decide +kernel
theorem dX4_readAt_11 : decode cX4_readAt 11 = .ok (.iload_n 1, 1) := by decide +kernel
theorem dX4_readAt_12 : decode cX4_readAt 12 = .ok (.sipush 4080, 3) := by decide +kernel
theorem dX4_readAt_15 : decode cX4_readAt 15 = .ok (.isub, 1) := by decide +kernel
theorem dX4_readAt_16 : decode cX4_readAt 16 = .ok (.invokevirtual 144, 3) := by decide +kernel
theorem dX4_readAt_19 : decode cX4_readAt 19 = .ok (.goto 8, 3) := by decide +kernel
theorem dX4_writeAt_0 : decode cX4_writeAt 0 = .ok (.iload_n 1, 1) := by decide +kernel
theorem dX4_writeAt_1 : decode cX4_writeAt 1 = .ok (.sipush 4080, 3) := by decide +kernel
theorem dX4_writeAt_4 : decode cX4_writeAt 4 = .ok (.if_icmp .lt 19, 3) := by decide +kernel
theorem dX4_writeAt_23 : decode cX4_writeAt 23 = .ok (.aload_n 0, 1) := by decide +kernel
theorem dX4_writeAt_24 : decode cX4_writeAt 24 = .ok (.getfield 25, 3) := by decide +kernel
theorem dX4_writeAt_27 : decode cX4_writeAt 27 = .ok (.iload_n 1, 1) := by decide +kernel
theorem dX4_writeAt_28 : decode cX4_writeAt 28 = .ok (.aload_n 0, 1) := by decide +kernel
theorem dX4_writeAt_29 : decode cX4_writeAt 29 = .ok (.getfield 18, 3) := by decide +kernel
theorem dX4_writeAt_32 : decode cX4_writeAt 32 = .ok (.iload_n 1, 1) := by decide +kernel
theorem dX4_writeAt_33 : decode cX4_writeAt 33 = .ok (.iaload, 1) := by decide +kernel
theorem dX4_writeAt_34 : decode cX4_writeAt 34 = .ok (.invokevirtual 150, 3) := by decide +kernel
theorem dX4_writeAt_37 : decode cX4_writeAt 37 = .ok (.aload_n 0, 1) := by decide +kernel
theorem dX4_writeAt_38 : decode cX4_writeAt 38 = .ok (.getfield 18, 3) := by decide +kernel
theorem dX4_writeAt_41 : decode cX4_writeAt 41 = .ok (.iload_n 1, 1) := by decide +kernel
theorem dX4_writeAt_42 : decode cX4_writeAt 42 = .ok (.iload_n 2, 1) := by decide +kernel
theorem dX4_writeAt_43 : decode cX4_writeAt 43 = .ok (.iastore, 1) := by decide +kernel
theorem dX4_writeAt_44 : decode cX4_writeAt 44 = .ok (.return_, 1) := by decide +kernel
theorem dX4_writeAt_7 : decode cX4_writeAt 7 = .ok (.aload_n 0, 1) := by decide +kernel
theorem dX4_writeAt_8 : decode cX4_writeAt 8 = .ok (.getfield 21, 3) := by decide +kernel
theorem dX4_writeAt_11 : decode cX4_writeAt 11 = .ok (.iload_n 1, 1) := by decide +kernel
theorem dX4_writeAt_12 : decode cX4_writeAt 12 = .ok (.sipush 4080, 3) := by decide +kernel
theorem dX4_writeAt_15 : decode cX4_writeAt 15 = .ok (.isub, 1) := by decide +kernel
theorem dX4_writeAt_16 : decode cX4_writeAt 16 = .ok (.iload_n 2, 1) := by decide +kernel
theorem dX4_writeAt_17 : decode cX4_writeAt 17 = .ok (.invokevirtual 147, 3) := by decide +kernel
theorem dX4_writeAt_20 : decode cX4_writeAt 20 = .ok (.goto 24, 3) := by decide +kernel
theorem dX4_useAddress_0 : decode cX4_useAddress 0 = .ok (.iload_n 1, 1) := by decide +kernel
theorem dX4_useAddress_1 : decode cX4_useAddress 1 = .ok (.tableswitch 154 16 31 #[79, 93, 107, 121, 154, 154, 154, 154, 154, 154, 154, 154, 154, 154, 130, 140], 79) := by decide +kernel
theorem dX4_useAddress_80 : decode cX4_useAddress 80 = .ok (.aload_n 0, 1) := by decide +kernel
theorem dX4_useAddress_81 : decode cX4_useAddress 81 = .ok (.iload_n 2, 1) := by decide +kernel
theorem dX4_useAddress_82 : decode cX4_useAddress 82 = .ok (.aload_n 0, 1) := by decide +kernel
theorem dX4_useAddress_83 : decode cX4_useAddress 83 = .ok (.getfield 15, 3) := by decide +kernel
theorem dX4_useAddress_86 : decode cX4_useAddress 86 = .ok (.iconst 0, 1) := by decide +kernel
theorem dX4_useAddress_87 : decode cX4_useAddress 87 = .ok (.iaload, 1) := by decide +kernel
theorem dX4_useAddress_88 : decode cX4_useAddress 88 = .ok (.invokevirtual 187, 3) := by decide +kernel
theorem dX4_useAddress_91 : decode cX4_useAddress 91 = .ok (.goto 79, 3) := by decide +kernel
theorem dX4_useAddress_170 : decode cX4_useAddress 170 = .ok (.return_, 1) := by decide +kernel
theorem dX4_useAddress_94 : decode cX4_useAddress 94 = .ok (.aload_n 0, 1) := by decide +kernel
theorem dX4_useAddress_95 : decode cX4_useAddress 95 = .ok (.iload_n 2, 1) := by decide +kernel
theorem dX4_useAddress_96 : decode cX4_useAddress 96 = .ok (.aload_n 0, 1) := by decide +kernel
theorem dX4_useAddress_97 : decode cX4_useAddress 97 = .ok (.getfield 15, 3) := by decide +kernel
theorem dX4_useAddress_100 : decode cX4_useAddress 100 = .ok (.iconst 1, 1) := by decide +kernel
theorem dX4_useAddress_101 : decode cX4_useAddress 101 = .ok (.iaload, 1) := by decide +kernel
theorem dX4_useAddress_102 : decode cX4_useAddress 102 = .ok (.invokevirtual 187, 3) := by decide +kernel
theorem dX4_useAddress_105 : decode cX4_useAddress 105 = .ok (.goto 65, 3) := by decide +kernel
theorem dX4_useAddress_108 : decode cX4_useAddress 108 = .ok (.aload_n 0, 1) := by decide +kernel
theorem dX4_useAddress_109 : decode cX4_useAddress 109 = .ok (.iload_n 2, 1) := by decide +kernel
theorem dX4_useAddress_110 : decode cX4_useAddress 110 = .ok (.aload_n 0, 1) := by decide +kernel
theorem dX4_useAddress_111 : decode cX4_useAddress 111 = .ok (.getfield 15, 3) := by decide +kernel
theorem dX4_useAddress_114 : decode cX4_useAddress 114 = .ok (.iconst 2, 1) := by decide +kernel
theorem dX4_useAddress_115 : decode cX4_useAddress 115 = .ok (.iaload, 1) := by decide +kernel
theorem dX4_useAddress_116 : decode cX4_useAddress 116 = .ok (.invokevirtual 187, 3) := by decide +kernel
theorem dX4_useAddress_119 : decode cX4_useAddress 119 = .ok (.goto 51, 3) := by decide +kernel
theorem dX4_useAddress_122 : decode cX4_useAddress 122 = .ok (.aload_n 0, 1) := by decide +kernel
theorem dX4_useAddress_123 : decode cX4_useAddress 123 = .ok (.iload_n 2, 1) := by decide +kernel
theorem dX4_useAddress_124 : decode cX4_useAddress 124 = .ok (.iconst 0, 1) := by decide +kernel
theorem dX4_useAddress_125 : decode cX4_useAddress 125 = .ok (.invokevirtual 187, 3) := by decide +kernel
theorem dX4_useAddress_128 : decode cX4_useAddress 128 = .ok (.goto 42, 3) := by decide +kernel
theorem dX4_useAddress_155 : decode cX4_useAddress 155 = .ok (.aload_n 0, 1) := by decide +kernel
theorem dX4_useAddress_156 : decode cX4_useAddress 156 = .ok (.iload_n 2, 1) := by decide +kernel
theorem dX4_useAddress_157 : decode cX4_useAddress 157 = .ok (.aload_n 0, 1) := by decide +kernel
theorem dX4_useAddress_158 : decode cX4_useAddress 158 = .ok (.iload_n 1, 1) := by decide +kernel
theorem dX4_useAddress_159 : decode cX4_useAddress 159 = .ok (.aload_n 0, 1) := by decide +kernel
theorem dX4_useAddress_160 : decode cX4_useAddress 160 = .ok (.iload_n 2, 1) := by decide +kernel
theorem dX4_useAddress_161 : decode cX4_useAddress 161 = .ok (.invokevirtual 122, 3) := by decide +kernel
theorem dX4_useAddress_164 : decode cX4_useAddress 164 = .ok (.invokevirtual 193, 3) := by decide +kernel
theorem dX4_useAddress_167 : decode cX4_useAddress 167 = .ok (.invokevirtual 187, 3) := by decide +kernel
theorem dX4_useAddress_131 : decode cX4_useAddress 131 = .ok (.aload_n 0, 1) := by decide +kernel
theorem dX4_useAddress_132 : decode cX4_useAddress 132 = .ok (.getfield 15, 3) := by decide +kernel
theorem dX4_useAddress_135 : decode cX4_useAddress 135 = .ok (.iconst 4, 1) := by decide +kernel
theorem dX4_useAddress_136 : decode cX4_useAddress 136 = .ok (.iload_n 2, 1) := by decide +kernel
theorem dX4_useAddress_137 : decode cX4_useAddress 137 = .ok (.iastore, 1) := by decide +kernel
theorem dX4_useAddress_138 : decode cX4_useAddress 138 = .ok (.goto 32, 3) := by decide +kernel
theorem dX4_useAddress_141 : decode cX4_useAddress 141 = .ok (.aload_n 0, 1) := by decide +kernel
theorem dX4_useAddress_142 : decode cX4_useAddress 142 = .ok (.invokevirtual 190, 3) := by decide +kernel
theorem dX4_useAddress_145 : decode cX4_useAddress 145 = .ok (.aload_n 0, 1) := by decide +kernel
theorem dX4_useAddress_146 : decode cX4_useAddress 146 = .ok (.getfield 15, 3) := by decide +kernel
theorem dX4_useAddress_149 : decode cX4_useAddress 149 = .ok (.iconst 4, 1) := by decide +kernel
theorem dX4_useAddress_150 : decode cX4_useAddress 150 = .ok (.iload_n 2, 1) := by decide +kernel
theorem dX4_useAddress_151 : decode cX4_useAddress 151 = .ok (.iastore, 1) := by decide +kernel
theorem dX4_useAddress_152 : decode cX4_useAddress 152 = .ok (.goto 18, 3) := by decide +kernel
theorem dX4_doShort_0 : decode cX4_doShort 0 = .ok (.iload_n 1, 1) := by decide +kernel
theorem dX4_doShort_1 : decode cX4_doShort 1 = .ok (.tableswitch 70 28 31 #[31, 38, 49, 66], 31) := by decide +kernel
theorem dX4_doShort_32 : decode cX4_doShort 32 = .ok (.aload_n 0, 1) := by decide +kernel
theorem dX4_doShort_33 : decode cX4_doShort 33 = .ok (.iload_n 2, 1) := by decide +kernel
theorem dX4_doShort_34 : decode cX4_doShort 34 = .ok (.invokevirtual 106, 3) := by decide +kernel
theorem dX4_doShort_37 : decode cX4_doShort 37 = .ok (.iconst 3, 1) := by decide +kernel
theorem dX4_doShort_38 : decode cX4_doShort 38 = .ok (.ireturn, 1) := by decide +kernel
theorem dX4_doShort_39 : decode cX4_doShort 39 = .ok (.aload_n 0, 1) := by decide +kernel
theorem dX4_doShort_40 : decode cX4_doShort 40 = .ok (.invokevirtual 190, 3) := by decide +kernel
theorem dX4_doShort_43 : decode cX4_doShort 43 = .ok (.aload_n 0, 1) := by decide +kernel
theorem dX4_doShort_44 : decode cX4_doShort 44 = .ok (.iload_n 2, 1) := by decide +kernel
theorem dX4_doShort_45 : decode cX4_doShort 45 = .ok (.invokevirtual 202, 3) := by decide +kernel
theorem dX4_doShort_48 : decode cX4_doShort 48 = .ok (.iconst 5, 1) := by decide +kernel
theorem dX4_doShort_49 : decode cX4_doShort 49 = .ok (.ireturn, 1) := by decide +kernel
theorem dX4_doShort_50 : decode cX4_doShort 50 = .ok (.aload_n 0, 1) := by decide +kernel
theorem dX4_doShort_51 : decode cX4_doShort 51 = .ok (.sipush 4074, 3) := by decide +kernel
theorem dX4_doShort_54 : decode cX4_doShort 54 = .ok (.invokevirtual 103, 3) := by decide +kernel
theorem dX4_doShort_57 : decode cX4_doShort 57 = .ok (.aload_n 0, 1) := by decide +kernel
theorem dX4_doShort_58 : decode cX4_doShort 58 = .ok (.getfield 15, 3) := by decide +kernel
theorem dX4_doShort_61 : decode cX4_doShort 61 = .ok (.iconst 0, 1) := by decide +kernel
theorem dX4_doShort_62 : decode cX4_doShort 62 = .ok (.iload_n 2, 1) := by decide +kernel
theorem dX4_doShort_63 : decode cX4_doShort 63 = .ok (.iastore, 1) := by decide +kernel
theorem dX4_doShort_64 : decode cX4_doShort 64 = .ok (.bipush 7, 2) := by decide +kernel
theorem dX4_doShort_66 : decode cX4_doShort 66 = .ok (.ireturn, 1) := by decide +kernel
theorem dX4_doShort_67 : decode cX4_doShort 67 = .ok (.iconst 2, 1) := by decide +kernel
theorem dX4_doShort_68 : decode cX4_doShort 68 = .ok (.iload_n 2, 1) := by decide +kernel
theorem dX4_doShort_69 : decode cX4_doShort 69 = .ok (.iadd, 1) := by decide +kernel
theorem dX4_doShort_70 : decode cX4_doShort 70 = .ok (.ireturn, 1) := by decide +kernel
theorem dX4_doShort_71 : decode cX4_doShort 71 = .ok (.aload_n 0, 1) := by decide +kernel
theorem dX4_doShort_72 : decode cX4_doShort 72 = .ok (.iload_n 1, 1) := by decide +kernel
theorem dX4_doShort_73 : decode cX4_doShort 73 = .ok (.iload_n 2, 1) := by decide +kernel
theorem dX4_doShort_74 : decode cX4_doShort 74 = .ok (.invokevirtual 205, 3) := by decide +kernel
theorem dX4_doShort_77 : decode cX4_doShort 77 = .ok (.ireturn, 1) := by decide +kernel
theorem dX4_doOwn_0 : decode cX4_doOwn 0 = .ok (.iload_n 1, 1) := by decide +kernel
theorem dX4_doOwn_1 : decode cX4_doOwn 1 = .ok (.iconst 4, 1) := by decide +kernel
theorem dX4_doOwn_2 : decode cX4_doOwn 2 = .ok (.if_icmp .ge 9, 3) := by decide +kernel
theorem dX4_doOwn_11 : decode cX4_doOwn 11 = .ok (.iload_n 1, 1) := by decide +kernel
theorem dX4_doOwn_12 : decode cX4_doOwn 12 = .ok (.bipush 10, 2) := by decide +kernel
theorem dX4_doOwn_14 : decode cX4_doOwn 14 = .ok (.if_icmp .ge 10, 3) := by decide +kernel
theorem dX4_doOwn_24 : decode cX4_doOwn 24 = .ok (.iload_n 1, 1) := by decide +kernel
theorem dX4_doOwn_25 : decode cX4_doOwn 25 = .ok (.bipush 18, 2) := by decide +kernel
theorem dX4_doOwn_27 : decode cX4_doOwn 27 = .ok (.if_icmp .ge 10, 3) := by decide +kernel
theorem dX4_doOwn_37 : decode cX4_doOwn 37 = .ok (.iload_n 1, 1) := by decide +kernel
theorem dX4_doOwn_38 : decode cX4_doOwn 38 = .ok (.bipush 23, 2) := by decide +kernel
theorem dX4_doOwn_40 : decode cX4_doOwn 40 = .ok (.if_icmp .ge 11, 3) := by decide +kernel
theorem dX4_doOwn_51 : decode cX4_doOwn 51 = .ok (.aload_n 0, 1) := by decide +kernel
theorem dX4_doOwn_52 : decode cX4_doOwn 52 = .ok (.iload_n 1, 1) := by decide +kernel
theorem dX4_doOwn_53 : decode cX4_doOwn 53 = .ok (.invokevirtual 229, 3) := by decide +kernel
theorem dX4_doOwn_56 : decode cX4_doOwn 56 = .ok (.iconst 2, 1) := by decide +kernel
theorem dX4_doOwn_57 : decode cX4_doOwn 57 = .ok (.ireturn, 1) := by decide +kernel
theorem dX4_doOwn_43 : decode cX4_doOwn 43 = .ok (.aload_n 0, 1) := by decide +kernel
theorem dX4_doOwn_44 : decode cX4_doOwn 44 = .ok (.iload_n 1, 1) := by decide +kernel
theorem dX4_doOwn_45 : decode cX4_doOwn 45 = .ok (.invokevirtual 226, 3) := by decide +kernel
theorem dX4_doOwn_48 : decode cX4_doOwn 48 = .ok (.goto 8, 3) := by decide +kernel
theorem dX4_doOwn_30 : decode cX4_doOwn 30 = .ok (.aload_n 0, 1) := by decide +kernel
theorem dX4_doOwn_31 : decode cX4_doOwn 31 = .ok (.iload_n 1, 1) := by decide +kernel
theorem dX4_doOwn_32 : decode cX4_doOwn 32 = .ok (.invokevirtual 223, 3) := by decide +kernel
theorem dX4_doOwn_35 : decode cX4_doOwn 35 = .ok (.iconst 3, 1) := by decide +kernel
theorem dX4_doOwn_36 : decode cX4_doOwn 36 = .ok (.ireturn, 1) := by decide +kernel
theorem dX4_doOwn_17 : decode cX4_doOwn 17 = .ok (.aload_n 0, 1) := by decide +kernel
theorem dX4_doOwn_18 : decode cX4_doOwn 18 = .ok (.iload_n 1, 1) := by decide +kernel
theorem dX4_doOwn_19 : decode cX4_doOwn 19 = .ok (.invokevirtual 220, 3) := by decide +kernel
theorem dX4_doOwn_22 : decode cX4_doOwn 22 = .ok (.iconst 2, 1) := by decide +kernel
theorem dX4_doOwn_23 : decode cX4_doOwn 23 = .ok (.ireturn, 1) := by decide +kernel
theorem dX4_doOwn_5 : decode cX4_doOwn 5 = .ok (.aload_n 0, 1) := by decide +kernel
theorem dX4_doOwn_6 : decode cX4_doOwn 6 = .ok (.iload_n 1, 1) := by decide +kernel
theorem dX4_doOwn_7 : decode cX4_doOwn 7 = .ok (.invokevirtual 217, 3) := by decide +kernel
theorem dX4_doOwn_10 : decode cX4_doOwn 10 = .ok (.ireturn, 1) := by decide +kernel
theorem dX4_interruptComes_0 : decode cX4_interruptComes 0 = .ok (.aload_n 0, 1) := by decide +kernel
theorem dX4_interruptComes_1 : decode cX4_interruptComes 1 = .ok (.getfield 15, 3) := by decide +kernel
theorem dX4_interruptComes_4 : decode cX4_interruptComes 4 = .ok (.iconst 5, 1) := by decide +kernel
theorem dX4_interruptComes_5 : decode cX4_interruptComes 5 = .ok (.iaload, 1) := by decide +kernel
theorem dX4_interruptComes_6 : decode cX4_interruptComes 6 = .ok (.iconst 4, 1) := by decide +kernel
theorem dX4_interruptComes_7 : decode cX4_interruptComes 7 = .ok (.iand, 1) := by decide +kernel
theorem dX4_interruptComes_8 : decode cX4_interruptComes 8 = .ok (.ifCond .ne 17, 3) := by decide +kernel
theorem dX4_interruptComes_25 : decode cX4_interruptComes 25 = .ok (.iconst 0, 1) := by decide +kernel
theorem dX4_interruptComes_26 : decode cX4_interruptComes 26 = .ok (.ireturn, 1) := by decide +kernel
theorem dX4_interruptComes_11 : decode cX4_interruptComes 11 = .ok (.aload_n 0, 1) := by decide +kernel
theorem dX4_interruptComes_12 : decode cX4_interruptComes 12 = .ok (.getfield 21, 3) := by decide +kernel
theorem dX4_interruptComes_15 : decode cX4_interruptComes 15 = .ok (.invokevirtual 73, 3) := by decide +kernel
theorem dX4_interruptComes_18 : decode cX4_interruptComes 18 = .ok (.ifCond .eq 7, 3) := by decide +kernel
theorem dX4_interruptComes_21 : decode cX4_interruptComes 21 = .ok (.iconst 1, 1) := by decide +kernel
theorem dX4_interruptComes_22 : decode cX4_interruptComes 22 = .ok (.goto 4, 3) := by decide +kernel
theorem dX4_reset_0 : decode cX4_reset 0 = .ok (.aload_n 0, 1) := by decide +kernel
theorem dX4_reset_1 : decode cX4_reset 1 = .ok (.invokevirtual 35, 3) := by decide +kernel
theorem dX4_reset_4 : decode cX4_reset 4 = .ok (.aload_n 0, 1) := by decide +kernel
theorem dX4_reset_5 : decode cX4_reset 5 = .ok (.getfield 15, 3) := by decide +kernel
theorem dX4_reset_8 : decode cX4_reset 8 = .ok (.bipush 10, 2) := by decide +kernel
theorem dX4_reset_10 : decode cX4_reset 10 = .ok (.iconst 0, 1) := by decide +kernel
theorem dX4_reset_11 : decode cX4_reset 11 = .ok (.iastore, 1) := by decide +kernel
theorem dX4_reset_12 : decode cX4_reset 12 = .ok (.aload_n 0, 1) := by decide +kernel
theorem dX4_reset_13 : decode cX4_reset 13 = .ok (.getfield 15, 3) := by decide +kernel
theorem dX4_reset_16 : decode cX4_reset 16 = .ok (.bipush 11, 2) := by decide +kernel
theorem dX4_reset_18 : decode cX4_reset 18 = .ok (.iconst 0, 1) := by decide +kernel
theorem dX4_reset_19 : decode cX4_reset 19 = .ok (.iastore, 1) := by decide +kernel
theorem dX4_reset_20 : decode cX4_reset 20 = .ok (.aload_n 0, 1) := by decide +kernel
theorem dX4_reset_21 : decode cX4_reset 21 = .ok (.getfield 15, 3) := by decide +kernel
theorem dX4_reset_24 : decode cX4_reset 24 = .ok (.bipush 15, 2) := by decide +kernel
theorem dX4_reset_26 : decode cX4_reset 26 = .ok (.iconst 0, 1) := by decide +kernel
theorem dX4_reset_27 : decode cX4_reset 27 = .ok (.iastore, 1) := by decide +kernel
theorem dX4_reset_28 : decode cX4_reset 28 = .ok (.aload_n 0, 1) := by decide +kernel
theorem dX4_reset_29 : decode cX4_reset 29 = .ok (.getfield 15, 3) := by decide +kernel
theorem dX4_reset_32 : decode cX4_reset 32 = .ok (.bipush 16, 2) := by decide +kernel
theorem dX4_reset_34 : decode cX4_reset 34 = .ok (.iconst 0, 1) := by decide +kernel
theorem dX4_reset_35 : decode cX4_reset 35 = .ok (.iastore, 1) := by decide +kernel
theorem dX4_reset_36 : decode cX4_reset 36 = .ok (.aload_n 0, 1) := by decide +kernel
theorem dX4_reset_37 : decode cX4_reset 37 = .ok (.getfield 15, 3) := by decide +kernel
theorem dX4_reset_40 : decode cX4_reset 40 = .ok (.bipush 30, 2) := by decide +kernel
theorem dX4_reset_42 : decode cX4_reset 42 = .ok (.dup2, 1) := by decide +kernel
theorem dX4_reset_43 : decode cX4_reset 43 = .ok (.iaload, 1) := by decide +kernel
theorem dX4_reset_44 : decode cX4_reset 44 = .ok (.iconst 1, 1) := by decide +kernel
theorem dX4_reset_45 : decode cX4_reset 45 = .ok (.iadd, 1) := by decide +kernel
theorem dX4_reset_46 : decode cX4_reset 46 = .ok (.iastore, 1) := by decide +kernel
theorem dX4_reset_47 : decode cX4_reset 47 = .ok (.return_, 1) := by decide +kernel
theorem dX4_doCode_0 : decode cX4_doCode 0 = .ok (.iload_n 1, 1) := by decide +kernel
theorem dX4_doCode_1 : decode cX4_doCode 1 = .ok (.iconst 3, 1) := by decide +kernel
theorem dX4_doCode_2 : decode cX4_doCode 2 = .ok (.ishr, 1) := by decide +kernel
theorem dX4_doCode_3 : decode cX4_doCode 3 = .ok (.istore_n 2, 1) := by decide +kernel
theorem dX4_doCode_4 : decode cX4_doCode 4 = .ok (.iload_n 1, 1) := by decide +kernel
theorem dX4_doCode_5 : decode cX4_doCode 5 = .ok (.bipush 7, 2) := by decide +kernel
theorem dX4_doCode_7 : decode cX4_doCode 7 = .ok (.iand, 1) := by decide +kernel
theorem dX4_doCode_8 : decode cX4_doCode 8 = .ok (.istore_n 3, 1) := by decide +kernel
theorem dX4_doCode_9 : decode cX4_doCode 9 = .ok (.iload_n 1, 1) := by decide +kernel
theorem dX4_doCode_10 : decode cX4_doCode 10 = .ok (.invokestatic 109, 3) := by decide +kernel
theorem dX4_doCode_13 : decode cX4_doCode 13 = .ok (.ifCond .eq 32, 3) := by decide +kernel
theorem dX4_doCode_45 : decode cX4_doCode 45 = .ok (.iload_n 2, 1) := by decide +kernel
theorem dX4_doCode_46 : decode cX4_doCode 46 = .ok (.bipush 16, 2) := by decide +kernel
theorem dX4_doCode_48 : decode cX4_doCode 48 = .ok (.if_icmp .ge 31, 3) := by decide +kernel
theorem dX4_doCode_79 : decode cX4_doCode 79 = .ok (.aload_n 0, 1) := by decide +kernel
theorem dX4_doCode_80 : decode cX4_doCode 80 = .ok (.iload_n 2, 1) := by decide +kernel
theorem dX4_doCode_81 : decode cX4_doCode 81 = .ok (.aload_n 0, 1) := by decide +kernel
theorem dX4_doCode_82 : decode cX4_doCode 82 = .ok (.iload_n 3, 1) := by decide +kernel
theorem dX4_doCode_83 : decode cX4_doCode 83 = .ok (.invokevirtual 119, 3) := by decide +kernel
theorem dX4_doCode_86 : decode cX4_doCode 86 = .ok (.invokevirtual 129, 3) := by decide +kernel
theorem dX4_doCode_89 : decode cX4_doCode 89 = .ok (.getstatic 132, 3) := by decide +kernel
theorem dX4_doCode_92 : decode cX4_doCode 92 = .ok (.iload_n 3, 1) := by decide +kernel
theorem dX4_doCode_93 : decode cX4_doCode 93 = .ok (.iaload, 1) := by decide +kernel
theorem dX4_doCode_94 : decode cX4_doCode 94 = .ok (.getstatic 135, 3) := by decide +kernel
theorem dX4_doCode_97 : decode cX4_doCode 97 = .ok (.iload_n 2, 1) := by decide +kernel
theorem dX4_doCode_98 : decode cX4_doCode 98 = .ok (.iaload, 1) := by decide +kernel
theorem dX4_doCode_99 : decode cX4_doCode 99 = .ok (.iadd, 1) := by decide +kernel
theorem dX4_doCode_100 : decode cX4_doCode 100 = .ok (.ireturn, 1) := by decide +kernel
theorem dX4_doCode_51 : decode cX4_doCode 51 = .ok (.aload_n 0, 1) := by decide +kernel
theorem dX4_doCode_52 : decode cX4_doCode 52 = .ok (.iload_n 2, 1) := by decide +kernel
theorem dX4_doCode_53 : decode cX4_doCode 53 = .ok (.iload_n 3, 1) := by decide +kernel
theorem dX4_doCode_54 : decode cX4_doCode 54 = .ok (.ifCond .ne 10, 3) := by decide +kernel
theorem dX4_doCode_64 : decode cX4_doCode 64 = .ok (.aload_n 0, 1) := by decide +kernel
theorem dX4_doCode_65 : decode cX4_doCode 65 = .ok (.aload_n 0, 1) := by decide +kernel
theorem dX4_doCode_66 : decode cX4_doCode 66 = .ok (.iload_n 3, 1) := by decide +kernel
theorem dX4_doCode_67 : decode cX4_doCode 67 = .ok (.invokevirtual 119, 3) := by decide +kernel
theorem dX4_doCode_70 : decode cX4_doCode 70 = .ok (.invokevirtual 122, 3) := by decide +kernel
theorem dX4_doCode_73 : decode cX4_doCode 73 = .ok (.invokevirtual 125, 3) := by decide +kernel
theorem dX4_doCode_76 : decode cX4_doCode 76 = .ok (.goto 13, 3) := by decide +kernel
theorem dX4_doCode_57 : decode cX4_doCode 57 = .ok (.aload_n 0, 1) := by decide +kernel
theorem dX4_doCode_58 : decode cX4_doCode 58 = .ok (.invokevirtual 82, 3) := by decide +kernel
theorem dX4_doCode_61 : decode cX4_doCode 61 = .ok (.goto 12, 3) := by decide +kernel
theorem dX4_doCode_16 : decode cX4_doCode 16 = .ok (.aload_n 0, 1) := by decide +kernel
theorem dX4_doCode_17 : decode cX4_doCode 17 = .ok (.invokevirtual 82, 3) := by decide +kernel
theorem dX4_doCode_20 : decode cX4_doCode 20 = .ok (.istore 4, 2) := by decide +kernel
theorem dX4_doCode_22 : decode cX4_doCode 22 = .ok (.iload_n 2, 1) := by decide +kernel
theorem dX4_doCode_23 : decode cX4_doCode 23 = .ok (.bipush 27, 2) := by decide +kernel
theorem dX4_doCode_25 : decode cX4_doCode 25 = .ok (.if_icmp .ne 12, 3) := by decide +kernel
theorem dX4_doCode_37 : decode cX4_doCode 37 = .ok (.aload_n 0, 1) := by decide +kernel
theorem dX4_doCode_38 : decode cX4_doCode 38 = .ok (.iload_n 2, 1) := by decide +kernel
theorem dX4_doCode_39 : decode cX4_doCode 39 = .ok (.iload 4, 2) := by decide +kernel
theorem dX4_doCode_41 : decode cX4_doCode 41 = .ok (.invokevirtual 115, 3) := by decide +kernel
theorem dX4_doCode_44 : decode cX4_doCode 44 = .ok (.ireturn, 1) := by decide +kernel
theorem dX4_doCode_28 : decode cX4_doCode 28 = .ok (.aload_n 0, 1) := by decide +kernel
theorem dX4_doCode_29 : decode cX4_doCode 29 = .ok (.iload 4, 2) := by decide +kernel
theorem dX4_doCode_31 : decode cX4_doCode 31 = .ok (.invokevirtual 112, 3) := by decide +kernel
theorem dX4_doCode_34 : decode cX4_doCode 34 = .ok (.goto 10, 3) := by decide +kernel
theorem dX4_doStep_0 : decode cX4_doStep 0 = .ok (.aload_n 0, 1) := by decide +kernel
theorem dX4_doStep_1 : decode cX4_doStep 1 = .ok (.getfield 25, 3) := by decide +kernel
theorem dX4_doStep_4 : decode cX4_doStep 4 = .ok (.aload_n 0, 1) := by decide +kernel
theorem dX4_doStep_5 : decode cX4_doStep 5 = .ok (.getfield 15, 3) := by decide +kernel
theorem dX4_doStep_8 : decode cX4_doStep 8 = .ok (.invokevirtual 78, 3) := by decide +kernel
theorem dX4_doStep_11 : decode cX4_doStep 11 = .ok (.aload_n 0, 1) := by decide +kernel
theorem dX4_doStep_12 : decode cX4_doStep 12 = .ok (.invokevirtual 69, 3) := by decide +kernel
theorem dX4_doStep_15 : decode cX4_doStep 15 = .ok (.ifCond .eq 9, 3) := by decide +kernel
theorem dX4_doStep_24 : decode cX4_doStep 24 = .ok (.aload_n 0, 1) := by decide +kernel
theorem dX4_doStep_25 : decode cX4_doStep 25 = .ok (.invokevirtual 82, 3) := by decide +kernel
theorem dX4_doStep_28 : decode cX4_doStep 28 = .ok (.istore_n 1, 1) := by decide +kernel
theorem dX4_doStep_29 : decode cX4_doStep 29 = .ok (.aload_n 0, 1) := by decide +kernel
theorem dX4_doStep_30 : decode cX4_doStep 30 = .ok (.getfield 25, 3) := by decide +kernel
theorem dX4_doStep_33 : decode cX4_doStep 33 = .ok (.iload_n 1, 1) := by decide +kernel
theorem dX4_doStep_34 : decode cX4_doStep 34 = .ok (.invokevirtual 86, 3) := by decide +kernel
theorem dX4_doStep_37 : decode cX4_doStep 37 = .ok (.aload_n 0, 1) := by decide +kernel
theorem dX4_doStep_38 : decode cX4_doStep 38 = .ok (.getfield 9, 3) := by decide +kernel
theorem dX4_doStep_41 : decode cX4_doStep 41 = .ok (.iload_n 1, 1) := by decide +kernel
theorem dX4_doStep_42 : decode cX4_doStep 42 = .ok (.dup2, 1) := by decide +kernel
theorem dX4_doStep_43 : decode cX4_doStep 43 = .ok (.iaload, 1) := by decide +kernel
theorem dX4_doStep_44 : decode cX4_doStep 44 = .ok (.iconst 1, 1) := by decide +kernel
theorem dX4_doStep_45 : decode cX4_doStep 45 = .ok (.iadd, 1) := by decide +kernel
theorem dX4_doStep_46 : decode cX4_doStep 46 = .ok (.iastore, 1) := by decide +kernel
theorem dX4_doStep_47 : decode cX4_doStep 47 = .ok (.iload_n 1, 1) := by decide +kernel
theorem dX4_doStep_48 : decode cX4_doStep 48 = .ok (.sipush 256, 3) := by decide +kernel
theorem dX4_doStep_51 : decode cX4_doStep 51 = .ok (.if_icmp .ne 10, 3) := by decide +kernel
theorem dX4_doStep_61 : decode cX4_doStep 61 = .ok (.aload_n 0, 1) := by decide +kernel
theorem dX4_doStep_62 : decode cX4_doStep 62 = .ok (.iload_n 1, 1) := by decide +kernel
theorem dX4_doStep_63 : decode cX4_doStep 63 = .ok (.invokevirtual 93, 3) := by decide +kernel
theorem dX4_doStep_66 : decode cX4_doStep 66 = .ok (.istore_n 2, 1) := by decide +kernel
theorem dX4_doStep_67 : decode cX4_doStep 67 = .ok (.aload_n 0, 1) := by decide +kernel
theorem dX4_doStep_68 : decode cX4_doStep 68 = .ok (.getfield 21, 3) := by decide +kernel
theorem dX4_doStep_71 : decode cX4_doStep 71 = .ok (.iload_n 2, 1) := by decide +kernel
theorem dX4_doStep_72 : decode cX4_doStep 72 = .ok (.invokevirtual 96, 3) := by decide +kernel
theorem dX4_doStep_75 : decode cX4_doStep 75 = .ok (.ifCond .eq 7, 3) := by decide +kernel
theorem dX4_doStep_82 : decode cX4_doStep 82 = .ok (.return_, 1) := by decide +kernel
theorem dX4_doStep_78 : decode cX4_doStep 78 = .ok (.aload_n 0, 1) := by decide +kernel
theorem dX4_doStep_79 : decode cX4_doStep 79 = .ok (.invokevirtual 100, 3) := by decide +kernel
theorem dX4_doStep_54 : decode cX4_doStep 54 = .ok (.aload_n 0, 1) := by decide +kernel
theorem dX4_doStep_55 : decode cX4_doStep 55 = .ok (.invokevirtual 90, 3) := by decide +kernel
theorem dX4_doStep_58 : decode cX4_doStep 58 = .ok (.goto 8, 3) := by decide +kernel
theorem dX4_doStep_18 : decode cX4_doStep 18 = .ok (.sipush 256, 3) := by decide +kernel
theorem dX4_doStep_21 : decode cX4_doStep 21 = .ok (.goto 7, 3) := by decide +kernel
theorem dX4_whyToEnd_0 : decode cX4_whyToEnd 0 = .ok (.iload_n 1, 1) := by decide +kernel
theorem dX4_whyToEnd_1 : decode cX4_whyToEnd 1 = .ok (.ifCond .eq 5, 3) := by decide +kernel
theorem dX4_whyToEnd_6 : decode cX4_whyToEnd 6 = .ok (.aload_n 0, 1) := by decide +kernel
theorem dX4_whyToEnd_7 : decode cX4_whyToEnd 7 = .ok (.getfield 15, 3) := by decide +kernel
theorem dX4_whyToEnd_10 : decode cX4_whyToEnd 10 = .ok (.bipush 6, 2) := by decide +kernel
theorem dX4_whyToEnd_12 : decode cX4_whyToEnd 12 = .ok (.iaload, 1) := by decide +kernel
theorem dX4_whyToEnd_13 : decode cX4_whyToEnd 13 = .ok (.ifCond .eq 5, 3) := by decide +kernel
theorem dX4_whyToEnd_18 : decode cX4_whyToEnd 18 = .ok (.aload_n 0, 1) := by decide +kernel
theorem dX4_whyToEnd_19 : decode cX4_whyToEnd 19 = .ok (.aload_n 0, 1) := by decide +kernel
theorem dX4_whyToEnd_20 : decode cX4_whyToEnd 20 = .ok (.getfield 15, 3) := by decide +kernel
theorem dX4_whyToEnd_23 : decode cX4_whyToEnd 23 = .ok (.iconst 4, 1) := by decide +kernel
theorem dX4_whyToEnd_24 : decode cX4_whyToEnd 24 = .ok (.iaload, 1) := by decide +kernel
theorem dX4_whyToEnd_25 : decode cX4_whyToEnd 25 = .ok (.invokevirtual 66, 3) := by decide +kernel
theorem dX4_whyToEnd_28 : decode cX4_whyToEnd 28 = .ok (.sipush 216, 3) := by decide +kernel
theorem dX4_whyToEnd_31 : decode cX4_whyToEnd 31 = .ok (.if_icmp .ne 24, 3) := by decide +kernel
theorem dX4_whyToEnd_55 : decode cX4_whyToEnd 55 = .ok (.iconst 0, 1) := by decide +kernel
theorem dX4_whyToEnd_56 : decode cX4_whyToEnd 56 = .ok (.istore_n 2, 1) := by decide +kernel
theorem dX4_whyToEnd_57 : decode cX4_whyToEnd 57 = .ok (.iload_n 2, 1) := by decide +kernel
theorem dX4_whyToEnd_58 : decode cX4_whyToEnd 58 = .ok (.ifCond .eq 14, 3) := by decide +kernel
theorem dX4_whyToEnd_72 : decode cX4_whyToEnd 72 = .ok (.iconst 0, 1) := by decide +kernel
theorem dX4_whyToEnd_73 : decode cX4_whyToEnd 73 = .ok (.ireturn, 1) := by decide +kernel
theorem dX4_whyToEnd_34 : decode cX4_whyToEnd 34 = .ok (.aload_n 0, 1) := by decide +kernel
theorem dX4_whyToEnd_35 : decode cX4_whyToEnd 35 = .ok (.aload_n 0, 1) := by decide +kernel
theorem dX4_whyToEnd_36 : decode cX4_whyToEnd 36 = .ok (.getfield 15, 3) := by decide +kernel
theorem dX4_whyToEnd_39 : decode cX4_whyToEnd 39 = .ok (.iconst 4, 1) := by decide +kernel
theorem dX4_whyToEnd_40 : decode cX4_whyToEnd 40 = .ok (.iaload, 1) := by decide +kernel
theorem dX4_whyToEnd_41 : decode cX4_whyToEnd 41 = .ok (.iconst 1, 1) := by decide +kernel
theorem dX4_whyToEnd_42 : decode cX4_whyToEnd 42 = .ok (.iadd, 1) := by decide +kernel
theorem dX4_whyToEnd_43 : decode cX4_whyToEnd 43 = .ok (.invokevirtual 66, 3) := by decide +kernel
theorem dX4_whyToEnd_46 : decode cX4_whyToEnd 46 = .ok (.bipush 31, 2) := by decide +kernel
theorem dX4_whyToEnd_48 : decode cX4_whyToEnd 48 = .ok (.if_icmp .le 7, 3) := by decide +kernel
theorem dX4_whyToEnd_51 : decode cX4_whyToEnd 51 = .ok (.iconst 1, 1) := by decide +kernel
theorem dX4_whyToEnd_52 : decode cX4_whyToEnd 52 = .ok (.goto 4, 3) := by decide +kernel
theorem dX4_whyToEnd_61 : decode cX4_whyToEnd 61 = .ok (.aload_n 0, 1) := by decide +kernel
theorem dX4_whyToEnd_62 : decode cX4_whyToEnd 62 = .ok (.invokevirtual 69, 3) := by decide +kernel
theorem dX4_whyToEnd_65 : decode cX4_whyToEnd 65 = .ok (.ifCond .ne 7, 3) := by decide +kernel
theorem dX4_whyToEnd_68 : decode cX4_whyToEnd 68 = .ok (.iconst 3, 1) := by decide +kernel
theorem dX4_whyToEnd_69 : decode cX4_whyToEnd 69 = .ok (.goto 4, 3) := by decide +kernel
theorem dX4_whyToEnd_16 : decode cX4_whyToEnd 16 = .ok (.iconst 2, 1) := by decide +kernel
theorem dX4_whyToEnd_17 : decode cX4_whyToEnd 17 = .ok (.ireturn, 1) := by decide +kernel
theorem dX4_whyToEnd_4 : decode cX4_whyToEnd 4 = .ok (.iconst 1, 1) := by decide +kernel
theorem dX4_whyToEnd_5 : decode cX4_whyToEnd 5 = .ok (.ireturn, 1) := by decide +kernel
set_option maxHeartbeats 4000000 in
set_option maxRecDepth 100000 in
theorem c_s_push (l : Launch) (D : va_G) (cA cB : ClassId) (h0 : Nat) (hn : Nat) (hs : Nat) (hd : Nat) (hp : Nat) (hc : Nat) (he : Nat) (wy : Int32) (dn : Int32) (la : Nat) (ke : Nat) (f : Nat → Int32) (st : Nat → Int32) (en : Nat → Int32) (v : Nat) (hla : la < 256) (hke : ke < 257) (hf : okN f) (hst : ∀ j, j < 4096 → ∃ k : Nat, k < 256 ∧ st j = nI k) (hen : okE en) (hv : v < 256) : CV l yX4_push cX4_push 3 none 1 24 0 0 D cA cB [.ref h0, .int (nI v)] [(h0, .inr (4, [.ref hn, .ref hs, .ref hd, .ref hp, .ref hc, .int wy, .int dn])), (hp, .inr (3, [.ref he, .int (nI la), .int (nI ke)])), (hn, .inl (cA, 34, .inl f)), (hs, .inl (cA, 4096, .inl st)), (he, .inl (cA, 10752, .inl en))] (fun W1 => ∃ (wy2 : Int32) (dn2 : Int32) (la2 : Nat) (ke2 : Nat) (f2 : Nat → Int32) (st2 : Nat → Int32) (en2 : Nat → Int32), (la2 < 256) ∧ (ke2 < 257) ∧ (okN f2) ∧ (∀ j, j < 4096 → ∃ k : Nat, k < 256 ∧ st2 j = nI k) ∧ (okE en2) ∧ W1 = [(h0, .inr (4, [.ref hn, .ref hs, .ref hd, .ref hp, .ref hc, .int wy2, .int dn2])), (hp, .inr (3, [.ref he, .int (nI la2), .int (nI ke2)])), (hn, .inl (cA, 34, .inl f2)), (hs, .inl (cA, 4096, .inl st2)), (he, .inl (cA, 10752, .inl en2))]) := by
  refine mkV (lv0 := [(0, .ref h0), (1, .int (nI v))]) (by decide) (Nat.le_of_ble_eq_true rfl) rfl ?_
  intro p e s m below meth c A ls X hr hlocks hnm hE hA hP hD hS hl
  have hx := X.1
  have hb := X.2.1
  refine lv_sipush (v := 256) hx hb dX4_push_0 (by decide) ?_
  refine lv_aload_n hx hb dX4_push_3 rfl (lv_at hl 0 rfl) ?_
  refine k_get (C := RX4) (T := TX4) (N := 7) (ci := 4) (v := .ref hn) X hE hP 0 rfl rfl iX4 0 (by decide) w_69 rfl dX4_push_4 ?_
  refine lv_iconst (v := 3) hx hb dX4_push_7 (by decide) ?_
  obtain ⟨k_1, hk_1, ek_1⟩ := hf.at 3 256 (by decide) rfl
  refine k_ald (v := nI k_1) X hE hP 2 rfl 3 rfl (by decide) (by decide) ek_1 dX4_push_8 ?_
  refine lv_iadd hx hb dX4_push_9 ?_
  refine tk (y := nI (256 + k_1)) (nI_add 256 k_1) ?_
  refine lv_istore_n (lv' := [(2, .int (nI (256 + k_1))), (0, .ref h0), (1, .int (nI v))]) hx hb dX4_push_10 rfl hl (by decide) rfl (fun ls hl => ?_)
  refine lv_aload_n hx hb dX4_push_11 rfl (lv_at hl 1 rfl) ?_
  refine k_get (C := RX4) (T := TX4) (N := 7) (ci := 4) (v := .ref hp) X hE hP 0 rfl rfl iX4 3 (by decide) w_161 rfl dX4_push_12 ?_
  refine lv_iload_n hx hb dX4_push_15 rfl (lv_at hl 0 rfl) ?_
  refine lv_aload_n hx hb dX4_push_16 rfl (lv_at hl 1 rfl) ?_
  refine k_get (C := RX4) (T := TX4) (N := 7) (ci := 4) (v := .ref hs) X hE hP 0 rfl rfl iX4 1 (by decide) w_63 rfl dX4_push_17 ?_
  refine lv_iload_n hx hb dX4_push_20 rfl (lv_at hl 0 rfl) ?_
  obtain ⟨k_2, hk_2, ek_2⟩ := hst (256 + k_1) (by omega)
  refine k_ald (v := nI k_2) X hE hP 3 rfl (256 + k_1) rfl (by omega) (by decide) ek_2 dX4_push_21 ?_
  refine kVv (n3 := 2) (As := [.int (nI (256 + k_1)), .int (nI k_2)]) (rest := []) X hl.1 hE hP hD hS hA [(hp, .inr (3, [.ref he, .int (nI la), .int (nI ke)])), (he, .inl (cA, 10752, .inl en))] [(h0, .inr (4, [.ref hn, .ref hs, .ref hd, .ref hp, .ref hc, .int wy, .int dn])), (hn, .inl (cA, 34, .inl f)), (hs, .inl (cA, 4096, .inl st))] [1, 4] [0, 2, 3] rfl rfl rfl (by decide +kernel) (by decide +kernel) (by decide +kernel) (c_s_keepByte l D cA cB hp he la ke en (256 + k_1) k_2 (by first | assumption | decide | rfl | omega) (by first | assumption | decide | rfl | omega) hen (by first | assumption | decide | rfl | omega) (by first | assumption | decide | rfl | omega)) w_163 w_164 w_162 w_165 w_166 0 (ci := 3) (T := TX3) (N := 3) rfl rfl (by decide +kernel) rfl rfl (Nat.le_of_ble_eq_true rfl) ⟨(Nat.le_of_ble_eq_true rfl), (Nat.le_of_ble_eq_true rfl)⟩ ⟨(Nat.le_of_ble_eq_true rfl), (Nat.le_of_ble_eq_true rfl)⟩ dX4_push_22 (fun W1 H locs hw hP hD hS => ?_)
  obtain ⟨la2_3, ke2_4, en2_5, hf_6, hf_7, hf_8, rfl⟩ := hw
  have hP : va_P D classes [(h0, .inr (4, [.ref hn, .ref hs, .ref hd, .ref hp, .ref hc, .int wy, .int dn])), (hn, .inl (cA, 34, .inl f)), (hs, .inl (cA, 4096, .inl st)), (hp, .inr (3, [.ref he, .int (nI la2_3), .int (nI ke2_4)])), (he, .inl (cA, 10752, .inl en2_5))] H := hP
  have hD : va_D A [(h0, .inr (4, [.ref hn, .ref hs, .ref hd, .ref hp, .ref hc, .int wy, .int dn])), (hn, .inl (cA, 34, .inl f)), (hs, .inl (cA, 4096, .inl st)), (hp, .inr (3, [.ref he, .int (nI la2_3), .int (nI ke2_4)])), (he, .inl (cA, 10752, .inl en2_5))] := hD
  refine lv_aload_n hx hb dX4_push_25 rfl (lv_at hl 1 rfl) ?_
  refine k_get (C := RX4) (T := TX4) (N := 7) (ci := 4) (v := .ref hs) X hE hP 0 rfl rfl iX4 1 (by decide) w_63 rfl dX4_push_26 ?_
  refine lv_iload_n hx hb dX4_push_29 rfl (lv_at hl 0 rfl) ?_
  refine lv_iload_n hx hb dX4_push_30 rfl (lv_at hl 2 rfl) ?_
  refine k_ast X hE hP hD hS 2 rfl (256 + k_1) rfl (by omega) (by decide) [(h0, .inr (4, [.ref hn, .ref hs, .ref hd, .ref hp, .ref hc, .int wy, .int dn])), (hn, .inl (cA, 34, .inl f)), (hs, .inl (cA, 4096, .inl (upd st (256 + k_1) (nI v)))), (hp, .inr (3, [.ref he, .int (nI la2_3), .int (nI ke2_4)])), (he, .inl (cA, 10752, .inl en2_5))] rfl dX4_push_31 (fun H locs hP hD hS => ?_)
  obtain ⟨g_9, eg_9⟩ : ∃ z, z = upd st (256 + k_1) (nI v) := ⟨_, rfl⟩
  rw [← eg_9] at hP hD
  have hg_9 := okB_upd hst (256 + k_1) (nI v) ⟨v, by omega, rfl⟩
  rw [← eg_9] at hg_9
  have hP : va_P D classes [(h0, .inr (4, [.ref hn, .ref hs, .ref hd, .ref hp, .ref hc, .int wy, .int dn])), (hn, .inl (cA, 34, .inl f)), (hs, .inl (cA, 4096, .inl g_9)), (hp, .inr (3, [.ref he, .int (nI la2_3), .int (nI ke2_4)])), (he, .inl (cA, 10752, .inl en2_5))] H := hP
  have hD : va_D A [(h0, .inr (4, [.ref hn, .ref hs, .ref hd, .ref hp, .ref hc, .int wy, .int dn])), (hn, .inl (cA, 34, .inl f)), (hs, .inl (cA, 4096, .inl g_9)), (hp, .inr (3, [.ref he, .int (nI la2_3), .int (nI ke2_4)])), (he, .inl (cA, 10752, .inl en2_5))] := hD
  refine lv_aload_n hx hb dX4_push_32 rfl (lv_at hl 1 rfl) ?_
  refine k_get (C := RX4) (T := TX4) (N := 7) (ci := 4) (v := .ref hn) X hE hP 0 rfl rfl iX4 0 (by decide) w_69 rfl dX4_push_33 ?_
  refine lv_iconst (v := 3) hx hb dX4_push_36 (by decide) ?_
  refine lv_aload_n hx hb dX4_push_37 rfl (lv_at hl 1 rfl) ?_
  refine k_get (C := RX4) (T := TX4) (N := 7) (ci := 4) (v := .ref hn) X hE hP 0 rfl rfl iX4 0 (by decide) w_69 rfl dX4_push_38 ?_
  refine lv_iconst (v := 3) hx hb dX4_push_41 (by decide) ?_
  refine k_ald (v := nI k_1) X hE hP 1 rfl 3 rfl (by decide) (by decide) ek_1 dX4_push_42 ?_
  refine lv_iconst (v := 1) hx hb dX4_push_43 (by decide) ?_
  refine lv_isub hx hb dX4_push_44 ?_
  refine lv_sipush (v := 255) hx hb dX4_push_45 (by decide) ?_
  refine lv_iand hx hb dX4_push_48 ?_
  obtain ⟨k_10, hk_10, ek_10⟩ := pk_andE ((nI k_1) - 1) (m := 255) 8 (by decide)
  have hk_10 : k_10 < 256 := hk_10
  refine tk (y := nI k_10) ek_10 ?_
  refine k_ast X hE hP hD hS 1 rfl 3 rfl (by decide) (by decide) [(h0, .inr (4, [.ref hn, .ref hs, .ref hd, .ref hp, .ref hc, .int wy, .int dn])), (hn, .inl (cA, 34, .inl (upd f 3 (nI k_10)))), (hs, .inl (cA, 4096, .inl g_9)), (hp, .inr (3, [.ref he, .int (nI la2_3), .int (nI ke2_4)])), (he, .inl (cA, 10752, .inl en2_5))] rfl dX4_push_49 (fun H locs hP hD hS => ?_)
  obtain ⟨g_11, eg_11⟩ : ∃ z, z = upd f 3 (nI k_10) := ⟨_, rfl⟩
  rw [← eg_11] at hP hD
  have hg_11 := okN_upd hf 3 (nI k_10) (inR_of (k := k_10) rfl (by omega))
  rw [← eg_11] at hg_11
  have hP : va_P D classes [(h0, .inr (4, [.ref hn, .ref hs, .ref hd, .ref hp, .ref hc, .int wy, .int dn])), (hn, .inl (cA, 34, .inl g_11)), (hs, .inl (cA, 4096, .inl g_9)), (hp, .inr (3, [.ref he, .int (nI la2_3), .int (nI ke2_4)])), (he, .inl (cA, 10752, .inl en2_5))] H := hP
  have hD : va_D A [(h0, .inr (4, [.ref hn, .ref hs, .ref hd, .ref hp, .ref hc, .int wy, .int dn])), (hn, .inl (cA, 34, .inl g_11)), (hs, .inl (cA, 4096, .inl g_9)), (hp, .inr (3, [.ref he, .int (nI la2_3), .int (nI ke2_4)])), (he, .inl (cA, 10752, .inl en2_5))] := hD
  have hP : va_P D classes [(h0, .inr (4, [.ref hn, .ref hs, .ref hd, .ref hp, .ref hc, .int wy, .int dn])), (hp, .inr (3, [.ref he, .int (nI la2_3), .int (nI ke2_4)])), (hn, .inl (cA, 34, .inl g_11)), (hs, .inl (cA, 4096, .inl g_9)), (he, .inl (cA, 10752, .inl en2_5))] _ := hP.sub [0, 3, 1, 2, 4] rfl
  have hD : va_D A [(h0, .inr (4, [.ref hn, .ref hs, .ref hd, .ref hp, .ref hc, .int wy, .int dn])), (hp, .inr (3, [.ref he, .int (nI la2_3), .int (nI ke2_4)])), (hn, .inl (cA, 34, .inl g_11)), (hs, .inl (cA, 4096, .inl g_9)), (he, .inl (cA, 10752, .inl en2_5))] := hD.sub [0, 3, 1, 2, 4] (by decide) rfl
  exact endV X hr hlocks hP hD hS dX4_push_50 ⟨wy, dn, la2_3, ke2_4, g_11, g_9, en2_5, (by omega), (by omega), hg_11, hg_9, hf_8, rfl⟩
set_option maxHeartbeats 4000000 in
set_option maxRecDepth 100000 in
theorem c_s_pushPlace (l : Launch) (D : va_G) (cA cB : ClassId) (h0 : Nat) (hn : Nat) (hs : Nat) (hd : Nat) (hp : Nat) (hc : Nat) (he : Nat) (wy : Int32) (dn : Int32) (la : Nat) (ke : Nat) (f : Nat → Int32) (st : Nat → Int32) (en : Nat → Int32) (hla : la < 256) (hke : ke < 257) (hf : okN f) (hst : ∀ j, j < 4096 → ∃ k : Nat, k < 256 ∧ st j = nI k) (hen : okE en) : CV l yX4_pushPlace cX4_pushPlace 1 none 2 46 0 0 D cA cB [.ref h0] [(h0, .inr (4, [.ref hn, .ref hs, .ref hd, .ref hp, .ref hc, .int wy, .int dn])), (hp, .inr (3, [.ref he, .int (nI la), .int (nI ke)])), (hn, .inl (cA, 34, .inl f)), (hs, .inl (cA, 4096, .inl st)), (he, .inl (cA, 10752, .inl en))] (fun W1 => ∃ (wy2 : Int32) (dn2 : Int32) (la2 : Nat) (ke2 : Nat) (f2 : Nat → Int32) (st2 : Nat → Int32) (en2 : Nat → Int32), (la2 < 256) ∧ (ke2 < 257) ∧ (okN f2) ∧ (∀ j, j < 4096 → ∃ k : Nat, k < 256 ∧ st2 j = nI k) ∧ (okE en2) ∧ W1 = [(h0, .inr (4, [.ref hn, .ref hs, .ref hd, .ref hp, .ref hc, .int wy2, .int dn2])), (hp, .inr (3, [.ref he, .int (nI la2), .int (nI ke2)])), (hn, .inl (cA, 34, .inl f2)), (hs, .inl (cA, 4096, .inl st2)), (he, .inl (cA, 10752, .inl en2))]) := by
  refine mkV (lv0 := [(0, .ref h0)]) (by decide) (Nat.le_of_ble_eq_true rfl) rfl ?_
  intro p e s m below meth c A ls X hr hlocks hnm hE hA hP hD hS hl
  have hx := X.1
  have hb := X.2.1
  refine lv_aload_n hx hb dX4_pushPlace_0 rfl (lv_at hl 0 rfl) ?_
  refine lv_aload_n hx hb dX4_pushPlace_1 rfl (lv_at hl 0 rfl) ?_
  refine k_get (C := RX4) (T := TX4) (N := 7) (ci := 4) (v := .ref hn) X hE hP 0 rfl rfl iX4 0 (by decide) w_69 rfl dX4_pushPlace_2 ?_
  refine lv_iconst (v := 4) hx hb dX4_pushPlace_5 (by decide) ?_
  obtain ⟨k_1, hk_1, ek_1⟩ := hf.at 4 4096 (by decide) rfl
  refine k_ald (v := nI k_1) X hE hP 2 rfl 4 rfl (by decide) (by decide) ek_1 dX4_pushPlace_6 ?_
  refine lv_bipush (v := 8) hx hb dX4_pushPlace_7 (by decide) ?_
  refine lv_ishr hx hb dX4_pushPlace_9 ?_
  refine tk (y := nI (k_1 / 256)) (pk_shrN (n := k_1) (by omega) _ 8 (by decide)) ?_
  refine kVv (n3 := 1) (As := [.int (nI (k_1 / 256))]) (rest := []) X hl.1 hE hP hD hS hA [(h0, .inr (4, [.ref hn, .ref hs, .ref hd, .ref hp, .ref hc, .int wy, .int dn])), (hp, .inr (3, [.ref he, .int (nI la), .int (nI ke)])), (hn, .inl (cA, 34, .inl f)), (hs, .inl (cA, 4096, .inl st)), (he, .inl (cA, 10752, .inl en))] [] [0, 1, 2, 3, 4] [] rfl rfl rfl (by decide +kernel) (by decide +kernel) (by decide +kernel) (c_s_push l D cA cB h0 hn hs hd hp hc he wy dn la ke f st en (k_1 / 256) (by first | assumption | decide | rfl | omega) (by first | assumption | decide | rfl | omega) hf hst hen (by first | assumption | decide | rfl | omega)) w_168 w_66 w_167 w_169 w_170 0 (ci := 4) (T := TX4) (N := 7) rfl rfl (by decide +kernel) rfl rfl (Nat.le_of_ble_eq_true rfl) ⟨(Nat.le_of_ble_eq_true rfl), (Nat.le_of_ble_eq_true rfl)⟩ ⟨(Nat.le_of_ble_eq_true rfl), (Nat.le_of_ble_eq_true rfl)⟩ dX4_pushPlace_10 (fun W1 H locs hw hP hD hS => ?_)
  obtain ⟨wy2_2, dn2_3, la2_4, ke2_5, f2_6, st2_7, en2_8, hf_9, hf_10, hf_11, hf_12, hf_13, rfl⟩ := hw
  have hP : va_P D classes [(h0, .inr (4, [.ref hn, .ref hs, .ref hd, .ref hp, .ref hc, .int wy2_2, .int dn2_3])), (hp, .inr (3, [.ref he, .int (nI la2_4), .int (nI ke2_5)])), (hn, .inl (cA, 34, .inl f2_6)), (hs, .inl (cA, 4096, .inl st2_7)), (he, .inl (cA, 10752, .inl en2_8))] H := hP
  have hD : va_D A [(h0, .inr (4, [.ref hn, .ref hs, .ref hd, .ref hp, .ref hc, .int wy2_2, .int dn2_3])), (hp, .inr (3, [.ref he, .int (nI la2_4), .int (nI ke2_5)])), (hn, .inl (cA, 34, .inl f2_6)), (hs, .inl (cA, 4096, .inl st2_7)), (he, .inl (cA, 10752, .inl en2_8))] := hD
  refine lv_aload_n hx hb dX4_pushPlace_13 rfl (lv_at hl 0 rfl) ?_
  refine lv_aload_n hx hb dX4_pushPlace_14 rfl (lv_at hl 0 rfl) ?_
  refine k_get (C := RX4) (T := TX4) (N := 7) (ci := 4) (v := .ref hn) X hE hP 0 rfl rfl iX4 0 (by decide) w_69 rfl dX4_pushPlace_15 ?_
  refine lv_iconst (v := 4) hx hb dX4_pushPlace_18 (by decide) ?_
  obtain ⟨k_14, hk_14, ek_14⟩ := hf_11.at 4 4096 (by decide) rfl
  refine k_ald (v := nI k_14) X hE hP 2 rfl 4 rfl (by decide) (by decide) ek_14 dX4_pushPlace_19 ?_
  refine lv_sipush (v := 255) hx hb dX4_pushPlace_20 (by decide) ?_
  refine lv_iand hx hb dX4_pushPlace_23 ?_
  obtain ⟨k_15, hk_15, ek_15⟩ := pk_andE (nI k_14) (m := 255) 8 (by decide)
  have hk_15 : k_15 < 256 := hk_15
  refine tk (y := nI k_15) ek_15 ?_
  refine kVv (n3 := 1) (As := [.int (nI k_15)]) (rest := []) X hl.1 hE hP hD hS hA [(h0, .inr (4, [.ref hn, .ref hs, .ref hd, .ref hp, .ref hc, .int wy2_2, .int dn2_3])), (hp, .inr (3, [.ref he, .int (nI la2_4), .int (nI ke2_5)])), (hn, .inl (cA, 34, .inl f2_6)), (hs, .inl (cA, 4096, .inl st2_7)), (he, .inl (cA, 10752, .inl en2_8))] [] [0, 1, 2, 3, 4] [] rfl rfl rfl (by decide +kernel) (by decide +kernel) (by decide +kernel) (c_s_push l D cA cB h0 hn hs hd hp hc he wy2_2 dn2_3 la2_4 ke2_5 f2_6 st2_7 en2_8 k_15 (by first | assumption | decide | rfl | omega) (by first | assumption | decide | rfl | omega) hf_11 hf_12 hf_13 (by first | assumption | decide | rfl | omega)) w_168 w_66 w_167 w_169 w_170 0 (ci := 4) (T := TX4) (N := 7) rfl rfl (by decide +kernel) rfl rfl (Nat.le_of_ble_eq_true rfl) ⟨(Nat.le_of_ble_eq_true rfl), (Nat.le_of_ble_eq_true rfl)⟩ ⟨(Nat.le_of_ble_eq_true rfl), (Nat.le_of_ble_eq_true rfl)⟩ dX4_pushPlace_24 (fun W1 H locs hw hP hD hS => ?_)
  obtain ⟨wy2_16, dn2_17, la2_18, ke2_19, f2_20, st2_21, en2_22, hf_23, hf_24, hf_25, hf_26, hf_27, rfl⟩ := hw
  have hP : va_P D classes [(h0, .inr (4, [.ref hn, .ref hs, .ref hd, .ref hp, .ref hc, .int wy2_16, .int dn2_17])), (hp, .inr (3, [.ref he, .int (nI la2_18), .int (nI ke2_19)])), (hn, .inl (cA, 34, .inl f2_20)), (hs, .inl (cA, 4096, .inl st2_21)), (he, .inl (cA, 10752, .inl en2_22))] H := hP
  have hD : va_D A [(h0, .inr (4, [.ref hn, .ref hs, .ref hd, .ref hp, .ref hc, .int wy2_16, .int dn2_17])), (hp, .inr (3, [.ref he, .int (nI la2_18), .int (nI ke2_19)])), (hn, .inl (cA, 34, .inl f2_20)), (hs, .inl (cA, 4096, .inl st2_21)), (he, .inl (cA, 10752, .inl en2_22))] := hD
  exact endV X hr hlocks hP hD hS dX4_pushPlace_27 ⟨wy2_16, dn2_17, la2_18, ke2_19, f2_20, st2_21, en2_22, (by omega), (by omega), hf_25, hf_26, hf_27, rfl⟩
set_option maxHeartbeats 4000000 in
set_option maxRecDepth 100000 in
theorem c_s_enter (l : Launch) (D : va_G) (cA cB : ClassId) (h0 : Nat) (hn : Nat) (hs : Nat) (hd : Nat) (hp : Nat) (hc : Nat) (he : Nat) (wy : Int32) (dn : Int32) (la : Nat) (ke : Nat) (f : Nat → Int32) (st : Nat → Int32) (en : Nat → Int32) (x : Int32) (hla : la < 256) (hke : ke < 257) (hf : okN f) (hst : ∀ j, j < 4096 → ∃ k : Nat, k < 256 ∧ st j = nI k) (hen : okE en) : CV l yX4_enter cX4_enter 2 none 2 46 0 0 D cA cB [.ref h0, .int x] [(h0, .inr (4, [.ref hn, .ref hs, .ref hd, .ref hp, .ref hc, .int wy, .int dn])), (hp, .inr (3, [.ref he, .int (nI la), .int (nI ke)])), (hn, .inl (cA, 34, .inl f)), (hs, .inl (cA, 4096, .inl st)), (he, .inl (cA, 10752, .inl en))] (fun W1 => ∃ (wy2 : Int32) (dn2 : Int32) (la2 : Nat) (ke2 : Nat) (f2 : Nat → Int32) (st2 : Nat → Int32) (en2 : Nat → Int32), (la2 < 256) ∧ (ke2 < 257) ∧ (okN f2) ∧ (∀ j, j < 4096 → ∃ k : Nat, k < 256 ∧ st2 j = nI k) ∧ (okE en2) ∧ W1 = [(h0, .inr (4, [.ref hn, .ref hs, .ref hd, .ref hp, .ref hc, .int wy2, .int dn2])), (hp, .inr (3, [.ref he, .int (nI la2), .int (nI ke2)])), (hn, .inl (cA, 34, .inl f2)), (hs, .inl (cA, 4096, .inl st2)), (he, .inl (cA, 10752, .inl en2))]) := by
  refine mkV (lv0 := [(0, .ref h0), (1, .int x)]) (by decide) (Nat.le_of_ble_eq_true rfl) rfl ?_
  intro p e s m below meth c A ls X hr hlocks hnm hE hA hP hD hS hl
  have hx := X.1
  have hb := X.2.1
  refine lv_aload_n hx hb dX4_enter_0 rfl (lv_at hl 0 rfl) ?_
  refine lv_aload_n hx hb dX4_enter_1 rfl (lv_at hl 0 rfl) ?_
  refine k_get (C := RX4) (T := TX4) (N := 7) (ci := 4) (v := .ref hn) X hE hP 0 rfl rfl iX4 0 (by decide) w_69 rfl dX4_enter_2 ?_
  refine lv_iconst (v := 4) hx hb dX4_enter_5 (by decide) ?_
  obtain ⟨k_1, hk_1, ek_1⟩ := hf.at 4 4096 (by decide) rfl
  refine k_ald (v := nI k_1) X hE hP 2 rfl 4 rfl (by decide) (by decide) ek_1 dX4_enter_6 ?_
  refine lv_bipush (v := 8) hx hb dX4_enter_7 (by decide) ?_
  refine lv_ishr hx hb dX4_enter_9 ?_
  refine tk (y := nI (k_1 / 256)) (pk_shrN (n := k_1) (by omega) _ 8 (by decide)) ?_
  refine kVv (n3 := 1) (As := [.int (nI (k_1 / 256))]) (rest := []) X hl.1 hE hP hD hS hA [(h0, .inr (4, [.ref hn, .ref hs, .ref hd, .ref hp, .ref hc, .int wy, .int dn])), (hp, .inr (3, [.ref he, .int (nI la), .int (nI ke)])), (hn, .inl (cA, 34, .inl f)), (hs, .inl (cA, 4096, .inl st)), (he, .inl (cA, 10752, .inl en))] [] [0, 1, 2, 3, 4] [] rfl rfl rfl (by decide +kernel) (by decide +kernel) (by decide +kernel) (c_s_push l D cA cB h0 hn hs hd hp hc he wy dn la ke f st en (k_1 / 256) (by first | assumption | decide | rfl | omega) (by first | assumption | decide | rfl | omega) hf hst hen (by first | assumption | decide | rfl | omega)) w_168 w_66 w_167 w_169 w_170 0 (ci := 4) (T := TX4) (N := 7) rfl rfl (by decide +kernel) rfl rfl (Nat.le_of_ble_eq_true rfl) ⟨(Nat.le_of_ble_eq_true rfl), (Nat.le_of_ble_eq_true rfl)⟩ ⟨(Nat.le_of_ble_eq_true rfl), (Nat.le_of_ble_eq_true rfl)⟩ dX4_enter_10 (fun W1 H locs hw hP hD hS => ?_)
  obtain ⟨wy2_2, dn2_3, la2_4, ke2_5, f2_6, st2_7, en2_8, hf_9, hf_10, hf_11, hf_12, hf_13, rfl⟩ := hw
  have hP : va_P D classes [(h0, .inr (4, [.ref hn, .ref hs, .ref hd, .ref hp, .ref hc, .int wy2_2, .int dn2_3])), (hp, .inr (3, [.ref he, .int (nI la2_4), .int (nI ke2_5)])), (hn, .inl (cA, 34, .inl f2_6)), (hs, .inl (cA, 4096, .inl st2_7)), (he, .inl (cA, 10752, .inl en2_8))] H := hP
  have hD : va_D A [(h0, .inr (4, [.ref hn, .ref hs, .ref hd, .ref hp, .ref hc, .int wy2_2, .int dn2_3])), (hp, .inr (3, [.ref he, .int (nI la2_4), .int (nI ke2_5)])), (hn, .inl (cA, 34, .inl f2_6)), (hs, .inl (cA, 4096, .inl st2_7)), (he, .inl (cA, 10752, .inl en2_8))] := hD
  refine lv_aload_n hx hb dX4_enter_13 rfl (lv_at hl 0 rfl) ?_
  refine lv_aload_n hx hb dX4_enter_14 rfl (lv_at hl 0 rfl) ?_
  refine k_get (C := RX4) (T := TX4) (N := 7) (ci := 4) (v := .ref hn) X hE hP 0 rfl rfl iX4 0 (by decide) w_69 rfl dX4_enter_15 ?_
  refine lv_iconst (v := 4) hx hb dX4_enter_18 (by decide) ?_
  obtain ⟨k_14, hk_14, ek_14⟩ := hf_11.at 4 4096 (by decide) rfl
  refine k_ald (v := nI k_14) X hE hP 2 rfl 4 rfl (by decide) (by decide) ek_14 dX4_enter_19 ?_
  refine lv_sipush (v := 255) hx hb dX4_enter_20 (by decide) ?_
  refine lv_iand hx hb dX4_enter_23 ?_
  obtain ⟨k_15, hk_15, ek_15⟩ := pk_andE (nI k_14) (m := 255) 8 (by decide)
  have hk_15 : k_15 < 256 := hk_15
  refine tk (y := nI k_15) ek_15 ?_
  refine kVv (n3 := 1) (As := [.int (nI k_15)]) (rest := []) X hl.1 hE hP hD hS hA [(h0, .inr (4, [.ref hn, .ref hs, .ref hd, .ref hp, .ref hc, .int wy2_2, .int dn2_3])), (hp, .inr (3, [.ref he, .int (nI la2_4), .int (nI ke2_5)])), (hn, .inl (cA, 34, .inl f2_6)), (hs, .inl (cA, 4096, .inl st2_7)), (he, .inl (cA, 10752, .inl en2_8))] [] [0, 1, 2, 3, 4] [] rfl rfl rfl (by decide +kernel) (by decide +kernel) (by decide +kernel) (c_s_push l D cA cB h0 hn hs hd hp hc he wy2_2 dn2_3 la2_4 ke2_5 f2_6 st2_7 en2_8 k_15 (by first | assumption | decide | rfl | omega) (by first | assumption | decide | rfl | omega) hf_11 hf_12 hf_13 (by first | assumption | decide | rfl | omega)) w_168 w_66 w_167 w_169 w_170 0 (ci := 4) (T := TX4) (N := 7) rfl rfl (by decide +kernel) rfl rfl (Nat.le_of_ble_eq_true rfl) ⟨(Nat.le_of_ble_eq_true rfl), (Nat.le_of_ble_eq_true rfl)⟩ ⟨(Nat.le_of_ble_eq_true rfl), (Nat.le_of_ble_eq_true rfl)⟩ dX4_enter_24 (fun W1 H locs hw hP hD hS => ?_)
  obtain ⟨wy2_16, dn2_17, la2_18, ke2_19, f2_20, st2_21, en2_22, hf_23, hf_24, hf_25, hf_26, hf_27, rfl⟩ := hw
  have hP : va_P D classes [(h0, .inr (4, [.ref hn, .ref hs, .ref hd, .ref hp, .ref hc, .int wy2_16, .int dn2_17])), (hp, .inr (3, [.ref he, .int (nI la2_18), .int (nI ke2_19)])), (hn, .inl (cA, 34, .inl f2_20)), (hs, .inl (cA, 4096, .inl st2_21)), (he, .inl (cA, 10752, .inl en2_22))] H := hP
  have hD : va_D A [(h0, .inr (4, [.ref hn, .ref hs, .ref hd, .ref hp, .ref hc, .int wy2_16, .int dn2_17])), (hp, .inr (3, [.ref he, .int (nI la2_18), .int (nI ke2_19)])), (hn, .inl (cA, 34, .inl f2_20)), (hs, .inl (cA, 4096, .inl st2_21)), (he, .inl (cA, 10752, .inl en2_22))] := hD
  refine lv_aload_n hx hb dX4_enter_27 rfl (lv_at hl 0 rfl) ?_
  refine lv_aload_n hx hb dX4_enter_28 rfl (lv_at hl 0 rfl) ?_
  refine k_get (C := RX4) (T := TX4) (N := 7) (ci := 4) (v := .ref hn) X hE hP 0 rfl rfl iX4 0 (by decide) w_69 rfl dX4_enter_29 ?_
  refine lv_iconst (v := 5) hx hb dX4_enter_32 (by decide) ?_
  obtain ⟨k_28, hk_28, ek_28⟩ := hf_25.at 5 256 (by decide) rfl
  refine k_ald (v := nI k_28) X hE hP 2 rfl 5 rfl (by decide) (by decide) ek_28 dX4_enter_33 ?_
  refine kVv (n3 := 1) (As := [.int (nI k_28)]) (rest := []) X hl.1 hE hP hD hS hA [(h0, .inr (4, [.ref hn, .ref hs, .ref hd, .ref hp, .ref hc, .int wy2_16, .int dn2_17])), (hp, .inr (3, [.ref he, .int (nI la2_18), .int (nI ke2_19)])), (hn, .inl (cA, 34, .inl f2_20)), (hs, .inl (cA, 4096, .inl st2_21)), (he, .inl (cA, 10752, .inl en2_22))] [] [0, 1, 2, 3, 4] [] rfl rfl rfl (by decide +kernel) (by decide +kernel) (by decide +kernel) (c_s_push l D cA cB h0 hn hs hd hp hc he wy2_16 dn2_17 la2_18 ke2_19 f2_20 st2_21 en2_22 k_28 (by first | assumption | decide | rfl | omega) (by first | assumption | decide | rfl | omega) hf_25 hf_26 hf_27 (by first | assumption | decide | rfl | omega)) w_168 w_66 w_167 w_169 w_170 0 (ci := 4) (T := TX4) (N := 7) rfl rfl (by decide +kernel) rfl rfl (Nat.le_of_ble_eq_true rfl) ⟨(Nat.le_of_ble_eq_true rfl), (Nat.le_of_ble_eq_true rfl)⟩ ⟨(Nat.le_of_ble_eq_true rfl), (Nat.le_of_ble_eq_true rfl)⟩ dX4_enter_34 (fun W1 H locs hw hP hD hS => ?_)
  obtain ⟨wy2_29, dn2_30, la2_31, ke2_32, f2_33, st2_34, en2_35, hf_36, hf_37, hf_38, hf_39, hf_40, rfl⟩ := hw
  have hP : va_P D classes [(h0, .inr (4, [.ref hn, .ref hs, .ref hd, .ref hp, .ref hc, .int wy2_29, .int dn2_30])), (hp, .inr (3, [.ref he, .int (nI la2_31), .int (nI ke2_32)])), (hn, .inl (cA, 34, .inl f2_33)), (hs, .inl (cA, 4096, .inl st2_34)), (he, .inl (cA, 10752, .inl en2_35))] H := hP
  have hD : va_D A [(h0, .inr (4, [.ref hn, .ref hs, .ref hd, .ref hp, .ref hc, .int wy2_29, .int dn2_30])), (hp, .inr (3, [.ref he, .int (nI la2_31), .int (nI ke2_32)])), (hn, .inl (cA, 34, .inl f2_33)), (hs, .inl (cA, 4096, .inl st2_34)), (he, .inl (cA, 10752, .inl en2_35))] := hD
  refine lv_aload_n hx hb dX4_enter_37 rfl (lv_at hl 0 rfl) ?_
  refine k_get (C := RX4) (T := TX4) (N := 7) (ci := 4) (v := .ref hn) X hE hP 0 rfl rfl iX4 0 (by decide) w_69 rfl dX4_enter_38 ?_
  refine lv_iconst (v := 5) hx hb dX4_enter_41 (by decide) ?_
  refine lv_dup2_11 hx hb dX4_enter_42 rfl rfl ?_
  obtain ⟨k_41, hk_41, ek_41⟩ := hf_38.at 5 256 (by decide) rfl
  refine k_ald (v := nI k_41) X hE hP 2 rfl 5 rfl (by decide) (by decide) ek_41 dX4_enter_43 ?_
  refine lv_iconst (v := 4) hx hb dX4_enter_44 (by decide) ?_
  refine lv_ior hx hb dX4_enter_45 ?_
  obtain ⟨k_42, hk_42, ek_42⟩ := sf_or (a := k_41) (b := 4) 8 256 rfl (by decide) (by omega) (by omega)
  have hk_42 : k_42 < 256 := hk_42
  refine tk (y := nI k_42) ek_42 ?_
  refine k_ast X hE hP hD hS 2 rfl 5 rfl (by decide) (by decide) [(h0, .inr (4, [.ref hn, .ref hs, .ref hd, .ref hp, .ref hc, .int wy2_29, .int dn2_30])), (hp, .inr (3, [.ref he, .int (nI la2_31), .int (nI ke2_32)])), (hn, .inl (cA, 34, .inl (upd f2_33 5 (nI k_42)))), (hs, .inl (cA, 4096, .inl st2_34)), (he, .inl (cA, 10752, .inl en2_35))] rfl dX4_enter_46 (fun H locs hP hD hS => ?_)
  obtain ⟨g_43, eg_43⟩ : ∃ z, z = upd f2_33 5 (nI k_42) := ⟨_, rfl⟩
  rw [← eg_43] at hP hD
  have hg_43 := okN_upd hf_38 5 (nI k_42) (inR_of (k := k_42) rfl (by omega))
  rw [← eg_43] at hg_43
  have hP : va_P D classes [(h0, .inr (4, [.ref hn, .ref hs, .ref hd, .ref hp, .ref hc, .int wy2_29, .int dn2_30])), (hp, .inr (3, [.ref he, .int (nI la2_31), .int (nI ke2_32)])), (hn, .inl (cA, 34, .inl g_43)), (hs, .inl (cA, 4096, .inl st2_34)), (he, .inl (cA, 10752, .inl en2_35))] H := hP
  have hD : va_D A [(h0, .inr (4, [.ref hn, .ref hs, .ref hd, .ref hp, .ref hc, .int wy2_29, .int dn2_30])), (hp, .inr (3, [.ref he, .int (nI la2_31), .int (nI ke2_32)])), (hn, .inl (cA, 34, .inl g_43)), (hs, .inl (cA, 4096, .inl st2_34)), (he, .inl (cA, 10752, .inl en2_35))] := hD
  refine lv_aload_n hx hb dX4_enter_47 rfl (lv_at hl 0 rfl) ?_
  refine k_get (C := RX4) (T := TX4) (N := 7) (ci := 4) (v := .ref hn) X hE hP 0 rfl rfl iX4 0 (by decide) w_69 rfl dX4_enter_48 ?_
  refine lv_iconst (v := 4) hx hb dX4_enter_51 (by decide) ?_
  refine lv_aload_n hx hb dX4_enter_52 rfl (lv_at hl 0 rfl) ?_
  refine lv_iload_n hx hb dX4_enter_53 rfl (lv_at hl 1 rfl) ?_
  refine kVi (n3 := 1) (As := [.int x]) (rest := [.int 4, .ref hn]) X hl.1 hE hP hD hS hA [(h0, .inr (4, [.ref hn, .ref hs, .ref hd, .ref hp, .ref hc, .int wy2_29, .int dn2_30])), (hn, .inl (cA, 34, .inl g_43)), (hs, .inl (cA, 4096, .inl st2_34))] [(hp, .inr (3, [.ref he, .int (nI la2_31), .int (nI ke2_32)])), (he, .inl (cA, 10752, .inl en2_35))] [0, 2, 3] [1, 4] rfl rfl rfl (by decide +kernel) (by decide +kernel) (by decide +kernel) (c_s_placeAt l D cA cB h0 hn hs hd hp hc wy2_29 dn2_30 g_43 st2_34 x hg_43 hf_39) w_83 w_66 w_82 w_84 w_85 0 (ci := 4) (T := TX4) (N := 7) rfl rfl (by decide +kernel) rfl rfl (Nat.le_of_ble_eq_true rfl) ⟨(Nat.le_of_ble_eq_true rfl), (Nat.le_of_ble_eq_true rfl)⟩ ⟨(Nat.le_of_ble_eq_true rfl), (Nat.le_of_ble_eq_true rfl)⟩ dX4_enter_54 (fun r W1 H locs hw hP hD hS => ?_)
  obtain ⟨wy2_44, dn2_45, f2_46, st2_47, rk_48, rfl, hf_49, hf_50, hf_51, rfl⟩ := hw
  have hP : va_P D classes [(hp, .inr (3, [.ref he, .int (nI la2_31), .int (nI ke2_32)])), (he, .inl (cA, 10752, .inl en2_35)), (h0, .inr (4, [.ref hn, .ref hs, .ref hd, .ref hp, .ref hc, .int wy2_44, .int dn2_45])), (hn, .inl (cA, 34, .inl f2_46)), (hs, .inl (cA, 4096, .inl st2_47))] H := hP
  have hD : va_D A [(hp, .inr (3, [.ref he, .int (nI la2_31), .int (nI ke2_32)])), (he, .inl (cA, 10752, .inl en2_35)), (h0, .inr (4, [.ref hn, .ref hs, .ref hd, .ref hp, .ref hc, .int wy2_44, .int dn2_45])), (hn, .inl (cA, 34, .inl f2_46)), (hs, .inl (cA, 4096, .inl st2_47))] := hD
  refine k_ast X hE hP hD hS 3 rfl 4 rfl (by decide) (by decide) [(hp, .inr (3, [.ref he, .int (nI la2_31), .int (nI ke2_32)])), (he, .inl (cA, 10752, .inl en2_35)), (h0, .inr (4, [.ref hn, .ref hs, .ref hd, .ref hp, .ref hc, .int wy2_44, .int dn2_45])), (hn, .inl (cA, 34, .inl (upd f2_46 4 (nI rk_48)))), (hs, .inl (cA, 4096, .inl st2_47))] rfl dX4_enter_57 (fun H locs hP hD hS => ?_)
  obtain ⟨g_52, eg_52⟩ : ∃ z, z = upd f2_46 4 (nI rk_48) := ⟨_, rfl⟩
  rw [← eg_52] at hP hD
  have hg_52 := okN_upd hf_49 4 (nI rk_48) (inR_of (k := rk_48) rfl (by omega))
  rw [← eg_52] at hg_52
  have hP : va_P D classes [(hp, .inr (3, [.ref he, .int (nI la2_31), .int (nI ke2_32)])), (he, .inl (cA, 10752, .inl en2_35)), (h0, .inr (4, [.ref hn, .ref hs, .ref hd, .ref hp, .ref hc, .int wy2_44, .int dn2_45])), (hn, .inl (cA, 34, .inl g_52)), (hs, .inl (cA, 4096, .inl st2_47))] H := hP
  have hD : va_D A [(hp, .inr (3, [.ref he, .int (nI la2_31), .int (nI ke2_32)])), (he, .inl (cA, 10752, .inl en2_35)), (h0, .inr (4, [.ref hn, .ref hs, .ref hd, .ref hp, .ref hc, .int wy2_44, .int dn2_45])), (hn, .inl (cA, 34, .inl g_52)), (hs, .inl (cA, 4096, .inl st2_47))] := hD
  have hP : va_P D classes [(h0, .inr (4, [.ref hn, .ref hs, .ref hd, .ref hp, .ref hc, .int wy2_44, .int dn2_45])), (hp, .inr (3, [.ref he, .int (nI la2_31), .int (nI ke2_32)])), (hn, .inl (cA, 34, .inl g_52)), (hs, .inl (cA, 4096, .inl st2_47)), (he, .inl (cA, 10752, .inl en2_35))] _ := hP.sub [2, 0, 3, 4, 1] rfl
  have hD : va_D A [(h0, .inr (4, [.ref hn, .ref hs, .ref hd, .ref hp, .ref hc, .int wy2_44, .int dn2_45])), (hp, .inr (3, [.ref he, .int (nI la2_31), .int (nI ke2_32)])), (hn, .inl (cA, 34, .inl g_52)), (hs, .inl (cA, 4096, .inl st2_47)), (he, .inl (cA, 10752, .inl en2_35))] := hD.sub [2, 0, 3, 4, 1] (by decide) rfl
  exact endV X hr hlocks hP hD hS dX4_enter_58 ⟨wy2_44, dn2_45, la2_31, ke2_32, g_52, st2_47, en2_35, (by omega), (by omega), hg_52, hf_50, hf_40, rfl⟩
set_option maxHeartbeats 4000000 in
set_option maxRecDepth 100000 in
theorem c_s_interrupt (l : Launch) (D : va_G) (cA cB : ClassId) (h0 : Nat) (hn : Nat) (hs : Nat) (hd : Nat) (hp : Nat) (hc : Nat) (he : Nat) (wy : Int32) (dn : Int32) (la : Nat) (ke : Nat) (f : Nat → Int32) (st : Nat → Int32) (en : Nat → Int32) (hla : la < 256) (hke : ke < 257) (hf : okN f) (hst : ∀ j, j < 4096 → ∃ k : Nat, k < 256 ∧ st j = nI k) (hen : okE en) : CI l yX4_interrupt cX4_interrupt 1 (some .int) 3 67 0 0 D cA cB [.ref h0] [(h0, .inr (4, [.ref hn, .ref hs, .ref hd, .ref hp, .ref hc, .int wy, .int dn])), (hp, .inr (3, [.ref he, .int (nI la), .int (nI ke)])), (hn, .inl (cA, 34, .inl f)), (hs, .inl (cA, 4096, .inl st)), (he, .inl (cA, 10752, .inl en))] (fun r W1 => ∃ (wy2 : Int32) (dn2 : Int32) (la2 : Nat) (ke2 : Nat) (f2 : Nat → Int32) (st2 : Nat → Int32) (en2 : Nat → Int32) (rk : Nat), r = nI rk ∧ (la2 < 256) ∧ (ke2 < 257) ∧ (okN f2) ∧ (∀ j, j < 4096 → ∃ k : Nat, k < 256 ∧ st2 j = nI k) ∧ (okE en2) ∧ (rk < 1000) ∧ W1 = [(h0, .inr (4, [.ref hn, .ref hs, .ref hd, .ref hp, .ref hc, .int wy2, .int dn2])), (hp, .inr (3, [.ref he, .int (nI la2), .int (nI ke2)])), (hn, .inl (cA, 34, .inl f2)), (hs, .inl (cA, 4096, .inl st2)), (he, .inl (cA, 10752, .inl en2))]) := by
  refine mkI (lv0 := [(0, .ref h0)]) (by decide) (Nat.le_of_ble_eq_true rfl) rfl ?_
  intro p e s m below meth c A ls X hr hlocks hnm hE hA hP hD hS hl
  have hx := X.1
  have hb := X.2.1
  refine lv_aload_n hx hb dX4_interrupt_0 rfl (lv_at hl 0 rfl) ?_
  refine lv_sipush (v := 4076) hx hb dX4_interrupt_1 (by decide) ?_
  refine kVv (n3 := 1) (As := [.int 4076]) (rest := []) X hl.1 hE hP hD hS hA [(h0, .inr (4, [.ref hn, .ref hs, .ref hd, .ref hp, .ref hc, .int wy, .int dn])), (hp, .inr (3, [.ref he, .int (nI la), .int (nI ke)])), (hn, .inl (cA, 34, .inl f)), (hs, .inl (cA, 4096, .inl st)), (he, .inl (cA, 10752, .inl en))] [] [0, 1, 2, 3, 4] [] rfl rfl rfl (by decide +kernel) (by decide +kernel) (by decide +kernel) (c_s_enter l D cA cB h0 hn hs hd hp hc he wy dn la ke f st en 4076 (by first | assumption | decide | rfl | omega) (by first | assumption | decide | rfl | omega) hf hst hen) w_172 w_66 w_171 w_173 w_174 0 (ci := 4) (T := TX4) (N := 7) rfl rfl (by decide +kernel) rfl rfl (Nat.le_of_ble_eq_true rfl) ⟨(Nat.le_of_ble_eq_true rfl), (Nat.le_of_ble_eq_true rfl)⟩ ⟨(Nat.le_of_ble_eq_true rfl), (Nat.le_of_ble_eq_true rfl)⟩ dX4_interrupt_4 (fun W1 H locs hw hP hD hS => ?_)
  obtain ⟨wy2_1, dn2_2, la2_3, ke2_4, f2_5, st2_6, en2_7, hf_8, hf_9, hf_10, hf_11, hf_12, rfl⟩ := hw
  have hP : va_P D classes [(h0, .inr (4, [.ref hn, .ref hs, .ref hd, .ref hp, .ref hc, .int wy2_1, .int dn2_2])), (hp, .inr (3, [.ref he, .int (nI la2_3), .int (nI ke2_4)])), (hn, .inl (cA, 34, .inl f2_5)), (hs, .inl (cA, 4096, .inl st2_6)), (he, .inl (cA, 10752, .inl en2_7))] H := hP
  have hD : va_D A [(h0, .inr (4, [.ref hn, .ref hs, .ref hd, .ref hp, .ref hc, .int wy2_1, .int dn2_2])), (hp, .inr (3, [.ref he, .int (nI la2_3), .int (nI ke2_4)])), (hn, .inl (cA, 34, .inl f2_5)), (hs, .inl (cA, 4096, .inl st2_6)), (he, .inl (cA, 10752, .inl en2_7))] := hD
  refine lv_bipush (v := 7) hx hb dX4_interrupt_7 (by decide) ?_
  exact endI X hr hlocks hP hD hS dX4_interrupt_9 ⟨wy2_1, dn2_2, la2_3, ke2_4, f2_5, st2_6, en2_7, 7, rfl, (by omega), (by omega), hf_10, hf_11, hf_12, (by omega), rfl⟩
set_option maxHeartbeats 4000000 in
set_option maxRecDepth 100000 in
theorem c_s_useStack (l : Launch) (D : va_G) (cA cB : ClassId) (h0 : Nat) (hn : Nat) (hs : Nat) (hd : Nat) (hp : Nat) (hc : Nat) (he : Nat) (wy : Int32) (dn : Int32) (la : Nat) (ke : Nat) (f : Nat → Int32) (st : Nat → Int32) (en : Nat → Int32) (o : Nat) (hla : la < 256) (hke : ke < 257) (hf : okN f) (hst : ∀ j, j < 4096 → ∃ k : Nat, k < 256 ∧ st j = nI k) (hen : okE en) (ho : o < 256) : CV l yX4_useStack cX4_useStack 2 none 2 46 0 0 D cA cB [.ref h0, .int (nI o)] [(h0, .inr (4, [.ref hn, .ref hs, .ref hd, .ref hp, .ref hc, .int wy, .int dn])), (hp, .inr (3, [.ref he, .int (nI la), .int (nI ke)])), (hn, .inl (cA, 34, .inl f)), (hs, .inl (cA, 4096, .inl st)), (he, .inl (cA, 10752, .inl en))] (fun W1 => ∃ (wy2 : Int32) (dn2 : Int32) (la2 : Nat) (ke2 : Nat) (f2 : Nat → Int32) (st2 : Nat → Int32) (en2 : Nat → Int32), (la2 < 256) ∧ (ke2 < 257) ∧ (okN f2) ∧ (∀ j, j < 4096 → ∃ k : Nat, k < 256 ∧ st2 j = nI k) ∧ (okE en2) ∧ W1 = [(h0, .inr (4, [.ref hn, .ref hs, .ref hd, .ref hp, .ref hc, .int wy2, .int dn2])), (hp, .inr (3, [.ref he, .int (nI la2), .int (nI ke2)])), (hn, .inl (cA, 34, .inl f2)), (hs, .inl (cA, 4096, .inl st2)), (he, .inl (cA, 10752, .inl en2))]) := by
  refine mkV (lv0 := [(0, .ref h0), (1, .int (nI o))]) (by decide) (Nat.le_of_ble_eq_true rfl) rfl ?_
  intro p e s m below meth c A ls X hr hlocks hnm hE hA hP hD hS hl
  have hx := X.1
  have hb := X.2.1
  refine lv_iload_n hx hb dX4_useStack_0 rfl (lv_at hl 1 rfl) ?_
  by_cases c_1_1 : (nI o) = 10
  · refine lv_tableIn (tgt := 44) (off := 43) hx hb dX4_useStack_1 (by rw [c_1_1]; decide) (by rw [c_1_1]; decide) (by rw [c_1_1]; decide) (by decide) ?_
    refine lv_aload_n hx hb dX4_useStack_44 rfl (lv_at hl 0 rfl) ?_
    refine lv_aload_n hx hb dX4_useStack_45 rfl (lv_at hl 0 rfl) ?_
    refine k_get (C := RX4) (T := TX4) (N := 7) (ci := 4) (v := .ref hn) X hE hP 0 rfl rfl iX4 0 (by decide) w_69 rfl dX4_useStack_46 ?_
    refine lv_iconst (v := 0) hx hb dX4_useStack_49 (by decide) ?_
    obtain ⟨k_2, hk_2, ek_2⟩ := hf.at 0 256 (by decide) rfl
    refine k_ald (v := nI k_2) X hE hP 2 rfl 0 rfl (by decide) (by decide) ek_2 dX4_useStack_50 ?_
    refine kVv (n3 := 1) (As := [.int (nI k_2)]) (rest := []) X hl.1 hE hP hD hS hA [(h0, .inr (4, [.ref hn, .ref hs, .ref hd, .ref hp, .ref hc, .int wy, .int dn])), (hp, .inr (3, [.ref he, .int (nI la), .int (nI ke)])), (hn, .inl (cA, 34, .inl f)), (hs, .inl (cA, 4096, .inl st)), (he, .inl (cA, 10752, .inl en))] [] [0, 1, 2, 3, 4] [] rfl rfl rfl (by decide +kernel) (by decide +kernel) (by decide +kernel) (c_s_push l D cA cB h0 hn hs hd hp hc he wy dn la ke f st en k_2 (by first | assumption | decide | rfl | omega) (by first | assumption | decide | rfl | omega) hf hst hen (by first | assumption | decide | rfl | omega)) w_168 w_66 w_167 w_169 w_170 0 (ci := 4) (T := TX4) (N := 7) rfl rfl (by decide +kernel) rfl rfl (Nat.le_of_ble_eq_true rfl) ⟨(Nat.le_of_ble_eq_true rfl), (Nat.le_of_ble_eq_true rfl)⟩ ⟨(Nat.le_of_ble_eq_true rfl), (Nat.le_of_ble_eq_true rfl)⟩ dX4_useStack_51 (fun W1 H locs hw hP hD hS => ?_)
    obtain ⟨wy2_3, dn2_4, la2_5, ke2_6, f2_7, st2_8, en2_9, hf_10, hf_11, hf_12, hf_13, hf_14, rfl⟩ := hw
    have hP : va_P D classes [(h0, .inr (4, [.ref hn, .ref hs, .ref hd, .ref hp, .ref hc, .int wy2_3, .int dn2_4])), (hp, .inr (3, [.ref he, .int (nI la2_5), .int (nI ke2_6)])), (hn, .inl (cA, 34, .inl f2_7)), (hs, .inl (cA, 4096, .inl st2_8)), (he, .inl (cA, 10752, .inl en2_9))] H := hP
    have hD : va_D A [(h0, .inr (4, [.ref hn, .ref hs, .ref hd, .ref hp, .ref hc, .int wy2_3, .int dn2_4])), (hp, .inr (3, [.ref he, .int (nI la2_5), .int (nI ke2_6)])), (hn, .inl (cA, 34, .inl f2_7)), (hs, .inl (cA, 4096, .inl st2_8)), (he, .inl (cA, 10752, .inl en2_9))] := hD
    refine lv_goto (tgt := 146) hx hb dX4_useStack_54 (by decide) ?_
    exact endV X hr hlocks hP hD hS dX4_useStack_146 ⟨wy2_3, dn2_4, la2_5, ke2_6, f2_7, st2_8, en2_9, (by omega), (by omega), hf_12, hf_13, hf_14, rfl⟩
  · skip
    by_cases c_1_15 : (nI o) = 11
    · refine lv_tableIn (tgt := 57) (off := 56) hx hb dX4_useStack_1 (by rw [c_1_15]; decide) (by rw [c_1_15]; decide) (by rw [c_1_15]; decide) (by decide) ?_
      refine lv_aload_n hx hb dX4_useStack_57 rfl (lv_at hl 0 rfl) ?_
      refine lv_iconst (v := 0) hx hb dX4_useStack_58 (by decide) ?_
      refine lv_aload_n hx hb dX4_useStack_59 rfl (lv_at hl 0 rfl) ?_
      refine kVi (n3 := 0) (As := []) (rest := [.int 0, .ref h0]) X hl.1 hE hP hD hS hA [(h0, .inr (4, [.ref hn, .ref hs, .ref hd, .ref hp, .ref hc, .int wy, .int dn])), (hn, .inl (cA, 34, .inl f)), (hs, .inl (cA, 4096, .inl st))] [(hp, .inr (3, [.ref he, .int (nI la), .int (nI ke)])), (he, .inl (cA, 10752, .inl en))] [0, 2, 3] [1, 4] rfl rfl rfl (by decide +kernel) (by decide +kernel) (by decide +kernel) (c_s_pull l D cA cB h0 hn hs hd hp hc wy dn f st hf hst) w_122 w_66 w_121 w_123 w_124 0 (ci := 4) (T := TX4) (N := 7) rfl rfl (by decide +kernel) rfl rfl (Nat.le_of_ble_eq_true rfl) ⟨(Nat.le_of_ble_eq_true rfl), (Nat.le_of_ble_eq_true rfl)⟩ ⟨(Nat.le_of_ble_eq_true rfl), (Nat.le_of_ble_eq_true rfl)⟩ dX4_useStack_60 (fun r W1 H locs hw hP hD hS => ?_)
      obtain ⟨wy2_16, dn2_17, f2_18, st2_19, rk_20, rfl, hf_21, hf_22, hf_23, rfl⟩ := hw
      have hP : va_P D classes [(hp, .inr (3, [.ref he, .int (nI la), .int (nI ke)])), (he, .inl (cA, 10752, .inl en)), (h0, .inr (4, [.ref hn, .ref hs, .ref hd, .ref hp, .ref hc, .int wy2_16, .int dn2_17])), (hn, .inl (cA, 34, .inl f2_18)), (hs, .inl (cA, 4096, .inl st2_19))] H := hP
      have hD : va_D A [(hp, .inr (3, [.ref he, .int (nI la), .int (nI ke)])), (he, .inl (cA, 10752, .inl en)), (h0, .inr (4, [.ref hn, .ref hs, .ref hd, .ref hp, .ref hc, .int wy2_16, .int dn2_17])), (hn, .inl (cA, 34, .inl f2_18)), (hs, .inl (cA, 4096, .inl st2_19))] := hD
      refine kVv (n3 := 2) (As := [.int 0, .int (nI rk_20)]) (rest := []) X hl.1 hE hP hD hS hA [(h0, .inr (4, [.ref hn, .ref hs, .ref hd, .ref hp, .ref hc, .int wy2_16, .int dn2_17])), (hn, .inl (cA, 34, .inl f2_18))] [(hp, .inr (3, [.ref he, .int (nI la), .int (nI ke)])), (he, .inl (cA, 10752, .inl en)), (hs, .inl (cA, 4096, .inl st2_19))] [2, 3] [0, 1, 4] rfl rfl rfl (by decide +kernel) (by decide +kernel) (by decide +kernel) (c_s_set0 l D cA cB h0 hn hs hd hp hc wy2_16 dn2_17 f2_18 (nI rk_20) hf_21) w_99 w_66 w_98 w_100 w_101 0 (ci := 4) (T := TX4) (N := 7) rfl rfl (by decide +kernel) rfl rfl (Nat.le_of_ble_eq_true rfl) ⟨(Nat.le_of_ble_eq_true rfl), (Nat.le_of_ble_eq_true rfl)⟩ ⟨(Nat.le_of_ble_eq_true rfl), (Nat.le_of_ble_eq_true rfl)⟩ dX4_useStack_63 (fun W1 H locs hw hP hD hS => ?_)
      obtain ⟨wy2_24, dn2_25, f2_26, hf_27, rfl⟩ := hw
      have hP : va_P D classes [(hp, .inr (3, [.ref he, .int (nI la), .int (nI ke)])), (he, .inl (cA, 10752, .inl en)), (hs, .inl (cA, 4096, .inl st2_19)), (h0, .inr (4, [.ref hn, .ref hs, .ref hd, .ref hp, .ref hc, .int wy2_24, .int dn2_25])), (hn, .inl (cA, 34, .inl f2_26))] H := hP
      have hD : va_D A [(hp, .inr (3, [.ref he, .int (nI la), .int (nI ke)])), (he, .inl (cA, 10752, .inl en)), (hs, .inl (cA, 4096, .inl st2_19)), (h0, .inr (4, [.ref hn, .ref hs, .ref hd, .ref hp, .ref hc, .int wy2_24, .int dn2_25])), (hn, .inl (cA, 34, .inl f2_26))] := hD
      refine lv_goto (tgt := 146) hx hb dX4_useStack_66 (by decide) ?_
      have hP : va_P D classes [(h0, .inr (4, [.ref hn, .ref hs, .ref hd, .ref hp, .ref hc, .int wy2_24, .int dn2_25])), (hp, .inr (3, [.ref he, .int (nI la), .int (nI ke)])), (hn, .inl (cA, 34, .inl f2_26)), (hs, .inl (cA, 4096, .inl st2_19)), (he, .inl (cA, 10752, .inl en))] _ := hP.sub [3, 0, 4, 2, 1] rfl
      have hD : va_D A [(h0, .inr (4, [.ref hn, .ref hs, .ref hd, .ref hp, .ref hc, .int wy2_24, .int dn2_25])), (hp, .inr (3, [.ref he, .int (nI la), .int (nI ke)])), (hn, .inl (cA, 34, .inl f2_26)), (hs, .inl (cA, 4096, .inl st2_19)), (he, .inl (cA, 10752, .inl en))] := hD.sub [3, 0, 4, 2, 1] (by decide) rfl
      exact endV X hr hlocks hP hD hS dX4_useStack_146 ⟨wy2_24, dn2_25, la, ke, f2_26, st2_19, en, (by omega), (by omega), hf_27, hf_22, hen, rfl⟩
    · skip
      by_cases c_1_28 : (nI o) = 12
      · refine lv_tableIn (tgt := 69) (off := 68) hx hb dX4_useStack_1 (by rw [c_1_28]; decide) (by rw [c_1_28]; decide) (by rw [c_1_28]; decide) (by decide) ?_
        refine lv_aload_n hx hb dX4_useStack_69 rfl (lv_at hl 0 rfl) ?_
        refine lv_aload_n hx hb dX4_useStack_70 rfl (lv_at hl 0 rfl) ?_
        refine k_get (C := RX4) (T := TX4) (N := 7) (ci := 4) (v := .ref hn) X hE hP 0 rfl rfl iX4 0 (by decide) w_69 rfl dX4_useStack_71 ?_
        refine lv_iconst (v := 1) hx hb dX4_useStack_74 (by decide) ?_
        obtain ⟨k_29, hk_29, ek_29⟩ := hf.at 1 256 (by decide) rfl
        refine k_ald (v := nI k_29) X hE hP 2 rfl 1 rfl (by decide) (by decide) ek_29 dX4_useStack_75 ?_
        refine kVv (n3 := 1) (As := [.int (nI k_29)]) (rest := []) X hl.1 hE hP hD hS hA [(h0, .inr (4, [.ref hn, .ref hs, .ref hd, .ref hp, .ref hc, .int wy, .int dn])), (hp, .inr (3, [.ref he, .int (nI la), .int (nI ke)])), (hn, .inl (cA, 34, .inl f)), (hs, .inl (cA, 4096, .inl st)), (he, .inl (cA, 10752, .inl en))] [] [0, 1, 2, 3, 4] [] rfl rfl rfl (by decide +kernel) (by decide +kernel) (by decide +kernel) (c_s_push l D cA cB h0 hn hs hd hp hc he wy dn la ke f st en k_29 (by first | assumption | decide | rfl | omega) (by first | assumption | decide | rfl | omega) hf hst hen (by first | assumption | decide | rfl | omega)) w_168 w_66 w_167 w_169 w_170 0 (ci := 4) (T := TX4) (N := 7) rfl rfl (by decide +kernel) rfl rfl (Nat.le_of_ble_eq_true rfl) ⟨(Nat.le_of_ble_eq_true rfl), (Nat.le_of_ble_eq_true rfl)⟩ ⟨(Nat.le_of_ble_eq_true rfl), (Nat.le_of_ble_eq_true rfl)⟩ dX4_useStack_76 (fun W1 H locs hw hP hD hS => ?_)
        obtain ⟨wy2_30, dn2_31, la2_32, ke2_33, f2_34, st2_35, en2_36, hf_37, hf_38, hf_39, hf_40, hf_41, rfl⟩ := hw
        have hP : va_P D classes [(h0, .inr (4, [.ref hn, .ref hs, .ref hd, .ref hp, .ref hc, .int wy2_30, .int dn2_31])), (hp, .inr (3, [.ref he, .int (nI la2_32), .int (nI ke2_33)])), (hn, .inl (cA, 34, .inl f2_34)), (hs, .inl (cA, 4096, .inl st2_35)), (he, .inl (cA, 10752, .inl en2_36))] H := hP
        have hD : va_D A [(h0, .inr (4, [.ref hn, .ref hs, .ref hd, .ref hp, .ref hc, .int wy2_30, .int dn2_31])), (hp, .inr (3, [.ref he, .int (nI la2_32), .int (nI ke2_33)])), (hn, .inl (cA, 34, .inl f2_34)), (hs, .inl (cA, 4096, .inl st2_35)), (he, .inl (cA, 10752, .inl en2_36))] := hD
        refine lv_goto (tgt := 146) hx hb dX4_useStack_79 (by decide) ?_
        exact endV X hr hlocks hP hD hS dX4_useStack_146 ⟨wy2_30, dn2_31, la2_32, ke2_33, f2_34, st2_35, en2_36, (by omega), (by omega), hf_39, hf_40, hf_41, rfl⟩
      · skip
        by_cases c_1_42 : (nI o) = 13
        · refine lv_tableIn (tgt := 82) (off := 81) hx hb dX4_useStack_1 (by rw [c_1_42]; decide) (by rw [c_1_42]; decide) (by rw [c_1_42]; decide) (by decide) ?_
          refine lv_aload_n hx hb dX4_useStack_82 rfl (lv_at hl 0 rfl) ?_
          refine lv_iconst (v := 1) hx hb dX4_useStack_83 (by decide) ?_
          refine lv_aload_n hx hb dX4_useStack_84 rfl (lv_at hl 0 rfl) ?_
          refine kVi (n3 := 0) (As := []) (rest := [.int 1, .ref h0]) X hl.1 hE hP hD hS hA [(h0, .inr (4, [.ref hn, .ref hs, .ref hd, .ref hp, .ref hc, .int wy, .int dn])), (hn, .inl (cA, 34, .inl f)), (hs, .inl (cA, 4096, .inl st))] [(hp, .inr (3, [.ref he, .int (nI la), .int (nI ke)])), (he, .inl (cA, 10752, .inl en))] [0, 2, 3] [1, 4] rfl rfl rfl (by decide +kernel) (by decide +kernel) (by decide +kernel) (c_s_pull l D cA cB h0 hn hs hd hp hc wy dn f st hf hst) w_122 w_66 w_121 w_123 w_124 0 (ci := 4) (T := TX4) (N := 7) rfl rfl (by decide +kernel) rfl rfl (Nat.le_of_ble_eq_true rfl) ⟨(Nat.le_of_ble_eq_true rfl), (Nat.le_of_ble_eq_true rfl)⟩ ⟨(Nat.le_of_ble_eq_true rfl), (Nat.le_of_ble_eq_true rfl)⟩ dX4_useStack_85 (fun r W1 H locs hw hP hD hS => ?_)
          obtain ⟨wy2_43, dn2_44, f2_45, st2_46, rk_47, rfl, hf_48, hf_49, hf_50, rfl⟩ := hw
          have hP : va_P D classes [(hp, .inr (3, [.ref he, .int (nI la), .int (nI ke)])), (he, .inl (cA, 10752, .inl en)), (h0, .inr (4, [.ref hn, .ref hs, .ref hd, .ref hp, .ref hc, .int wy2_43, .int dn2_44])), (hn, .inl (cA, 34, .inl f2_45)), (hs, .inl (cA, 4096, .inl st2_46))] H := hP
          have hD : va_D A [(hp, .inr (3, [.ref he, .int (nI la), .int (nI ke)])), (he, .inl (cA, 10752, .inl en)), (h0, .inr (4, [.ref hn, .ref hs, .ref hd, .ref hp, .ref hc, .int wy2_43, .int dn2_44])), (hn, .inl (cA, 34, .inl f2_45)), (hs, .inl (cA, 4096, .inl st2_46))] := hD
          refine kVv (n3 := 2) (As := [.int 1, .int (nI rk_47)]) (rest := []) X hl.1 hE hP hD hS hA [(h0, .inr (4, [.ref hn, .ref hs, .ref hd, .ref hp, .ref hc, .int wy2_43, .int dn2_44])), (hn, .inl (cA, 34, .inl f2_45))] [(hp, .inr (3, [.ref he, .int (nI la), .int (nI ke)])), (he, .inl (cA, 10752, .inl en)), (hs, .inl (cA, 4096, .inl st2_46))] [2, 3] [0, 1, 4] rfl rfl rfl (by decide +kernel) (by decide +kernel) (by decide +kernel) (c_s_set1 l D cA cB h0 hn hs hd hp hc wy2_43 dn2_44 f2_45 (nI rk_47) hf_48) w_99 w_66 w_98 w_100 w_101 0 (ci := 4) (T := TX4) (N := 7) rfl rfl (by decide +kernel) rfl rfl (Nat.le_of_ble_eq_true rfl) ⟨(Nat.le_of_ble_eq_true rfl), (Nat.le_of_ble_eq_true rfl)⟩ ⟨(Nat.le_of_ble_eq_true rfl), (Nat.le_of_ble_eq_true rfl)⟩ dX4_useStack_88 (fun W1 H locs hw hP hD hS => ?_)
          obtain ⟨wy2_51, dn2_52, f2_53, hf_54, rfl⟩ := hw
          have hP : va_P D classes [(hp, .inr (3, [.ref he, .int (nI la), .int (nI ke)])), (he, .inl (cA, 10752, .inl en)), (hs, .inl (cA, 4096, .inl st2_46)), (h0, .inr (4, [.ref hn, .ref hs, .ref hd, .ref hp, .ref hc, .int wy2_51, .int dn2_52])), (hn, .inl (cA, 34, .inl f2_53))] H := hP
          have hD : va_D A [(hp, .inr (3, [.ref he, .int (nI la), .int (nI ke)])), (he, .inl (cA, 10752, .inl en)), (hs, .inl (cA, 4096, .inl st2_46)), (h0, .inr (4, [.ref hn, .ref hs, .ref hd, .ref hp, .ref hc, .int wy2_51, .int dn2_52])), (hn, .inl (cA, 34, .inl f2_53))] := hD
          refine lv_goto (tgt := 146) hx hb dX4_useStack_91 (by decide) ?_
          have hP : va_P D classes [(h0, .inr (4, [.ref hn, .ref hs, .ref hd, .ref hp, .ref hc, .int wy2_51, .int dn2_52])), (hp, .inr (3, [.ref he, .int (nI la), .int (nI ke)])), (hn, .inl (cA, 34, .inl f2_53)), (hs, .inl (cA, 4096, .inl st2_46)), (he, .inl (cA, 10752, .inl en))] _ := hP.sub [3, 0, 4, 2, 1] rfl
          have hD : va_D A [(h0, .inr (4, [.ref hn, .ref hs, .ref hd, .ref hp, .ref hc, .int wy2_51, .int dn2_52])), (hp, .inr (3, [.ref he, .int (nI la), .int (nI ke)])), (hn, .inl (cA, 34, .inl f2_53)), (hs, .inl (cA, 4096, .inl st2_46)), (he, .inl (cA, 10752, .inl en))] := hD.sub [3, 0, 4, 2, 1] (by decide) rfl
          exact endV X hr hlocks hP hD hS dX4_useStack_146 ⟨wy2_51, dn2_52, la, ke, f2_53, st2_46, en, (by omega), (by omega), hf_54, hf_49, hen, rfl⟩
        · skip
          by_cases c_1_55 : (nI o) = 14
          · refine lv_tableIn (tgt := 94) (off := 93) hx hb dX4_useStack_1 (by rw [c_1_55]; decide) (by rw [c_1_55]; decide) (by rw [c_1_55]; decide) (by decide) ?_
            refine lv_aload_n hx hb dX4_useStack_94 rfl (lv_at hl 0 rfl) ?_
            refine lv_aload_n hx hb dX4_useStack_95 rfl (lv_at hl 0 rfl) ?_
            refine k_get (C := RX4) (T := TX4) (N := 7) (ci := 4) (v := .ref hn) X hE hP 0 rfl rfl iX4 0 (by decide) w_69 rfl dX4_useStack_96 ?_
            refine lv_iconst (v := 2) hx hb dX4_useStack_99 (by decide) ?_
            obtain ⟨k_56, hk_56, ek_56⟩ := hf.at 2 256 (by decide) rfl
            refine k_ald (v := nI k_56) X hE hP 2 rfl 2 rfl (by decide) (by decide) ek_56 dX4_useStack_100 ?_
            refine kVv (n3 := 1) (As := [.int (nI k_56)]) (rest := []) X hl.1 hE hP hD hS hA [(h0, .inr (4, [.ref hn, .ref hs, .ref hd, .ref hp, .ref hc, .int wy, .int dn])), (hp, .inr (3, [.ref he, .int (nI la), .int (nI ke)])), (hn, .inl (cA, 34, .inl f)), (hs, .inl (cA, 4096, .inl st)), (he, .inl (cA, 10752, .inl en))] [] [0, 1, 2, 3, 4] [] rfl rfl rfl (by decide +kernel) (by decide +kernel) (by decide +kernel) (c_s_push l D cA cB h0 hn hs hd hp hc he wy dn la ke f st en k_56 (by first | assumption | decide | rfl | omega) (by first | assumption | decide | rfl | omega) hf hst hen (by first | assumption | decide | rfl | omega)) w_168 w_66 w_167 w_169 w_170 0 (ci := 4) (T := TX4) (N := 7) rfl rfl (by decide +kernel) rfl rfl (Nat.le_of_ble_eq_true rfl) ⟨(Nat.le_of_ble_eq_true rfl), (Nat.le_of_ble_eq_true rfl)⟩ ⟨(Nat.le_of_ble_eq_true rfl), (Nat.le_of_ble_eq_true rfl)⟩ dX4_useStack_101 (fun W1 H locs hw hP hD hS => ?_)
            obtain ⟨wy2_57, dn2_58, la2_59, ke2_60, f2_61, st2_62, en2_63, hf_64, hf_65, hf_66, hf_67, hf_68, rfl⟩ := hw
            have hP : va_P D classes [(h0, .inr (4, [.ref hn, .ref hs, .ref hd, .ref hp, .ref hc, .int wy2_57, .int dn2_58])), (hp, .inr (3, [.ref he, .int (nI la2_59), .int (nI ke2_60)])), (hn, .inl (cA, 34, .inl f2_61)), (hs, .inl (cA, 4096, .inl st2_62)), (he, .inl (cA, 10752, .inl en2_63))] H := hP
            have hD : va_D A [(h0, .inr (4, [.ref hn, .ref hs, .ref hd, .ref hp, .ref hc, .int wy2_57, .int dn2_58])), (hp, .inr (3, [.ref he, .int (nI la2_59), .int (nI ke2_60)])), (hn, .inl (cA, 34, .inl f2_61)), (hs, .inl (cA, 4096, .inl st2_62)), (he, .inl (cA, 10752, .inl en2_63))] := hD
            refine lv_goto (tgt := 146) hx hb dX4_useStack_104 (by decide) ?_
            exact endV X hr hlocks hP hD hS dX4_useStack_146 ⟨wy2_57, dn2_58, la2_59, ke2_60, f2_61, st2_62, en2_63, (by omega), (by omega), hf_66, hf_67, hf_68, rfl⟩
          · skip
            by_cases c_1_69 : (nI o) = 15
            · refine lv_tableIn (tgt := 107) (off := 106) hx hb dX4_useStack_1 (by rw [c_1_69]; decide) (by rw [c_1_69]; decide) (by rw [c_1_69]; decide) (by decide) ?_
              refine lv_aload_n hx hb dX4_useStack_107 rfl (lv_at hl 0 rfl) ?_
              refine lv_iconst (v := 2) hx hb dX4_useStack_108 (by decide) ?_
              refine lv_aload_n hx hb dX4_useStack_109 rfl (lv_at hl 0 rfl) ?_
              refine kVi (n3 := 0) (As := []) (rest := [.int 2, .ref h0]) X hl.1 hE hP hD hS hA [(h0, .inr (4, [.ref hn, .ref hs, .ref hd, .ref hp, .ref hc, .int wy, .int dn])), (hn, .inl (cA, 34, .inl f)), (hs, .inl (cA, 4096, .inl st))] [(hp, .inr (3, [.ref he, .int (nI la), .int (nI ke)])), (he, .inl (cA, 10752, .inl en))] [0, 2, 3] [1, 4] rfl rfl rfl (by decide +kernel) (by decide +kernel) (by decide +kernel) (c_s_pull l D cA cB h0 hn hs hd hp hc wy dn f st hf hst) w_122 w_66 w_121 w_123 w_124 0 (ci := 4) (T := TX4) (N := 7) rfl rfl (by decide +kernel) rfl rfl (Nat.le_of_ble_eq_true rfl) ⟨(Nat.le_of_ble_eq_true rfl), (Nat.le_of_ble_eq_true rfl)⟩ ⟨(Nat.le_of_ble_eq_true rfl), (Nat.le_of_ble_eq_true rfl)⟩ dX4_useStack_110 (fun r W1 H locs hw hP hD hS => ?_)
              obtain ⟨wy2_70, dn2_71, f2_72, st2_73, rk_74, rfl, hf_75, hf_76, hf_77, rfl⟩ := hw
              have hP : va_P D classes [(hp, .inr (3, [.ref he, .int (nI la), .int (nI ke)])), (he, .inl (cA, 10752, .inl en)), (h0, .inr (4, [.ref hn, .ref hs, .ref hd, .ref hp, .ref hc, .int wy2_70, .int dn2_71])), (hn, .inl (cA, 34, .inl f2_72)), (hs, .inl (cA, 4096, .inl st2_73))] H := hP
              have hD : va_D A [(hp, .inr (3, [.ref he, .int (nI la), .int (nI ke)])), (he, .inl (cA, 10752, .inl en)), (h0, .inr (4, [.ref hn, .ref hs, .ref hd, .ref hp, .ref hc, .int wy2_70, .int dn2_71])), (hn, .inl (cA, 34, .inl f2_72)), (hs, .inl (cA, 4096, .inl st2_73))] := hD
              refine kVv (n3 := 2) (As := [.int 2, .int (nI rk_74)]) (rest := []) X hl.1 hE hP hD hS hA [(h0, .inr (4, [.ref hn, .ref hs, .ref hd, .ref hp, .ref hc, .int wy2_70, .int dn2_71])), (hn, .inl (cA, 34, .inl f2_72))] [(hp, .inr (3, [.ref he, .int (nI la), .int (nI ke)])), (he, .inl (cA, 10752, .inl en)), (hs, .inl (cA, 4096, .inl st2_73))] [2, 3] [0, 1, 4] rfl rfl rfl (by decide +kernel) (by decide +kernel) (by decide +kernel) (c_s_set2 l D cA cB h0 hn hs hd hp hc wy2_70 dn2_71 f2_72 (nI rk_74) hf_75) w_99 w_66 w_98 w_100 w_101 0 (ci := 4) (T := TX4) (N := 7) rfl rfl (by decide +kernel) rfl rfl (Nat.le_of_ble_eq_true rfl) ⟨(Nat.le_of_ble_eq_true rfl), (Nat.le_of_ble_eq_true rfl)⟩ ⟨(Nat.le_of_ble_eq_true rfl), (Nat.le_of_ble_eq_true rfl)⟩ dX4_useStack_113 (fun W1 H locs hw hP hD hS => ?_)
              obtain ⟨wy2_78, dn2_79, f2_80, hf_81, rfl⟩ := hw
              have hP : va_P D classes [(hp, .inr (3, [.ref he, .int (nI la), .int (nI ke)])), (he, .inl (cA, 10752, .inl en)), (hs, .inl (cA, 4096, .inl st2_73)), (h0, .inr (4, [.ref hn, .ref hs, .ref hd, .ref hp, .ref hc, .int wy2_78, .int dn2_79])), (hn, .inl (cA, 34, .inl f2_80))] H := hP
              have hD : va_D A [(hp, .inr (3, [.ref he, .int (nI la), .int (nI ke)])), (he, .inl (cA, 10752, .inl en)), (hs, .inl (cA, 4096, .inl st2_73)), (h0, .inr (4, [.ref hn, .ref hs, .ref hd, .ref hp, .ref hc, .int wy2_78, .int dn2_79])), (hn, .inl (cA, 34, .inl f2_80))] := hD
              refine lv_goto (tgt := 146) hx hb dX4_useStack_116 (by decide) ?_
              have hP : va_P D classes [(h0, .inr (4, [.ref hn, .ref hs, .ref hd, .ref hp, .ref hc, .int wy2_78, .int dn2_79])), (hp, .inr (3, [.ref he, .int (nI la), .int (nI ke)])), (hn, .inl (cA, 34, .inl f2_80)), (hs, .inl (cA, 4096, .inl st2_73)), (he, .inl (cA, 10752, .inl en))] _ := hP.sub [3, 0, 4, 2, 1] rfl
              have hD : va_D A [(h0, .inr (4, [.ref hn, .ref hs, .ref hd, .ref hp, .ref hc, .int wy2_78, .int dn2_79])), (hp, .inr (3, [.ref he, .int (nI la), .int (nI ke)])), (hn, .inl (cA, 34, .inl f2_80)), (hs, .inl (cA, 4096, .inl st2_73)), (he, .inl (cA, 10752, .inl en))] := hD.sub [3, 0, 4, 2, 1] (by decide) rfl
              exact endV X hr hlocks hP hD hS dX4_useStack_146 ⟨wy2_78, dn2_79, la, ke, f2_80, st2_73, en, (by omega), (by omega), hf_81, hf_76, hen, rfl⟩
            · skip
              by_cases c_1_82 : (nI o) = 16
              · refine lv_tableIn (tgt := 119) (off := 118) hx hb dX4_useStack_1 (by rw [c_1_82]; decide) (by rw [c_1_82]; decide) (by rw [c_1_82]; decide) (by decide) ?_
                refine lv_aload_n hx hb dX4_useStack_119 rfl (lv_at hl 0 rfl) ?_
                refine lv_aload_n hx hb dX4_useStack_120 rfl (lv_at hl 0 rfl) ?_
                refine k_get (C := RX4) (T := TX4) (N := 7) (ci := 4) (v := .ref hn) X hE hP 0 rfl rfl iX4 0 (by decide) w_69 rfl dX4_useStack_121 ?_
                refine lv_iconst (v := 5) hx hb dX4_useStack_124 (by decide) ?_
                obtain ⟨k_83, hk_83, ek_83⟩ := hf.at 5 256 (by decide) rfl
                refine k_ald (v := nI k_83) X hE hP 2 rfl 5 rfl (by decide) (by decide) ek_83 dX4_useStack_125 ?_
                refine kVv (n3 := 1) (As := [.int (nI k_83)]) (rest := []) X hl.1 hE hP hD hS hA [(h0, .inr (4, [.ref hn, .ref hs, .ref hd, .ref hp, .ref hc, .int wy, .int dn])), (hp, .inr (3, [.ref he, .int (nI la), .int (nI ke)])), (hn, .inl (cA, 34, .inl f)), (hs, .inl (cA, 4096, .inl st)), (he, .inl (cA, 10752, .inl en))] [] [0, 1, 2, 3, 4] [] rfl rfl rfl (by decide +kernel) (by decide +kernel) (by decide +kernel) (c_s_push l D cA cB h0 hn hs hd hp hc he wy dn la ke f st en k_83 (by first | assumption | decide | rfl | omega) (by first | assumption | decide | rfl | omega) hf hst hen (by first | assumption | decide | rfl | omega)) w_168 w_66 w_167 w_169 w_170 0 (ci := 4) (T := TX4) (N := 7) rfl rfl (by decide +kernel) rfl rfl (Nat.le_of_ble_eq_true rfl) ⟨(Nat.le_of_ble_eq_true rfl), (Nat.le_of_ble_eq_true rfl)⟩ ⟨(Nat.le_of_ble_eq_true rfl), (Nat.le_of_ble_eq_true rfl)⟩ dX4_useStack_126 (fun W1 H locs hw hP hD hS => ?_)
                obtain ⟨wy2_84, dn2_85, la2_86, ke2_87, f2_88, st2_89, en2_90, hf_91, hf_92, hf_93, hf_94, hf_95, rfl⟩ := hw
                have hP : va_P D classes [(h0, .inr (4, [.ref hn, .ref hs, .ref hd, .ref hp, .ref hc, .int wy2_84, .int dn2_85])), (hp, .inr (3, [.ref he, .int (nI la2_86), .int (nI ke2_87)])), (hn, .inl (cA, 34, .inl f2_88)), (hs, .inl (cA, 4096, .inl st2_89)), (he, .inl (cA, 10752, .inl en2_90))] H := hP
                have hD : va_D A [(h0, .inr (4, [.ref hn, .ref hs, .ref hd, .ref hp, .ref hc, .int wy2_84, .int dn2_85])), (hp, .inr (3, [.ref he, .int (nI la2_86), .int (nI ke2_87)])), (hn, .inl (cA, 34, .inl f2_88)), (hs, .inl (cA, 4096, .inl st2_89)), (he, .inl (cA, 10752, .inl en2_90))] := hD
                refine lv_goto (tgt := 146) hx hb dX4_useStack_129 (by decide) ?_
                exact endV X hr hlocks hP hD hS dX4_useStack_146 ⟨wy2_84, dn2_85, la2_86, ke2_87, f2_88, st2_89, en2_90, (by omega), (by omega), hf_93, hf_94, hf_95, rfl⟩
              · skip
                refine lv_tableOut (tgt := 132) hx hb dX4_useStack_1 (by have n_0 := lv_neT (k := 10) (a := 10) c_1_1 (by decide); have n_1 := lv_neT (k := 11) (a := 11) c_1_15 (by decide); have n_2 := lv_neT (k := 12) (a := 12) c_1_28 (by decide); have n_3 := lv_neT (k := 13) (a := 13) c_1_42 (by decide); have n_4 := lv_neT (k := 14) (a := 14) c_1_55 (by decide); have n_5 := lv_neT (k := 15) (a := 15) c_1_69 (by decide); have n_6 := lv_neT (k := 16) (a := 16) c_1_82 (by decide); omega) (by decide) ?_
                refine lv_aload_n hx hb dX4_useStack_132 rfl (lv_at hl 0 rfl) ?_
                refine k_get (C := RX4) (T := TX4) (N := 7) (ci := 4) (v := .ref hn) X hE hP 0 rfl rfl iX4 0 (by decide) w_69 rfl dX4_useStack_133 ?_
                refine lv_iconst (v := 5) hx hb dX4_useStack_136 (by decide) ?_
                refine lv_aload_n hx hb dX4_useStack_137 rfl (lv_at hl 0 rfl) ?_
                refine kVi (n3 := 0) (As := []) (rest := [.int 5, .ref hn]) X hl.1 hE hP hD hS hA [(h0, .inr (4, [.ref hn, .ref hs, .ref hd, .ref hp, .ref hc, .int wy, .int dn])), (hn, .inl (cA, 34, .inl f)), (hs, .inl (cA, 4096, .inl st))] [(hp, .inr (3, [.ref he, .int (nI la), .int (nI ke)])), (he, .inl (cA, 10752, .inl en))] [0, 2, 3] [1, 4] rfl rfl rfl (by decide +kernel) (by decide +kernel) (by decide +kernel) (c_s_pull l D cA cB h0 hn hs hd hp hc wy dn f st hf hst) w_122 w_66 w_121 w_123 w_124 0 (ci := 4) (T := TX4) (N := 7) rfl rfl (by decide +kernel) rfl rfl (Nat.le_of_ble_eq_true rfl) ⟨(Nat.le_of_ble_eq_true rfl), (Nat.le_of_ble_eq_true rfl)⟩ ⟨(Nat.le_of_ble_eq_true rfl), (Nat.le_of_ble_eq_true rfl)⟩ dX4_useStack_138 (fun r W1 H locs hw hP hD hS => ?_)
                obtain ⟨wy2_96, dn2_97, f2_98, st2_99, rk_100, rfl, hf_101, hf_102, hf_103, rfl⟩ := hw
                have hP : va_P D classes [(hp, .inr (3, [.ref he, .int (nI la), .int (nI ke)])), (he, .inl (cA, 10752, .inl en)), (h0, .inr (4, [.ref hn, .ref hs, .ref hd, .ref hp, .ref hc, .int wy2_96, .int dn2_97])), (hn, .inl (cA, 34, .inl f2_98)), (hs, .inl (cA, 4096, .inl st2_99))] H := hP
                have hD : va_D A [(hp, .inr (3, [.ref he, .int (nI la), .int (nI ke)])), (he, .inl (cA, 10752, .inl en)), (h0, .inr (4, [.ref hn, .ref hs, .ref hd, .ref hp, .ref hc, .int wy2_96, .int dn2_97])), (hn, .inl (cA, 34, .inl f2_98)), (hs, .inl (cA, 4096, .inl st2_99))] := hD
                refine lv_sipush (v := 199) hx hb dX4_useStack_141 (by decide) ?_
                refine lv_iand hx hb dX4_useStack_144 ?_
                obtain ⟨k_104, hk_104, ek_104⟩ := sf_and (a := rk_100) (by omega) 199 (by omega : rk_100 < 256)
                have hk_104 : k_104 < 256 := hk_104
                refine tk (y := nI k_104) ek_104 ?_
                refine k_ast X hE hP hD hS 3 rfl 5 rfl (by decide) (by decide) [(hp, .inr (3, [.ref he, .int (nI la), .int (nI ke)])), (he, .inl (cA, 10752, .inl en)), (h0, .inr (4, [.ref hn, .ref hs, .ref hd, .ref hp, .ref hc, .int wy2_96, .int dn2_97])), (hn, .inl (cA, 34, .inl (upd f2_98 5 (nI k_104)))), (hs, .inl (cA, 4096, .inl st2_99))] rfl dX4_useStack_145 (fun H locs hP hD hS => ?_)
                obtain ⟨g_105, eg_105⟩ : ∃ z, z = upd f2_98 5 (nI k_104) := ⟨_, rfl⟩
                rw [← eg_105] at hP hD
                have hg_105 := okN_upd hf_101 5 (nI k_104) (inR_of (k := k_104) rfl (by omega))
                rw [← eg_105] at hg_105
                have hP : va_P D classes [(hp, .inr (3, [.ref he, .int (nI la), .int (nI ke)])), (he, .inl (cA, 10752, .inl en)), (h0, .inr (4, [.ref hn, .ref hs, .ref hd, .ref hp, .ref hc, .int wy2_96, .int dn2_97])), (hn, .inl (cA, 34, .inl g_105)), (hs, .inl (cA, 4096, .inl st2_99))] H := hP
                have hD : va_D A [(hp, .inr (3, [.ref he, .int (nI la), .int (nI ke)])), (he, .inl (cA, 10752, .inl en)), (h0, .inr (4, [.ref hn, .ref hs, .ref hd, .ref hp, .ref hc, .int wy2_96, .int dn2_97])), (hn, .inl (cA, 34, .inl g_105)), (hs, .inl (cA, 4096, .inl st2_99))] := hD
                have hP : va_P D classes [(h0, .inr (4, [.ref hn, .ref hs, .ref hd, .ref hp, .ref hc, .int wy2_96, .int dn2_97])), (hp, .inr (3, [.ref he, .int (nI la), .int (nI ke)])), (hn, .inl (cA, 34, .inl g_105)), (hs, .inl (cA, 4096, .inl st2_99)), (he, .inl (cA, 10752, .inl en))] _ := hP.sub [2, 0, 3, 4, 1] rfl
                have hD : va_D A [(h0, .inr (4, [.ref hn, .ref hs, .ref hd, .ref hp, .ref hc, .int wy2_96, .int dn2_97])), (hp, .inr (3, [.ref he, .int (nI la), .int (nI ke)])), (hn, .inl (cA, 34, .inl g_105)), (hs, .inl (cA, 4096, .inl st2_99)), (he, .inl (cA, 10752, .inl en))] := hD.sub [2, 0, 3, 4, 1] (by decide) rfl
                exact endV X hr hlocks hP hD hS dX4_useStack_146 ⟨wy2_96, dn2_97, la, ke, g_105, st2_99, en, (by omega), (by omega), hg_105, hf_102, hen, rfl⟩
set_option maxHeartbeats 4000000 in
set_option maxRecDepth 100000 in
theorem c_s_readAt (l : Launch) (D : va_G) (cA cB : ClassId) (h0 : Nat) (hn : Nat) (hs : Nat) (hd : Nat) (hp : Nat) (hc : Nat) (h1 : Nat) (h2 : Nat) (h3 : Nat) (h4 : Nat) (he : Nat) (wy : Int32) (dn : Int32) (la : Nat) (ke : Nat) (f : Nat → Int32) (st : Nat → Int32) (pn : Nat → Int32) (wt : Nat → Int32) (rg : Nat → Int32) (pa : Nat → Int32) (en : Nat → Int32) (ct : Nat → Int32) (a : Nat) (hla : la < 256) (hke : ke < 257) (hf : okN f) (hst : ∀ j, j < 4096 → ∃ k : Nat, k < 256 ∧ st j = nI k) (hpn : ∀ j, j < 64 → ∃ k : Nat, k < 256 ∧ pn j = nI k) (hwt : ∀ j, j < 16 → ∃ k : Nat, k < 256 ∧ wt j = nI k) (hen : okE en) (ha : a < 4096) : CI l yX4_readAt cX4_readAt 2 (some .int) 2 43 0 0 D cA cB [.ref h0, .int (nI a)] [(h0, .inr (4, [.ref hn, .ref hs, .ref hd, .ref hp, .ref hc, .int wy, .int dn])), (hd, .inr (1, [.ref hn, .ref h1, .ref h2, .ref h3, .ref h4])), (hp, .inr (3, [.ref he, .int (nI la), .int (nI ke)])), (hn, .inl (cA, 34, .inl f)), (hs, .inl (cA, 4096, .inl st)), (h1, .inl (cA, 64, .inl pn)), (h2, .inl (cA, 16, .inl wt)), (h3, .inl (cA, 900, .inl rg)), (h4, .inl (cA, 200, .inl pa)), (he, .inl (cA, 10752, .inl en)), (hc, .inl (cA, 257, .inl ct))] (fun r W1 => ∃ (wy2 : Int32) (dn2 : Int32) (la2 : Nat) (ke2 : Nat) (f2 : Nat → Int32) (st2 : Nat → Int32) (pn2 : Nat → Int32) (wt2 : Nat → Int32) (rg2 : Nat → Int32) (pa2 : Nat → Int32) (en2 : Nat → Int32) (ct2 : Nat → Int32) (rk : Nat), r = nI rk ∧ (la2 < 256) ∧ (ke2 < 257) ∧ (okN f2) ∧ (∀ j, j < 4096 → ∃ k : Nat, k < 256 ∧ st2 j = nI k) ∧ (∀ j, j < 64 → ∃ k : Nat, k < 256 ∧ pn2 j = nI k) ∧ (∀ j, j < 16 → ∃ k : Nat, k < 256 ∧ wt2 j = nI k) ∧ (okE en2) ∧ (rk < 256) ∧ W1 = [(h0, .inr (4, [.ref hn, .ref hs, .ref hd, .ref hp, .ref hc, .int wy2, .int dn2])), (hd, .inr (1, [.ref hn, .ref h1, .ref h2, .ref h3, .ref h4])), (hp, .inr (3, [.ref he, .int (nI la2), .int (nI ke2)])), (hn, .inl (cA, 34, .inl f2)), (hs, .inl (cA, 4096, .inl st2)), (h1, .inl (cA, 64, .inl pn2)), (h2, .inl (cA, 16, .inl wt2)), (h3, .inl (cA, 900, .inl rg2)), (h4, .inl (cA, 200, .inl pa2)), (he, .inl (cA, 10752, .inl en2)), (hc, .inl (cA, 257, .inl ct2))]) := by
  refine mkI (lv0 := [(0, .ref h0), (1, .int (nI a))]) (by decide) (Nat.le_of_ble_eq_true rfl) rfl ?_
  intro p e s m below meth c A ls X hr hlocks hnm hE hA hP hD hS hl
  have hx := X.1
  have hb := X.2.1
  refine lv_iload_n hx hb dX4_readAt_0 rfl (lv_at hl 1 rfl) ?_
  refine lv_sipush (v := 4080) hx hb dX4_readAt_1 (by decide) ?_
  refine lv_icmp_lt (tgt := 22) hx hb dX4_readAt_4 (by decide) (fun c_4_1 => ?_) (fun c_4_1 => ?_)
  · have nc_4_1 : a < 4080 := (nI_ltI (a := a) (b := 4080) (by omega) (by omega)).mp c_4_1
    refine lv_aload_n hx hb dX4_readAt_22 rfl (lv_at hl 0 rfl) ?_
    refine lv_iload_n hx hb dX4_readAt_23 rfl (lv_at hl 1 rfl) ?_
    refine kVi (n3 := 1) (As := [.int (nI a)]) (rest := []) X hl.1 hE hP hD hS hA [(h0, .inr (4, [.ref hn, .ref hs, .ref hd, .ref hp, .ref hc, .int wy, .int dn])), (hn, .inl (cA, 34, .inl f)), (hs, .inl (cA, 4096, .inl st))] [(hd, .inr (1, [.ref hn, .ref h1, .ref h2, .ref h3, .ref h4])), (hp, .inr (3, [.ref he, .int (nI la), .int (nI ke)])), (h1, .inl (cA, 64, .inl pn)), (h2, .inl (cA, 16, .inl wt)), (h3, .inl (cA, 900, .inl rg)), (h4, .inl (cA, 200, .inl pa)), (he, .inl (cA, 10752, .inl en)), (hc, .inl (cA, 257, .inl ct))] [0, 3, 4] [1, 2, 5, 6, 7, 8, 9, 10] rfl rfl rfl (by decide +kernel) (by decide +kernel) (by decide +kernel) (c_s_byteAt l D cA cB h0 hn hs hd hp hc wy dn f st (nI a) hf hst) w_65 w_66 w_64 w_67 w_68 0 (ci := 4) (T := TX4) (N := 7) rfl rfl (by decide +kernel) rfl rfl (Nat.le_of_ble_eq_true rfl) ⟨(Nat.le_of_ble_eq_true rfl), (Nat.le_of_ble_eq_true rfl)⟩ ⟨(Nat.le_of_ble_eq_true rfl), (Nat.le_of_ble_eq_true rfl)⟩ dX4_readAt_24 (fun r W1 H locs hw hP hD hS => ?_)
    obtain ⟨wy2_2, dn2_3, f2_4, st2_5, rk_6, rfl, hf_7, hf_8, hf_9, rfl⟩ := hw
    have hP : va_P D classes [(hd, .inr (1, [.ref hn, .ref h1, .ref h2, .ref h3, .ref h4])), (hp, .inr (3, [.ref he, .int (nI la), .int (nI ke)])), (h1, .inl (cA, 64, .inl pn)), (h2, .inl (cA, 16, .inl wt)), (h3, .inl (cA, 900, .inl rg)), (h4, .inl (cA, 200, .inl pa)), (he, .inl (cA, 10752, .inl en)), (hc, .inl (cA, 257, .inl ct)), (h0, .inr (4, [.ref hn, .ref hs, .ref hd, .ref hp, .ref hc, .int wy2_2, .int dn2_3])), (hn, .inl (cA, 34, .inl f2_4)), (hs, .inl (cA, 4096, .inl st2_5))] H := hP
    have hD : va_D A [(hd, .inr (1, [.ref hn, .ref h1, .ref h2, .ref h3, .ref h4])), (hp, .inr (3, [.ref he, .int (nI la), .int (nI ke)])), (h1, .inl (cA, 64, .inl pn)), (h2, .inl (cA, 16, .inl wt)), (h3, .inl (cA, 900, .inl rg)), (h4, .inl (cA, 200, .inl pa)), (he, .inl (cA, 10752, .inl en)), (hc, .inl (cA, 257, .inl ct)), (h0, .inr (4, [.ref hn, .ref hs, .ref hd, .ref hp, .ref hc, .int wy2_2, .int dn2_3])), (hn, .inl (cA, 34, .inl f2_4)), (hs, .inl (cA, 4096, .inl st2_5))] := hD
    have hP : va_P D classes [(h0, .inr (4, [.ref hn, .ref hs, .ref hd, .ref hp, .ref hc, .int wy2_2, .int dn2_3])), (hd, .inr (1, [.ref hn, .ref h1, .ref h2, .ref h3, .ref h4])), (hp, .inr (3, [.ref he, .int (nI la), .int (nI ke)])), (hn, .inl (cA, 34, .inl f2_4)), (hs, .inl (cA, 4096, .inl st2_5)), (h1, .inl (cA, 64, .inl pn)), (h2, .inl (cA, 16, .inl wt)), (h3, .inl (cA, 900, .inl rg)), (h4, .inl (cA, 200, .inl pa)), (he, .inl (cA, 10752, .inl en)), (hc, .inl (cA, 257, .inl ct))] _ := hP.sub [8, 0, 1, 9, 10, 2, 3, 4, 5, 6, 7] rfl
    have hD : va_D A [(h0, .inr (4, [.ref hn, .ref hs, .ref hd, .ref hp, .ref hc, .int wy2_2, .int dn2_3])), (hd, .inr (1, [.ref hn, .ref h1, .ref h2, .ref h3, .ref h4])), (hp, .inr (3, [.ref he, .int (nI la), .int (nI ke)])), (hn, .inl (cA, 34, .inl f2_4)), (hs, .inl (cA, 4096, .inl st2_5)), (h1, .inl (cA, 64, .inl pn)), (h2, .inl (cA, 16, .inl wt)), (h3, .inl (cA, 900, .inl rg)), (h4, .inl (cA, 200, .inl pa)), (he, .inl (cA, 10752, .inl en)), (hc, .inl (cA, 257, .inl ct))] := hD.sub [8, 0, 1, 9, 10, 2, 3, 4, 5, 6, 7] (by decide) rfl
    exact endI X hr hlocks hP hD hS dX4_readAt_27 ⟨wy2_2, dn2_3, la, ke, f2_4, st2_5, pn, wt, rg, pa, en, ct, rk_6, rfl, (by omega), (by omega), hf_7, hf_8, hpn, hwt, hen, (by omega), rfl⟩
  · have nc_4_1 : 4080 ≤ a := Nat.not_lt.mp (fun q => c_4_1 ((nI_ltI (a := a) (b := 4080) (by omega) (by omega)).mpr q))
    refine lv_aload_n hx hb dX4_readAt_7 rfl (lv_at hl 0 rfl) ?_
    refine k_get (C := RX4) (T := TX4) (N := 7) (ci := 4) (v := .ref hd) X hE hP 0 rfl rfl iX4 2 (by decide) w_175 rfl dX4_readAt_8 ?_
    refine lv_iload_n hx hb dX4_readAt_11 rfl (lv_at hl 1 rfl) ?_
    refine lv_sipush (v := 4080) hx hb dX4_readAt_12 (by decide) ?_
    refine lv_isub hx hb dX4_readAt_15 ?_
    refine tk (y := nI (a - 4080)) (pk_sub (a := a) (b := 4080) (by omega)) ?_
    refine kVi (n3 := 1) (As := [.int (nI (a - 4080))]) (rest := []) X hl.1 hE hP hD hS hA [(hd, .inr (1, [.ref hn, .ref h1, .ref h2, .ref h3, .ref h4])), (hn, .inl (cA, 34, .inl f)), (h1, .inl (cA, 64, .inl pn)), (h2, .inl (cA, 16, .inl wt)), (h3, .inl (cA, 900, .inl rg)), (h4, .inl (cA, 200, .inl pa))] [(h0, .inr (4, [.ref hn, .ref hs, .ref hd, .ref hp, .ref hc, .int wy, .int dn])), (hp, .inr (3, [.ref he, .int (nI la), .int (nI ke)])), (hs, .inl (cA, 4096, .inl st)), (he, .inl (cA, 10752, .inl en)), (hc, .inl (cA, 257, .inl ct))] [1, 3, 5, 6, 7, 8] [0, 2, 4, 9, 10] rfl rfl rfl (by decide +kernel) (by decide +kernel) (by decide +kernel) (c_s_readPort l D cA cB hd hn h1 h2 h3 h4 f pn wt rg pa (a - 4080) hf hpn hwt (by first | assumption | decide | rfl | omega)) w_177 w_9 w_176 w_178 w_179 0 (ci := 1) (T := TX1) (N := 5) rfl rfl (by decide +kernel) rfl rfl (Nat.le_of_ble_eq_true rfl) ⟨(Nat.le_of_ble_eq_true rfl), (Nat.le_of_ble_eq_true rfl)⟩ ⟨(Nat.le_of_ble_eq_true rfl), (Nat.le_of_ble_eq_true rfl)⟩ dX4_readAt_16 (fun r W1 H locs hw hP hD hS => ?_)
    obtain ⟨f2_10, pn2_11, wt2_12, rg2_13, pa2_14, rk_15, rfl, hf_16, hf_17, hf_18, hf_19, rfl⟩ := hw
    have hP : va_P D classes [(h0, .inr (4, [.ref hn, .ref hs, .ref hd, .ref hp, .ref hc, .int wy, .int dn])), (hp, .inr (3, [.ref he, .int (nI la), .int (nI ke)])), (hs, .inl (cA, 4096, .inl st)), (he, .inl (cA, 10752, .inl en)), (hc, .inl (cA, 257, .inl ct)), (hd, .inr (1, [.ref hn, .ref h1, .ref h2, .ref h3, .ref h4])), (hn, .inl (cA, 34, .inl f2_10)), (h1, .inl (cA, 64, .inl pn2_11)), (h2, .inl (cA, 16, .inl wt2_12)), (h3, .inl (cA, 900, .inl rg2_13)), (h4, .inl (cA, 200, .inl pa2_14))] H := hP
    have hD : va_D A [(h0, .inr (4, [.ref hn, .ref hs, .ref hd, .ref hp, .ref hc, .int wy, .int dn])), (hp, .inr (3, [.ref he, .int (nI la), .int (nI ke)])), (hs, .inl (cA, 4096, .inl st)), (he, .inl (cA, 10752, .inl en)), (hc, .inl (cA, 257, .inl ct)), (hd, .inr (1, [.ref hn, .ref h1, .ref h2, .ref h3, .ref h4])), (hn, .inl (cA, 34, .inl f2_10)), (h1, .inl (cA, 64, .inl pn2_11)), (h2, .inl (cA, 16, .inl wt2_12)), (h3, .inl (cA, 900, .inl rg2_13)), (h4, .inl (cA, 200, .inl pa2_14))] := hD
    refine lv_goto (tgt := 27) hx hb dX4_readAt_19 (by decide) ?_
    have hP : va_P D classes [(h0, .inr (4, [.ref hn, .ref hs, .ref hd, .ref hp, .ref hc, .int wy, .int dn])), (hd, .inr (1, [.ref hn, .ref h1, .ref h2, .ref h3, .ref h4])), (hp, .inr (3, [.ref he, .int (nI la), .int (nI ke)])), (hn, .inl (cA, 34, .inl f2_10)), (hs, .inl (cA, 4096, .inl st)), (h1, .inl (cA, 64, .inl pn2_11)), (h2, .inl (cA, 16, .inl wt2_12)), (h3, .inl (cA, 900, .inl rg2_13)), (h4, .inl (cA, 200, .inl pa2_14)), (he, .inl (cA, 10752, .inl en)), (hc, .inl (cA, 257, .inl ct))] _ := hP.sub [0, 5, 1, 6, 2, 7, 8, 9, 10, 3, 4] rfl
    have hD : va_D A [(h0, .inr (4, [.ref hn, .ref hs, .ref hd, .ref hp, .ref hc, .int wy, .int dn])), (hd, .inr (1, [.ref hn, .ref h1, .ref h2, .ref h3, .ref h4])), (hp, .inr (3, [.ref he, .int (nI la), .int (nI ke)])), (hn, .inl (cA, 34, .inl f2_10)), (hs, .inl (cA, 4096, .inl st)), (h1, .inl (cA, 64, .inl pn2_11)), (h2, .inl (cA, 16, .inl wt2_12)), (h3, .inl (cA, 900, .inl rg2_13)), (h4, .inl (cA, 200, .inl pa2_14)), (he, .inl (cA, 10752, .inl en)), (hc, .inl (cA, 257, .inl ct))] := hD.sub [0, 5, 1, 6, 2, 7, 8, 9, 10, 3, 4] (by decide) rfl
    exact endI X hr hlocks hP hD hS dX4_readAt_27 ⟨wy, dn, la, ke, f2_10, st, pn2_11, wt2_12, rg2_13, pa2_14, en, ct, rk_15, rfl, (by omega), (by omega), hf_16, hst, hf_17, hf_18, hen, (by omega), rfl⟩
set_option maxHeartbeats 4000000 in
set_option maxRecDepth 100000 in
theorem c_s_writeAt (l : Launch) (D : va_G) (cA cB : ClassId) (h0 : Nat) (hn : Nat) (hs : Nat) (hd : Nat) (hp : Nat) (hc : Nat) (h1 : Nat) (h2 : Nat) (h3 : Nat) (h4 : Nat) (he : Nat) (wy : Int32) (dn : Int32) (la : Nat) (ke : Nat) (f : Nat → Int32) (st : Nat → Int32) (pn : Nat → Int32) (wt : Nat → Int32) (rg : Nat → Int32) (pa : Nat → Int32) (en : Nat → Int32) (ct : Nat → Int32) (a : Nat) (v : Nat) (hla : la < 256) (hke : ke < 257) (hf : okN f) (hst : ∀ j, j < 4096 → ∃ k : Nat, k < 256 ∧ st j = nI k) (hpn : ∀ j, j < 64 → ∃ k : Nat, k < 256 ∧ pn j = nI k) (hwt : ∀ j, j < 16 → ∃ k : Nat, k < 256 ∧ wt j = nI k) (hen : okE en) (ha : a < 4096) (hv : v < 256) : CV l yX4_writeAt cX4_writeAt 3 none 2 45 0 0 D cA cB [.ref h0, .int (nI a), .int (nI v)] [(h0, .inr (4, [.ref hn, .ref hs, .ref hd, .ref hp, .ref hc, .int wy, .int dn])), (hd, .inr (1, [.ref hn, .ref h1, .ref h2, .ref h3, .ref h4])), (hp, .inr (3, [.ref he, .int (nI la), .int (nI ke)])), (hn, .inl (cA, 34, .inl f)), (hs, .inl (cA, 4096, .inl st)), (h1, .inl (cA, 64, .inl pn)), (h2, .inl (cA, 16, .inl wt)), (h3, .inl (cA, 900, .inl rg)), (h4, .inl (cA, 200, .inl pa)), (he, .inl (cA, 10752, .inl en)), (hc, .inl (cA, 257, .inl ct))] (fun W1 => ∃ (wy2 : Int32) (dn2 : Int32) (la2 : Nat) (ke2 : Nat) (f2 : Nat → Int32) (st2 : Nat → Int32) (pn2 : Nat → Int32) (wt2 : Nat → Int32) (rg2 : Nat → Int32) (pa2 : Nat → Int32) (en2 : Nat → Int32) (ct2 : Nat → Int32), (la2 < 256) ∧ (ke2 < 257) ∧ (okN f2) ∧ (∀ j, j < 4096 → ∃ k : Nat, k < 256 ∧ st2 j = nI k) ∧ (∀ j, j < 64 → ∃ k : Nat, k < 256 ∧ pn2 j = nI k) ∧ (∀ j, j < 16 → ∃ k : Nat, k < 256 ∧ wt2 j = nI k) ∧ (okE en2) ∧ W1 = [(h0, .inr (4, [.ref hn, .ref hs, .ref hd, .ref hp, .ref hc, .int wy2, .int dn2])), (hd, .inr (1, [.ref hn, .ref h1, .ref h2, .ref h3, .ref h4])), (hp, .inr (3, [.ref he, .int (nI la2), .int (nI ke2)])), (hn, .inl (cA, 34, .inl f2)), (hs, .inl (cA, 4096, .inl st2)), (h1, .inl (cA, 64, .inl pn2)), (h2, .inl (cA, 16, .inl wt2)), (h3, .inl (cA, 900, .inl rg2)), (h4, .inl (cA, 200, .inl pa2)), (he, .inl (cA, 10752, .inl en2)), (hc, .inl (cA, 257, .inl ct2))]) := by
  refine mkV (lv0 := [(0, .ref h0), (1, .int (nI a)), (2, .int (nI v))]) (by decide) (Nat.le_of_ble_eq_true rfl) rfl ?_
  intro p e s m below meth c A ls X hr hlocks hnm hE hA hP hD hS hl
  have hx := X.1
  have hb := X.2.1
  refine lv_iload_n hx hb dX4_writeAt_0 rfl (lv_at hl 1 rfl) ?_
  refine lv_sipush (v := 4080) hx hb dX4_writeAt_1 (by decide) ?_
  refine lv_icmp_lt (tgt := 23) hx hb dX4_writeAt_4 (by decide) (fun c_4_1 => ?_) (fun c_4_1 => ?_)
  · have nc_4_1 : a < 4080 := (nI_ltI (a := a) (b := 4080) (by omega) (by omega)).mp c_4_1
    refine lv_aload_n hx hb dX4_writeAt_23 rfl (lv_at hl 0 rfl) ?_
    refine k_get (C := RX4) (T := TX4) (N := 7) (ci := 4) (v := .ref hp) X hE hP 0 rfl rfl iX4 3 (by decide) w_161 rfl dX4_writeAt_24 ?_
    refine lv_iload_n hx hb dX4_writeAt_27 rfl (lv_at hl 1 rfl) ?_
    refine lv_aload_n hx hb dX4_writeAt_28 rfl (lv_at hl 0 rfl) ?_
    refine k_get (C := RX4) (T := TX4) (N := 7) (ci := 4) (v := .ref hs) X hE hP 0 rfl rfl iX4 1 (by decide) w_63 rfl dX4_writeAt_29 ?_
    refine lv_iload_n hx hb dX4_writeAt_32 rfl (lv_at hl 1 rfl) ?_
    obtain ⟨k_2, hk_2, ek_2⟩ := hst a (by omega)
    refine k_ald (v := nI k_2) X hE hP 4 rfl a rfl (by omega) (by decide) ek_2 dX4_writeAt_33 ?_
    refine kVv (n3 := 2) (As := [.int (nI a), .int (nI k_2)]) (rest := []) X hl.1 hE hP hD hS hA [(hp, .inr (3, [.ref he, .int (nI la), .int (nI ke)])), (he, .inl (cA, 10752, .inl en))] [(h0, .inr (4, [.ref hn, .ref hs, .ref hd, .ref hp, .ref hc, .int wy, .int dn])), (hd, .inr (1, [.ref hn, .ref h1, .ref h2, .ref h3, .ref h4])), (hn, .inl (cA, 34, .inl f)), (hs, .inl (cA, 4096, .inl st)), (h1, .inl (cA, 64, .inl pn)), (h2, .inl (cA, 16, .inl wt)), (h3, .inl (cA, 900, .inl rg)), (h4, .inl (cA, 200, .inl pa)), (hc, .inl (cA, 257, .inl ct))] [2, 9] [0, 1, 3, 4, 5, 6, 7, 8, 10] rfl rfl rfl (by decide +kernel) (by decide +kernel) (by decide +kernel) (c_s_keepByte l D cA cB hp he la ke en a k_2 (by first | assumption | decide | rfl | omega) (by first | assumption | decide | rfl | omega) hen (by first | assumption | decide | rfl | omega) (by first | assumption | decide | rfl | omega)) w_163 w_164 w_162 w_165 w_166 0 (ci := 3) (T := TX3) (N := 3) rfl rfl (by decide +kernel) rfl rfl (Nat.le_of_ble_eq_true rfl) ⟨(Nat.le_of_ble_eq_true rfl), (Nat.le_of_ble_eq_true rfl)⟩ ⟨(Nat.le_of_ble_eq_true rfl), (Nat.le_of_ble_eq_true rfl)⟩ dX4_writeAt_34 (fun W1 H locs hw hP hD hS => ?_)
    obtain ⟨la2_3, ke2_4, en2_5, hf_6, hf_7, hf_8, rfl⟩ := hw
    have hP : va_P D classes [(h0, .inr (4, [.ref hn, .ref hs, .ref hd, .ref hp, .ref hc, .int wy, .int dn])), (hd, .inr (1, [.ref hn, .ref h1, .ref h2, .ref h3, .ref h4])), (hn, .inl (cA, 34, .inl f)), (hs, .inl (cA, 4096, .inl st)), (h1, .inl (cA, 64, .inl pn)), (h2, .inl (cA, 16, .inl wt)), (h3, .inl (cA, 900, .inl rg)), (h4, .inl (cA, 200, .inl pa)), (hc, .inl (cA, 257, .inl ct)), (hp, .inr (3, [.ref he, .int (nI la2_3), .int (nI ke2_4)])), (he, .inl (cA, 10752, .inl en2_5))] H := hP
    have hD : va_D A [(h0, .inr (4, [.ref hn, .ref hs, .ref hd, .ref hp, .ref hc, .int wy, .int dn])), (hd, .inr (1, [.ref hn, .ref h1, .ref h2, .ref h3, .ref h4])), (hn, .inl (cA, 34, .inl f)), (hs, .inl (cA, 4096, .inl st)), (h1, .inl (cA, 64, .inl pn)), (h2, .inl (cA, 16, .inl wt)), (h3, .inl (cA, 900, .inl rg)), (h4, .inl (cA, 200, .inl pa)), (hc, .inl (cA, 257, .inl ct)), (hp, .inr (3, [.ref he, .int (nI la2_3), .int (nI ke2_4)])), (he, .inl (cA, 10752, .inl en2_5))] := hD
    refine lv_aload_n hx hb dX4_writeAt_37 rfl (lv_at hl 0 rfl) ?_
    refine k_get (C := RX4) (T := TX4) (N := 7) (ci := 4) (v := .ref hs) X hE hP 0 rfl rfl iX4 1 (by decide) w_63 rfl dX4_writeAt_38 ?_
    refine lv_iload_n hx hb dX4_writeAt_41 rfl (lv_at hl 1 rfl) ?_
    refine lv_iload_n hx hb dX4_writeAt_42 rfl (lv_at hl 2 rfl) ?_
    refine k_ast X hE hP hD hS 3 rfl a rfl (by omega) (by decide) [(h0, .inr (4, [.ref hn, .ref hs, .ref hd, .ref hp, .ref hc, .int wy, .int dn])), (hd, .inr (1, [.ref hn, .ref h1, .ref h2, .ref h3, .ref h4])), (hn, .inl (cA, 34, .inl f)), (hs, .inl (cA, 4096, .inl (upd st a (nI v)))), (h1, .inl (cA, 64, .inl pn)), (h2, .inl (cA, 16, .inl wt)), (h3, .inl (cA, 900, .inl rg)), (h4, .inl (cA, 200, .inl pa)), (hc, .inl (cA, 257, .inl ct)), (hp, .inr (3, [.ref he, .int (nI la2_3), .int (nI ke2_4)])), (he, .inl (cA, 10752, .inl en2_5))] rfl dX4_writeAt_43 (fun H locs hP hD hS => ?_)
    obtain ⟨g_9, eg_9⟩ : ∃ z, z = upd st a (nI v) := ⟨_, rfl⟩
    rw [← eg_9] at hP hD
    have hg_9 := okB_upd hst a (nI v) ⟨v, by omega, rfl⟩
    rw [← eg_9] at hg_9
    have hP : va_P D classes [(h0, .inr (4, [.ref hn, .ref hs, .ref hd, .ref hp, .ref hc, .int wy, .int dn])), (hd, .inr (1, [.ref hn, .ref h1, .ref h2, .ref h3, .ref h4])), (hn, .inl (cA, 34, .inl f)), (hs, .inl (cA, 4096, .inl g_9)), (h1, .inl (cA, 64, .inl pn)), (h2, .inl (cA, 16, .inl wt)), (h3, .inl (cA, 900, .inl rg)), (h4, .inl (cA, 200, .inl pa)), (hc, .inl (cA, 257, .inl ct)), (hp, .inr (3, [.ref he, .int (nI la2_3), .int (nI ke2_4)])), (he, .inl (cA, 10752, .inl en2_5))] H := hP
    have hD : va_D A [(h0, .inr (4, [.ref hn, .ref hs, .ref hd, .ref hp, .ref hc, .int wy, .int dn])), (hd, .inr (1, [.ref hn, .ref h1, .ref h2, .ref h3, .ref h4])), (hn, .inl (cA, 34, .inl f)), (hs, .inl (cA, 4096, .inl g_9)), (h1, .inl (cA, 64, .inl pn)), (h2, .inl (cA, 16, .inl wt)), (h3, .inl (cA, 900, .inl rg)), (h4, .inl (cA, 200, .inl pa)), (hc, .inl (cA, 257, .inl ct)), (hp, .inr (3, [.ref he, .int (nI la2_3), .int (nI ke2_4)])), (he, .inl (cA, 10752, .inl en2_5))] := hD
    have hP : va_P D classes [(h0, .inr (4, [.ref hn, .ref hs, .ref hd, .ref hp, .ref hc, .int wy, .int dn])), (hd, .inr (1, [.ref hn, .ref h1, .ref h2, .ref h3, .ref h4])), (hp, .inr (3, [.ref he, .int (nI la2_3), .int (nI ke2_4)])), (hn, .inl (cA, 34, .inl f)), (hs, .inl (cA, 4096, .inl g_9)), (h1, .inl (cA, 64, .inl pn)), (h2, .inl (cA, 16, .inl wt)), (h3, .inl (cA, 900, .inl rg)), (h4, .inl (cA, 200, .inl pa)), (he, .inl (cA, 10752, .inl en2_5)), (hc, .inl (cA, 257, .inl ct))] _ := hP.sub [0, 1, 9, 2, 3, 4, 5, 6, 7, 10, 8] rfl
    have hD : va_D A [(h0, .inr (4, [.ref hn, .ref hs, .ref hd, .ref hp, .ref hc, .int wy, .int dn])), (hd, .inr (1, [.ref hn, .ref h1, .ref h2, .ref h3, .ref h4])), (hp, .inr (3, [.ref he, .int (nI la2_3), .int (nI ke2_4)])), (hn, .inl (cA, 34, .inl f)), (hs, .inl (cA, 4096, .inl g_9)), (h1, .inl (cA, 64, .inl pn)), (h2, .inl (cA, 16, .inl wt)), (h3, .inl (cA, 900, .inl rg)), (h4, .inl (cA, 200, .inl pa)), (he, .inl (cA, 10752, .inl en2_5)), (hc, .inl (cA, 257, .inl ct))] := hD.sub [0, 1, 9, 2, 3, 4, 5, 6, 7, 10, 8] (by decide) rfl
    exact endV X hr hlocks hP hD hS dX4_writeAt_44 ⟨wy, dn, la2_3, ke2_4, f, g_9, pn, wt, rg, pa, en2_5, ct, (by omega), (by omega), hf, hg_9, hpn, hwt, hf_8, rfl⟩
  · have nc_4_1 : 4080 ≤ a := Nat.not_lt.mp (fun q => c_4_1 ((nI_ltI (a := a) (b := 4080) (by omega) (by omega)).mpr q))
    refine lv_aload_n hx hb dX4_writeAt_7 rfl (lv_at hl 0 rfl) ?_
    refine k_get (C := RX4) (T := TX4) (N := 7) (ci := 4) (v := .ref hd) X hE hP 0 rfl rfl iX4 2 (by decide) w_175 rfl dX4_writeAt_8 ?_
    refine lv_iload_n hx hb dX4_writeAt_11 rfl (lv_at hl 1 rfl) ?_
    refine lv_sipush (v := 4080) hx hb dX4_writeAt_12 (by decide) ?_
    refine lv_isub hx hb dX4_writeAt_15 ?_
    refine tk (y := nI (a - 4080)) (pk_sub (a := a) (b := 4080) (by omega)) ?_
    refine lv_iload_n hx hb dX4_writeAt_16 rfl (lv_at hl 2 rfl) ?_
    refine kVv (n3 := 2) (As := [.int (nI (a - 4080)), .int (nI v)]) (rest := []) X hl.1 hE hP hD hS hA [(hd, .inr (1, [.ref hn, .ref h1, .ref h2, .ref h3, .ref h4])), (hn, .inl (cA, 34, .inl f)), (h1, .inl (cA, 64, .inl pn)), (h2, .inl (cA, 16, .inl wt)), (h3, .inl (cA, 900, .inl rg)), (h4, .inl (cA, 200, .inl pa))] [(h0, .inr (4, [.ref hn, .ref hs, .ref hd, .ref hp, .ref hc, .int wy, .int dn])), (hp, .inr (3, [.ref he, .int (nI la), .int (nI ke)])), (hs, .inl (cA, 4096, .inl st)), (he, .inl (cA, 10752, .inl en)), (hc, .inl (cA, 257, .inl ct))] [1, 3, 5, 6, 7, 8] [0, 2, 4, 9, 10] rfl rfl rfl (by decide +kernel) (by decide +kernel) (by decide +kernel) (c_s_writePort l D cA cB hd hn h1 h2 h3 h4 f pn wt rg pa (a - 4080) v hf hpn hwt (by first | assumption | decide | rfl | omega) (by first | assumption | decide | rfl | omega)) w_181 w_9 w_180 w_182 w_183 0 (ci := 1) (T := TX1) (N := 5) rfl rfl (by decide +kernel) rfl rfl (Nat.le_of_ble_eq_true rfl) ⟨(Nat.le_of_ble_eq_true rfl), (Nat.le_of_ble_eq_true rfl)⟩ ⟨(Nat.le_of_ble_eq_true rfl), (Nat.le_of_ble_eq_true rfl)⟩ dX4_writeAt_17 (fun W1 H locs hw hP hD hS => ?_)
    obtain ⟨f2_10, pn2_11, wt2_12, rg2_13, pa2_14, hf_15, hf_16, hf_17, rfl⟩ := hw
    have hP : va_P D classes [(h0, .inr (4, [.ref hn, .ref hs, .ref hd, .ref hp, .ref hc, .int wy, .int dn])), (hp, .inr (3, [.ref he, .int (nI la), .int (nI ke)])), (hs, .inl (cA, 4096, .inl st)), (he, .inl (cA, 10752, .inl en)), (hc, .inl (cA, 257, .inl ct)), (hd, .inr (1, [.ref hn, .ref h1, .ref h2, .ref h3, .ref h4])), (hn, .inl (cA, 34, .inl f2_10)), (h1, .inl (cA, 64, .inl pn2_11)), (h2, .inl (cA, 16, .inl wt2_12)), (h3, .inl (cA, 900, .inl rg2_13)), (h4, .inl (cA, 200, .inl pa2_14))] H := hP
    have hD : va_D A [(h0, .inr (4, [.ref hn, .ref hs, .ref hd, .ref hp, .ref hc, .int wy, .int dn])), (hp, .inr (3, [.ref he, .int (nI la), .int (nI ke)])), (hs, .inl (cA, 4096, .inl st)), (he, .inl (cA, 10752, .inl en)), (hc, .inl (cA, 257, .inl ct)), (hd, .inr (1, [.ref hn, .ref h1, .ref h2, .ref h3, .ref h4])), (hn, .inl (cA, 34, .inl f2_10)), (h1, .inl (cA, 64, .inl pn2_11)), (h2, .inl (cA, 16, .inl wt2_12)), (h3, .inl (cA, 900, .inl rg2_13)), (h4, .inl (cA, 200, .inl pa2_14))] := hD
    refine lv_goto (tgt := 44) hx hb dX4_writeAt_20 (by decide) ?_
    have hP : va_P D classes [(h0, .inr (4, [.ref hn, .ref hs, .ref hd, .ref hp, .ref hc, .int wy, .int dn])), (hd, .inr (1, [.ref hn, .ref h1, .ref h2, .ref h3, .ref h4])), (hp, .inr (3, [.ref he, .int (nI la), .int (nI ke)])), (hn, .inl (cA, 34, .inl f2_10)), (hs, .inl (cA, 4096, .inl st)), (h1, .inl (cA, 64, .inl pn2_11)), (h2, .inl (cA, 16, .inl wt2_12)), (h3, .inl (cA, 900, .inl rg2_13)), (h4, .inl (cA, 200, .inl pa2_14)), (he, .inl (cA, 10752, .inl en)), (hc, .inl (cA, 257, .inl ct))] _ := hP.sub [0, 5, 1, 6, 2, 7, 8, 9, 10, 3, 4] rfl
    have hD : va_D A [(h0, .inr (4, [.ref hn, .ref hs, .ref hd, .ref hp, .ref hc, .int wy, .int dn])), (hd, .inr (1, [.ref hn, .ref h1, .ref h2, .ref h3, .ref h4])), (hp, .inr (3, [.ref he, .int (nI la), .int (nI ke)])), (hn, .inl (cA, 34, .inl f2_10)), (hs, .inl (cA, 4096, .inl st)), (h1, .inl (cA, 64, .inl pn2_11)), (h2, .inl (cA, 16, .inl wt2_12)), (h3, .inl (cA, 900, .inl rg2_13)), (h4, .inl (cA, 200, .inl pa2_14)), (he, .inl (cA, 10752, .inl en)), (hc, .inl (cA, 257, .inl ct))] := hD.sub [0, 5, 1, 6, 2, 7, 8, 9, 10, 3, 4] (by decide) rfl
    exact endV X hr hlocks hP hD hS dX4_writeAt_44 ⟨wy, dn, la, ke, f2_10, st, pn2_11, wt2_12, rg2_13, pa2_14, en, ct, (by omega), (by omega), hf_15, hst, hf_16, hf_17, hen, rfl⟩
set_option maxHeartbeats 4000000 in
set_option maxRecDepth 100000 in
theorem c_s_useAddress (l : Launch) (D : va_G) (cA cB : ClassId) (h0 : Nat) (hn : Nat) (hs : Nat) (hd : Nat) (hp : Nat) (hc : Nat) (h1 : Nat) (h2 : Nat) (h3 : Nat) (h4 : Nat) (he : Nat) (wy : Int32) (dn : Int32) (la : Nat) (ke : Nat) (f : Nat → Int32) (st : Nat → Int32) (pn : Nat → Int32) (wt : Nat → Int32) (rg : Nat → Int32) (pa : Nat → Int32) (en : Nat → Int32) (ct : Nat → Int32) (o : Nat) (a : Nat) (hla : la < 256) (hke : ke < 257) (hf : okN f) (hst : ∀ j, j < 4096 → ∃ k : Nat, k < 256 ∧ st j = nI k) (hpn : ∀ j, j < 64 → ∃ k : Nat, k < 256 ∧ pn j = nI k) (hwt : ∀ j, j < 16 → ∃ k : Nat, k < 256 ∧ wt j = nI k) (hen : okE en) (ho : o < 32) (ha : a < 4096) : CV l yX4_useAddress cX4_useAddress 3 none 3 67 0 0 D cA cB [.ref h0, .int (nI o), .int (nI a)] [(h0, .inr (4, [.ref hn, .ref hs, .ref hd, .ref hp, .ref hc, .int wy, .int dn])), (hd, .inr (1, [.ref hn, .ref h1, .ref h2, .ref h3, .ref h4])), (hp, .inr (3, [.ref he, .int (nI la), .int (nI ke)])), (hn, .inl (cA, 34, .inl f)), (hs, .inl (cA, 4096, .inl st)), (h1, .inl (cA, 64, .inl pn)), (h2, .inl (cA, 16, .inl wt)), (h3, .inl (cA, 900, .inl rg)), (h4, .inl (cA, 200, .inl pa)), (he, .inl (cA, 10752, .inl en)), (hc, .inl (cA, 257, .inl ct))] (fun W1 => ∃ (wy2 : Int32) (dn2 : Int32) (la2 : Nat) (ke2 : Nat) (f2 : Nat → Int32) (st2 : Nat → Int32) (pn2 : Nat → Int32) (wt2 : Nat → Int32) (rg2 : Nat → Int32) (pa2 : Nat → Int32) (en2 : Nat → Int32) (ct2 : Nat → Int32), (la2 < 256) ∧ (ke2 < 257) ∧ (okN f2) ∧ (∀ j, j < 4096 → ∃ k : Nat, k < 256 ∧ st2 j = nI k) ∧ (∀ j, j < 64 → ∃ k : Nat, k < 256 ∧ pn2 j = nI k) ∧ (∀ j, j < 16 → ∃ k : Nat, k < 256 ∧ wt2 j = nI k) ∧ (okE en2) ∧ W1 = [(h0, .inr (4, [.ref hn, .ref hs, .ref hd, .ref hp, .ref hc, .int wy2, .int dn2])), (hd, .inr (1, [.ref hn, .ref h1, .ref h2, .ref h3, .ref h4])), (hp, .inr (3, [.ref he, .int (nI la2), .int (nI ke2)])), (hn, .inl (cA, 34, .inl f2)), (hs, .inl (cA, 4096, .inl st2)), (h1, .inl (cA, 64, .inl pn2)), (h2, .inl (cA, 16, .inl wt2)), (h3, .inl (cA, 900, .inl rg2)), (h4, .inl (cA, 200, .inl pa2)), (he, .inl (cA, 10752, .inl en2)), (hc, .inl (cA, 257, .inl ct2))]) := by
  refine mkV (lv0 := [(0, .ref h0), (1, .int (nI o)), (2, .int (nI a))]) (by decide) (Nat.le_of_ble_eq_true rfl) rfl ?_
  intro p e s m below meth c A ls X hr hlocks hnm hE hA hP hD hS hl
  have hx := X.1
  have hb := X.2.1
  refine lv_iload_n hx hb dX4_useAddress_0 rfl (lv_at hl 1 rfl) ?_
  by_cases c_1_1 : (nI o) = 16
  · refine lv_tableIn (tgt := 80) (off := 79) hx hb dX4_useAddress_1 (by rw [c_1_1]; decide) (by rw [c_1_1]; decide) (by rw [c_1_1]; decide) (by decide) ?_
    refine lv_aload_n hx hb dX4_useAddress_80 rfl (lv_at hl 0 rfl) ?_
    refine lv_iload_n hx hb dX4_useAddress_81 rfl (lv_at hl 2 rfl) ?_
    refine lv_aload_n hx hb dX4_useAddress_82 rfl (lv_at hl 0 rfl) ?_
    refine k_get (C := RX4) (T := TX4) (N := 7) (ci := 4) (v := .ref hn) X hE hP 0 rfl rfl iX4 0 (by decide) w_69 rfl dX4_useAddress_83 ?_
    refine lv_iconst (v := 0) hx hb dX4_useAddress_86 (by decide) ?_
    obtain ⟨k_2, hk_2, ek_2⟩ := hf.at 0 256 (by decide) rfl
    refine k_ald (v := nI k_2) X hE hP 3 rfl 0 rfl (by decide) (by decide) ek_2 dX4_useAddress_87 ?_
    refine kVv (n3 := 2) (As := [.int (nI a), .int (nI k_2)]) (rest := []) X hl.1 hE hP hD hS hA [(h0, .inr (4, [.ref hn, .ref hs, .ref hd, .ref hp, .ref hc, .int wy, .int dn])), (hd, .inr (1, [.ref hn, .ref h1, .ref h2, .ref h3, .ref h4])), (hp, .inr (3, [.ref he, .int (nI la), .int (nI ke)])), (hn, .inl (cA, 34, .inl f)), (hs, .inl (cA, 4096, .inl st)), (h1, .inl (cA, 64, .inl pn)), (h2, .inl (cA, 16, .inl wt)), (h3, .inl (cA, 900, .inl rg)), (h4, .inl (cA, 200, .inl pa)), (he, .inl (cA, 10752, .inl en)), (hc, .inl (cA, 257, .inl ct))] [] [0, 1, 2, 3, 4, 5, 6, 7, 8, 9, 10] [] rfl rfl rfl (by decide +kernel) (by decide +kernel) (by decide +kernel) (c_s_writeAt l D cA cB h0 hn hs hd hp hc h1 h2 h3 h4 he wy dn la ke f st pn wt rg pa en ct a k_2 (by first | assumption | decide | rfl | omega) (by first | assumption | decide | rfl | omega) hf hst hpn hwt hen (by first | assumption | decide | rfl | omega) (by first | assumption | decide | rfl | omega)) w_185 w_66 w_184 w_186 w_187 0 (ci := 4) (T := TX4) (N := 7) rfl rfl (by decide +kernel) rfl rfl (Nat.le_of_ble_eq_true rfl) ⟨(Nat.le_of_ble_eq_true rfl), (Nat.le_of_ble_eq_true rfl)⟩ ⟨(Nat.le_of_ble_eq_true rfl), (Nat.le_of_ble_eq_true rfl)⟩ dX4_useAddress_88 (fun W1 H locs hw hP hD hS => ?_)
    obtain ⟨wy2_3, dn2_4, la2_5, ke2_6, f2_7, st2_8, pn2_9, wt2_10, rg2_11, pa2_12, en2_13, ct2_14, hf_15, hf_16, hf_17, hf_18, hf_19, hf_20, hf_21, rfl⟩ := hw
    have hP : va_P D classes [(h0, .inr (4, [.ref hn, .ref hs, .ref hd, .ref hp, .ref hc, .int wy2_3, .int dn2_4])), (hd, .inr (1, [.ref hn, .ref h1, .ref h2, .ref h3, .ref h4])), (hp, .inr (3, [.ref he, .int (nI la2_5), .int (nI ke2_6)])), (hn, .inl (cA, 34, .inl f2_7)), (hs, .inl (cA, 4096, .inl st2_8)), (h1, .inl (cA, 64, .inl pn2_9)), (h2, .inl (cA, 16, .inl wt2_10)), (h3, .inl (cA, 900, .inl rg2_11)), (h4, .inl (cA, 200, .inl pa2_12)), (he, .inl (cA, 10752, .inl en2_13)), (hc, .inl (cA, 257, .inl ct2_14))] H := hP
    have hD : va_D A [(h0, .inr (4, [.ref hn, .ref hs, .ref hd, .ref hp, .ref hc, .int wy2_3, .int dn2_4])), (hd, .inr (1, [.ref hn, .ref h1, .ref h2, .ref h3, .ref h4])), (hp, .inr (3, [.ref he, .int (nI la2_5), .int (nI ke2_6)])), (hn, .inl (cA, 34, .inl f2_7)), (hs, .inl (cA, 4096, .inl st2_8)), (h1, .inl (cA, 64, .inl pn2_9)), (h2, .inl (cA, 16, .inl wt2_10)), (h3, .inl (cA, 900, .inl rg2_11)), (h4, .inl (cA, 200, .inl pa2_12)), (he, .inl (cA, 10752, .inl en2_13)), (hc, .inl (cA, 257, .inl ct2_14))] := hD
    refine lv_goto (tgt := 170) hx hb dX4_useAddress_91 (by decide) ?_
    exact endV X hr hlocks hP hD hS dX4_useAddress_170 ⟨wy2_3, dn2_4, la2_5, ke2_6, f2_7, st2_8, pn2_9, wt2_10, rg2_11, pa2_12, en2_13, ct2_14, (by omega), (by omega), hf_17, hf_18, hf_19, hf_20, hf_21, rfl⟩
  · skip
    by_cases c_1_22 : (nI o) = 17
    · refine lv_tableIn (tgt := 94) (off := 93) hx hb dX4_useAddress_1 (by rw [c_1_22]; decide) (by rw [c_1_22]; decide) (by rw [c_1_22]; decide) (by decide) ?_
      refine lv_aload_n hx hb dX4_useAddress_94 rfl (lv_at hl 0 rfl) ?_
      refine lv_iload_n hx hb dX4_useAddress_95 rfl (lv_at hl 2 rfl) ?_
      refine lv_aload_n hx hb dX4_useAddress_96 rfl (lv_at hl 0 rfl) ?_
      refine k_get (C := RX4) (T := TX4) (N := 7) (ci := 4) (v := .ref hn) X hE hP 0 rfl rfl iX4 0 (by decide) w_69 rfl dX4_useAddress_97 ?_
      refine lv_iconst (v := 1) hx hb dX4_useAddress_100 (by decide) ?_
      obtain ⟨k_23, hk_23, ek_23⟩ := hf.at 1 256 (by decide) rfl
      refine k_ald (v := nI k_23) X hE hP 3 rfl 1 rfl (by decide) (by decide) ek_23 dX4_useAddress_101 ?_
      refine kVv (n3 := 2) (As := [.int (nI a), .int (nI k_23)]) (rest := []) X hl.1 hE hP hD hS hA [(h0, .inr (4, [.ref hn, .ref hs, .ref hd, .ref hp, .ref hc, .int wy, .int dn])), (hd, .inr (1, [.ref hn, .ref h1, .ref h2, .ref h3, .ref h4])), (hp, .inr (3, [.ref he, .int (nI la), .int (nI ke)])), (hn, .inl (cA, 34, .inl f)), (hs, .inl (cA, 4096, .inl st)), (h1, .inl (cA, 64, .inl pn)), (h2, .inl (cA, 16, .inl wt)), (h3, .inl (cA, 900, .inl rg)), (h4, .inl (cA, 200, .inl pa)), (he, .inl (cA, 10752, .inl en)), (hc, .inl (cA, 257, .inl ct))] [] [0, 1, 2, 3, 4, 5, 6, 7, 8, 9, 10] [] rfl rfl rfl (by decide +kernel) (by decide +kernel) (by decide +kernel) (c_s_writeAt l D cA cB h0 hn hs hd hp hc h1 h2 h3 h4 he wy dn la ke f st pn wt rg pa en ct a k_23 (by first | assumption | decide | rfl | omega) (by first | assumption | decide | rfl | omega) hf hst hpn hwt hen (by first | assumption | decide | rfl | omega) (by first | assumption | decide | rfl | omega)) w_185 w_66 w_184 w_186 w_187 0 (ci := 4) (T := TX4) (N := 7) rfl rfl (by decide +kernel) rfl rfl (Nat.le_of_ble_eq_true rfl) ⟨(Nat.le_of_ble_eq_true rfl), (Nat.le_of_ble_eq_true rfl)⟩ ⟨(Nat.le_of_ble_eq_true rfl), (Nat.le_of_ble_eq_true rfl)⟩ dX4_useAddress_102 (fun W1 H locs hw hP hD hS => ?_)
      obtain ⟨wy2_24, dn2_25, la2_26, ke2_27, f2_28, st2_29, pn2_30, wt2_31, rg2_32, pa2_33, en2_34, ct2_35, hf_36, hf_37, hf_38, hf_39, hf_40, hf_41, hf_42, rfl⟩ := hw
      have hP : va_P D classes [(h0, .inr (4, [.ref hn, .ref hs, .ref hd, .ref hp, .ref hc, .int wy2_24, .int dn2_25])), (hd, .inr (1, [.ref hn, .ref h1, .ref h2, .ref h3, .ref h4])), (hp, .inr (3, [.ref he, .int (nI la2_26), .int (nI ke2_27)])), (hn, .inl (cA, 34, .inl f2_28)), (hs, .inl (cA, 4096, .inl st2_29)), (h1, .inl (cA, 64, .inl pn2_30)), (h2, .inl (cA, 16, .inl wt2_31)), (h3, .inl (cA, 900, .inl rg2_32)), (h4, .inl (cA, 200, .inl pa2_33)), (he, .inl (cA, 10752, .inl en2_34)), (hc, .inl (cA, 257, .inl ct2_35))] H := hP
      have hD : va_D A [(h0, .inr (4, [.ref hn, .ref hs, .ref hd, .ref hp, .ref hc, .int wy2_24, .int dn2_25])), (hd, .inr (1, [.ref hn, .ref h1, .ref h2, .ref h3, .ref h4])), (hp, .inr (3, [.ref he, .int (nI la2_26), .int (nI ke2_27)])), (hn, .inl (cA, 34, .inl f2_28)), (hs, .inl (cA, 4096, .inl st2_29)), (h1, .inl (cA, 64, .inl pn2_30)), (h2, .inl (cA, 16, .inl wt2_31)), (h3, .inl (cA, 900, .inl rg2_32)), (h4, .inl (cA, 200, .inl pa2_33)), (he, .inl (cA, 10752, .inl en2_34)), (hc, .inl (cA, 257, .inl ct2_35))] := hD
      refine lv_goto (tgt := 170) hx hb dX4_useAddress_105 (by decide) ?_
      exact endV X hr hlocks hP hD hS dX4_useAddress_170 ⟨wy2_24, dn2_25, la2_26, ke2_27, f2_28, st2_29, pn2_30, wt2_31, rg2_32, pa2_33, en2_34, ct2_35, (by omega), (by omega), hf_38, hf_39, hf_40, hf_41, hf_42, rfl⟩
    · skip
      by_cases c_1_43 : (nI o) = 18
      · refine lv_tableIn (tgt := 108) (off := 107) hx hb dX4_useAddress_1 (by rw [c_1_43]; decide) (by rw [c_1_43]; decide) (by rw [c_1_43]; decide) (by decide) ?_
        refine lv_aload_n hx hb dX4_useAddress_108 rfl (lv_at hl 0 rfl) ?_
        refine lv_iload_n hx hb dX4_useAddress_109 rfl (lv_at hl 2 rfl) ?_
        refine lv_aload_n hx hb dX4_useAddress_110 rfl (lv_at hl 0 rfl) ?_
        refine k_get (C := RX4) (T := TX4) (N := 7) (ci := 4) (v := .ref hn) X hE hP 0 rfl rfl iX4 0 (by decide) w_69 rfl dX4_useAddress_111 ?_
        refine lv_iconst (v := 2) hx hb dX4_useAddress_114 (by decide) ?_
        obtain ⟨k_44, hk_44, ek_44⟩ := hf.at 2 256 (by decide) rfl
        refine k_ald (v := nI k_44) X hE hP 3 rfl 2 rfl (by decide) (by decide) ek_44 dX4_useAddress_115 ?_
        refine kVv (n3 := 2) (As := [.int (nI a), .int (nI k_44)]) (rest := []) X hl.1 hE hP hD hS hA [(h0, .inr (4, [.ref hn, .ref hs, .ref hd, .ref hp, .ref hc, .int wy, .int dn])), (hd, .inr (1, [.ref hn, .ref h1, .ref h2, .ref h3, .ref h4])), (hp, .inr (3, [.ref he, .int (nI la), .int (nI ke)])), (hn, .inl (cA, 34, .inl f)), (hs, .inl (cA, 4096, .inl st)), (h1, .inl (cA, 64, .inl pn)), (h2, .inl (cA, 16, .inl wt)), (h3, .inl (cA, 900, .inl rg)), (h4, .inl (cA, 200, .inl pa)), (he, .inl (cA, 10752, .inl en)), (hc, .inl (cA, 257, .inl ct))] [] [0, 1, 2, 3, 4, 5, 6, 7, 8, 9, 10] [] rfl rfl rfl (by decide +kernel) (by decide +kernel) (by decide +kernel) (c_s_writeAt l D cA cB h0 hn hs hd hp hc h1 h2 h3 h4 he wy dn la ke f st pn wt rg pa en ct a k_44 (by first | assumption | decide | rfl | omega) (by first | assumption | decide | rfl | omega) hf hst hpn hwt hen (by first | assumption | decide | rfl | omega) (by first | assumption | decide | rfl | omega)) w_185 w_66 w_184 w_186 w_187 0 (ci := 4) (T := TX4) (N := 7) rfl rfl (by decide +kernel) rfl rfl (Nat.le_of_ble_eq_true rfl) ⟨(Nat.le_of_ble_eq_true rfl), (Nat.le_of_ble_eq_true rfl)⟩ ⟨(Nat.le_of_ble_eq_true rfl), (Nat.le_of_ble_eq_true rfl)⟩ dX4_useAddress_116 (fun W1 H locs hw hP hD hS => ?_)
        obtain ⟨wy2_45, dn2_46, la2_47, ke2_48, f2_49, st2_50, pn2_51, wt2_52, rg2_53, pa2_54, en2_55, ct2_56, hf_57, hf_58, hf_59, hf_60, hf_61, hf_62, hf_63, rfl⟩ := hw
        have hP : va_P D classes [(h0, .inr (4, [.ref hn, .ref hs, .ref hd, .ref hp, .ref hc, .int wy2_45, .int dn2_46])), (hd, .inr (1, [.ref hn, .ref h1, .ref h2, .ref h3, .ref h4])), (hp, .inr (3, [.ref he, .int (nI la2_47), .int (nI ke2_48)])), (hn, .inl (cA, 34, .inl f2_49)), (hs, .inl (cA, 4096, .inl st2_50)), (h1, .inl (cA, 64, .inl pn2_51)), (h2, .inl (cA, 16, .inl wt2_52)), (h3, .inl (cA, 900, .inl rg2_53)), (h4, .inl (cA, 200, .inl pa2_54)), (he, .inl (cA, 10752, .inl en2_55)), (hc, .inl (cA, 257, .inl ct2_56))] H := hP
        have hD : va_D A [(h0, .inr (4, [.ref hn, .ref hs, .ref hd, .ref hp, .ref hc, .int wy2_45, .int dn2_46])), (hd, .inr (1, [.ref hn, .ref h1, .ref h2, .ref h3, .ref h4])), (hp, .inr (3, [.ref he, .int (nI la2_47), .int (nI ke2_48)])), (hn, .inl (cA, 34, .inl f2_49)), (hs, .inl (cA, 4096, .inl st2_50)), (h1, .inl (cA, 64, .inl pn2_51)), (h2, .inl (cA, 16, .inl wt2_52)), (h3, .inl (cA, 900, .inl rg2_53)), (h4, .inl (cA, 200, .inl pa2_54)), (he, .inl (cA, 10752, .inl en2_55)), (hc, .inl (cA, 257, .inl ct2_56))] := hD
        refine lv_goto (tgt := 170) hx hb dX4_useAddress_119 (by decide) ?_
        exact endV X hr hlocks hP hD hS dX4_useAddress_170 ⟨wy2_45, dn2_46, la2_47, ke2_48, f2_49, st2_50, pn2_51, wt2_52, rg2_53, pa2_54, en2_55, ct2_56, (by omega), (by omega), hf_59, hf_60, hf_61, hf_62, hf_63, rfl⟩
      · skip
        by_cases c_1_64 : (nI o) = 19
        · refine lv_tableIn (tgt := 122) (off := 121) hx hb dX4_useAddress_1 (by rw [c_1_64]; decide) (by rw [c_1_64]; decide) (by rw [c_1_64]; decide) (by decide) ?_
          refine lv_aload_n hx hb dX4_useAddress_122 rfl (lv_at hl 0 rfl) ?_
          refine lv_iload_n hx hb dX4_useAddress_123 rfl (lv_at hl 2 rfl) ?_
          refine lv_iconst (v := 0) hx hb dX4_useAddress_124 (by decide) ?_
          refine kVv (n3 := 2) (As := [.int (nI a), .int 0]) (rest := []) X hl.1 hE hP hD hS hA [(h0, .inr (4, [.ref hn, .ref hs, .ref hd, .ref hp, .ref hc, .int wy, .int dn])), (hd, .inr (1, [.ref hn, .ref h1, .ref h2, .ref h3, .ref h4])), (hp, .inr (3, [.ref he, .int (nI la), .int (nI ke)])), (hn, .inl (cA, 34, .inl f)), (hs, .inl (cA, 4096, .inl st)), (h1, .inl (cA, 64, .inl pn)), (h2, .inl (cA, 16, .inl wt)), (h3, .inl (cA, 900, .inl rg)), (h4, .inl (cA, 200, .inl pa)), (he, .inl (cA, 10752, .inl en)), (hc, .inl (cA, 257, .inl ct))] [] [0, 1, 2, 3, 4, 5, 6, 7, 8, 9, 10] [] rfl rfl rfl (by decide +kernel) (by decide +kernel) (by decide +kernel) (c_s_writeAt l D cA cB h0 hn hs hd hp hc h1 h2 h3 h4 he wy dn la ke f st pn wt rg pa en ct a 0 (by first | assumption | decide | rfl | omega) (by first | assumption | decide | rfl | omega) hf hst hpn hwt hen (by first | assumption | decide | rfl | omega) (by first | assumption | decide | rfl | omega)) w_185 w_66 w_184 w_186 w_187 0 (ci := 4) (T := TX4) (N := 7) rfl rfl (by decide +kernel) rfl rfl (Nat.le_of_ble_eq_true rfl) ⟨(Nat.le_of_ble_eq_true rfl), (Nat.le_of_ble_eq_true rfl)⟩ ⟨(Nat.le_of_ble_eq_true rfl), (Nat.le_of_ble_eq_true rfl)⟩ dX4_useAddress_125 (fun W1 H locs hw hP hD hS => ?_)
          obtain ⟨wy2_65, dn2_66, la2_67, ke2_68, f2_69, st2_70, pn2_71, wt2_72, rg2_73, pa2_74, en2_75, ct2_76, hf_77, hf_78, hf_79, hf_80, hf_81, hf_82, hf_83, rfl⟩ := hw
          have hP : va_P D classes [(h0, .inr (4, [.ref hn, .ref hs, .ref hd, .ref hp, .ref hc, .int wy2_65, .int dn2_66])), (hd, .inr (1, [.ref hn, .ref h1, .ref h2, .ref h3, .ref h4])), (hp, .inr (3, [.ref he, .int (nI la2_67), .int (nI ke2_68)])), (hn, .inl (cA, 34, .inl f2_69)), (hs, .inl (cA, 4096, .inl st2_70)), (h1, .inl (cA, 64, .inl pn2_71)), (h2, .inl (cA, 16, .inl wt2_72)), (h3, .inl (cA, 900, .inl rg2_73)), (h4, .inl (cA, 200, .inl pa2_74)), (he, .inl (cA, 10752, .inl en2_75)), (hc, .inl (cA, 257, .inl ct2_76))] H := hP
          have hD : va_D A [(h0, .inr (4, [.ref hn, .ref hs, .ref hd, .ref hp, .ref hc, .int wy2_65, .int dn2_66])), (hd, .inr (1, [.ref hn, .ref h1, .ref h2, .ref h3, .ref h4])), (hp, .inr (3, [.ref he, .int (nI la2_67), .int (nI ke2_68)])), (hn, .inl (cA, 34, .inl f2_69)), (hs, .inl (cA, 4096, .inl st2_70)), (h1, .inl (cA, 64, .inl pn2_71)), (h2, .inl (cA, 16, .inl wt2_72)), (h3, .inl (cA, 900, .inl rg2_73)), (h4, .inl (cA, 200, .inl pa2_74)), (he, .inl (cA, 10752, .inl en2_75)), (hc, .inl (cA, 257, .inl ct2_76))] := hD
          refine lv_goto (tgt := 170) hx hb dX4_useAddress_128 (by decide) ?_
          exact endV X hr hlocks hP hD hS dX4_useAddress_170 ⟨wy2_65, dn2_66, la2_67, ke2_68, f2_69, st2_70, pn2_71, wt2_72, rg2_73, pa2_74, en2_75, ct2_76, (by omega), (by omega), hf_79, hf_80, hf_81, hf_82, hf_83, rfl⟩
        · skip
          by_cases c_1_84 : (nI o) = 20
          · refine lv_tableIn (tgt := 155) (off := 154) hx hb dX4_useAddress_1 (by rw [c_1_84]; decide) (by rw [c_1_84]; decide) (by rw [c_1_84]; decide) (by decide) ?_
            refine lv_aload_n hx hb dX4_useAddress_155 rfl (lv_at hl 0 rfl) ?_
            refine lv_iload_n hx hb dX4_useAddress_156 rfl (lv_at hl 2 rfl) ?_
            refine lv_aload_n hx hb dX4_useAddress_157 rfl (lv_at hl 0 rfl) ?_
            refine lv_iload_n hx hb dX4_useAddress_158 rfl (lv_at hl 1 rfl) ?_
            refine lv_aload_n hx hb dX4_useAddress_159 rfl (lv_at hl 0 rfl) ?_
            refine lv_iload_n hx hb dX4_useAddress_160 rfl (lv_at hl 2 rfl) ?_
            refine kVi (n3 := 1) (As := [.int (nI a)]) (rest := [.int (nI o), .ref h0, .int (nI a), .ref h0]) X hl.1 hE hP hD hS hA [(h0, .inr (4, [.ref hn, .ref hs, .ref hd, .ref hp, .ref hc, .int wy, .int dn])), (hd, .inr (1, [.ref hn, .ref h1, .ref h2, .ref h3, .ref h4])), (hp, .inr (3, [.ref he, .int (nI la), .int (nI ke)])), (hn, .inl (cA, 34, .inl f)), (hs, .inl (cA, 4096, .inl st)), (h1, .inl (cA, 64, .inl pn)), (h2, .inl (cA, 16, .inl wt)), (h3, .inl (cA, 900, .inl rg)), (h4, .inl (cA, 200, .inl pa)), (he, .inl (cA, 10752, .inl en)), (hc, .inl (cA, 257, .inl ct))] [] [0, 1, 2, 3, 4, 5, 6, 7, 8, 9, 10] [] rfl rfl rfl (by decide +kernel) (by decide +kernel) (by decide +kernel) (c_s_readAt l D cA cB h0 hn hs hd hp hc h1 h2 h3 h4 he wy dn la ke f st pn wt rg pa en ct a (by first | assumption | decide | rfl | omega) (by first | assumption | decide | rfl | omega) hf hst hpn hwt hen (by first | assumption | decide | rfl | omega)) w_189 w_66 w_188 w_190 w_191 0 (ci := 4) (T := TX4) (N := 7) rfl rfl (by decide +kernel) rfl rfl (Nat.le_of_ble_eq_true rfl) ⟨(Nat.le_of_ble_eq_true rfl), (Nat.le_of_ble_eq_true rfl)⟩ ⟨(Nat.le_of_ble_eq_true rfl), (Nat.le_of_ble_eq_true rfl)⟩ dX4_useAddress_161 (fun r W1 H locs hw hP hD hS => ?_)
            obtain ⟨wy2_85, dn2_86, la2_87, ke2_88, f2_89, st2_90, pn2_91, wt2_92, rg2_93, pa2_94, en2_95, ct2_96, rk_97, rfl, hf_98, hf_99, hf_100, hf_101, hf_102, hf_103, hf_104, hf_105, rfl⟩ := hw
            have hP : va_P D classes [(h0, .inr (4, [.ref hn, .ref hs, .ref hd, .ref hp, .ref hc, .int wy2_85, .int dn2_86])), (hd, .inr (1, [.ref hn, .ref h1, .ref h2, .ref h3, .ref h4])), (hp, .inr (3, [.ref he, .int (nI la2_87), .int (nI ke2_88)])), (hn, .inl (cA, 34, .inl f2_89)), (hs, .inl (cA, 4096, .inl st2_90)), (h1, .inl (cA, 64, .inl pn2_91)), (h2, .inl (cA, 16, .inl wt2_92)), (h3, .inl (cA, 900, .inl rg2_93)), (h4, .inl (cA, 200, .inl pa2_94)), (he, .inl (cA, 10752, .inl en2_95)), (hc, .inl (cA, 257, .inl ct2_96))] H := hP
            have hD : va_D A [(h0, .inr (4, [.ref hn, .ref hs, .ref hd, .ref hp, .ref hc, .int wy2_85, .int dn2_86])), (hd, .inr (1, [.ref hn, .ref h1, .ref h2, .ref h3, .ref h4])), (hp, .inr (3, [.ref he, .int (nI la2_87), .int (nI ke2_88)])), (hn, .inl (cA, 34, .inl f2_89)), (hs, .inl (cA, 4096, .inl st2_90)), (h1, .inl (cA, 64, .inl pn2_91)), (h2, .inl (cA, 16, .inl wt2_92)), (h3, .inl (cA, 900, .inl rg2_93)), (h4, .inl (cA, 200, .inl pa2_94)), (he, .inl (cA, 10752, .inl en2_95)), (hc, .inl (cA, 257, .inl ct2_96))] := hD
            refine kVi (n3 := 2) (As := [.int (nI o), .int (nI rk_97)]) (rest := [.int (nI a), .ref h0]) X hl.1 hE hP hD hS hA [(h0, .inr (4, [.ref hn, .ref hs, .ref hd, .ref hp, .ref hc, .int wy2_85, .int dn2_86])), (hn, .inl (cA, 34, .inl f2_89))] [(hd, .inr (1, [.ref hn, .ref h1, .ref h2, .ref h3, .ref h4])), (hp, .inr (3, [.ref he, .int (nI la2_87), .int (nI ke2_88)])), (hs, .inl (cA, 4096, .inl st2_90)), (h1, .inl (cA, 64, .inl pn2_91)), (h2, .inl (cA, 16, .inl wt2_92)), (h3, .inl (cA, 900, .inl rg2_93)), (h4, .inl (cA, 200, .inl pa2_94)), (he, .inl (cA, 10752, .inl en2_95)), (hc, .inl (cA, 257, .inl ct2_96))] [0, 3] [1, 2, 4, 5, 6, 7, 8, 9, 10] rfl rfl rfl (by decide +kernel) (by decide +kernel) (by decide +kernel) (c_s_changed l D cA cB h0 hn hs hd hp hc wy2_85 dn2_86 f2_89 o rk_97 hf_100 (by first | assumption | decide | rfl | omega) (by first | assumption | decide | rfl | omega)) w_193 w_66 w_192 w_194 w_195 0 (ci := 4) (T := TX4) (N := 7) rfl rfl (by decide +kernel) rfl rfl (Nat.le_of_ble_eq_true rfl) ⟨(Nat.le_of_ble_eq_true rfl), (Nat.le_of_ble_eq_true rfl)⟩ ⟨(Nat.le_of_ble_eq_true rfl), (Nat.le_of_ble_eq_true rfl)⟩ dX4_useAddress_164 (fun r W1 H locs hw hP hD hS => ?_)
            obtain ⟨wy2_106, dn2_107, f2_108, rk_109, rfl, hf_110, hf_111, rfl⟩ := hw
            have hP : va_P D classes [(hd, .inr (1, [.ref hn, .ref h1, .ref h2, .ref h3, .ref h4])), (hp, .inr (3, [.ref he, .int (nI la2_87), .int (nI ke2_88)])), (hs, .inl (cA, 4096, .inl st2_90)), (h1, .inl (cA, 64, .inl pn2_91)), (h2, .inl (cA, 16, .inl wt2_92)), (h3, .inl (cA, 900, .inl rg2_93)), (h4, .inl (cA, 200, .inl pa2_94)), (he, .inl (cA, 10752, .inl en2_95)), (hc, .inl (cA, 257, .inl ct2_96)), (h0, .inr (4, [.ref hn, .ref hs, .ref hd, .ref hp, .ref hc, .int wy2_106, .int dn2_107])), (hn, .inl (cA, 34, .inl f2_108))] H := hP
            have hD : va_D A [(hd, .inr (1, [.ref hn, .ref h1, .ref h2, .ref h3, .ref h4])), (hp, .inr (3, [.ref he, .int (nI la2_87), .int (nI ke2_88)])), (hs, .inl (cA, 4096, .inl st2_90)), (h1, .inl (cA, 64, .inl pn2_91)), (h2, .inl (cA, 16, .inl wt2_92)), (h3, .inl (cA, 900, .inl rg2_93)), (h4, .inl (cA, 200, .inl pa2_94)), (he, .inl (cA, 10752, .inl en2_95)), (hc, .inl (cA, 257, .inl ct2_96)), (h0, .inr (4, [.ref hn, .ref hs, .ref hd, .ref hp, .ref hc, .int wy2_106, .int dn2_107])), (hn, .inl (cA, 34, .inl f2_108))] := hD
            refine kVv (n3 := 2) (As := [.int (nI a), .int (nI rk_109)]) (rest := []) X hl.1 hE hP hD hS hA [(h0, .inr (4, [.ref hn, .ref hs, .ref hd, .ref hp, .ref hc, .int wy2_106, .int dn2_107])), (hd, .inr (1, [.ref hn, .ref h1, .ref h2, .ref h3, .ref h4])), (hp, .inr (3, [.ref he, .int (nI la2_87), .int (nI ke2_88)])), (hn, .inl (cA, 34, .inl f2_108)), (hs, .inl (cA, 4096, .inl st2_90)), (h1, .inl (cA, 64, .inl pn2_91)), (h2, .inl (cA, 16, .inl wt2_92)), (h3, .inl (cA, 900, .inl rg2_93)), (h4, .inl (cA, 200, .inl pa2_94)), (he, .inl (cA, 10752, .inl en2_95)), (hc, .inl (cA, 257, .inl ct2_96))] [] [9, 0, 1, 10, 2, 3, 4, 5, 6, 7, 8] [] rfl rfl rfl (by decide +kernel) (by decide +kernel) (by decide +kernel) (c_s_writeAt l D cA cB h0 hn hs hd hp hc h1 h2 h3 h4 he wy2_106 dn2_107 la2_87 ke2_88 f2_108 st2_90 pn2_91 wt2_92 rg2_93 pa2_94 en2_95 ct2_96 a rk_109 (by first | assumption | decide | rfl | omega) (by first | assumption | decide | rfl | omega) hf_110 hf_101 hf_102 hf_103 hf_104 (by first | assumption | decide | rfl | omega) (by first | assumption | decide | rfl | omega)) w_185 w_66 w_184 w_186 w_187 0 (ci := 4) (T := TX4) (N := 7) rfl rfl (by decide +kernel) rfl rfl (Nat.le_of_ble_eq_true rfl) ⟨(Nat.le_of_ble_eq_true rfl), (Nat.le_of_ble_eq_true rfl)⟩ ⟨(Nat.le_of_ble_eq_true rfl), (Nat.le_of_ble_eq_true rfl)⟩ dX4_useAddress_167 (fun W1 H locs hw hP hD hS => ?_)
            obtain ⟨wy2_112, dn2_113, la2_114, ke2_115, f2_116, st2_117, pn2_118, wt2_119, rg2_120, pa2_121, en2_122, ct2_123, hf_124, hf_125, hf_126, hf_127, hf_128, hf_129, hf_130, rfl⟩ := hw
            have hP : va_P D classes [(h0, .inr (4, [.ref hn, .ref hs, .ref hd, .ref hp, .ref hc, .int wy2_112, .int dn2_113])), (hd, .inr (1, [.ref hn, .ref h1, .ref h2, .ref h3, .ref h4])), (hp, .inr (3, [.ref he, .int (nI la2_114), .int (nI ke2_115)])), (hn, .inl (cA, 34, .inl f2_116)), (hs, .inl (cA, 4096, .inl st2_117)), (h1, .inl (cA, 64, .inl pn2_118)), (h2, .inl (cA, 16, .inl wt2_119)), (h3, .inl (cA, 900, .inl rg2_120)), (h4, .inl (cA, 200, .inl pa2_121)), (he, .inl (cA, 10752, .inl en2_122)), (hc, .inl (cA, 257, .inl ct2_123))] H := hP
            have hD : va_D A [(h0, .inr (4, [.ref hn, .ref hs, .ref hd, .ref hp, .ref hc, .int wy2_112, .int dn2_113])), (hd, .inr (1, [.ref hn, .ref h1, .ref h2, .ref h3, .ref h4])), (hp, .inr (3, [.ref he, .int (nI la2_114), .int (nI ke2_115)])), (hn, .inl (cA, 34, .inl f2_116)), (hs, .inl (cA, 4096, .inl st2_117)), (h1, .inl (cA, 64, .inl pn2_118)), (h2, .inl (cA, 16, .inl wt2_119)), (h3, .inl (cA, 900, .inl rg2_120)), (h4, .inl (cA, 200, .inl pa2_121)), (he, .inl (cA, 10752, .inl en2_122)), (hc, .inl (cA, 257, .inl ct2_123))] := hD
            exact endV X hr hlocks hP hD hS dX4_useAddress_170 ⟨wy2_112, dn2_113, la2_114, ke2_115, f2_116, st2_117, pn2_118, wt2_119, rg2_120, pa2_121, en2_122, ct2_123, (by omega), (by omega), hf_126, hf_127, hf_128, hf_129, hf_130, rfl⟩
          · skip
            by_cases c_1_131 : (nI o) = 21
            · refine lv_tableIn (tgt := 155) (off := 154) hx hb dX4_useAddress_1 (by rw [c_1_131]; decide) (by rw [c_1_131]; decide) (by rw [c_1_131]; decide) (by decide) ?_
              refine lv_aload_n hx hb dX4_useAddress_155 rfl (lv_at hl 0 rfl) ?_
              refine lv_iload_n hx hb dX4_useAddress_156 rfl (lv_at hl 2 rfl) ?_
              refine lv_aload_n hx hb dX4_useAddress_157 rfl (lv_at hl 0 rfl) ?_
              refine lv_iload_n hx hb dX4_useAddress_158 rfl (lv_at hl 1 rfl) ?_
              refine lv_aload_n hx hb dX4_useAddress_159 rfl (lv_at hl 0 rfl) ?_
              refine lv_iload_n hx hb dX4_useAddress_160 rfl (lv_at hl 2 rfl) ?_
              refine kVi (n3 := 1) (As := [.int (nI a)]) (rest := [.int (nI o), .ref h0, .int (nI a), .ref h0]) X hl.1 hE hP hD hS hA [(h0, .inr (4, [.ref hn, .ref hs, .ref hd, .ref hp, .ref hc, .int wy, .int dn])), (hd, .inr (1, [.ref hn, .ref h1, .ref h2, .ref h3, .ref h4])), (hp, .inr (3, [.ref he, .int (nI la), .int (nI ke)])), (hn, .inl (cA, 34, .inl f)), (hs, .inl (cA, 4096, .inl st)), (h1, .inl (cA, 64, .inl pn)), (h2, .inl (cA, 16, .inl wt)), (h3, .inl (cA, 900, .inl rg)), (h4, .inl (cA, 200, .inl pa)), (he, .inl (cA, 10752, .inl en)), (hc, .inl (cA, 257, .inl ct))] [] [0, 1, 2, 3, 4, 5, 6, 7, 8, 9, 10] [] rfl rfl rfl (by decide +kernel) (by decide +kernel) (by decide +kernel) (c_s_readAt l D cA cB h0 hn hs hd hp hc h1 h2 h3 h4 he wy dn la ke f st pn wt rg pa en ct a (by first | assumption | decide | rfl | omega) (by first | assumption | decide | rfl | omega) hf hst hpn hwt hen (by first | assumption | decide | rfl | omega)) w_189 w_66 w_188 w_190 w_191 0 (ci := 4) (T := TX4) (N := 7) rfl rfl (by decide +kernel) rfl rfl (Nat.le_of_ble_eq_true rfl) ⟨(Nat.le_of_ble_eq_true rfl), (Nat.le_of_ble_eq_true rfl)⟩ ⟨(Nat.le_of_ble_eq_true rfl), (Nat.le_of_ble_eq_true rfl)⟩ dX4_useAddress_161 (fun r W1 H locs hw hP hD hS => ?_)
              obtain ⟨wy2_132, dn2_133, la2_134, ke2_135, f2_136, st2_137, pn2_138, wt2_139, rg2_140, pa2_141, en2_142, ct2_143, rk_144, rfl, hf_145, hf_146, hf_147, hf_148, hf_149, hf_150, hf_151, hf_152, rfl⟩ := hw
              have hP : va_P D classes [(h0, .inr (4, [.ref hn, .ref hs, .ref hd, .ref hp, .ref hc, .int wy2_132, .int dn2_133])), (hd, .inr (1, [.ref hn, .ref h1, .ref h2, .ref h3, .ref h4])), (hp, .inr (3, [.ref he, .int (nI la2_134), .int (nI ke2_135)])), (hn, .inl (cA, 34, .inl f2_136)), (hs, .inl (cA, 4096, .inl st2_137)), (h1, .inl (cA, 64, .inl pn2_138)), (h2, .inl (cA, 16, .inl wt2_139)), (h3, .inl (cA, 900, .inl rg2_140)), (h4, .inl (cA, 200, .inl pa2_141)), (he, .inl (cA, 10752, .inl en2_142)), (hc, .inl (cA, 257, .inl ct2_143))] H := hP
              have hD : va_D A [(h0, .inr (4, [.ref hn, .ref hs, .ref hd, .ref hp, .ref hc, .int wy2_132, .int dn2_133])), (hd, .inr (1, [.ref hn, .ref h1, .ref h2, .ref h3, .ref h4])), (hp, .inr (3, [.ref he, .int (nI la2_134), .int (nI ke2_135)])), (hn, .inl (cA, 34, .inl f2_136)), (hs, .inl (cA, 4096, .inl st2_137)), (h1, .inl (cA, 64, .inl pn2_138)), (h2, .inl (cA, 16, .inl wt2_139)), (h3, .inl (cA, 900, .inl rg2_140)), (h4, .inl (cA, 200, .inl pa2_141)), (he, .inl (cA, 10752, .inl en2_142)), (hc, .inl (cA, 257, .inl ct2_143))] := hD
              refine kVi (n3 := 2) (As := [.int (nI o), .int (nI rk_144)]) (rest := [.int (nI a), .ref h0]) X hl.1 hE hP hD hS hA [(h0, .inr (4, [.ref hn, .ref hs, .ref hd, .ref hp, .ref hc, .int wy2_132, .int dn2_133])), (hn, .inl (cA, 34, .inl f2_136))] [(hd, .inr (1, [.ref hn, .ref h1, .ref h2, .ref h3, .ref h4])), (hp, .inr (3, [.ref he, .int (nI la2_134), .int (nI ke2_135)])), (hs, .inl (cA, 4096, .inl st2_137)), (h1, .inl (cA, 64, .inl pn2_138)), (h2, .inl (cA, 16, .inl wt2_139)), (h3, .inl (cA, 900, .inl rg2_140)), (h4, .inl (cA, 200, .inl pa2_141)), (he, .inl (cA, 10752, .inl en2_142)), (hc, .inl (cA, 257, .inl ct2_143))] [0, 3] [1, 2, 4, 5, 6, 7, 8, 9, 10] rfl rfl rfl (by decide +kernel) (by decide +kernel) (by decide +kernel) (c_s_changed l D cA cB h0 hn hs hd hp hc wy2_132 dn2_133 f2_136 o rk_144 hf_147 (by first | assumption | decide | rfl | omega) (by first | assumption | decide | rfl | omega)) w_193 w_66 w_192 w_194 w_195 0 (ci := 4) (T := TX4) (N := 7) rfl rfl (by decide +kernel) rfl rfl (Nat.le_of_ble_eq_true rfl) ⟨(Nat.le_of_ble_eq_true rfl), (Nat.le_of_ble_eq_true rfl)⟩ ⟨(Nat.le_of_ble_eq_true rfl), (Nat.le_of_ble_eq_true rfl)⟩ dX4_useAddress_164 (fun r W1 H locs hw hP hD hS => ?_)
              obtain ⟨wy2_153, dn2_154, f2_155, rk_156, rfl, hf_157, hf_158, rfl⟩ := hw
              have hP : va_P D classes [(hd, .inr (1, [.ref hn, .ref h1, .ref h2, .ref h3, .ref h4])), (hp, .inr (3, [.ref he, .int (nI la2_134), .int (nI ke2_135)])), (hs, .inl (cA, 4096, .inl st2_137)), (h1, .inl (cA, 64, .inl pn2_138)), (h2, .inl (cA, 16, .inl wt2_139)), (h3, .inl (cA, 900, .inl rg2_140)), (h4, .inl (cA, 200, .inl pa2_141)), (he, .inl (cA, 10752, .inl en2_142)), (hc, .inl (cA, 257, .inl ct2_143)), (h0, .inr (4, [.ref hn, .ref hs, .ref hd, .ref hp, .ref hc, .int wy2_153, .int dn2_154])), (hn, .inl (cA, 34, .inl f2_155))] H := hP
              have hD : va_D A [(hd, .inr (1, [.ref hn, .ref h1, .ref h2, .ref h3, .ref h4])), (hp, .inr (3, [.ref he, .int (nI la2_134), .int (nI ke2_135)])), (hs, .inl (cA, 4096, .inl st2_137)), (h1, .inl (cA, 64, .inl pn2_138)), (h2, .inl (cA, 16, .inl wt2_139)), (h3, .inl (cA, 900, .inl rg2_140)), (h4, .inl (cA, 200, .inl pa2_141)), (he, .inl (cA, 10752, .inl en2_142)), (hc, .inl (cA, 257, .inl ct2_143)), (h0, .inr (4, [.ref hn, .ref hs, .ref hd, .ref hp, .ref hc, .int wy2_153, .int dn2_154])), (hn, .inl (cA, 34, .inl f2_155))] := hD
              refine kVv (n3 := 2) (As := [.int (nI a), .int (nI rk_156)]) (rest := []) X hl.1 hE hP hD hS hA [(h0, .inr (4, [.ref hn, .ref hs, .ref hd, .ref hp, .ref hc, .int wy2_153, .int dn2_154])), (hd, .inr (1, [.ref hn, .ref h1, .ref h2, .ref h3, .ref h4])), (hp, .inr (3, [.ref he, .int (nI la2_134), .int (nI ke2_135)])), (hn, .inl (cA, 34, .inl f2_155)), (hs, .inl (cA, 4096, .inl st2_137)), (h1, .inl (cA, 64, .inl pn2_138)), (h2, .inl (cA, 16, .inl wt2_139)), (h3, .inl (cA, 900, .inl rg2_140)), (h4, .inl (cA, 200, .inl pa2_141)), (he, .inl (cA, 10752, .inl en2_142)), (hc, .inl (cA, 257, .inl ct2_143))] [] [9, 0, 1, 10, 2, 3, 4, 5, 6, 7, 8] [] rfl rfl rfl (by decide +kernel) (by decide +kernel) (by decide +kernel) (c_s_writeAt l D cA cB h0 hn hs hd hp hc h1 h2 h3 h4 he wy2_153 dn2_154 la2_134 ke2_135 f2_155 st2_137 pn2_138 wt2_139 rg2_140 pa2_141 en2_142 ct2_143 a rk_156 (by first | assumption | decide | rfl | omega) (by first | assumption | decide | rfl | omega) hf_157 hf_148 hf_149 hf_150 hf_151 (by first | assumption | decide | rfl | omega) (by first | assumption | decide | rfl | omega)) w_185 w_66 w_184 w_186 w_187 0 (ci := 4) (T := TX4) (N := 7) rfl rfl (by decide +kernel) rfl rfl (Nat.le_of_ble_eq_true rfl) ⟨(Nat.le_of_ble_eq_true rfl), (Nat.le_of_ble_eq_true rfl)⟩ ⟨(Nat.le_of_ble_eq_true rfl), (Nat.le_of_ble_eq_true rfl)⟩ dX4_useAddress_167 (fun W1 H locs hw hP hD hS => ?_)
              obtain ⟨wy2_159, dn2_160, la2_161, ke2_162, f2_163, st2_164, pn2_165, wt2_166, rg2_167, pa2_168, en2_169, ct2_170, hf_171, hf_172, hf_173, hf_174, hf_175, hf_176, hf_177, rfl⟩ := hw
              have hP : va_P D classes [(h0, .inr (4, [.ref hn, .ref hs, .ref hd, .ref hp, .ref hc, .int wy2_159, .int dn2_160])), (hd, .inr (1, [.ref hn, .ref h1, .ref h2, .ref h3, .ref h4])), (hp, .inr (3, [.ref he, .int (nI la2_161), .int (nI ke2_162)])), (hn, .inl (cA, 34, .inl f2_163)), (hs, .inl (cA, 4096, .inl st2_164)), (h1, .inl (cA, 64, .inl pn2_165)), (h2, .inl (cA, 16, .inl wt2_166)), (h3, .inl (cA, 900, .inl rg2_167)), (h4, .inl (cA, 200, .inl pa2_168)), (he, .inl (cA, 10752, .inl en2_169)), (hc, .inl (cA, 257, .inl ct2_170))] H := hP
              have hD : va_D A [(h0, .inr (4, [.ref hn, .ref hs, .ref hd, .ref hp, .ref hc, .int wy2_159, .int dn2_160])), (hd, .inr (1, [.ref hn, .ref h1, .ref h2, .ref h3, .ref h4])), (hp, .inr (3, [.ref he, .int (nI la2_161), .int (nI ke2_162)])), (hn, .inl (cA, 34, .inl f2_163)), (hs, .inl (cA, 4096, .inl st2_164)), (h1, .inl (cA, 64, .inl pn2_165)), (h2, .inl (cA, 16, .inl wt2_166)), (h3, .inl (cA, 900, .inl rg2_167)), (h4, .inl (cA, 200, .inl pa2_168)), (he, .inl (cA, 10752, .inl en2_169)), (hc, .inl (cA, 257, .inl ct2_170))] := hD
              exact endV X hr hlocks hP hD hS dX4_useAddress_170 ⟨wy2_159, dn2_160, la2_161, ke2_162, f2_163, st2_164, pn2_165, wt2_166, rg2_167, pa2_168, en2_169, ct2_170, (by omega), (by omega), hf_173, hf_174, hf_175, hf_176, hf_177, rfl⟩
            · skip
              by_cases c_1_178 : (nI o) = 22
              · refine lv_tableIn (tgt := 155) (off := 154) hx hb dX4_useAddress_1 (by rw [c_1_178]; decide) (by rw [c_1_178]; decide) (by rw [c_1_178]; decide) (by decide) ?_
                refine lv_aload_n hx hb dX4_useAddress_155 rfl (lv_at hl 0 rfl) ?_
                refine lv_iload_n hx hb dX4_useAddress_156 rfl (lv_at hl 2 rfl) ?_
                refine lv_aload_n hx hb dX4_useAddress_157 rfl (lv_at hl 0 rfl) ?_
                refine lv_iload_n hx hb dX4_useAddress_158 rfl (lv_at hl 1 rfl) ?_
                refine lv_aload_n hx hb dX4_useAddress_159 rfl (lv_at hl 0 rfl) ?_
                refine lv_iload_n hx hb dX4_useAddress_160 rfl (lv_at hl 2 rfl) ?_
                refine kVi (n3 := 1) (As := [.int (nI a)]) (rest := [.int (nI o), .ref h0, .int (nI a), .ref h0]) X hl.1 hE hP hD hS hA [(h0, .inr (4, [.ref hn, .ref hs, .ref hd, .ref hp, .ref hc, .int wy, .int dn])), (hd, .inr (1, [.ref hn, .ref h1, .ref h2, .ref h3, .ref h4])), (hp, .inr (3, [.ref he, .int (nI la), .int (nI ke)])), (hn, .inl (cA, 34, .inl f)), (hs, .inl (cA, 4096, .inl st)), (h1, .inl (cA, 64, .inl pn)), (h2, .inl (cA, 16, .inl wt)), (h3, .inl (cA, 900, .inl rg)), (h4, .inl (cA, 200, .inl pa)), (he, .inl (cA, 10752, .inl en)), (hc, .inl (cA, 257, .inl ct))] [] [0, 1, 2, 3, 4, 5, 6, 7, 8, 9, 10] [] rfl rfl rfl (by decide +kernel) (by decide +kernel) (by decide +kernel) (c_s_readAt l D cA cB h0 hn hs hd hp hc h1 h2 h3 h4 he wy dn la ke f st pn wt rg pa en ct a (by first | assumption | decide | rfl | omega) (by first | assumption | decide | rfl | omega) hf hst hpn hwt hen (by first | assumption | decide | rfl | omega)) w_189 w_66 w_188 w_190 w_191 0 (ci := 4) (T := TX4) (N := 7) rfl rfl (by decide +kernel) rfl rfl (Nat.le_of_ble_eq_true rfl) ⟨(Nat.le_of_ble_eq_true rfl), (Nat.le_of_ble_eq_true rfl)⟩ ⟨(Nat.le_of_ble_eq_true rfl), (Nat.le_of_ble_eq_true rfl)⟩ dX4_useAddress_161 (fun r W1 H locs hw hP hD hS => ?_)
                obtain ⟨wy2_179, dn2_180, la2_181, ke2_182, f2_183, st2_184, pn2_185, wt2_186, rg2_187, pa2_188, en2_189, ct2_190, rk_191, rfl, hf_192, hf_193, hf_194, hf_195, hf_196, hf_197, hf_198, hf_199, rfl⟩ := hw
                have hP : va_P D classes [(h0, .inr (4, [.ref hn, .ref hs, .ref hd, .ref hp, .ref hc, .int wy2_179, .int dn2_180])), (hd, .inr (1, [.ref hn, .ref h1, .ref h2, .ref h3, .ref h4])), (hp, .inr (3, [.ref he, .int (nI la2_181), .int (nI ke2_182)])), (hn, .inl (cA, 34, .inl f2_183)), (hs, .inl (cA, 4096, .inl st2_184)), (h1, .inl (cA, 64, .inl pn2_185)), (h2, .inl (cA, 16, .inl wt2_186)), (h3, .inl (cA, 900, .inl rg2_187)), (h4, .inl (cA, 200, .inl pa2_188)), (he, .inl (cA, 10752, .inl en2_189)), (hc, .inl (cA, 257, .inl ct2_190))] H := hP
                have hD : va_D A [(h0, .inr (4, [.ref hn, .ref hs, .ref hd, .ref hp, .ref hc, .int wy2_179, .int dn2_180])), (hd, .inr (1, [.ref hn, .ref h1, .ref h2, .ref h3, .ref h4])), (hp, .inr (3, [.ref he, .int (nI la2_181), .int (nI ke2_182)])), (hn, .inl (cA, 34, .inl f2_183)), (hs, .inl (cA, 4096, .inl st2_184)), (h1, .inl (cA, 64, .inl pn2_185)), (h2, .inl (cA, 16, .inl wt2_186)), (h3, .inl (cA, 900, .inl rg2_187)), (h4, .inl (cA, 200, .inl pa2_188)), (he, .inl (cA, 10752, .inl en2_189)), (hc, .inl (cA, 257, .inl ct2_190))] := hD
                refine kVi (n3 := 2) (As := [.int (nI o), .int (nI rk_191)]) (rest := [.int (nI a), .ref h0]) X hl.1 hE hP hD hS hA [(h0, .inr (4, [.ref hn, .ref hs, .ref hd, .ref hp, .ref hc, .int wy2_179, .int dn2_180])), (hn, .inl (cA, 34, .inl f2_183))] [(hd, .inr (1, [.ref hn, .ref h1, .ref h2, .ref h3, .ref h4])), (hp, .inr (3, [.ref he, .int (nI la2_181), .int (nI ke2_182)])), (hs, .inl (cA, 4096, .inl st2_184)), (h1, .inl (cA, 64, .inl pn2_185)), (h2, .inl (cA, 16, .inl wt2_186)), (h3, .inl (cA, 900, .inl rg2_187)), (h4, .inl (cA, 200, .inl pa2_188)), (he, .inl (cA, 10752, .inl en2_189)), (hc, .inl (cA, 257, .inl ct2_190))] [0, 3] [1, 2, 4, 5, 6, 7, 8, 9, 10] rfl rfl rfl (by decide +kernel) (by decide +kernel) (by decide +kernel) (c_s_changed l D cA cB h0 hn hs hd hp hc wy2_179 dn2_180 f2_183 o rk_191 hf_194 (by first | assumption | decide | rfl | omega) (by first | assumption | decide | rfl | omega)) w_193 w_66 w_192 w_194 w_195 0 (ci := 4) (T := TX4) (N := 7) rfl rfl (by decide +kernel) rfl rfl (Nat.le_of_ble_eq_true rfl) ⟨(Nat.le_of_ble_eq_true rfl), (Nat.le_of_ble_eq_true rfl)⟩ ⟨(Nat.le_of_ble_eq_true rfl), (Nat.le_of_ble_eq_true rfl)⟩ dX4_useAddress_164 (fun r W1 H locs hw hP hD hS => ?_)
                obtain ⟨wy2_200, dn2_201, f2_202, rk_203, rfl, hf_204, hf_205, rfl⟩ := hw
                have hP : va_P D classes [(hd, .inr (1, [.ref hn, .ref h1, .ref h2, .ref h3, .ref h4])), (hp, .inr (3, [.ref he, .int (nI la2_181), .int (nI ke2_182)])), (hs, .inl (cA, 4096, .inl st2_184)), (h1, .inl (cA, 64, .inl pn2_185)), (h2, .inl (cA, 16, .inl wt2_186)), (h3, .inl (cA, 900, .inl rg2_187)), (h4, .inl (cA, 200, .inl pa2_188)), (he, .inl (cA, 10752, .inl en2_189)), (hc, .inl (cA, 257, .inl ct2_190)), (h0, .inr (4, [.ref hn, .ref hs, .ref hd, .ref hp, .ref hc, .int wy2_200, .int dn2_201])), (hn, .inl (cA, 34, .inl f2_202))] H := hP
                have hD : va_D A [(hd, .inr (1, [.ref hn, .ref h1, .ref h2, .ref h3, .ref h4])), (hp, .inr (3, [.ref he, .int (nI la2_181), .int (nI ke2_182)])), (hs, .inl (cA, 4096, .inl st2_184)), (h1, .inl (cA, 64, .inl pn2_185)), (h2, .inl (cA, 16, .inl wt2_186)), (h3, .inl (cA, 900, .inl rg2_187)), (h4, .inl (cA, 200, .inl pa2_188)), (he, .inl (cA, 10752, .inl en2_189)), (hc, .inl (cA, 257, .inl ct2_190)), (h0, .inr (4, [.ref hn, .ref hs, .ref hd, .ref hp, .ref hc, .int wy2_200, .int dn2_201])), (hn, .inl (cA, 34, .inl f2_202))] := hD
                refine kVv (n3 := 2) (As := [.int (nI a), .int (nI rk_203)]) (rest := []) X hl.1 hE hP hD hS hA [(h0, .inr (4, [.ref hn, .ref hs, .ref hd, .ref hp, .ref hc, .int wy2_200, .int dn2_201])), (hd, .inr (1, [.ref hn, .ref h1, .ref h2, .ref h3, .ref h4])), (hp, .inr (3, [.ref he, .int (nI la2_181), .int (nI ke2_182)])), (hn, .inl (cA, 34, .inl f2_202)), (hs, .inl (cA, 4096, .inl st2_184)), (h1, .inl (cA, 64, .inl pn2_185)), (h2, .inl (cA, 16, .inl wt2_186)), (h3, .inl (cA, 900, .inl rg2_187)), (h4, .inl (cA, 200, .inl pa2_188)), (he, .inl (cA, 10752, .inl en2_189)), (hc, .inl (cA, 257, .inl ct2_190))] [] [9, 0, 1, 10, 2, 3, 4, 5, 6, 7, 8] [] rfl rfl rfl (by decide +kernel) (by decide +kernel) (by decide +kernel) (c_s_writeAt l D cA cB h0 hn hs hd hp hc h1 h2 h3 h4 he wy2_200 dn2_201 la2_181 ke2_182 f2_202 st2_184 pn2_185 wt2_186 rg2_187 pa2_188 en2_189 ct2_190 a rk_203 (by first | assumption | decide | rfl | omega) (by first | assumption | decide | rfl | omega) hf_204 hf_195 hf_196 hf_197 hf_198 (by first | assumption | decide | rfl | omega) (by first | assumption | decide | rfl | omega)) w_185 w_66 w_184 w_186 w_187 0 (ci := 4) (T := TX4) (N := 7) rfl rfl (by decide +kernel) rfl rfl (Nat.le_of_ble_eq_true rfl) ⟨(Nat.le_of_ble_eq_true rfl), (Nat.le_of_ble_eq_true rfl)⟩ ⟨(Nat.le_of_ble_eq_true rfl), (Nat.le_of_ble_eq_true rfl)⟩ dX4_useAddress_167 (fun W1 H locs hw hP hD hS => ?_)
                obtain ⟨wy2_206, dn2_207, la2_208, ke2_209, f2_210, st2_211, pn2_212, wt2_213, rg2_214, pa2_215, en2_216, ct2_217, hf_218, hf_219, hf_220, hf_221, hf_222, hf_223, hf_224, rfl⟩ := hw
                have hP : va_P D classes [(h0, .inr (4, [.ref hn, .ref hs, .ref hd, .ref hp, .ref hc, .int wy2_206, .int dn2_207])), (hd, .inr (1, [.ref hn, .ref h1, .ref h2, .ref h3, .ref h4])), (hp, .inr (3, [.ref he, .int (nI la2_208), .int (nI ke2_209)])), (hn, .inl (cA, 34, .inl f2_210)), (hs, .inl (cA, 4096, .inl st2_211)), (h1, .inl (cA, 64, .inl pn2_212)), (h2, .inl (cA, 16, .inl wt2_213)), (h3, .inl (cA, 900, .inl rg2_214)), (h4, .inl (cA, 200, .inl pa2_215)), (he, .inl (cA, 10752, .inl en2_216)), (hc, .inl (cA, 257, .inl ct2_217))] H := hP
                have hD : va_D A [(h0, .inr (4, [.ref hn, .ref hs, .ref hd, .ref hp, .ref hc, .int wy2_206, .int dn2_207])), (hd, .inr (1, [.ref hn, .ref h1, .ref h2, .ref h3, .ref h4])), (hp, .inr (3, [.ref he, .int (nI la2_208), .int (nI ke2_209)])), (hn, .inl (cA, 34, .inl f2_210)), (hs, .inl (cA, 4096, .inl st2_211)), (h1, .inl (cA, 64, .inl pn2_212)), (h2, .inl (cA, 16, .inl wt2_213)), (h3, .inl (cA, 900, .inl rg2_214)), (h4, .inl (cA, 200, .inl pa2_215)), (he, .inl (cA, 10752, .inl en2_216)), (hc, .inl (cA, 257, .inl ct2_217))] := hD
                exact endV X hr hlocks hP hD hS dX4_useAddress_170 ⟨wy2_206, dn2_207, la2_208, ke2_209, f2_210, st2_211, pn2_212, wt2_213, rg2_214, pa2_215, en2_216, ct2_217, (by omega), (by omega), hf_220, hf_221, hf_222, hf_223, hf_224, rfl⟩
              · skip
                by_cases c_1_225 : (nI o) = 23
                · refine lv_tableIn (tgt := 155) (off := 154) hx hb dX4_useAddress_1 (by rw [c_1_225]; decide) (by rw [c_1_225]; decide) (by rw [c_1_225]; decide) (by decide) ?_
                  refine lv_aload_n hx hb dX4_useAddress_155 rfl (lv_at hl 0 rfl) ?_
                  refine lv_iload_n hx hb dX4_useAddress_156 rfl (lv_at hl 2 rfl) ?_
                  refine lv_aload_n hx hb dX4_useAddress_157 rfl (lv_at hl 0 rfl) ?_
                  refine lv_iload_n hx hb dX4_useAddress_158 rfl (lv_at hl 1 rfl) ?_
                  refine lv_aload_n hx hb dX4_useAddress_159 rfl (lv_at hl 0 rfl) ?_
                  refine lv_iload_n hx hb dX4_useAddress_160 rfl (lv_at hl 2 rfl) ?_
                  refine kVi (n3 := 1) (As := [.int (nI a)]) (rest := [.int (nI o), .ref h0, .int (nI a), .ref h0]) X hl.1 hE hP hD hS hA [(h0, .inr (4, [.ref hn, .ref hs, .ref hd, .ref hp, .ref hc, .int wy, .int dn])), (hd, .inr (1, [.ref hn, .ref h1, .ref h2, .ref h3, .ref h4])), (hp, .inr (3, [.ref he, .int (nI la), .int (nI ke)])), (hn, .inl (cA, 34, .inl f)), (hs, .inl (cA, 4096, .inl st)), (h1, .inl (cA, 64, .inl pn)), (h2, .inl (cA, 16, .inl wt)), (h3, .inl (cA, 900, .inl rg)), (h4, .inl (cA, 200, .inl pa)), (he, .inl (cA, 10752, .inl en)), (hc, .inl (cA, 257, .inl ct))] [] [0, 1, 2, 3, 4, 5, 6, 7, 8, 9, 10] [] rfl rfl rfl (by decide +kernel) (by decide +kernel) (by decide +kernel) (c_s_readAt l D cA cB h0 hn hs hd hp hc h1 h2 h3 h4 he wy dn la ke f st pn wt rg pa en ct a (by first | assumption | decide | rfl | omega) (by first | assumption | decide | rfl | omega) hf hst hpn hwt hen (by first | assumption | decide | rfl | omega)) w_189 w_66 w_188 w_190 w_191 0 (ci := 4) (T := TX4) (N := 7) rfl rfl (by decide +kernel) rfl rfl (Nat.le_of_ble_eq_true rfl) ⟨(Nat.le_of_ble_eq_true rfl), (Nat.le_of_ble_eq_true rfl)⟩ ⟨(Nat.le_of_ble_eq_true rfl), (Nat.le_of_ble_eq_true rfl)⟩ dX4_useAddress_161 (fun r W1 H locs hw hP hD hS => ?_)
                  obtain ⟨wy2_226, dn2_227, la2_228, ke2_229, f2_230, st2_231, pn2_232, wt2_233, rg2_234, pa2_235, en2_236, ct2_237, rk_238, rfl, hf_239, hf_240, hf_241, hf_242, hf_243, hf_244, hf_245, hf_246, rfl⟩ := hw
                  have hP : va_P D classes [(h0, .inr (4, [.ref hn, .ref hs, .ref hd, .ref hp, .ref hc, .int wy2_226, .int dn2_227])), (hd, .inr (1, [.ref hn, .ref h1, .ref h2, .ref h3, .ref h4])), (hp, .inr (3, [.ref he, .int (nI la2_228), .int (nI ke2_229)])), (hn, .inl (cA, 34, .inl f2_230)), (hs, .inl (cA, 4096, .inl st2_231)), (h1, .inl (cA, 64, .inl pn2_232)), (h2, .inl (cA, 16, .inl wt2_233)), (h3, .inl (cA, 900, .inl rg2_234)), (h4, .inl (cA, 200, .inl pa2_235)), (he, .inl (cA, 10752, .inl en2_236)), (hc, .inl (cA, 257, .inl ct2_237))] H := hP
                  have hD : va_D A [(h0, .inr (4, [.ref hn, .ref hs, .ref hd, .ref hp, .ref hc, .int wy2_226, .int dn2_227])), (hd, .inr (1, [.ref hn, .ref h1, .ref h2, .ref h3, .ref h4])), (hp, .inr (3, [.ref he, .int (nI la2_228), .int (nI ke2_229)])), (hn, .inl (cA, 34, .inl f2_230)), (hs, .inl (cA, 4096, .inl st2_231)), (h1, .inl (cA, 64, .inl pn2_232)), (h2, .inl (cA, 16, .inl wt2_233)), (h3, .inl (cA, 900, .inl rg2_234)), (h4, .inl (cA, 200, .inl pa2_235)), (he, .inl (cA, 10752, .inl en2_236)), (hc, .inl (cA, 257, .inl ct2_237))] := hD
                  refine kVi (n3 := 2) (As := [.int (nI o), .int (nI rk_238)]) (rest := [.int (nI a), .ref h0]) X hl.1 hE hP hD hS hA [(h0, .inr (4, [.ref hn, .ref hs, .ref hd, .ref hp, .ref hc, .int wy2_226, .int dn2_227])), (hn, .inl (cA, 34, .inl f2_230))] [(hd, .inr (1, [.ref hn, .ref h1, .ref h2, .ref h3, .ref h4])), (hp, .inr (3, [.ref he, .int (nI la2_228), .int (nI ke2_229)])), (hs, .inl (cA, 4096, .inl st2_231)), (h1, .inl (cA, 64, .inl pn2_232)), (h2, .inl (cA, 16, .inl wt2_233)), (h3, .inl (cA, 900, .inl rg2_234)), (h4, .inl (cA, 200, .inl pa2_235)), (he, .inl (cA, 10752, .inl en2_236)), (hc, .inl (cA, 257, .inl ct2_237))] [0, 3] [1, 2, 4, 5, 6, 7, 8, 9, 10] rfl rfl rfl (by decide +kernel) (by decide +kernel) (by decide +kernel) (c_s_changed l D cA cB h0 hn hs hd hp hc wy2_226 dn2_227 f2_230 o rk_238 hf_241 (by first | assumption | decide | rfl | omega) (by first | assumption | decide | rfl | omega)) w_193 w_66 w_192 w_194 w_195 0 (ci := 4) (T := TX4) (N := 7) rfl rfl (by decide +kernel) rfl rfl (Nat.le_of_ble_eq_true rfl) ⟨(Nat.le_of_ble_eq_true rfl), (Nat.le_of_ble_eq_true rfl)⟩ ⟨(Nat.le_of_ble_eq_true rfl), (Nat.le_of_ble_eq_true rfl)⟩ dX4_useAddress_164 (fun r W1 H locs hw hP hD hS => ?_)
                  obtain ⟨wy2_247, dn2_248, f2_249, rk_250, rfl, hf_251, hf_252, rfl⟩ := hw
                  have hP : va_P D classes [(hd, .inr (1, [.ref hn, .ref h1, .ref h2, .ref h3, .ref h4])), (hp, .inr (3, [.ref he, .int (nI la2_228), .int (nI ke2_229)])), (hs, .inl (cA, 4096, .inl st2_231)), (h1, .inl (cA, 64, .inl pn2_232)), (h2, .inl (cA, 16, .inl wt2_233)), (h3, .inl (cA, 900, .inl rg2_234)), (h4, .inl (cA, 200, .inl pa2_235)), (he, .inl (cA, 10752, .inl en2_236)), (hc, .inl (cA, 257, .inl ct2_237)), (h0, .inr (4, [.ref hn, .ref hs, .ref hd, .ref hp, .ref hc, .int wy2_247, .int dn2_248])), (hn, .inl (cA, 34, .inl f2_249))] H := hP
                  have hD : va_D A [(hd, .inr (1, [.ref hn, .ref h1, .ref h2, .ref h3, .ref h4])), (hp, .inr (3, [.ref he, .int (nI la2_228), .int (nI ke2_229)])), (hs, .inl (cA, 4096, .inl st2_231)), (h1, .inl (cA, 64, .inl pn2_232)), (h2, .inl (cA, 16, .inl wt2_233)), (h3, .inl (cA, 900, .inl rg2_234)), (h4, .inl (cA, 200, .inl pa2_235)), (he, .inl (cA, 10752, .inl en2_236)), (hc, .inl (cA, 257, .inl ct2_237)), (h0, .inr (4, [.ref hn, .ref hs, .ref hd, .ref hp, .ref hc, .int wy2_247, .int dn2_248])), (hn, .inl (cA, 34, .inl f2_249))] := hD
                  refine kVv (n3 := 2) (As := [.int (nI a), .int (nI rk_250)]) (rest := []) X hl.1 hE hP hD hS hA [(h0, .inr (4, [.ref hn, .ref hs, .ref hd, .ref hp, .ref hc, .int wy2_247, .int dn2_248])), (hd, .inr (1, [.ref hn, .ref h1, .ref h2, .ref h3, .ref h4])), (hp, .inr (3, [.ref he, .int (nI la2_228), .int (nI ke2_229)])), (hn, .inl (cA, 34, .inl f2_249)), (hs, .inl (cA, 4096, .inl st2_231)), (h1, .inl (cA, 64, .inl pn2_232)), (h2, .inl (cA, 16, .inl wt2_233)), (h3, .inl (cA, 900, .inl rg2_234)), (h4, .inl (cA, 200, .inl pa2_235)), (he, .inl (cA, 10752, .inl en2_236)), (hc, .inl (cA, 257, .inl ct2_237))] [] [9, 0, 1, 10, 2, 3, 4, 5, 6, 7, 8] [] rfl rfl rfl (by decide +kernel) (by decide +kernel) (by decide +kernel) (c_s_writeAt l D cA cB h0 hn hs hd hp hc h1 h2 h3 h4 he wy2_247 dn2_248 la2_228 ke2_229 f2_249 st2_231 pn2_232 wt2_233 rg2_234 pa2_235 en2_236 ct2_237 a rk_250 (by first | assumption | decide | rfl | omega) (by first | assumption | decide | rfl | omega) hf_251 hf_242 hf_243 hf_244 hf_245 (by first | assumption | decide | rfl | omega) (by first | assumption | decide | rfl | omega)) w_185 w_66 w_184 w_186 w_187 0 (ci := 4) (T := TX4) (N := 7) rfl rfl (by decide +kernel) rfl rfl (Nat.le_of_ble_eq_true rfl) ⟨(Nat.le_of_ble_eq_true rfl), (Nat.le_of_ble_eq_true rfl)⟩ ⟨(Nat.le_of_ble_eq_true rfl), (Nat.le_of_ble_eq_true rfl)⟩ dX4_useAddress_167 (fun W1 H locs hw hP hD hS => ?_)
                  obtain ⟨wy2_253, dn2_254, la2_255, ke2_256, f2_257, st2_258, pn2_259, wt2_260, rg2_261, pa2_262, en2_263, ct2_264, hf_265, hf_266, hf_267, hf_268, hf_269, hf_270, hf_271, rfl⟩ := hw
                  have hP : va_P D classes [(h0, .inr (4, [.ref hn, .ref hs, .ref hd, .ref hp, .ref hc, .int wy2_253, .int dn2_254])), (hd, .inr (1, [.ref hn, .ref h1, .ref h2, .ref h3, .ref h4])), (hp, .inr (3, [.ref he, .int (nI la2_255), .int (nI ke2_256)])), (hn, .inl (cA, 34, .inl f2_257)), (hs, .inl (cA, 4096, .inl st2_258)), (h1, .inl (cA, 64, .inl pn2_259)), (h2, .inl (cA, 16, .inl wt2_260)), (h3, .inl (cA, 900, .inl rg2_261)), (h4, .inl (cA, 200, .inl pa2_262)), (he, .inl (cA, 10752, .inl en2_263)), (hc, .inl (cA, 257, .inl ct2_264))] H := hP
                  have hD : va_D A [(h0, .inr (4, [.ref hn, .ref hs, .ref hd, .ref hp, .ref hc, .int wy2_253, .int dn2_254])), (hd, .inr (1, [.ref hn, .ref h1, .ref h2, .ref h3, .ref h4])), (hp, .inr (3, [.ref he, .int (nI la2_255), .int (nI ke2_256)])), (hn, .inl (cA, 34, .inl f2_257)), (hs, .inl (cA, 4096, .inl st2_258)), (h1, .inl (cA, 64, .inl pn2_259)), (h2, .inl (cA, 16, .inl wt2_260)), (h3, .inl (cA, 900, .inl rg2_261)), (h4, .inl (cA, 200, .inl pa2_262)), (he, .inl (cA, 10752, .inl en2_263)), (hc, .inl (cA, 257, .inl ct2_264))] := hD
                  exact endV X hr hlocks hP hD hS dX4_useAddress_170 ⟨wy2_253, dn2_254, la2_255, ke2_256, f2_257, st2_258, pn2_259, wt2_260, rg2_261, pa2_262, en2_263, ct2_264, (by omega), (by omega), hf_267, hf_268, hf_269, hf_270, hf_271, rfl⟩
                · skip
                  by_cases c_1_272 : (nI o) = 24
                  · refine lv_tableIn (tgt := 155) (off := 154) hx hb dX4_useAddress_1 (by rw [c_1_272]; decide) (by rw [c_1_272]; decide) (by rw [c_1_272]; decide) (by decide) ?_
                    refine lv_aload_n hx hb dX4_useAddress_155 rfl (lv_at hl 0 rfl) ?_
                    refine lv_iload_n hx hb dX4_useAddress_156 rfl (lv_at hl 2 rfl) ?_
                    refine lv_aload_n hx hb dX4_useAddress_157 rfl (lv_at hl 0 rfl) ?_
                    refine lv_iload_n hx hb dX4_useAddress_158 rfl (lv_at hl 1 rfl) ?_
                    refine lv_aload_n hx hb dX4_useAddress_159 rfl (lv_at hl 0 rfl) ?_
                    refine lv_iload_n hx hb dX4_useAddress_160 rfl (lv_at hl 2 rfl) ?_
                    refine kVi (n3 := 1) (As := [.int (nI a)]) (rest := [.int (nI o), .ref h0, .int (nI a), .ref h0]) X hl.1 hE hP hD hS hA [(h0, .inr (4, [.ref hn, .ref hs, .ref hd, .ref hp, .ref hc, .int wy, .int dn])), (hd, .inr (1, [.ref hn, .ref h1, .ref h2, .ref h3, .ref h4])), (hp, .inr (3, [.ref he, .int (nI la), .int (nI ke)])), (hn, .inl (cA, 34, .inl f)), (hs, .inl (cA, 4096, .inl st)), (h1, .inl (cA, 64, .inl pn)), (h2, .inl (cA, 16, .inl wt)), (h3, .inl (cA, 900, .inl rg)), (h4, .inl (cA, 200, .inl pa)), (he, .inl (cA, 10752, .inl en)), (hc, .inl (cA, 257, .inl ct))] [] [0, 1, 2, 3, 4, 5, 6, 7, 8, 9, 10] [] rfl rfl rfl (by decide +kernel) (by decide +kernel) (by decide +kernel) (c_s_readAt l D cA cB h0 hn hs hd hp hc h1 h2 h3 h4 he wy dn la ke f st pn wt rg pa en ct a (by first | assumption | decide | rfl | omega) (by first | assumption | decide | rfl | omega) hf hst hpn hwt hen (by first | assumption | decide | rfl | omega)) w_189 w_66 w_188 w_190 w_191 0 (ci := 4) (T := TX4) (N := 7) rfl rfl (by decide +kernel) rfl rfl (Nat.le_of_ble_eq_true rfl) ⟨(Nat.le_of_ble_eq_true rfl), (Nat.le_of_ble_eq_true rfl)⟩ ⟨(Nat.le_of_ble_eq_true rfl), (Nat.le_of_ble_eq_true rfl)⟩ dX4_useAddress_161 (fun r W1 H locs hw hP hD hS => ?_)
                    obtain ⟨wy2_273, dn2_274, la2_275, ke2_276, f2_277, st2_278, pn2_279, wt2_280, rg2_281, pa2_282, en2_283, ct2_284, rk_285, rfl, hf_286, hf_287, hf_288, hf_289, hf_290, hf_291, hf_292, hf_293, rfl⟩ := hw
                    have hP : va_P D classes [(h0, .inr (4, [.ref hn, .ref hs, .ref hd, .ref hp, .ref hc, .int wy2_273, .int dn2_274])), (hd, .inr (1, [.ref hn, .ref h1, .ref h2, .ref h3, .ref h4])), (hp, .inr (3, [.ref he, .int (nI la2_275), .int (nI ke2_276)])), (hn, .inl (cA, 34, .inl f2_277)), (hs, .inl (cA, 4096, .inl st2_278)), (h1, .inl (cA, 64, .inl pn2_279)), (h2, .inl (cA, 16, .inl wt2_280)), (h3, .inl (cA, 900, .inl rg2_281)), (h4, .inl (cA, 200, .inl pa2_282)), (he, .inl (cA, 10752, .inl en2_283)), (hc, .inl (cA, 257, .inl ct2_284))] H := hP
                    have hD : va_D A [(h0, .inr (4, [.ref hn, .ref hs, .ref hd, .ref hp, .ref hc, .int wy2_273, .int dn2_274])), (hd, .inr (1, [.ref hn, .ref h1, .ref h2, .ref h3, .ref h4])), (hp, .inr (3, [.ref he, .int (nI la2_275), .int (nI ke2_276)])), (hn, .inl (cA, 34, .inl f2_277)), (hs, .inl (cA, 4096, .inl st2_278)), (h1, .inl (cA, 64, .inl pn2_279)), (h2, .inl (cA, 16, .inl wt2_280)), (h3, .inl (cA, 900, .inl rg2_281)), (h4, .inl (cA, 200, .inl pa2_282)), (he, .inl (cA, 10752, .inl en2_283)), (hc, .inl (cA, 257, .inl ct2_284))] := hD
                    refine kVi (n3 := 2) (As := [.int (nI o), .int (nI rk_285)]) (rest := [.int (nI a), .ref h0]) X hl.1 hE hP hD hS hA [(h0, .inr (4, [.ref hn, .ref hs, .ref hd, .ref hp, .ref hc, .int wy2_273, .int dn2_274])), (hn, .inl (cA, 34, .inl f2_277))] [(hd, .inr (1, [.ref hn, .ref h1, .ref h2, .ref h3, .ref h4])), (hp, .inr (3, [.ref he, .int (nI la2_275), .int (nI ke2_276)])), (hs, .inl (cA, 4096, .inl st2_278)), (h1, .inl (cA, 64, .inl pn2_279)), (h2, .inl (cA, 16, .inl wt2_280)), (h3, .inl (cA, 900, .inl rg2_281)), (h4, .inl (cA, 200, .inl pa2_282)), (he, .inl (cA, 10752, .inl en2_283)), (hc, .inl (cA, 257, .inl ct2_284))] [0, 3] [1, 2, 4, 5, 6, 7, 8, 9, 10] rfl rfl rfl (by decide +kernel) (by decide +kernel) (by decide +kernel) (c_s_changed l D cA cB h0 hn hs hd hp hc wy2_273 dn2_274 f2_277 o rk_285 hf_288 (by first | assumption | decide | rfl | omega) (by first | assumption | decide | rfl | omega)) w_193 w_66 w_192 w_194 w_195 0 (ci := 4) (T := TX4) (N := 7) rfl rfl (by decide +kernel) rfl rfl (Nat.le_of_ble_eq_true rfl) ⟨(Nat.le_of_ble_eq_true rfl), (Nat.le_of_ble_eq_true rfl)⟩ ⟨(Nat.le_of_ble_eq_true rfl), (Nat.le_of_ble_eq_true rfl)⟩ dX4_useAddress_164 (fun r W1 H locs hw hP hD hS => ?_)
                    obtain ⟨wy2_294, dn2_295, f2_296, rk_297, rfl, hf_298, hf_299, rfl⟩ := hw
                    have hP : va_P D classes [(hd, .inr (1, [.ref hn, .ref h1, .ref h2, .ref h3, .ref h4])), (hp, .inr (3, [.ref he, .int (nI la2_275), .int (nI ke2_276)])), (hs, .inl (cA, 4096, .inl st2_278)), (h1, .inl (cA, 64, .inl pn2_279)), (h2, .inl (cA, 16, .inl wt2_280)), (h3, .inl (cA, 900, .inl rg2_281)), (h4, .inl (cA, 200, .inl pa2_282)), (he, .inl (cA, 10752, .inl en2_283)), (hc, .inl (cA, 257, .inl ct2_284)), (h0, .inr (4, [.ref hn, .ref hs, .ref hd, .ref hp, .ref hc, .int wy2_294, .int dn2_295])), (hn, .inl (cA, 34, .inl f2_296))] H := hP
                    have hD : va_D A [(hd, .inr (1, [.ref hn, .ref h1, .ref h2, .ref h3, .ref h4])), (hp, .inr (3, [.ref he, .int (nI la2_275), .int (nI ke2_276)])), (hs, .inl (cA, 4096, .inl st2_278)), (h1, .inl (cA, 64, .inl pn2_279)), (h2, .inl (cA, 16, .inl wt2_280)), (h3, .inl (cA, 900, .inl rg2_281)), (h4, .inl (cA, 200, .inl pa2_282)), (he, .inl (cA, 10752, .inl en2_283)), (hc, .inl (cA, 257, .inl ct2_284)), (h0, .inr (4, [.ref hn, .ref hs, .ref hd, .ref hp, .ref hc, .int wy2_294, .int dn2_295])), (hn, .inl (cA, 34, .inl f2_296))] := hD
                    refine kVv (n3 := 2) (As := [.int (nI a), .int (nI rk_297)]) (rest := []) X hl.1 hE hP hD hS hA [(h0, .inr (4, [.ref hn, .ref hs, .ref hd, .ref hp, .ref hc, .int wy2_294, .int dn2_295])), (hd, .inr (1, [.ref hn, .ref h1, .ref h2, .ref h3, .ref h4])), (hp, .inr (3, [.ref he, .int (nI la2_275), .int (nI ke2_276)])), (hn, .inl (cA, 34, .inl f2_296)), (hs, .inl (cA, 4096, .inl st2_278)), (h1, .inl (cA, 64, .inl pn2_279)), (h2, .inl (cA, 16, .inl wt2_280)), (h3, .inl (cA, 900, .inl rg2_281)), (h4, .inl (cA, 200, .inl pa2_282)), (he, .inl (cA, 10752, .inl en2_283)), (hc, .inl (cA, 257, .inl ct2_284))] [] [9, 0, 1, 10, 2, 3, 4, 5, 6, 7, 8] [] rfl rfl rfl (by decide +kernel) (by decide +kernel) (by decide +kernel) (c_s_writeAt l D cA cB h0 hn hs hd hp hc h1 h2 h3 h4 he wy2_294 dn2_295 la2_275 ke2_276 f2_296 st2_278 pn2_279 wt2_280 rg2_281 pa2_282 en2_283 ct2_284 a rk_297 (by first | assumption | decide | rfl | omega) (by first | assumption | decide | rfl | omega) hf_298 hf_289 hf_290 hf_291 hf_292 (by first | assumption | decide | rfl | omega) (by first | assumption | decide | rfl | omega)) w_185 w_66 w_184 w_186 w_187 0 (ci := 4) (T := TX4) (N := 7) rfl rfl (by decide +kernel) rfl rfl (Nat.le_of_ble_eq_true rfl) ⟨(Nat.le_of_ble_eq_true rfl), (Nat.le_of_ble_eq_true rfl)⟩ ⟨(Nat.le_of_ble_eq_true rfl), (Nat.le_of_ble_eq_true rfl)⟩ dX4_useAddress_167 (fun W1 H locs hw hP hD hS => ?_)
                    obtain ⟨wy2_300, dn2_301, la2_302, ke2_303, f2_304, st2_305, pn2_306, wt2_307, rg2_308, pa2_309, en2_310, ct2_311, hf_312, hf_313, hf_314, hf_315, hf_316, hf_317, hf_318, rfl⟩ := hw
                    have hP : va_P D classes [(h0, .inr (4, [.ref hn, .ref hs, .ref hd, .ref hp, .ref hc, .int wy2_300, .int dn2_301])), (hd, .inr (1, [.ref hn, .ref h1, .ref h2, .ref h3, .ref h4])), (hp, .inr (3, [.ref he, .int (nI la2_302), .int (nI ke2_303)])), (hn, .inl (cA, 34, .inl f2_304)), (hs, .inl (cA, 4096, .inl st2_305)), (h1, .inl (cA, 64, .inl pn2_306)), (h2, .inl (cA, 16, .inl wt2_307)), (h3, .inl (cA, 900, .inl rg2_308)), (h4, .inl (cA, 200, .inl pa2_309)), (he, .inl (cA, 10752, .inl en2_310)), (hc, .inl (cA, 257, .inl ct2_311))] H := hP
                    have hD : va_D A [(h0, .inr (4, [.ref hn, .ref hs, .ref hd, .ref hp, .ref hc, .int wy2_300, .int dn2_301])), (hd, .inr (1, [.ref hn, .ref h1, .ref h2, .ref h3, .ref h4])), (hp, .inr (3, [.ref he, .int (nI la2_302), .int (nI ke2_303)])), (hn, .inl (cA, 34, .inl f2_304)), (hs, .inl (cA, 4096, .inl st2_305)), (h1, .inl (cA, 64, .inl pn2_306)), (h2, .inl (cA, 16, .inl wt2_307)), (h3, .inl (cA, 900, .inl rg2_308)), (h4, .inl (cA, 200, .inl pa2_309)), (he, .inl (cA, 10752, .inl en2_310)), (hc, .inl (cA, 257, .inl ct2_311))] := hD
                    exact endV X hr hlocks hP hD hS dX4_useAddress_170 ⟨wy2_300, dn2_301, la2_302, ke2_303, f2_304, st2_305, pn2_306, wt2_307, rg2_308, pa2_309, en2_310, ct2_311, (by omega), (by omega), hf_314, hf_315, hf_316, hf_317, hf_318, rfl⟩
                  · skip
                    by_cases c_1_319 : (nI o) = 25
                    · refine lv_tableIn (tgt := 155) (off := 154) hx hb dX4_useAddress_1 (by rw [c_1_319]; decide) (by rw [c_1_319]; decide) (by rw [c_1_319]; decide) (by decide) ?_
                      refine lv_aload_n hx hb dX4_useAddress_155 rfl (lv_at hl 0 rfl) ?_
                      refine lv_iload_n hx hb dX4_useAddress_156 rfl (lv_at hl 2 rfl) ?_
                      refine lv_aload_n hx hb dX4_useAddress_157 rfl (lv_at hl 0 rfl) ?_
                      refine lv_iload_n hx hb dX4_useAddress_158 rfl (lv_at hl 1 rfl) ?_
                      refine lv_aload_n hx hb dX4_useAddress_159 rfl (lv_at hl 0 rfl) ?_
                      refine lv_iload_n hx hb dX4_useAddress_160 rfl (lv_at hl 2 rfl) ?_
                      refine kVi (n3 := 1) (As := [.int (nI a)]) (rest := [.int (nI o), .ref h0, .int (nI a), .ref h0]) X hl.1 hE hP hD hS hA [(h0, .inr (4, [.ref hn, .ref hs, .ref hd, .ref hp, .ref hc, .int wy, .int dn])), (hd, .inr (1, [.ref hn, .ref h1, .ref h2, .ref h3, .ref h4])), (hp, .inr (3, [.ref he, .int (nI la), .int (nI ke)])), (hn, .inl (cA, 34, .inl f)), (hs, .inl (cA, 4096, .inl st)), (h1, .inl (cA, 64, .inl pn)), (h2, .inl (cA, 16, .inl wt)), (h3, .inl (cA, 900, .inl rg)), (h4, .inl (cA, 200, .inl pa)), (he, .inl (cA, 10752, .inl en)), (hc, .inl (cA, 257, .inl ct))] [] [0, 1, 2, 3, 4, 5, 6, 7, 8, 9, 10] [] rfl rfl rfl (by decide +kernel) (by decide +kernel) (by decide +kernel) (c_s_readAt l D cA cB h0 hn hs hd hp hc h1 h2 h3 h4 he wy dn la ke f st pn wt rg pa en ct a (by first | assumption | decide | rfl | omega) (by first | assumption | decide | rfl | omega) hf hst hpn hwt hen (by first | assumption | decide | rfl | omega)) w_189 w_66 w_188 w_190 w_191 0 (ci := 4) (T := TX4) (N := 7) rfl rfl (by decide +kernel) rfl rfl (Nat.le_of_ble_eq_true rfl) ⟨(Nat.le_of_ble_eq_true rfl), (Nat.le_of_ble_eq_true rfl)⟩ ⟨(Nat.le_of_ble_eq_true rfl), (Nat.le_of_ble_eq_true rfl)⟩ dX4_useAddress_161 (fun r W1 H locs hw hP hD hS => ?_)
                      obtain ⟨wy2_320, dn2_321, la2_322, ke2_323, f2_324, st2_325, pn2_326, wt2_327, rg2_328, pa2_329, en2_330, ct2_331, rk_332, rfl, hf_333, hf_334, hf_335, hf_336, hf_337, hf_338, hf_339, hf_340, rfl⟩ := hw
                      have hP : va_P D classes [(h0, .inr (4, [.ref hn, .ref hs, .ref hd, .ref hp, .ref hc, .int wy2_320, .int dn2_321])), (hd, .inr (1, [.ref hn, .ref h1, .ref h2, .ref h3, .ref h4])), (hp, .inr (3, [.ref he, .int (nI la2_322), .int (nI ke2_323)])), (hn, .inl (cA, 34, .inl f2_324)), (hs, .inl (cA, 4096, .inl st2_325)), (h1, .inl (cA, 64, .inl pn2_326)), (h2, .inl (cA, 16, .inl wt2_327)), (h3, .inl (cA, 900, .inl rg2_328)), (h4, .inl (cA, 200, .inl pa2_329)), (he, .inl (cA, 10752, .inl en2_330)), (hc, .inl (cA, 257, .inl ct2_331))] H := hP
                      have hD : va_D A [(h0, .inr (4, [.ref hn, .ref hs, .ref hd, .ref hp, .ref hc, .int wy2_320, .int dn2_321])), (hd, .inr (1, [.ref hn, .ref h1, .ref h2, .ref h3, .ref h4])), (hp, .inr (3, [.ref he, .int (nI la2_322), .int (nI ke2_323)])), (hn, .inl (cA, 34, .inl f2_324)), (hs, .inl (cA, 4096, .inl st2_325)), (h1, .inl (cA, 64, .inl pn2_326)), (h2, .inl (cA, 16, .inl wt2_327)), (h3, .inl (cA, 900, .inl rg2_328)), (h4, .inl (cA, 200, .inl pa2_329)), (he, .inl (cA, 10752, .inl en2_330)), (hc, .inl (cA, 257, .inl ct2_331))] := hD
                      refine kVi (n3 := 2) (As := [.int (nI o), .int (nI rk_332)]) (rest := [.int (nI a), .ref h0]) X hl.1 hE hP hD hS hA [(h0, .inr (4, [.ref hn, .ref hs, .ref hd, .ref hp, .ref hc, .int wy2_320, .int dn2_321])), (hn, .inl (cA, 34, .inl f2_324))] [(hd, .inr (1, [.ref hn, .ref h1, .ref h2, .ref h3, .ref h4])), (hp, .inr (3, [.ref he, .int (nI la2_322), .int (nI ke2_323)])), (hs, .inl (cA, 4096, .inl st2_325)), (h1, .inl (cA, 64, .inl pn2_326)), (h2, .inl (cA, 16, .inl wt2_327)), (h3, .inl (cA, 900, .inl rg2_328)), (h4, .inl (cA, 200, .inl pa2_329)), (he, .inl (cA, 10752, .inl en2_330)), (hc, .inl (cA, 257, .inl ct2_331))] [0, 3] [1, 2, 4, 5, 6, 7, 8, 9, 10] rfl rfl rfl (by decide +kernel) (by decide +kernel) (by decide +kernel) (c_s_changed l D cA cB h0 hn hs hd hp hc wy2_320 dn2_321 f2_324 o rk_332 hf_335 (by first | assumption | decide | rfl | omega) (by first | assumption | decide | rfl | omega)) w_193 w_66 w_192 w_194 w_195 0 (ci := 4) (T := TX4) (N := 7) rfl rfl (by decide +kernel) rfl rfl (Nat.le_of_ble_eq_true rfl) ⟨(Nat.le_of_ble_eq_true rfl), (Nat.le_of_ble_eq_true rfl)⟩ ⟨(Nat.le_of_ble_eq_true rfl), (Nat.le_of_ble_eq_true rfl)⟩ dX4_useAddress_164 (fun r W1 H locs hw hP hD hS => ?_)
                      obtain ⟨wy2_341, dn2_342, f2_343, rk_344, rfl, hf_345, hf_346, rfl⟩ := hw
                      have hP : va_P D classes [(hd, .inr (1, [.ref hn, .ref h1, .ref h2, .ref h3, .ref h4])), (hp, .inr (3, [.ref he, .int (nI la2_322), .int (nI ke2_323)])), (hs, .inl (cA, 4096, .inl st2_325)), (h1, .inl (cA, 64, .inl pn2_326)), (h2, .inl (cA, 16, .inl wt2_327)), (h3, .inl (cA, 900, .inl rg2_328)), (h4, .inl (cA, 200, .inl pa2_329)), (he, .inl (cA, 10752, .inl en2_330)), (hc, .inl (cA, 257, .inl ct2_331)), (h0, .inr (4, [.ref hn, .ref hs, .ref hd, .ref hp, .ref hc, .int wy2_341, .int dn2_342])), (hn, .inl (cA, 34, .inl f2_343))] H := hP
                      have hD : va_D A [(hd, .inr (1, [.ref hn, .ref h1, .ref h2, .ref h3, .ref h4])), (hp, .inr (3, [.ref he, .int (nI la2_322), .int (nI ke2_323)])), (hs, .inl (cA, 4096, .inl st2_325)), (h1, .inl (cA, 64, .inl pn2_326)), (h2, .inl (cA, 16, .inl wt2_327)), (h3, .inl (cA, 900, .inl rg2_328)), (h4, .inl (cA, 200, .inl pa2_329)), (he, .inl (cA, 10752, .inl en2_330)), (hc, .inl (cA, 257, .inl ct2_331)), (h0, .inr (4, [.ref hn, .ref hs, .ref hd, .ref hp, .ref hc, .int wy2_341, .int dn2_342])), (hn, .inl (cA, 34, .inl f2_343))] := hD
                      refine kVv (n3 := 2) (As := [.int (nI a), .int (nI rk_344)]) (rest := []) X hl.1 hE hP hD hS hA [(h0, .inr (4, [.ref hn, .ref hs, .ref hd, .ref hp, .ref hc, .int wy2_341, .int dn2_342])), (hd, .inr (1, [.ref hn, .ref h1, .ref h2, .ref h3, .ref h4])), (hp, .inr (3, [.ref he, .int (nI la2_322), .int (nI ke2_323)])), (hn, .inl (cA, 34, .inl f2_343)), (hs, .inl (cA, 4096, .inl st2_325)), (h1, .inl (cA, 64, .inl pn2_326)), (h2, .inl (cA, 16, .inl wt2_327)), (h3, .inl (cA, 900, .inl rg2_328)), (h4, .inl (cA, 200, .inl pa2_329)), (he, .inl (cA, 10752, .inl en2_330)), (hc, .inl (cA, 257, .inl ct2_331))] [] [9, 0, 1, 10, 2, 3, 4, 5, 6, 7, 8] [] rfl rfl rfl (by decide +kernel) (by decide +kernel) (by decide +kernel) (c_s_writeAt l D cA cB h0 hn hs hd hp hc h1 h2 h3 h4 he wy2_341 dn2_342 la2_322 ke2_323 f2_343 st2_325 pn2_326 wt2_327 rg2_328 pa2_329 en2_330 ct2_331 a rk_344 (by first | assumption | decide | rfl | omega) (by first | assumption | decide | rfl | omega) hf_345 hf_336 hf_337 hf_338 hf_339 (by first | assumption | decide | rfl | omega) (by first | assumption | decide | rfl | omega)) w_185 w_66 w_184 w_186 w_187 0 (ci := 4) (T := TX4) (N := 7) rfl rfl (by decide +kernel) rfl rfl (Nat.le_of_ble_eq_true rfl) ⟨(Nat.le_of_ble_eq_true rfl), (Nat.le_of_ble_eq_true rfl)⟩ ⟨(Nat.le_of_ble_eq_true rfl), (Nat.le_of_ble_eq_true rfl)⟩ dX4_useAddress_167 (fun W1 H locs hw hP hD hS => ?_)
                      obtain ⟨wy2_347, dn2_348, la2_349, ke2_350, f2_351, st2_352, pn2_353, wt2_354, rg2_355, pa2_356, en2_357, ct2_358, hf_359, hf_360, hf_361, hf_362, hf_363, hf_364, hf_365, rfl⟩ := hw
                      have hP : va_P D classes [(h0, .inr (4, [.ref hn, .ref hs, .ref hd, .ref hp, .ref hc, .int wy2_347, .int dn2_348])), (hd, .inr (1, [.ref hn, .ref h1, .ref h2, .ref h3, .ref h4])), (hp, .inr (3, [.ref he, .int (nI la2_349), .int (nI ke2_350)])), (hn, .inl (cA, 34, .inl f2_351)), (hs, .inl (cA, 4096, .inl st2_352)), (h1, .inl (cA, 64, .inl pn2_353)), (h2, .inl (cA, 16, .inl wt2_354)), (h3, .inl (cA, 900, .inl rg2_355)), (h4, .inl (cA, 200, .inl pa2_356)), (he, .inl (cA, 10752, .inl en2_357)), (hc, .inl (cA, 257, .inl ct2_358))] H := hP
                      have hD : va_D A [(h0, .inr (4, [.ref hn, .ref hs, .ref hd, .ref hp, .ref hc, .int wy2_347, .int dn2_348])), (hd, .inr (1, [.ref hn, .ref h1, .ref h2, .ref h3, .ref h4])), (hp, .inr (3, [.ref he, .int (nI la2_349), .int (nI ke2_350)])), (hn, .inl (cA, 34, .inl f2_351)), (hs, .inl (cA, 4096, .inl st2_352)), (h1, .inl (cA, 64, .inl pn2_353)), (h2, .inl (cA, 16, .inl wt2_354)), (h3, .inl (cA, 900, .inl rg2_355)), (h4, .inl (cA, 200, .inl pa2_356)), (he, .inl (cA, 10752, .inl en2_357)), (hc, .inl (cA, 257, .inl ct2_358))] := hD
                      exact endV X hr hlocks hP hD hS dX4_useAddress_170 ⟨wy2_347, dn2_348, la2_349, ke2_350, f2_351, st2_352, pn2_353, wt2_354, rg2_355, pa2_356, en2_357, ct2_358, (by omega), (by omega), hf_361, hf_362, hf_363, hf_364, hf_365, rfl⟩
                    · skip
                      by_cases c_1_366 : (nI o) = 26
                      · refine lv_tableIn (tgt := 155) (off := 154) hx hb dX4_useAddress_1 (by rw [c_1_366]; decide) (by rw [c_1_366]; decide) (by rw [c_1_366]; decide) (by decide) ?_
                        refine lv_aload_n hx hb dX4_useAddress_155 rfl (lv_at hl 0 rfl) ?_
                        refine lv_iload_n hx hb dX4_useAddress_156 rfl (lv_at hl 2 rfl) ?_
                        refine lv_aload_n hx hb dX4_useAddress_157 rfl (lv_at hl 0 rfl) ?_
                        refine lv_iload_n hx hb dX4_useAddress_158 rfl (lv_at hl 1 rfl) ?_
                        refine lv_aload_n hx hb dX4_useAddress_159 rfl (lv_at hl 0 rfl) ?_
                        refine lv_iload_n hx hb dX4_useAddress_160 rfl (lv_at hl 2 rfl) ?_
                        refine kVi (n3 := 1) (As := [.int (nI a)]) (rest := [.int (nI o), .ref h0, .int (nI a), .ref h0]) X hl.1 hE hP hD hS hA [(h0, .inr (4, [.ref hn, .ref hs, .ref hd, .ref hp, .ref hc, .int wy, .int dn])), (hd, .inr (1, [.ref hn, .ref h1, .ref h2, .ref h3, .ref h4])), (hp, .inr (3, [.ref he, .int (nI la), .int (nI ke)])), (hn, .inl (cA, 34, .inl f)), (hs, .inl (cA, 4096, .inl st)), (h1, .inl (cA, 64, .inl pn)), (h2, .inl (cA, 16, .inl wt)), (h3, .inl (cA, 900, .inl rg)), (h4, .inl (cA, 200, .inl pa)), (he, .inl (cA, 10752, .inl en)), (hc, .inl (cA, 257, .inl ct))] [] [0, 1, 2, 3, 4, 5, 6, 7, 8, 9, 10] [] rfl rfl rfl (by decide +kernel) (by decide +kernel) (by decide +kernel) (c_s_readAt l D cA cB h0 hn hs hd hp hc h1 h2 h3 h4 he wy dn la ke f st pn wt rg pa en ct a (by first | assumption | decide | rfl | omega) (by first | assumption | decide | rfl | omega) hf hst hpn hwt hen (by first | assumption | decide | rfl | omega)) w_189 w_66 w_188 w_190 w_191 0 (ci := 4) (T := TX4) (N := 7) rfl rfl (by decide +kernel) rfl rfl (Nat.le_of_ble_eq_true rfl) ⟨(Nat.le_of_ble_eq_true rfl), (Nat.le_of_ble_eq_true rfl)⟩ ⟨(Nat.le_of_ble_eq_true rfl), (Nat.le_of_ble_eq_true rfl)⟩ dX4_useAddress_161 (fun r W1 H locs hw hP hD hS => ?_)
                        obtain ⟨wy2_367, dn2_368, la2_369, ke2_370, f2_371, st2_372, pn2_373, wt2_374, rg2_375, pa2_376, en2_377, ct2_378, rk_379, rfl, hf_380, hf_381, hf_382, hf_383, hf_384, hf_385, hf_386, hf_387, rfl⟩ := hw
                        have hP : va_P D classes [(h0, .inr (4, [.ref hn, .ref hs, .ref hd, .ref hp, .ref hc, .int wy2_367, .int dn2_368])), (hd, .inr (1, [.ref hn, .ref h1, .ref h2, .ref h3, .ref h4])), (hp, .inr (3, [.ref he, .int (nI la2_369), .int (nI ke2_370)])), (hn, .inl (cA, 34, .inl f2_371)), (hs, .inl (cA, 4096, .inl st2_372)), (h1, .inl (cA, 64, .inl pn2_373)), (h2, .inl (cA, 16, .inl wt2_374)), (h3, .inl (cA, 900, .inl rg2_375)), (h4, .inl (cA, 200, .inl pa2_376)), (he, .inl (cA, 10752, .inl en2_377)), (hc, .inl (cA, 257, .inl ct2_378))] H := hP
                        have hD : va_D A [(h0, .inr (4, [.ref hn, .ref hs, .ref hd, .ref hp, .ref hc, .int wy2_367, .int dn2_368])), (hd, .inr (1, [.ref hn, .ref h1, .ref h2, .ref h3, .ref h4])), (hp, .inr (3, [.ref he, .int (nI la2_369), .int (nI ke2_370)])), (hn, .inl (cA, 34, .inl f2_371)), (hs, .inl (cA, 4096, .inl st2_372)), (h1, .inl (cA, 64, .inl pn2_373)), (h2, .inl (cA, 16, .inl wt2_374)), (h3, .inl (cA, 900, .inl rg2_375)), (h4, .inl (cA, 200, .inl pa2_376)), (he, .inl (cA, 10752, .inl en2_377)), (hc, .inl (cA, 257, .inl ct2_378))] := hD
                        refine kVi (n3 := 2) (As := [.int (nI o), .int (nI rk_379)]) (rest := [.int (nI a), .ref h0]) X hl.1 hE hP hD hS hA [(h0, .inr (4, [.ref hn, .ref hs, .ref hd, .ref hp, .ref hc, .int wy2_367, .int dn2_368])), (hn, .inl (cA, 34, .inl f2_371))] [(hd, .inr (1, [.ref hn, .ref h1, .ref h2, .ref h3, .ref h4])), (hp, .inr (3, [.ref he, .int (nI la2_369), .int (nI ke2_370)])), (hs, .inl (cA, 4096, .inl st2_372)), (h1, .inl (cA, 64, .inl pn2_373)), (h2, .inl (cA, 16, .inl wt2_374)), (h3, .inl (cA, 900, .inl rg2_375)), (h4, .inl (cA, 200, .inl pa2_376)), (he, .inl (cA, 10752, .inl en2_377)), (hc, .inl (cA, 257, .inl ct2_378))] [0, 3] [1, 2, 4, 5, 6, 7, 8, 9, 10] rfl rfl rfl (by decide +kernel) (by decide +kernel) (by decide +kernel) (c_s_changed l D cA cB h0 hn hs hd hp hc wy2_367 dn2_368 f2_371 o rk_379 hf_382 (by first | assumption | decide | rfl | omega) (by first | assumption | decide | rfl | omega)) w_193 w_66 w_192 w_194 w_195 0 (ci := 4) (T := TX4) (N := 7) rfl rfl (by decide +kernel) rfl rfl (Nat.le_of_ble_eq_true rfl) ⟨(Nat.le_of_ble_eq_true rfl), (Nat.le_of_ble_eq_true rfl)⟩ ⟨(Nat.le_of_ble_eq_true rfl), (Nat.le_of_ble_eq_true rfl)⟩ dX4_useAddress_164 (fun r W1 H locs hw hP hD hS => ?_)
                        obtain ⟨wy2_388, dn2_389, f2_390, rk_391, rfl, hf_392, hf_393, rfl⟩ := hw
                        have hP : va_P D classes [(hd, .inr (1, [.ref hn, .ref h1, .ref h2, .ref h3, .ref h4])), (hp, .inr (3, [.ref he, .int (nI la2_369), .int (nI ke2_370)])), (hs, .inl (cA, 4096, .inl st2_372)), (h1, .inl (cA, 64, .inl pn2_373)), (h2, .inl (cA, 16, .inl wt2_374)), (h3, .inl (cA, 900, .inl rg2_375)), (h4, .inl (cA, 200, .inl pa2_376)), (he, .inl (cA, 10752, .inl en2_377)), (hc, .inl (cA, 257, .inl ct2_378)), (h0, .inr (4, [.ref hn, .ref hs, .ref hd, .ref hp, .ref hc, .int wy2_388, .int dn2_389])), (hn, .inl (cA, 34, .inl f2_390))] H := hP
                        have hD : va_D A [(hd, .inr (1, [.ref hn, .ref h1, .ref h2, .ref h3, .ref h4])), (hp, .inr (3, [.ref he, .int (nI la2_369), .int (nI ke2_370)])), (hs, .inl (cA, 4096, .inl st2_372)), (h1, .inl (cA, 64, .inl pn2_373)), (h2, .inl (cA, 16, .inl wt2_374)), (h3, .inl (cA, 900, .inl rg2_375)), (h4, .inl (cA, 200, .inl pa2_376)), (he, .inl (cA, 10752, .inl en2_377)), (hc, .inl (cA, 257, .inl ct2_378)), (h0, .inr (4, [.ref hn, .ref hs, .ref hd, .ref hp, .ref hc, .int wy2_388, .int dn2_389])), (hn, .inl (cA, 34, .inl f2_390))] := hD
                        refine kVv (n3 := 2) (As := [.int (nI a), .int (nI rk_391)]) (rest := []) X hl.1 hE hP hD hS hA [(h0, .inr (4, [.ref hn, .ref hs, .ref hd, .ref hp, .ref hc, .int wy2_388, .int dn2_389])), (hd, .inr (1, [.ref hn, .ref h1, .ref h2, .ref h3, .ref h4])), (hp, .inr (3, [.ref he, .int (nI la2_369), .int (nI ke2_370)])), (hn, .inl (cA, 34, .inl f2_390)), (hs, .inl (cA, 4096, .inl st2_372)), (h1, .inl (cA, 64, .inl pn2_373)), (h2, .inl (cA, 16, .inl wt2_374)), (h3, .inl (cA, 900, .inl rg2_375)), (h4, .inl (cA, 200, .inl pa2_376)), (he, .inl (cA, 10752, .inl en2_377)), (hc, .inl (cA, 257, .inl ct2_378))] [] [9, 0, 1, 10, 2, 3, 4, 5, 6, 7, 8] [] rfl rfl rfl (by decide +kernel) (by decide +kernel) (by decide +kernel) (c_s_writeAt l D cA cB h0 hn hs hd hp hc h1 h2 h3 h4 he wy2_388 dn2_389 la2_369 ke2_370 f2_390 st2_372 pn2_373 wt2_374 rg2_375 pa2_376 en2_377 ct2_378 a rk_391 (by first | assumption | decide | rfl | omega) (by first | assumption | decide | rfl | omega) hf_392 hf_383 hf_384 hf_385 hf_386 (by first | assumption | decide | rfl | omega) (by first | assumption | decide | rfl | omega)) w_185 w_66 w_184 w_186 w_187 0 (ci := 4) (T := TX4) (N := 7) rfl rfl (by decide +kernel) rfl rfl (Nat.le_of_ble_eq_true rfl) ⟨(Nat.le_of_ble_eq_true rfl), (Nat.le_of_ble_eq_true rfl)⟩ ⟨(Nat.le_of_ble_eq_true rfl), (Nat.le_of_ble_eq_true rfl)⟩ dX4_useAddress_167 (fun W1 H locs hw hP hD hS => ?_)
                        obtain ⟨wy2_394, dn2_395, la2_396, ke2_397, f2_398, st2_399, pn2_400, wt2_401, rg2_402, pa2_403, en2_404, ct2_405, hf_406, hf_407, hf_408, hf_409, hf_410, hf_411, hf_412, rfl⟩ := hw
                        have hP : va_P D classes [(h0, .inr (4, [.ref hn, .ref hs, .ref hd, .ref hp, .ref hc, .int wy2_394, .int dn2_395])), (hd, .inr (1, [.ref hn, .ref h1, .ref h2, .ref h3, .ref h4])), (hp, .inr (3, [.ref he, .int (nI la2_396), .int (nI ke2_397)])), (hn, .inl (cA, 34, .inl f2_398)), (hs, .inl (cA, 4096, .inl st2_399)), (h1, .inl (cA, 64, .inl pn2_400)), (h2, .inl (cA, 16, .inl wt2_401)), (h3, .inl (cA, 900, .inl rg2_402)), (h4, .inl (cA, 200, .inl pa2_403)), (he, .inl (cA, 10752, .inl en2_404)), (hc, .inl (cA, 257, .inl ct2_405))] H := hP
                        have hD : va_D A [(h0, .inr (4, [.ref hn, .ref hs, .ref hd, .ref hp, .ref hc, .int wy2_394, .int dn2_395])), (hd, .inr (1, [.ref hn, .ref h1, .ref h2, .ref h3, .ref h4])), (hp, .inr (3, [.ref he, .int (nI la2_396), .int (nI ke2_397)])), (hn, .inl (cA, 34, .inl f2_398)), (hs, .inl (cA, 4096, .inl st2_399)), (h1, .inl (cA, 64, .inl pn2_400)), (h2, .inl (cA, 16, .inl wt2_401)), (h3, .inl (cA, 900, .inl rg2_402)), (h4, .inl (cA, 200, .inl pa2_403)), (he, .inl (cA, 10752, .inl en2_404)), (hc, .inl (cA, 257, .inl ct2_405))] := hD
                        exact endV X hr hlocks hP hD hS dX4_useAddress_170 ⟨wy2_394, dn2_395, la2_396, ke2_397, f2_398, st2_399, pn2_400, wt2_401, rg2_402, pa2_403, en2_404, ct2_405, (by omega), (by omega), hf_408, hf_409, hf_410, hf_411, hf_412, rfl⟩
                      · skip
                        by_cases c_1_413 : (nI o) = 27
                        · refine lv_tableIn (tgt := 155) (off := 154) hx hb dX4_useAddress_1 (by rw [c_1_413]; decide) (by rw [c_1_413]; decide) (by rw [c_1_413]; decide) (by decide) ?_
                          refine lv_aload_n hx hb dX4_useAddress_155 rfl (lv_at hl 0 rfl) ?_
                          refine lv_iload_n hx hb dX4_useAddress_156 rfl (lv_at hl 2 rfl) ?_
                          refine lv_aload_n hx hb dX4_useAddress_157 rfl (lv_at hl 0 rfl) ?_
                          refine lv_iload_n hx hb dX4_useAddress_158 rfl (lv_at hl 1 rfl) ?_
                          refine lv_aload_n hx hb dX4_useAddress_159 rfl (lv_at hl 0 rfl) ?_
                          refine lv_iload_n hx hb dX4_useAddress_160 rfl (lv_at hl 2 rfl) ?_
                          refine kVi (n3 := 1) (As := [.int (nI a)]) (rest := [.int (nI o), .ref h0, .int (nI a), .ref h0]) X hl.1 hE hP hD hS hA [(h0, .inr (4, [.ref hn, .ref hs, .ref hd, .ref hp, .ref hc, .int wy, .int dn])), (hd, .inr (1, [.ref hn, .ref h1, .ref h2, .ref h3, .ref h4])), (hp, .inr (3, [.ref he, .int (nI la), .int (nI ke)])), (hn, .inl (cA, 34, .inl f)), (hs, .inl (cA, 4096, .inl st)), (h1, .inl (cA, 64, .inl pn)), (h2, .inl (cA, 16, .inl wt)), (h3, .inl (cA, 900, .inl rg)), (h4, .inl (cA, 200, .inl pa)), (he, .inl (cA, 10752, .inl en)), (hc, .inl (cA, 257, .inl ct))] [] [0, 1, 2, 3, 4, 5, 6, 7, 8, 9, 10] [] rfl rfl rfl (by decide +kernel) (by decide +kernel) (by decide +kernel) (c_s_readAt l D cA cB h0 hn hs hd hp hc h1 h2 h3 h4 he wy dn la ke f st pn wt rg pa en ct a (by first | assumption | decide | rfl | omega) (by first | assumption | decide | rfl | omega) hf hst hpn hwt hen (by first | assumption | decide | rfl | omega)) w_189 w_66 w_188 w_190 w_191 0 (ci := 4) (T := TX4) (N := 7) rfl rfl (by decide +kernel) rfl rfl (Nat.le_of_ble_eq_true rfl) ⟨(Nat.le_of_ble_eq_true rfl), (Nat.le_of_ble_eq_true rfl)⟩ ⟨(Nat.le_of_ble_eq_true rfl), (Nat.le_of_ble_eq_true rfl)⟩ dX4_useAddress_161 (fun r W1 H locs hw hP hD hS => ?_)
                          obtain ⟨wy2_414, dn2_415, la2_416, ke2_417, f2_418, st2_419, pn2_420, wt2_421, rg2_422, pa2_423, en2_424, ct2_425, rk_426, rfl, hf_427, hf_428, hf_429, hf_430, hf_431, hf_432, hf_433, hf_434, rfl⟩ := hw
                          have hP : va_P D classes [(h0, .inr (4, [.ref hn, .ref hs, .ref hd, .ref hp, .ref hc, .int wy2_414, .int dn2_415])), (hd, .inr (1, [.ref hn, .ref h1, .ref h2, .ref h3, .ref h4])), (hp, .inr (3, [.ref he, .int (nI la2_416), .int (nI ke2_417)])), (hn, .inl (cA, 34, .inl f2_418)), (hs, .inl (cA, 4096, .inl st2_419)), (h1, .inl (cA, 64, .inl pn2_420)), (h2, .inl (cA, 16, .inl wt2_421)), (h3, .inl (cA, 900, .inl rg2_422)), (h4, .inl (cA, 200, .inl pa2_423)), (he, .inl (cA, 10752, .inl en2_424)), (hc, .inl (cA, 257, .inl ct2_425))] H := hP
                          have hD : va_D A [(h0, .inr (4, [.ref hn, .ref hs, .ref hd, .ref hp, .ref hc, .int wy2_414, .int dn2_415])), (hd, .inr (1, [.ref hn, .ref h1, .ref h2, .ref h3, .ref h4])), (hp, .inr (3, [.ref he, .int (nI la2_416), .int (nI ke2_417)])), (hn, .inl (cA, 34, .inl f2_418)), (hs, .inl (cA, 4096, .inl st2_419)), (h1, .inl (cA, 64, .inl pn2_420)), (h2, .inl (cA, 16, .inl wt2_421)), (h3, .inl (cA, 900, .inl rg2_422)), (h4, .inl (cA, 200, .inl pa2_423)), (he, .inl (cA, 10752, .inl en2_424)), (hc, .inl (cA, 257, .inl ct2_425))] := hD
                          refine kVi (n3 := 2) (As := [.int (nI o), .int (nI rk_426)]) (rest := [.int (nI a), .ref h0]) X hl.1 hE hP hD hS hA [(h0, .inr (4, [.ref hn, .ref hs, .ref hd, .ref hp, .ref hc, .int wy2_414, .int dn2_415])), (hn, .inl (cA, 34, .inl f2_418))] [(hd, .inr (1, [.ref hn, .ref h1, .ref h2, .ref h3, .ref h4])), (hp, .inr (3, [.ref he, .int (nI la2_416), .int (nI ke2_417)])), (hs, .inl (cA, 4096, .inl st2_419)), (h1, .inl (cA, 64, .inl pn2_420)), (h2, .inl (cA, 16, .inl wt2_421)), (h3, .inl (cA, 900, .inl rg2_422)), (h4, .inl (cA, 200, .inl pa2_423)), (he, .inl (cA, 10752, .inl en2_424)), (hc, .inl (cA, 257, .inl ct2_425))] [0, 3] [1, 2, 4, 5, 6, 7, 8, 9, 10] rfl rfl rfl (by decide +kernel) (by decide +kernel) (by decide +kernel) (c_s_changed l D cA cB h0 hn hs hd hp hc wy2_414 dn2_415 f2_418 o rk_426 hf_429 (by first | assumption | decide | rfl | omega) (by first | assumption | decide | rfl | omega)) w_193 w_66 w_192 w_194 w_195 0 (ci := 4) (T := TX4) (N := 7) rfl rfl (by decide +kernel) rfl rfl (Nat.le_of_ble_eq_true rfl) ⟨(Nat.le_of_ble_eq_true rfl), (Nat.le_of_ble_eq_true rfl)⟩ ⟨(Nat.le_of_ble_eq_true rfl), (Nat.le_of_ble_eq_true rfl)⟩ dX4_useAddress_164 (fun r W1 H locs hw hP hD hS => ?_)
                          obtain ⟨wy2_435, dn2_436, f2_437, rk_438, rfl, hf_439, hf_440, rfl⟩ := hw
                          have hP : va_P D classes [(hd, .inr (1, [.ref hn, .ref h1, .ref h2, .ref h3, .ref h4])), (hp, .inr (3, [.ref he, .int (nI la2_416), .int (nI ke2_417)])), (hs, .inl (cA, 4096, .inl st2_419)), (h1, .inl (cA, 64, .inl pn2_420)), (h2, .inl (cA, 16, .inl wt2_421)), (h3, .inl (cA, 900, .inl rg2_422)), (h4, .inl (cA, 200, .inl pa2_423)), (he, .inl (cA, 10752, .inl en2_424)), (hc, .inl (cA, 257, .inl ct2_425)), (h0, .inr (4, [.ref hn, .ref hs, .ref hd, .ref hp, .ref hc, .int wy2_435, .int dn2_436])), (hn, .inl (cA, 34, .inl f2_437))] H := hP
                          have hD : va_D A [(hd, .inr (1, [.ref hn, .ref h1, .ref h2, .ref h3, .ref h4])), (hp, .inr (3, [.ref he, .int (nI la2_416), .int (nI ke2_417)])), (hs, .inl (cA, 4096, .inl st2_419)), (h1, .inl (cA, 64, .inl pn2_420)), (h2, .inl (cA, 16, .inl wt2_421)), (h3, .inl (cA, 900, .inl rg2_422)), (h4, .inl (cA, 200, .inl pa2_423)), (he, .inl (cA, 10752, .inl en2_424)), (hc, .inl (cA, 257, .inl ct2_425)), (h0, .inr (4, [.ref hn, .ref hs, .ref hd, .ref hp, .ref hc, .int wy2_435, .int dn2_436])), (hn, .inl (cA, 34, .inl f2_437))] := hD
                          refine kVv (n3 := 2) (As := [.int (nI a), .int (nI rk_438)]) (rest := []) X hl.1 hE hP hD hS hA [(h0, .inr (4, [.ref hn, .ref hs, .ref hd, .ref hp, .ref hc, .int wy2_435, .int dn2_436])), (hd, .inr (1, [.ref hn, .ref h1, .ref h2, .ref h3, .ref h4])), (hp, .inr (3, [.ref he, .int (nI la2_416), .int (nI ke2_417)])), (hn, .inl (cA, 34, .inl f2_437)), (hs, .inl (cA, 4096, .inl st2_419)), (h1, .inl (cA, 64, .inl pn2_420)), (h2, .inl (cA, 16, .inl wt2_421)), (h3, .inl (cA, 900, .inl rg2_422)), (h4, .inl (cA, 200, .inl pa2_423)), (he, .inl (cA, 10752, .inl en2_424)), (hc, .inl (cA, 257, .inl ct2_425))] [] [9, 0, 1, 10, 2, 3, 4, 5, 6, 7, 8] [] rfl rfl rfl (by decide +kernel) (by decide +kernel) (by decide +kernel) (c_s_writeAt l D cA cB h0 hn hs hd hp hc h1 h2 h3 h4 he wy2_435 dn2_436 la2_416 ke2_417 f2_437 st2_419 pn2_420 wt2_421 rg2_422 pa2_423 en2_424 ct2_425 a rk_438 (by first | assumption | decide | rfl | omega) (by first | assumption | decide | rfl | omega) hf_439 hf_430 hf_431 hf_432 hf_433 (by first | assumption | decide | rfl | omega) (by first | assumption | decide | rfl | omega)) w_185 w_66 w_184 w_186 w_187 0 (ci := 4) (T := TX4) (N := 7) rfl rfl (by decide +kernel) rfl rfl (Nat.le_of_ble_eq_true rfl) ⟨(Nat.le_of_ble_eq_true rfl), (Nat.le_of_ble_eq_true rfl)⟩ ⟨(Nat.le_of_ble_eq_true rfl), (Nat.le_of_ble_eq_true rfl)⟩ dX4_useAddress_167 (fun W1 H locs hw hP hD hS => ?_)
                          obtain ⟨wy2_441, dn2_442, la2_443, ke2_444, f2_445, st2_446, pn2_447, wt2_448, rg2_449, pa2_450, en2_451, ct2_452, hf_453, hf_454, hf_455, hf_456, hf_457, hf_458, hf_459, rfl⟩ := hw
                          have hP : va_P D classes [(h0, .inr (4, [.ref hn, .ref hs, .ref hd, .ref hp, .ref hc, .int wy2_441, .int dn2_442])), (hd, .inr (1, [.ref hn, .ref h1, .ref h2, .ref h3, .ref h4])), (hp, .inr (3, [.ref he, .int (nI la2_443), .int (nI ke2_444)])), (hn, .inl (cA, 34, .inl f2_445)), (hs, .inl (cA, 4096, .inl st2_446)), (h1, .inl (cA, 64, .inl pn2_447)), (h2, .inl (cA, 16, .inl wt2_448)), (h3, .inl (cA, 900, .inl rg2_449)), (h4, .inl (cA, 200, .inl pa2_450)), (he, .inl (cA, 10752, .inl en2_451)), (hc, .inl (cA, 257, .inl ct2_452))] H := hP
                          have hD : va_D A [(h0, .inr (4, [.ref hn, .ref hs, .ref hd, .ref hp, .ref hc, .int wy2_441, .int dn2_442])), (hd, .inr (1, [.ref hn, .ref h1, .ref h2, .ref h3, .ref h4])), (hp, .inr (3, [.ref he, .int (nI la2_443), .int (nI ke2_444)])), (hn, .inl (cA, 34, .inl f2_445)), (hs, .inl (cA, 4096, .inl st2_446)), (h1, .inl (cA, 64, .inl pn2_447)), (h2, .inl (cA, 16, .inl wt2_448)), (h3, .inl (cA, 900, .inl rg2_449)), (h4, .inl (cA, 200, .inl pa2_450)), (he, .inl (cA, 10752, .inl en2_451)), (hc, .inl (cA, 257, .inl ct2_452))] := hD
                          exact endV X hr hlocks hP hD hS dX4_useAddress_170 ⟨wy2_441, dn2_442, la2_443, ke2_444, f2_445, st2_446, pn2_447, wt2_448, rg2_449, pa2_450, en2_451, ct2_452, (by omega), (by omega), hf_455, hf_456, hf_457, hf_458, hf_459, rfl⟩
                        · skip
                          by_cases c_1_460 : (nI o) = 28
                          · refine lv_tableIn (tgt := 155) (off := 154) hx hb dX4_useAddress_1 (by rw [c_1_460]; decide) (by rw [c_1_460]; decide) (by rw [c_1_460]; decide) (by decide) ?_
                            refine lv_aload_n hx hb dX4_useAddress_155 rfl (lv_at hl 0 rfl) ?_
                            refine lv_iload_n hx hb dX4_useAddress_156 rfl (lv_at hl 2 rfl) ?_
                            refine lv_aload_n hx hb dX4_useAddress_157 rfl (lv_at hl 0 rfl) ?_
                            refine lv_iload_n hx hb dX4_useAddress_158 rfl (lv_at hl 1 rfl) ?_
                            refine lv_aload_n hx hb dX4_useAddress_159 rfl (lv_at hl 0 rfl) ?_
                            refine lv_iload_n hx hb dX4_useAddress_160 rfl (lv_at hl 2 rfl) ?_
                            refine kVi (n3 := 1) (As := [.int (nI a)]) (rest := [.int (nI o), .ref h0, .int (nI a), .ref h0]) X hl.1 hE hP hD hS hA [(h0, .inr (4, [.ref hn, .ref hs, .ref hd, .ref hp, .ref hc, .int wy, .int dn])), (hd, .inr (1, [.ref hn, .ref h1, .ref h2, .ref h3, .ref h4])), (hp, .inr (3, [.ref he, .int (nI la), .int (nI ke)])), (hn, .inl (cA, 34, .inl f)), (hs, .inl (cA, 4096, .inl st)), (h1, .inl (cA, 64, .inl pn)), (h2, .inl (cA, 16, .inl wt)), (h3, .inl (cA, 900, .inl rg)), (h4, .inl (cA, 200, .inl pa)), (he, .inl (cA, 10752, .inl en)), (hc, .inl (cA, 257, .inl ct))] [] [0, 1, 2, 3, 4, 5, 6, 7, 8, 9, 10] [] rfl rfl rfl (by decide +kernel) (by decide +kernel) (by decide +kernel) (c_s_readAt l D cA cB h0 hn hs hd hp hc h1 h2 h3 h4 he wy dn la ke f st pn wt rg pa en ct a (by first | assumption | decide | rfl | omega) (by first | assumption | decide | rfl | omega) hf hst hpn hwt hen (by first | assumption | decide | rfl | omega)) w_189 w_66 w_188 w_190 w_191 0 (ci := 4) (T := TX4) (N := 7) rfl rfl (by decide +kernel) rfl rfl (Nat.le_of_ble_eq_true rfl) ⟨(Nat.le_of_ble_eq_true rfl), (Nat.le_of_ble_eq_true rfl)⟩ ⟨(Nat.le_of_ble_eq_true rfl), (Nat.le_of_ble_eq_true rfl)⟩ dX4_useAddress_161 (fun r W1 H locs hw hP hD hS => ?_)
                            obtain ⟨wy2_461, dn2_462, la2_463, ke2_464, f2_465, st2_466, pn2_467, wt2_468, rg2_469, pa2_470, en2_471, ct2_472, rk_473, rfl, hf_474, hf_475, hf_476, hf_477, hf_478, hf_479, hf_480, hf_481, rfl⟩ := hw
                            have hP : va_P D classes [(h0, .inr (4, [.ref hn, .ref hs, .ref hd, .ref hp, .ref hc, .int wy2_461, .int dn2_462])), (hd, .inr (1, [.ref hn, .ref h1, .ref h2, .ref h3, .ref h4])), (hp, .inr (3, [.ref he, .int (nI la2_463), .int (nI ke2_464)])), (hn, .inl (cA, 34, .inl f2_465)), (hs, .inl (cA, 4096, .inl st2_466)), (h1, .inl (cA, 64, .inl pn2_467)), (h2, .inl (cA, 16, .inl wt2_468)), (h3, .inl (cA, 900, .inl rg2_469)), (h4, .inl (cA, 200, .inl pa2_470)), (he, .inl (cA, 10752, .inl en2_471)), (hc, .inl (cA, 257, .inl ct2_472))] H := hP
                            have hD : va_D A [(h0, .inr (4, [.ref hn, .ref hs, .ref hd, .ref hp, .ref hc, .int wy2_461, .int dn2_462])), (hd, .inr (1, [.ref hn, .ref h1, .ref h2, .ref h3, .ref h4])), (hp, .inr (3, [.ref he, .int (nI la2_463), .int (nI ke2_464)])), (hn, .inl (cA, 34, .inl f2_465)), (hs, .inl (cA, 4096, .inl st2_466)), (h1, .inl (cA, 64, .inl pn2_467)), (h2, .inl (cA, 16, .inl wt2_468)), (h3, .inl (cA, 900, .inl rg2_469)), (h4, .inl (cA, 200, .inl pa2_470)), (he, .inl (cA, 10752, .inl en2_471)), (hc, .inl (cA, 257, .inl ct2_472))] := hD
                            refine kVi (n3 := 2) (As := [.int (nI o), .int (nI rk_473)]) (rest := [.int (nI a), .ref h0]) X hl.1 hE hP hD hS hA [(h0, .inr (4, [.ref hn, .ref hs, .ref hd, .ref hp, .ref hc, .int wy2_461, .int dn2_462])), (hn, .inl (cA, 34, .inl f2_465))] [(hd, .inr (1, [.ref hn, .ref h1, .ref h2, .ref h3, .ref h4])), (hp, .inr (3, [.ref he, .int (nI la2_463), .int (nI ke2_464)])), (hs, .inl (cA, 4096, .inl st2_466)), (h1, .inl (cA, 64, .inl pn2_467)), (h2, .inl (cA, 16, .inl wt2_468)), (h3, .inl (cA, 900, .inl rg2_469)), (h4, .inl (cA, 200, .inl pa2_470)), (he, .inl (cA, 10752, .inl en2_471)), (hc, .inl (cA, 257, .inl ct2_472))] [0, 3] [1, 2, 4, 5, 6, 7, 8, 9, 10] rfl rfl rfl (by decide +kernel) (by decide +kernel) (by decide +kernel) (c_s_changed l D cA cB h0 hn hs hd hp hc wy2_461 dn2_462 f2_465 o rk_473 hf_476 (by first | assumption | decide | rfl | omega) (by first | assumption | decide | rfl | omega)) w_193 w_66 w_192 w_194 w_195 0 (ci := 4) (T := TX4) (N := 7) rfl rfl (by decide +kernel) rfl rfl (Nat.le_of_ble_eq_true rfl) ⟨(Nat.le_of_ble_eq_true rfl), (Nat.le_of_ble_eq_true rfl)⟩ ⟨(Nat.le_of_ble_eq_true rfl), (Nat.le_of_ble_eq_true rfl)⟩ dX4_useAddress_164 (fun r W1 H locs hw hP hD hS => ?_)
                            obtain ⟨wy2_482, dn2_483, f2_484, rk_485, rfl, hf_486, hf_487, rfl⟩ := hw
                            have hP : va_P D classes [(hd, .inr (1, [.ref hn, .ref h1, .ref h2, .ref h3, .ref h4])), (hp, .inr (3, [.ref he, .int (nI la2_463), .int (nI ke2_464)])), (hs, .inl (cA, 4096, .inl st2_466)), (h1, .inl (cA, 64, .inl pn2_467)), (h2, .inl (cA, 16, .inl wt2_468)), (h3, .inl (cA, 900, .inl rg2_469)), (h4, .inl (cA, 200, .inl pa2_470)), (he, .inl (cA, 10752, .inl en2_471)), (hc, .inl (cA, 257, .inl ct2_472)), (h0, .inr (4, [.ref hn, .ref hs, .ref hd, .ref hp, .ref hc, .int wy2_482, .int dn2_483])), (hn, .inl (cA, 34, .inl f2_484))] H := hP
                            have hD : va_D A [(hd, .inr (1, [.ref hn, .ref h1, .ref h2, .ref h3, .ref h4])), (hp, .inr (3, [.ref he, .int (nI la2_463), .int (nI ke2_464)])), (hs, .inl (cA, 4096, .inl st2_466)), (h1, .inl (cA, 64, .inl pn2_467)), (h2, .inl (cA, 16, .inl wt2_468)), (h3, .inl (cA, 900, .inl rg2_469)), (h4, .inl (cA, 200, .inl pa2_470)), (he, .inl (cA, 10752, .inl en2_471)), (hc, .inl (cA, 257, .inl ct2_472)), (h0, .inr (4, [.ref hn, .ref hs, .ref hd, .ref hp, .ref hc, .int wy2_482, .int dn2_483])), (hn, .inl (cA, 34, .inl f2_484))] := hD
                            refine kVv (n3 := 2) (As := [.int (nI a), .int (nI rk_485)]) (rest := []) X hl.1 hE hP hD hS hA [(h0, .inr (4, [.ref hn, .ref hs, .ref hd, .ref hp, .ref hc, .int wy2_482, .int dn2_483])), (hd, .inr (1, [.ref hn, .ref h1, .ref h2, .ref h3, .ref h4])), (hp, .inr (3, [.ref he, .int (nI la2_463), .int (nI ke2_464)])), (hn, .inl (cA, 34, .inl f2_484)), (hs, .inl (cA, 4096, .inl st2_466)), (h1, .inl (cA, 64, .inl pn2_467)), (h2, .inl (cA, 16, .inl wt2_468)), (h3, .inl (cA, 900, .inl rg2_469)), (h4, .inl (cA, 200, .inl pa2_470)), (he, .inl (cA, 10752, .inl en2_471)), (hc, .inl (cA, 257, .inl ct2_472))] [] [9, 0, 1, 10, 2, 3, 4, 5, 6, 7, 8] [] rfl rfl rfl (by decide +kernel) (by decide +kernel) (by decide +kernel) (c_s_writeAt l D cA cB h0 hn hs hd hp hc h1 h2 h3 h4 he wy2_482 dn2_483 la2_463 ke2_464 f2_484 st2_466 pn2_467 wt2_468 rg2_469 pa2_470 en2_471 ct2_472 a rk_485 (by first | assumption | decide | rfl | omega) (by first | assumption | decide | rfl | omega) hf_486 hf_477 hf_478 hf_479 hf_480 (by first | assumption | decide | rfl | omega) (by first | assumption | decide | rfl | omega)) w_185 w_66 w_184 w_186 w_187 0 (ci := 4) (T := TX4) (N := 7) rfl rfl (by decide +kernel) rfl rfl (Nat.le_of_ble_eq_true rfl) ⟨(Nat.le_of_ble_eq_true rfl), (Nat.le_of_ble_eq_true rfl)⟩ ⟨(Nat.le_of_ble_eq_true rfl), (Nat.le_of_ble_eq_true rfl)⟩ dX4_useAddress_167 (fun W1 H locs hw hP hD hS => ?_)
                            obtain ⟨wy2_488, dn2_489, la2_490, ke2_491, f2_492, st2_493, pn2_494, wt2_495, rg2_496, pa2_497, en2_498, ct2_499, hf_500, hf_501, hf_502, hf_503, hf_504, hf_505, hf_506, rfl⟩ := hw
                            have hP : va_P D classes [(h0, .inr (4, [.ref hn, .ref hs, .ref hd, .ref hp, .ref hc, .int wy2_488, .int dn2_489])), (hd, .inr (1, [.ref hn, .ref h1, .ref h2, .ref h3, .ref h4])), (hp, .inr (3, [.ref he, .int (nI la2_490), .int (nI ke2_491)])), (hn, .inl (cA, 34, .inl f2_492)), (hs, .inl (cA, 4096, .inl st2_493)), (h1, .inl (cA, 64, .inl pn2_494)), (h2, .inl (cA, 16, .inl wt2_495)), (h3, .inl (cA, 900, .inl rg2_496)), (h4, .inl (cA, 200, .inl pa2_497)), (he, .inl (cA, 10752, .inl en2_498)), (hc, .inl (cA, 257, .inl ct2_499))] H := hP
                            have hD : va_D A [(h0, .inr (4, [.ref hn, .ref hs, .ref hd, .ref hp, .ref hc, .int wy2_488, .int dn2_489])), (hd, .inr (1, [.ref hn, .ref h1, .ref h2, .ref h3, .ref h4])), (hp, .inr (3, [.ref he, .int (nI la2_490), .int (nI ke2_491)])), (hn, .inl (cA, 34, .inl f2_492)), (hs, .inl (cA, 4096, .inl st2_493)), (h1, .inl (cA, 64, .inl pn2_494)), (h2, .inl (cA, 16, .inl wt2_495)), (h3, .inl (cA, 900, .inl rg2_496)), (h4, .inl (cA, 200, .inl pa2_497)), (he, .inl (cA, 10752, .inl en2_498)), (hc, .inl (cA, 257, .inl ct2_499))] := hD
                            exact endV X hr hlocks hP hD hS dX4_useAddress_170 ⟨wy2_488, dn2_489, la2_490, ke2_491, f2_492, st2_493, pn2_494, wt2_495, rg2_496, pa2_497, en2_498, ct2_499, (by omega), (by omega), hf_502, hf_503, hf_504, hf_505, hf_506, rfl⟩
                          · skip
                            by_cases c_1_507 : (nI o) = 29
                            · refine lv_tableIn (tgt := 155) (off := 154) hx hb dX4_useAddress_1 (by rw [c_1_507]; decide) (by rw [c_1_507]; decide) (by rw [c_1_507]; decide) (by decide) ?_
                              refine lv_aload_n hx hb dX4_useAddress_155 rfl (lv_at hl 0 rfl) ?_
                              refine lv_iload_n hx hb dX4_useAddress_156 rfl (lv_at hl 2 rfl) ?_
                              refine lv_aload_n hx hb dX4_useAddress_157 rfl (lv_at hl 0 rfl) ?_
                              refine lv_iload_n hx hb dX4_useAddress_158 rfl (lv_at hl 1 rfl) ?_
                              refine lv_aload_n hx hb dX4_useAddress_159 rfl (lv_at hl 0 rfl) ?_
                              refine lv_iload_n hx hb dX4_useAddress_160 rfl (lv_at hl 2 rfl) ?_
                              refine kVi (n3 := 1) (As := [.int (nI a)]) (rest := [.int (nI o), .ref h0, .int (nI a), .ref h0]) X hl.1 hE hP hD hS hA [(h0, .inr (4, [.ref hn, .ref hs, .ref hd, .ref hp, .ref hc, .int wy, .int dn])), (hd, .inr (1, [.ref hn, .ref h1, .ref h2, .ref h3, .ref h4])), (hp, .inr (3, [.ref he, .int (nI la), .int (nI ke)])), (hn, .inl (cA, 34, .inl f)), (hs, .inl (cA, 4096, .inl st)), (h1, .inl (cA, 64, .inl pn)), (h2, .inl (cA, 16, .inl wt)), (h3, .inl (cA, 900, .inl rg)), (h4, .inl (cA, 200, .inl pa)), (he, .inl (cA, 10752, .inl en)), (hc, .inl (cA, 257, .inl ct))] [] [0, 1, 2, 3, 4, 5, 6, 7, 8, 9, 10] [] rfl rfl rfl (by decide +kernel) (by decide +kernel) (by decide +kernel) (c_s_readAt l D cA cB h0 hn hs hd hp hc h1 h2 h3 h4 he wy dn la ke f st pn wt rg pa en ct a (by first | assumption | decide | rfl | omega) (by first | assumption | decide | rfl | omega) hf hst hpn hwt hen (by first | assumption | decide | rfl | omega)) w_189 w_66 w_188 w_190 w_191 0 (ci := 4) (T := TX4) (N := 7) rfl rfl (by decide +kernel) rfl rfl (Nat.le_of_ble_eq_true rfl) ⟨(Nat.le_of_ble_eq_true rfl), (Nat.le_of_ble_eq_true rfl)⟩ ⟨(Nat.le_of_ble_eq_true rfl), (Nat.le_of_ble_eq_true rfl)⟩ dX4_useAddress_161 (fun r W1 H locs hw hP hD hS => ?_)
                              obtain ⟨wy2_508, dn2_509, la2_510, ke2_511, f2_512, st2_513, pn2_514, wt2_515, rg2_516, pa2_517, en2_518, ct2_519, rk_520, rfl, hf_521, hf_522, hf_523, hf_524, hf_525, hf_526, hf_527, hf_528, rfl⟩ := hw
                              have hP : va_P D classes [(h0, .inr (4, [.ref hn, .ref hs, .ref hd, .ref hp, .ref hc, .int wy2_508, .int dn2_509])), (hd, .inr (1, [.ref hn, .ref h1, .ref h2, .ref h3, .ref h4])), (hp, .inr (3, [.ref he, .int (nI la2_510), .int (nI ke2_511)])), (hn, .inl (cA, 34, .inl f2_512)), (hs, .inl (cA, 4096, .inl st2_513)), (h1, .inl (cA, 64, .inl pn2_514)), (h2, .inl (cA, 16, .inl wt2_515)), (h3, .inl (cA, 900, .inl rg2_516)), (h4, .inl (cA, 200, .inl pa2_517)), (he, .inl (cA, 10752, .inl en2_518)), (hc, .inl (cA, 257, .inl ct2_519))] H := hP
                              have hD : va_D A [(h0, .inr (4, [.ref hn, .ref hs, .ref hd, .ref hp, .ref hc, .int wy2_508, .int dn2_509])), (hd, .inr (1, [.ref hn, .ref h1, .ref h2, .ref h3, .ref h4])), (hp, .inr (3, [.ref he, .int (nI la2_510), .int (nI ke2_511)])), (hn, .inl (cA, 34, .inl f2_512)), (hs, .inl (cA, 4096, .inl st2_513)), (h1, .inl (cA, 64, .inl pn2_514)), (h2, .inl (cA, 16, .inl wt2_515)), (h3, .inl (cA, 900, .inl rg2_516)), (h4, .inl (cA, 200, .inl pa2_517)), (he, .inl (cA, 10752, .inl en2_518)), (hc, .inl (cA, 257, .inl ct2_519))] := hD
                              refine kVi (n3 := 2) (As := [.int (nI o), .int (nI rk_520)]) (rest := [.int (nI a), .ref h0]) X hl.1 hE hP hD hS hA [(h0, .inr (4, [.ref hn, .ref hs, .ref hd, .ref hp, .ref hc, .int wy2_508, .int dn2_509])), (hn, .inl (cA, 34, .inl f2_512))] [(hd, .inr (1, [.ref hn, .ref h1, .ref h2, .ref h3, .ref h4])), (hp, .inr (3, [.ref he, .int (nI la2_510), .int (nI ke2_511)])), (hs, .inl (cA, 4096, .inl st2_513)), (h1, .inl (cA, 64, .inl pn2_514)), (h2, .inl (cA, 16, .inl wt2_515)), (h3, .inl (cA, 900, .inl rg2_516)), (h4, .inl (cA, 200, .inl pa2_517)), (he, .inl (cA, 10752, .inl en2_518)), (hc, .inl (cA, 257, .inl ct2_519))] [0, 3] [1, 2, 4, 5, 6, 7, 8, 9, 10] rfl rfl rfl (by decide +kernel) (by decide +kernel) (by decide +kernel) (c_s_changed l D cA cB h0 hn hs hd hp hc wy2_508 dn2_509 f2_512 o rk_520 hf_523 (by first | assumption | decide | rfl | omega) (by first | assumption | decide | rfl | omega)) w_193 w_66 w_192 w_194 w_195 0 (ci := 4) (T := TX4) (N := 7) rfl rfl (by decide +kernel) rfl rfl (Nat.le_of_ble_eq_true rfl) ⟨(Nat.le_of_ble_eq_true rfl), (Nat.le_of_ble_eq_true rfl)⟩ ⟨(Nat.le_of_ble_eq_true rfl), (Nat.le_of_ble_eq_true rfl)⟩ dX4_useAddress_164 (fun r W1 H locs hw hP hD hS => ?_)
                              obtain ⟨wy2_529, dn2_530, f2_531, rk_532, rfl, hf_533, hf_534, rfl⟩ := hw
                              have hP : va_P D classes [(hd, .inr (1, [.ref hn, .ref h1, .ref h2, .ref h3, .ref h4])), (hp, .inr (3, [.ref he, .int (nI la2_510), .int (nI ke2_511)])), (hs, .inl (cA, 4096, .inl st2_513)), (h1, .inl (cA, 64, .inl pn2_514)), (h2, .inl (cA, 16, .inl wt2_515)), (h3, .inl (cA, 900, .inl rg2_516)), (h4, .inl (cA, 200, .inl pa2_517)), (he, .inl (cA, 10752, .inl en2_518)), (hc, .inl (cA, 257, .inl ct2_519)), (h0, .inr (4, [.ref hn, .ref hs, .ref hd, .ref hp, .ref hc, .int wy2_529, .int dn2_530])), (hn, .inl (cA, 34, .inl f2_531))] H := hP
                              have hD : va_D A [(hd, .inr (1, [.ref hn, .ref h1, .ref h2, .ref h3, .ref h4])), (hp, .inr (3, [.ref he, .int (nI la2_510), .int (nI ke2_511)])), (hs, .inl (cA, 4096, .inl st2_513)), (h1, .inl (cA, 64, .inl pn2_514)), (h2, .inl (cA, 16, .inl wt2_515)), (h3, .inl (cA, 900, .inl rg2_516)), (h4, .inl (cA, 200, .inl pa2_517)), (he, .inl (cA, 10752, .inl en2_518)), (hc, .inl (cA, 257, .inl ct2_519)), (h0, .inr (4, [.ref hn, .ref hs, .ref hd, .ref hp, .ref hc, .int wy2_529, .int dn2_530])), (hn, .inl (cA, 34, .inl f2_531))] := hD
                              refine kVv (n3 := 2) (As := [.int (nI a), .int (nI rk_532)]) (rest := []) X hl.1 hE hP hD hS hA [(h0, .inr (4, [.ref hn, .ref hs, .ref hd, .ref hp, .ref hc, .int wy2_529, .int dn2_530])), (hd, .inr (1, [.ref hn, .ref h1, .ref h2, .ref h3, .ref h4])), (hp, .inr (3, [.ref he, .int (nI la2_510), .int (nI ke2_511)])), (hn, .inl (cA, 34, .inl f2_531)), (hs, .inl (cA, 4096, .inl st2_513)), (h1, .inl (cA, 64, .inl pn2_514)), (h2, .inl (cA, 16, .inl wt2_515)), (h3, .inl (cA, 900, .inl rg2_516)), (h4, .inl (cA, 200, .inl pa2_517)), (he, .inl (cA, 10752, .inl en2_518)), (hc, .inl (cA, 257, .inl ct2_519))] [] [9, 0, 1, 10, 2, 3, 4, 5, 6, 7, 8] [] rfl rfl rfl (by decide +kernel) (by decide +kernel) (by decide +kernel) (c_s_writeAt l D cA cB h0 hn hs hd hp hc h1 h2 h3 h4 he wy2_529 dn2_530 la2_510 ke2_511 f2_531 st2_513 pn2_514 wt2_515 rg2_516 pa2_517 en2_518 ct2_519 a rk_532 (by first | assumption | decide | rfl | omega) (by first | assumption | decide | rfl | omega) hf_533 hf_524 hf_525 hf_526 hf_527 (by first | assumption | decide | rfl | omega) (by first | assumption | decide | rfl | omega)) w_185 w_66 w_184 w_186 w_187 0 (ci := 4) (T := TX4) (N := 7) rfl rfl (by decide +kernel) rfl rfl (Nat.le_of_ble_eq_true rfl) ⟨(Nat.le_of_ble_eq_true rfl), (Nat.le_of_ble_eq_true rfl)⟩ ⟨(Nat.le_of_ble_eq_true rfl), (Nat.le_of_ble_eq_true rfl)⟩ dX4_useAddress_167 (fun W1 H locs hw hP hD hS => ?_)
                              obtain ⟨wy2_535, dn2_536, la2_537, ke2_538, f2_539, st2_540, pn2_541, wt2_542, rg2_543, pa2_544, en2_545, ct2_546, hf_547, hf_548, hf_549, hf_550, hf_551, hf_552, hf_553, rfl⟩ := hw
                              have hP : va_P D classes [(h0, .inr (4, [.ref hn, .ref hs, .ref hd, .ref hp, .ref hc, .int wy2_535, .int dn2_536])), (hd, .inr (1, [.ref hn, .ref h1, .ref h2, .ref h3, .ref h4])), (hp, .inr (3, [.ref he, .int (nI la2_537), .int (nI ke2_538)])), (hn, .inl (cA, 34, .inl f2_539)), (hs, .inl (cA, 4096, .inl st2_540)), (h1, .inl (cA, 64, .inl pn2_541)), (h2, .inl (cA, 16, .inl wt2_542)), (h3, .inl (cA, 900, .inl rg2_543)), (h4, .inl (cA, 200, .inl pa2_544)), (he, .inl (cA, 10752, .inl en2_545)), (hc, .inl (cA, 257, .inl ct2_546))] H := hP
                              have hD : va_D A [(h0, .inr (4, [.ref hn, .ref hs, .ref hd, .ref hp, .ref hc, .int wy2_535, .int dn2_536])), (hd, .inr (1, [.ref hn, .ref h1, .ref h2, .ref h3, .ref h4])), (hp, .inr (3, [.ref he, .int (nI la2_537), .int (nI ke2_538)])), (hn, .inl (cA, 34, .inl f2_539)), (hs, .inl (cA, 4096, .inl st2_540)), (h1, .inl (cA, 64, .inl pn2_541)), (h2, .inl (cA, 16, .inl wt2_542)), (h3, .inl (cA, 900, .inl rg2_543)), (h4, .inl (cA, 200, .inl pa2_544)), (he, .inl (cA, 10752, .inl en2_545)), (hc, .inl (cA, 257, .inl ct2_546))] := hD
                              exact endV X hr hlocks hP hD hS dX4_useAddress_170 ⟨wy2_535, dn2_536, la2_537, ke2_538, f2_539, st2_540, pn2_541, wt2_542, rg2_543, pa2_544, en2_545, ct2_546, (by omega), (by omega), hf_549, hf_550, hf_551, hf_552, hf_553, rfl⟩
                            · skip
                              by_cases c_1_554 : (nI o) = 30
                              · refine lv_tableIn (tgt := 131) (off := 130) hx hb dX4_useAddress_1 (by rw [c_1_554]; decide) (by rw [c_1_554]; decide) (by rw [c_1_554]; decide) (by decide) ?_
                                refine lv_aload_n hx hb dX4_useAddress_131 rfl (lv_at hl 0 rfl) ?_
                                refine k_get (C := RX4) (T := TX4) (N := 7) (ci := 4) (v := .ref hn) X hE hP 0 rfl rfl iX4 0 (by decide) w_69 rfl dX4_useAddress_132 ?_
                                refine lv_iconst (v := 4) hx hb dX4_useAddress_135 (by decide) ?_
                                refine lv_iload_n hx hb dX4_useAddress_136 rfl (lv_at hl 2 rfl) ?_
                                refine k_ast X hE hP hD hS 3 rfl 4 rfl (by decide) (by decide) [(h0, .inr (4, [.ref hn, .ref hs, .ref hd, .ref hp, .ref hc, .int wy, .int dn])), (hd, .inr (1, [.ref hn, .ref h1, .ref h2, .ref h3, .ref h4])), (hp, .inr (3, [.ref he, .int (nI la), .int (nI ke)])), (hn, .inl (cA, 34, .inl (upd f 4 (nI a)))), (hs, .inl (cA, 4096, .inl st)), (h1, .inl (cA, 64, .inl pn)), (h2, .inl (cA, 16, .inl wt)), (h3, .inl (cA, 900, .inl rg)), (h4, .inl (cA, 200, .inl pa)), (he, .inl (cA, 10752, .inl en)), (hc, .inl (cA, 257, .inl ct))] rfl dX4_useAddress_137 (fun H locs hP hD hS => ?_)
                                obtain ⟨g_555, eg_555⟩ : ∃ z, z = upd f 4 (nI a) := ⟨_, rfl⟩
                                rw [← eg_555] at hP hD
                                have hg_555 := okN_upd hf 4 (nI a) (inR_of (k := a) rfl (by omega))
                                rw [← eg_555] at hg_555
                                have hP : va_P D classes [(h0, .inr (4, [.ref hn, .ref hs, .ref hd, .ref hp, .ref hc, .int wy, .int dn])), (hd, .inr (1, [.ref hn, .ref h1, .ref h2, .ref h3, .ref h4])), (hp, .inr (3, [.ref he, .int (nI la), .int (nI ke)])), (hn, .inl (cA, 34, .inl g_555)), (hs, .inl (cA, 4096, .inl st)), (h1, .inl (cA, 64, .inl pn)), (h2, .inl (cA, 16, .inl wt)), (h3, .inl (cA, 900, .inl rg)), (h4, .inl (cA, 200, .inl pa)), (he, .inl (cA, 10752, .inl en)), (hc, .inl (cA, 257, .inl ct))] H := hP
                                have hD : va_D A [(h0, .inr (4, [.ref hn, .ref hs, .ref hd, .ref hp, .ref hc, .int wy, .int dn])), (hd, .inr (1, [.ref hn, .ref h1, .ref h2, .ref h3, .ref h4])), (hp, .inr (3, [.ref he, .int (nI la), .int (nI ke)])), (hn, .inl (cA, 34, .inl g_555)), (hs, .inl (cA, 4096, .inl st)), (h1, .inl (cA, 64, .inl pn)), (h2, .inl (cA, 16, .inl wt)), (h3, .inl (cA, 900, .inl rg)), (h4, .inl (cA, 200, .inl pa)), (he, .inl (cA, 10752, .inl en)), (hc, .inl (cA, 257, .inl ct))] := hD
                                refine lv_goto (tgt := 170) hx hb dX4_useAddress_138 (by decide) ?_
                                exact endV X hr hlocks hP hD hS dX4_useAddress_170 ⟨wy, dn, la, ke, g_555, st, pn, wt, rg, pa, en, ct, (by omega), (by omega), hg_555, hst, hpn, hwt, hen, rfl⟩
                              · skip
                                by_cases c_1_556 : (nI o) = 31
                                · refine lv_tableIn (tgt := 141) (off := 140) hx hb dX4_useAddress_1 (by rw [c_1_556]; decide) (by rw [c_1_556]; decide) (by rw [c_1_556]; decide) (by decide) ?_
                                  refine lv_aload_n hx hb dX4_useAddress_141 rfl (lv_at hl 0 rfl) ?_
                                  refine kVv (n3 := 0) (As := []) (rest := []) X hl.1 hE hP hD hS hA [(h0, .inr (4, [.ref hn, .ref hs, .ref hd, .ref hp, .ref hc, .int wy, .int dn])), (hp, .inr (3, [.ref he, .int (nI la), .int (nI ke)])), (hn, .inl (cA, 34, .inl f)), (hs, .inl (cA, 4096, .inl st)), (he, .inl (cA, 10752, .inl en))] [(hd, .inr (1, [.ref hn, .ref h1, .ref h2, .ref h3, .ref h4])), (h1, .inl (cA, 64, .inl pn)), (h2, .inl (cA, 16, .inl wt)), (h3, .inl (cA, 900, .inl rg)), (h4, .inl (cA, 200, .inl pa)), (hc, .inl (cA, 257, .inl ct))] [0, 2, 3, 4, 9] [1, 5, 6, 7, 8, 10] rfl rfl rfl (by decide +kernel) (by decide +kernel) (by decide +kernel) (c_s_pushPlace l D cA cB h0 hn hs hd hp hc he wy dn la ke f st en (by first | assumption | decide | rfl | omega) (by first | assumption | decide | rfl | omega) hf hst hen) w_197 w_66 w_196 w_198 w_199 0 (ci := 4) (T := TX4) (N := 7) rfl rfl (by decide +kernel) rfl rfl (Nat.le_of_ble_eq_true rfl) ⟨(Nat.le_of_ble_eq_true rfl), (Nat.le_of_ble_eq_true rfl)⟩ ⟨(Nat.le_of_ble_eq_true rfl), (Nat.le_of_ble_eq_true rfl)⟩ dX4_useAddress_142 (fun W1 H locs hw hP hD hS => ?_)
                                  obtain ⟨wy2_557, dn2_558, la2_559, ke2_560, f2_561, st2_562, en2_563, hf_564, hf_565, hf_566, hf_567, hf_568, rfl⟩ := hw
                                  have hP : va_P D classes [(hd, .inr (1, [.ref hn, .ref h1, .ref h2, .ref h3, .ref h4])), (h1, .inl (cA, 64, .inl pn)), (h2, .inl (cA, 16, .inl wt)), (h3, .inl (cA, 900, .inl rg)), (h4, .inl (cA, 200, .inl pa)), (hc, .inl (cA, 257, .inl ct)), (h0, .inr (4, [.ref hn, .ref hs, .ref hd, .ref hp, .ref hc, .int wy2_557, .int dn2_558])), (hp, .inr (3, [.ref he, .int (nI la2_559), .int (nI ke2_560)])), (hn, .inl (cA, 34, .inl f2_561)), (hs, .inl (cA, 4096, .inl st2_562)), (he, .inl (cA, 10752, .inl en2_563))] H := hP
                                  have hD : va_D A [(hd, .inr (1, [.ref hn, .ref h1, .ref h2, .ref h3, .ref h4])), (h1, .inl (cA, 64, .inl pn)), (h2, .inl (cA, 16, .inl wt)), (h3, .inl (cA, 900, .inl rg)), (h4, .inl (cA, 200, .inl pa)), (hc, .inl (cA, 257, .inl ct)), (h0, .inr (4, [.ref hn, .ref hs, .ref hd, .ref hp, .ref hc, .int wy2_557, .int dn2_558])), (hp, .inr (3, [.ref he, .int (nI la2_559), .int (nI ke2_560)])), (hn, .inl (cA, 34, .inl f2_561)), (hs, .inl (cA, 4096, .inl st2_562)), (he, .inl (cA, 10752, .inl en2_563))] := hD
                                  refine lv_aload_n hx hb dX4_useAddress_145 rfl (lv_at hl 0 rfl) ?_
                                  refine k_get (C := RX4) (T := TX4) (N := 7) (ci := 4) (v := .ref hn) X hE hP 6 rfl rfl iX4 0 (by decide) w_69 rfl dX4_useAddress_146 ?_
                                  refine lv_iconst (v := 4) hx hb dX4_useAddress_149 (by decide) ?_
                                  refine lv_iload_n hx hb dX4_useAddress_150 rfl (lv_at hl 2 rfl) ?_
                                  refine k_ast X hE hP hD hS 8 rfl 4 rfl (by decide) (by decide) [(hd, .inr (1, [.ref hn, .ref h1, .ref h2, .ref h3, .ref h4])), (h1, .inl (cA, 64, .inl pn)), (h2, .inl (cA, 16, .inl wt)), (h3, .inl (cA, 900, .inl rg)), (h4, .inl (cA, 200, .inl pa)), (hc, .inl (cA, 257, .inl ct)), (h0, .inr (4, [.ref hn, .ref hs, .ref hd, .ref hp, .ref hc, .int wy2_557, .int dn2_558])), (hp, .inr (3, [.ref he, .int (nI la2_559), .int (nI ke2_560)])), (hn, .inl (cA, 34, .inl (upd f2_561 4 (nI a)))), (hs, .inl (cA, 4096, .inl st2_562)), (he, .inl (cA, 10752, .inl en2_563))] rfl dX4_useAddress_151 (fun H locs hP hD hS => ?_)
                                  obtain ⟨g_569, eg_569⟩ : ∃ z, z = upd f2_561 4 (nI a) := ⟨_, rfl⟩
                                  rw [← eg_569] at hP hD
                                  have hg_569 := okN_upd hf_566 4 (nI a) (inR_of (k := a) rfl (by omega))
                                  rw [← eg_569] at hg_569
                                  have hP : va_P D classes [(hd, .inr (1, [.ref hn, .ref h1, .ref h2, .ref h3, .ref h4])), (h1, .inl (cA, 64, .inl pn)), (h2, .inl (cA, 16, .inl wt)), (h3, .inl (cA, 900, .inl rg)), (h4, .inl (cA, 200, .inl pa)), (hc, .inl (cA, 257, .inl ct)), (h0, .inr (4, [.ref hn, .ref hs, .ref hd, .ref hp, .ref hc, .int wy2_557, .int dn2_558])), (hp, .inr (3, [.ref he, .int (nI la2_559), .int (nI ke2_560)])), (hn, .inl (cA, 34, .inl g_569)), (hs, .inl (cA, 4096, .inl st2_562)), (he, .inl (cA, 10752, .inl en2_563))] H := hP
                                  have hD : va_D A [(hd, .inr (1, [.ref hn, .ref h1, .ref h2, .ref h3, .ref h4])), (h1, .inl (cA, 64, .inl pn)), (h2, .inl (cA, 16, .inl wt)), (h3, .inl (cA, 900, .inl rg)), (h4, .inl (cA, 200, .inl pa)), (hc, .inl (cA, 257, .inl ct)), (h0, .inr (4, [.ref hn, .ref hs, .ref hd, .ref hp, .ref hc, .int wy2_557, .int dn2_558])), (hp, .inr (3, [.ref he, .int (nI la2_559), .int (nI ke2_560)])), (hn, .inl (cA, 34, .inl g_569)), (hs, .inl (cA, 4096, .inl st2_562)), (he, .inl (cA, 10752, .inl en2_563))] := hD
                                  refine lv_goto (tgt := 170) hx hb dX4_useAddress_152 (by decide) ?_
                                  have hP : va_P D classes [(h0, .inr (4, [.ref hn, .ref hs, .ref hd, .ref hp, .ref hc, .int wy2_557, .int dn2_558])), (hd, .inr (1, [.ref hn, .ref h1, .ref h2, .ref h3, .ref h4])), (hp, .inr (3, [.ref he, .int (nI la2_559), .int (nI ke2_560)])), (hn, .inl (cA, 34, .inl g_569)), (hs, .inl (cA, 4096, .inl st2_562)), (h1, .inl (cA, 64, .inl pn)), (h2, .inl (cA, 16, .inl wt)), (h3, .inl (cA, 900, .inl rg)), (h4, .inl (cA, 200, .inl pa)), (he, .inl (cA, 10752, .inl en2_563)), (hc, .inl (cA, 257, .inl ct))] _ := hP.sub [6, 0, 7, 8, 9, 1, 2, 3, 4, 10, 5] rfl
                                  have hD : va_D A [(h0, .inr (4, [.ref hn, .ref hs, .ref hd, .ref hp, .ref hc, .int wy2_557, .int dn2_558])), (hd, .inr (1, [.ref hn, .ref h1, .ref h2, .ref h3, .ref h4])), (hp, .inr (3, [.ref he, .int (nI la2_559), .int (nI ke2_560)])), (hn, .inl (cA, 34, .inl g_569)), (hs, .inl (cA, 4096, .inl st2_562)), (h1, .inl (cA, 64, .inl pn)), (h2, .inl (cA, 16, .inl wt)), (h3, .inl (cA, 900, .inl rg)), (h4, .inl (cA, 200, .inl pa)), (he, .inl (cA, 10752, .inl en2_563)), (hc, .inl (cA, 257, .inl ct))] := hD.sub [6, 0, 7, 8, 9, 1, 2, 3, 4, 10, 5] (by decide) rfl
                                  exact endV X hr hlocks hP hD hS dX4_useAddress_170 ⟨wy2_557, dn2_558, la2_559, ke2_560, g_569, st2_562, pn, wt, rg, pa, en2_563, ct, (by omega), (by omega), hg_569, hf_567, hpn, hwt, hf_568, rfl⟩
                                · skip
                                  refine lv_tableOut (tgt := 155) hx hb dX4_useAddress_1 (by have n_0 := lv_neT (k := 16) (a := 16) c_1_1 (by decide); have n_1 := lv_neT (k := 17) (a := 17) c_1_22 (by decide); have n_2 := lv_neT (k := 18) (a := 18) c_1_43 (by decide); have n_3 := lv_neT (k := 19) (a := 19) c_1_64 (by decide); have n_4 := lv_neT (k := 20) (a := 20) c_1_84 (by decide); have n_5 := lv_neT (k := 21) (a := 21) c_1_131 (by decide); have n_6 := lv_neT (k := 22) (a := 22) c_1_178 (by decide); have n_7 := lv_neT (k := 23) (a := 23) c_1_225 (by decide); have n_8 := lv_neT (k := 24) (a := 24) c_1_272 (by decide); have n_9 := lv_neT (k := 25) (a := 25) c_1_319 (by decide); have n_10 := lv_neT (k := 26) (a := 26) c_1_366 (by decide); have n_11 := lv_neT (k := 27) (a := 27) c_1_413 (by decide); have n_12 := lv_neT (k := 28) (a := 28) c_1_460 (by decide); have n_13 := lv_neT (k := 29) (a := 29) c_1_507 (by decide); have n_14 := lv_neT (k := 30) (a := 30) c_1_554 (by decide); have n_15 := lv_neT (k := 31) (a := 31) c_1_556 (by decide); omega) (by decide) ?_
                                  refine lv_aload_n hx hb dX4_useAddress_155 rfl (lv_at hl 0 rfl) ?_
                                  refine lv_iload_n hx hb dX4_useAddress_156 rfl (lv_at hl 2 rfl) ?_
                                  refine lv_aload_n hx hb dX4_useAddress_157 rfl (lv_at hl 0 rfl) ?_
                                  refine lv_iload_n hx hb dX4_useAddress_158 rfl (lv_at hl 1 rfl) ?_
                                  refine lv_aload_n hx hb dX4_useAddress_159 rfl (lv_at hl 0 rfl) ?_
                                  refine lv_iload_n hx hb dX4_useAddress_160 rfl (lv_at hl 2 rfl) ?_
                                  refine kVi (n3 := 1) (As := [.int (nI a)]) (rest := [.int (nI o), .ref h0, .int (nI a), .ref h0]) X hl.1 hE hP hD hS hA [(h0, .inr (4, [.ref hn, .ref hs, .ref hd, .ref hp, .ref hc, .int wy, .int dn])), (hd, .inr (1, [.ref hn, .ref h1, .ref h2, .ref h3, .ref h4])), (hp, .inr (3, [.ref he, .int (nI la), .int (nI ke)])), (hn, .inl (cA, 34, .inl f)), (hs, .inl (cA, 4096, .inl st)), (h1, .inl (cA, 64, .inl pn)), (h2, .inl (cA, 16, .inl wt)), (h3, .inl (cA, 900, .inl rg)), (h4, .inl (cA, 200, .inl pa)), (he, .inl (cA, 10752, .inl en)), (hc, .inl (cA, 257, .inl ct))] [] [0, 1, 2, 3, 4, 5, 6, 7, 8, 9, 10] [] rfl rfl rfl (by decide +kernel) (by decide +kernel) (by decide +kernel) (c_s_readAt l D cA cB h0 hn hs hd hp hc h1 h2 h3 h4 he wy dn la ke f st pn wt rg pa en ct a (by first | assumption | decide | rfl | omega) (by first | assumption | decide | rfl | omega) hf hst hpn hwt hen (by first | assumption | decide | rfl | omega)) w_189 w_66 w_188 w_190 w_191 0 (ci := 4) (T := TX4) (N := 7) rfl rfl (by decide +kernel) rfl rfl (Nat.le_of_ble_eq_true rfl) ⟨(Nat.le_of_ble_eq_true rfl), (Nat.le_of_ble_eq_true rfl)⟩ ⟨(Nat.le_of_ble_eq_true rfl), (Nat.le_of_ble_eq_true rfl)⟩ dX4_useAddress_161 (fun r W1 H locs hw hP hD hS => ?_)
                                  obtain ⟨wy2_570, dn2_571, la2_572, ke2_573, f2_574, st2_575, pn2_576, wt2_577, rg2_578, pa2_579, en2_580, ct2_581, rk_582, rfl, hf_583, hf_584, hf_585, hf_586, hf_587, hf_588, hf_589, hf_590, rfl⟩ := hw
                                  have hP : va_P D classes [(h0, .inr (4, [.ref hn, .ref hs, .ref hd, .ref hp, .ref hc, .int wy2_570, .int dn2_571])), (hd, .inr (1, [.ref hn, .ref h1, .ref h2, .ref h3, .ref h4])), (hp, .inr (3, [.ref he, .int (nI la2_572), .int (nI ke2_573)])), (hn, .inl (cA, 34, .inl f2_574)), (hs, .inl (cA, 4096, .inl st2_575)), (h1, .inl (cA, 64, .inl pn2_576)), (h2, .inl (cA, 16, .inl wt2_577)), (h3, .inl (cA, 900, .inl rg2_578)), (h4, .inl (cA, 200, .inl pa2_579)), (he, .inl (cA, 10752, .inl en2_580)), (hc, .inl (cA, 257, .inl ct2_581))] H := hP
                                  have hD : va_D A [(h0, .inr (4, [.ref hn, .ref hs, .ref hd, .ref hp, .ref hc, .int wy2_570, .int dn2_571])), (hd, .inr (1, [.ref hn, .ref h1, .ref h2, .ref h3, .ref h4])), (hp, .inr (3, [.ref he, .int (nI la2_572), .int (nI ke2_573)])), (hn, .inl (cA, 34, .inl f2_574)), (hs, .inl (cA, 4096, .inl st2_575)), (h1, .inl (cA, 64, .inl pn2_576)), (h2, .inl (cA, 16, .inl wt2_577)), (h3, .inl (cA, 900, .inl rg2_578)), (h4, .inl (cA, 200, .inl pa2_579)), (he, .inl (cA, 10752, .inl en2_580)), (hc, .inl (cA, 257, .inl ct2_581))] := hD
                                  refine kVi (n3 := 2) (As := [.int (nI o), .int (nI rk_582)]) (rest := [.int (nI a), .ref h0]) X hl.1 hE hP hD hS hA [(h0, .inr (4, [.ref hn, .ref hs, .ref hd, .ref hp, .ref hc, .int wy2_570, .int dn2_571])), (hn, .inl (cA, 34, .inl f2_574))] [(hd, .inr (1, [.ref hn, .ref h1, .ref h2, .ref h3, .ref h4])), (hp, .inr (3, [.ref he, .int (nI la2_572), .int (nI ke2_573)])), (hs, .inl (cA, 4096, .inl st2_575)), (h1, .inl (cA, 64, .inl pn2_576)), (h2, .inl (cA, 16, .inl wt2_577)), (h3, .inl (cA, 900, .inl rg2_578)), (h4, .inl (cA, 200, .inl pa2_579)), (he, .inl (cA, 10752, .inl en2_580)), (hc, .inl (cA, 257, .inl ct2_581))] [0, 3] [1, 2, 4, 5, 6, 7, 8, 9, 10] rfl rfl rfl (by decide +kernel) (by decide +kernel) (by decide +kernel) (c_s_changed l D cA cB h0 hn hs hd hp hc wy2_570 dn2_571 f2_574 o rk_582 hf_585 (by first | assumption | decide | rfl | omega) (by first | assumption | decide | rfl | omega)) w_193 w_66 w_192 w_194 w_195 0 (ci := 4) (T := TX4) (N := 7) rfl rfl (by decide +kernel) rfl rfl (Nat.le_of_ble_eq_true rfl) ⟨(Nat.le_of_ble_eq_true rfl), (Nat.le_of_ble_eq_true rfl)⟩ ⟨(Nat.le_of_ble_eq_true rfl), (Nat.le_of_ble_eq_true rfl)⟩ dX4_useAddress_164 (fun r W1 H locs hw hP hD hS => ?_)
                                  obtain ⟨wy2_591, dn2_592, f2_593, rk_594, rfl, hf_595, hf_596, rfl⟩ := hw
                                  have hP : va_P D classes [(hd, .inr (1, [.ref hn, .ref h1, .ref h2, .ref h3, .ref h4])), (hp, .inr (3, [.ref he, .int (nI la2_572), .int (nI ke2_573)])), (hs, .inl (cA, 4096, .inl st2_575)), (h1, .inl (cA, 64, .inl pn2_576)), (h2, .inl (cA, 16, .inl wt2_577)), (h3, .inl (cA, 900, .inl rg2_578)), (h4, .inl (cA, 200, .inl pa2_579)), (he, .inl (cA, 10752, .inl en2_580)), (hc, .inl (cA, 257, .inl ct2_581)), (h0, .inr (4, [.ref hn, .ref hs, .ref hd, .ref hp, .ref hc, .int wy2_591, .int dn2_592])), (hn, .inl (cA, 34, .inl f2_593))] H := hP
                                  have hD : va_D A [(hd, .inr (1, [.ref hn, .ref h1, .ref h2, .ref h3, .ref h4])), (hp, .inr (3, [.ref he, .int (nI la2_572), .int (nI ke2_573)])), (hs, .inl (cA, 4096, .inl st2_575)), (h1, .inl (cA, 64, .inl pn2_576)), (h2, .inl (cA, 16, .inl wt2_577)), (h3, .inl (cA, 900, .inl rg2_578)), (h4, .inl (cA, 200, .inl pa2_579)), (he, .inl (cA, 10752, .inl en2_580)), (hc, .inl (cA, 257, .inl ct2_581)), (h0, .inr (4, [.ref hn, .ref hs, .ref hd, .ref hp, .ref hc, .int wy2_591, .int dn2_592])), (hn, .inl (cA, 34, .inl f2_593))] := hD
                                  refine kVv (n3 := 2) (As := [.int (nI a), .int (nI rk_594)]) (rest := []) X hl.1 hE hP hD hS hA [(h0, .inr (4, [.ref hn, .ref hs, .ref hd, .ref hp, .ref hc, .int wy2_591, .int dn2_592])), (hd, .inr (1, [.ref hn, .ref h1, .ref h2, .ref h3, .ref h4])), (hp, .inr (3, [.ref he, .int (nI la2_572), .int (nI ke2_573)])), (hn, .inl (cA, 34, .inl f2_593)), (hs, .inl (cA, 4096, .inl st2_575)), (h1, .inl (cA, 64, .inl pn2_576)), (h2, .inl (cA, 16, .inl wt2_577)), (h3, .inl (cA, 900, .inl rg2_578)), (h4, .inl (cA, 200, .inl pa2_579)), (he, .inl (cA, 10752, .inl en2_580)), (hc, .inl (cA, 257, .inl ct2_581))] [] [9, 0, 1, 10, 2, 3, 4, 5, 6, 7, 8] [] rfl rfl rfl (by decide +kernel) (by decide +kernel) (by decide +kernel) (c_s_writeAt l D cA cB h0 hn hs hd hp hc h1 h2 h3 h4 he wy2_591 dn2_592 la2_572 ke2_573 f2_593 st2_575 pn2_576 wt2_577 rg2_578 pa2_579 en2_580 ct2_581 a rk_594 (by first | assumption | decide | rfl | omega) (by first | assumption | decide | rfl | omega) hf_595 hf_586 hf_587 hf_588 hf_589 (by first | assumption | decide | rfl | omega) (by first | assumption | decide | rfl | omega)) w_185 w_66 w_184 w_186 w_187 0 (ci := 4) (T := TX4) (N := 7) rfl rfl (by decide +kernel) rfl rfl (Nat.le_of_ble_eq_true rfl) ⟨(Nat.le_of_ble_eq_true rfl), (Nat.le_of_ble_eq_true rfl)⟩ ⟨(Nat.le_of_ble_eq_true rfl), (Nat.le_of_ble_eq_true rfl)⟩ dX4_useAddress_167 (fun W1 H locs hw hP hD hS => ?_)
                                  obtain ⟨wy2_597, dn2_598, la2_599, ke2_600, f2_601, st2_602, pn2_603, wt2_604, rg2_605, pa2_606, en2_607, ct2_608, hf_609, hf_610, hf_611, hf_612, hf_613, hf_614, hf_615, rfl⟩ := hw
                                  have hP : va_P D classes [(h0, .inr (4, [.ref hn, .ref hs, .ref hd, .ref hp, .ref hc, .int wy2_597, .int dn2_598])), (hd, .inr (1, [.ref hn, .ref h1, .ref h2, .ref h3, .ref h4])), (hp, .inr (3, [.ref he, .int (nI la2_599), .int (nI ke2_600)])), (hn, .inl (cA, 34, .inl f2_601)), (hs, .inl (cA, 4096, .inl st2_602)), (h1, .inl (cA, 64, .inl pn2_603)), (h2, .inl (cA, 16, .inl wt2_604)), (h3, .inl (cA, 900, .inl rg2_605)), (h4, .inl (cA, 200, .inl pa2_606)), (he, .inl (cA, 10752, .inl en2_607)), (hc, .inl (cA, 257, .inl ct2_608))] H := hP
                                  have hD : va_D A [(h0, .inr (4, [.ref hn, .ref hs, .ref hd, .ref hp, .ref hc, .int wy2_597, .int dn2_598])), (hd, .inr (1, [.ref hn, .ref h1, .ref h2, .ref h3, .ref h4])), (hp, .inr (3, [.ref he, .int (nI la2_599), .int (nI ke2_600)])), (hn, .inl (cA, 34, .inl f2_601)), (hs, .inl (cA, 4096, .inl st2_602)), (h1, .inl (cA, 64, .inl pn2_603)), (h2, .inl (cA, 16, .inl wt2_604)), (h3, .inl (cA, 900, .inl rg2_605)), (h4, .inl (cA, 200, .inl pa2_606)), (he, .inl (cA, 10752, .inl en2_607)), (hc, .inl (cA, 257, .inl ct2_608))] := hD
                                  exact endV X hr hlocks hP hD hS dX4_useAddress_170 ⟨wy2_597, dn2_598, la2_599, ke2_600, f2_601, st2_602, pn2_603, wt2_604, rg2_605, pa2_606, en2_607, ct2_608, (by omega), (by omega), hf_611, hf_612, hf_613, hf_614, hf_615, rfl⟩
set_option maxHeartbeats 4000000 in
set_option maxRecDepth 100000 in
theorem c_s_doShort (l : Launch) (D : va_G) (cA cB : ClassId) (h0 : Nat) (hn : Nat) (hs : Nat) (hd : Nat) (hp : Nat) (hc : Nat) (he : Nat) (wy : Int32) (dn : Int32) (la : Nat) (ke : Nat) (f : Nat → Int32) (st : Nat → Int32) (en : Nat → Int32) (o : Nat) (v : Nat) (hla : la < 256) (hke : ke < 257) (hf : okN f) (hst : ∀ j, j < 4096 → ∃ k : Nat, k < 256 ∧ st j = nI k) (hen : okE en) (ho : o < 32) (hv : v < 256) : CI l yX4_doShort cX4_doShort 3 (some .int) 3 67 0 0 D cA cB [.ref h0, .int (nI o), .int (nI v)] [(h0, .inr (4, [.ref hn, .ref hs, .ref hd, .ref hp, .ref hc, .int wy, .int dn])), (hp, .inr (3, [.ref he, .int (nI la), .int (nI ke)])), (hn, .inl (cA, 34, .inl f)), (hs, .inl (cA, 4096, .inl st)), (he, .inl (cA, 10752, .inl en))] (fun r W1 => ∃ (wy2 : Int32) (dn2 : Int32) (la2 : Nat) (ke2 : Nat) (f2 : Nat → Int32) (st2 : Nat → Int32) (en2 : Nat → Int32) (rk : Nat), r = nI rk ∧ (la2 < 256) ∧ (ke2 < 257) ∧ (okN f2) ∧ (∀ j, j < 4096 → ∃ k : Nat, k < 256 ∧ st2 j = nI k) ∧ (okE en2) ∧ (rk < 1000) ∧ W1 = [(h0, .inr (4, [.ref hn, .ref hs, .ref hd, .ref hp, .ref hc, .int wy2, .int dn2])), (hp, .inr (3, [.ref he, .int (nI la2), .int (nI ke2)])), (hn, .inl (cA, 34, .inl f2)), (hs, .inl (cA, 4096, .inl st2)), (he, .inl (cA, 10752, .inl en2))]) := by
  refine mkI (lv0 := [(0, .ref h0), (1, .int (nI o)), (2, .int (nI v))]) (by decide) (Nat.le_of_ble_eq_true rfl) rfl ?_
  intro p e s m below meth c A ls X hr hlocks hnm hE hA hP hD hS hl
  have hx := X.1
  have hb := X.2.1
  refine lv_iload_n hx hb dX4_doShort_0 rfl (lv_at hl 1 rfl) ?_
  by_cases c_1_1 : (nI o) = 28
  · refine lv_tableIn (tgt := 32) (off := 31) hx hb dX4_doShort_1 (by rw [c_1_1]; decide) (by rw [c_1_1]; decide) (by rw [c_1_1]; decide) (by decide) ?_
    refine lv_aload_n hx hb dX4_doShort_32 rfl (lv_at hl 0 rfl) ?_
    refine lv_iload_n hx hb dX4_doShort_33 rfl (lv_at hl 2 rfl) ?_
    refine kVv (n3 := 1) (As := [.int (nI v)]) (rest := []) X hl.1 hE hP hD hS hA [(h0, .inr (4, [.ref hn, .ref hs, .ref hd, .ref hp, .ref hc, .int wy, .int dn])), (hp, .inr (3, [.ref he, .int (nI la), .int (nI ke)])), (hn, .inl (cA, 34, .inl f)), (hs, .inl (cA, 4096, .inl st)), (he, .inl (cA, 10752, .inl en))] [] [0, 1, 2, 3, 4] [] rfl rfl rfl (by decide +kernel) (by decide +kernel) (by decide +kernel) (c_s_push l D cA cB h0 hn hs hd hp hc he wy dn la ke f st en v (by first | assumption | decide | rfl | omega) (by first | assumption | decide | rfl | omega) hf hst hen (by first | assumption | decide | rfl | omega)) w_168 w_66 w_167 w_169 w_170 0 (ci := 4) (T := TX4) (N := 7) rfl rfl (by decide +kernel) rfl rfl (Nat.le_of_ble_eq_true rfl) ⟨(Nat.le_of_ble_eq_true rfl), (Nat.le_of_ble_eq_true rfl)⟩ ⟨(Nat.le_of_ble_eq_true rfl), (Nat.le_of_ble_eq_true rfl)⟩ dX4_doShort_34 (fun W1 H locs hw hP hD hS => ?_)
    obtain ⟨wy2_2, dn2_3, la2_4, ke2_5, f2_6, st2_7, en2_8, hf_9, hf_10, hf_11, hf_12, hf_13, rfl⟩ := hw
    have hP : va_P D classes [(h0, .inr (4, [.ref hn, .ref hs, .ref hd, .ref hp, .ref hc, .int wy2_2, .int dn2_3])), (hp, .inr (3, [.ref he, .int (nI la2_4), .int (nI ke2_5)])), (hn, .inl (cA, 34, .inl f2_6)), (hs, .inl (cA, 4096, .inl st2_7)), (he, .inl (cA, 10752, .inl en2_8))] H := hP
    have hD : va_D A [(h0, .inr (4, [.ref hn, .ref hs, .ref hd, .ref hp, .ref hc, .int wy2_2, .int dn2_3])), (hp, .inr (3, [.ref he, .int (nI la2_4), .int (nI ke2_5)])), (hn, .inl (cA, 34, .inl f2_6)), (hs, .inl (cA, 4096, .inl st2_7)), (he, .inl (cA, 10752, .inl en2_8))] := hD
    refine lv_iconst (v := 3) hx hb dX4_doShort_37 (by decide) ?_
    exact endI X hr hlocks hP hD hS dX4_doShort_38 ⟨wy2_2, dn2_3, la2_4, ke2_5, f2_6, st2_7, en2_8, 3, rfl, (by omega), (by omega), hf_11, hf_12, hf_13, (by omega), rfl⟩
  · skip
    by_cases c_1_14 : (nI o) = 29
    · refine lv_tableIn (tgt := 39) (off := 38) hx hb dX4_doShort_1 (by rw [c_1_14]; decide) (by rw [c_1_14]; decide) (by rw [c_1_14]; decide) (by decide) ?_
      refine lv_aload_n hx hb dX4_doShort_39 rfl (lv_at hl 0 rfl) ?_
      refine kVv (n3 := 0) (As := []) (rest := []) X hl.1 hE hP hD hS hA [(h0, .inr (4, [.ref hn, .ref hs, .ref hd, .ref hp, .ref hc, .int wy, .int dn])), (hp, .inr (3, [.ref he, .int (nI la), .int (nI ke)])), (hn, .inl (cA, 34, .inl f)), (hs, .inl (cA, 4096, .inl st)), (he, .inl (cA, 10752, .inl en))] [] [0, 1, 2, 3, 4] [] rfl rfl rfl (by decide +kernel) (by decide +kernel) (by decide +kernel) (c_s_pushPlace l D cA cB h0 hn hs hd hp hc he wy dn la ke f st en (by first | assumption | decide | rfl | omega) (by first | assumption | decide | rfl | omega) hf hst hen) w_197 w_66 w_196 w_198 w_199 0 (ci := 4) (T := TX4) (N := 7) rfl rfl (by decide +kernel) rfl rfl (Nat.le_of_ble_eq_true rfl) ⟨(Nat.le_of_ble_eq_true rfl), (Nat.le_of_ble_eq_true rfl)⟩ ⟨(Nat.le_of_ble_eq_true rfl), (Nat.le_of_ble_eq_true rfl)⟩ dX4_doShort_40 (fun W1 H locs hw hP hD hS => ?_)
      obtain ⟨wy2_15, dn2_16, la2_17, ke2_18, f2_19, st2_20, en2_21, hf_22, hf_23, hf_24, hf_25, hf_26, rfl⟩ := hw
      have hP : va_P D classes [(h0, .inr (4, [.ref hn, .ref hs, .ref hd, .ref hp, .ref hc, .int wy2_15, .int dn2_16])), (hp, .inr (3, [.ref he, .int (nI la2_17), .int (nI ke2_18)])), (hn, .inl (cA, 34, .inl f2_19)), (hs, .inl (cA, 4096, .inl st2_20)), (he, .inl (cA, 10752, .inl en2_21))] H := hP
      have hD : va_D A [(h0, .inr (4, [.ref hn, .ref hs, .ref hd, .ref hp, .ref hc, .int wy2_15, .int dn2_16])), (hp, .inr (3, [.ref he, .int (nI la2_17), .int (nI ke2_18)])), (hn, .inl (cA, 34, .inl f2_19)), (hs, .inl (cA, 4096, .inl st2_20)), (he, .inl (cA, 10752, .inl en2_21))] := hD
      refine lv_aload_n hx hb dX4_doShort_43 rfl (lv_at hl 0 rfl) ?_
      refine lv_iload_n hx hb dX4_doShort_44 rfl (lv_at hl 2 rfl) ?_
      refine kVv (n3 := 1) (As := [.int (nI v)]) (rest := []) X hl.1 hE hP hD hS hA [(h0, .inr (4, [.ref hn, .ref hs, .ref hd, .ref hp, .ref hc, .int wy2_15, .int dn2_16])), (hn, .inl (cA, 34, .inl f2_19))] [(hp, .inr (3, [.ref he, .int (nI la2_17), .int (nI ke2_18)])), (hs, .inl (cA, 4096, .inl st2_20)), (he, .inl (cA, 10752, .inl en2_21))] [0, 2] [1, 3, 4] rfl rfl rfl (by decide +kernel) (by decide +kernel) (by decide +kernel) (c_s_goBy l D cA cB h0 hn hs hd hp hc wy2_15 dn2_16 f2_19 v hf_24 (by first | assumption | decide | rfl | omega)) w_114 w_66 w_113 w_115 w_116 0 (ci := 4) (T := TX4) (N := 7) rfl rfl (by decide +kernel) rfl rfl (Nat.le_of_ble_eq_true rfl) ⟨(Nat.le_of_ble_eq_true rfl), (Nat.le_of_ble_eq_true rfl)⟩ ⟨(Nat.le_of_ble_eq_true rfl), (Nat.le_of_ble_eq_true rfl)⟩ dX4_doShort_45 (fun W1 H locs hw hP hD hS => ?_)
      obtain ⟨wy2_27, dn2_28, f2_29, hf_30, rfl⟩ := hw
      have hP : va_P D classes [(hp, .inr (3, [.ref he, .int (nI la2_17), .int (nI ke2_18)])), (hs, .inl (cA, 4096, .inl st2_20)), (he, .inl (cA, 10752, .inl en2_21)), (h0, .inr (4, [.ref hn, .ref hs, .ref hd, .ref hp, .ref hc, .int wy2_27, .int dn2_28])), (hn, .inl (cA, 34, .inl f2_29))] H := hP
      have hD : va_D A [(hp, .inr (3, [.ref he, .int (nI la2_17), .int (nI ke2_18)])), (hs, .inl (cA, 4096, .inl st2_20)), (he, .inl (cA, 10752, .inl en2_21)), (h0, .inr (4, [.ref hn, .ref hs, .ref hd, .ref hp, .ref hc, .int wy2_27, .int dn2_28])), (hn, .inl (cA, 34, .inl f2_29))] := hD
      refine lv_iconst (v := 5) hx hb dX4_doShort_48 (by decide) ?_
      have hP : va_P D classes [(h0, .inr (4, [.ref hn, .ref hs, .ref hd, .ref hp, .ref hc, .int wy2_27, .int dn2_28])), (hp, .inr (3, [.ref he, .int (nI la2_17), .int (nI ke2_18)])), (hn, .inl (cA, 34, .inl f2_29)), (hs, .inl (cA, 4096, .inl st2_20)), (he, .inl (cA, 10752, .inl en2_21))] _ := hP.sub [3, 0, 4, 1, 2] rfl
      have hD : va_D A [(h0, .inr (4, [.ref hn, .ref hs, .ref hd, .ref hp, .ref hc, .int wy2_27, .int dn2_28])), (hp, .inr (3, [.ref he, .int (nI la2_17), .int (nI ke2_18)])), (hn, .inl (cA, 34, .inl f2_29)), (hs, .inl (cA, 4096, .inl st2_20)), (he, .inl (cA, 10752, .inl en2_21))] := hD.sub [3, 0, 4, 1, 2] (by decide) rfl
      exact endI X hr hlocks hP hD hS dX4_doShort_49 ⟨wy2_27, dn2_28, la2_17, ke2_18, f2_29, st2_20, en2_21, 5, rfl, (by omega), (by omega), hf_30, hf_25, hf_26, (by omega), rfl⟩
    · skip
      by_cases c_1_31 : (nI o) = 30
      · refine lv_tableIn (tgt := 50) (off := 49) hx hb dX4_doShort_1 (by rw [c_1_31]; decide) (by rw [c_1_31]; decide) (by rw [c_1_31]; decide) (by decide) ?_
        refine lv_aload_n hx hb dX4_doShort_50 rfl (lv_at hl 0 rfl) ?_
        refine lv_sipush (v := 4074) hx hb dX4_doShort_51 (by decide) ?_
        refine kVv (n3 := 1) (As := [.int 4074]) (rest := []) X hl.1 hE hP hD hS hA [(h0, .inr (4, [.ref hn, .ref hs, .ref hd, .ref hp, .ref hc, .int wy, .int dn])), (hp, .inr (3, [.ref he, .int (nI la), .int (nI ke)])), (hn, .inl (cA, 34, .inl f)), (hs, .inl (cA, 4096, .inl st)), (he, .inl (cA, 10752, .inl en))] [] [0, 1, 2, 3, 4] [] rfl rfl rfl (by decide +kernel) (by decide +kernel) (by decide +kernel) (c_s_enter l D cA cB h0 hn hs hd hp hc he wy dn la ke f st en 4074 (by first | assumption | decide | rfl | omega) (by first | assumption | decide | rfl | omega) hf hst hen) w_172 w_66 w_171 w_173 w_174 0 (ci := 4) (T := TX4) (N := 7) rfl rfl (by decide +kernel) rfl rfl (Nat.le_of_ble_eq_true rfl) ⟨(Nat.le_of_ble_eq_true rfl), (Nat.le_of_ble_eq_true rfl)⟩ ⟨(Nat.le_of_ble_eq_true rfl), (Nat.le_of_ble_eq_true rfl)⟩ dX4_doShort_54 (fun W1 H locs hw hP hD hS => ?_)
        obtain ⟨wy2_32, dn2_33, la2_34, ke2_35, f2_36, st2_37, en2_38, hf_39, hf_40, hf_41, hf_42, hf_43, rfl⟩ := hw
        have hP : va_P D classes [(h0, .inr (4, [.ref hn, .ref hs, .ref hd, .ref hp, .ref hc, .int wy2_32, .int dn2_33])), (hp, .inr (3, [.ref he, .int (nI la2_34), .int (nI ke2_35)])), (hn, .inl (cA, 34, .inl f2_36)), (hs, .inl (cA, 4096, .inl st2_37)), (he, .inl (cA, 10752, .inl en2_38))] H := hP
        have hD : va_D A [(h0, .inr (4, [.ref hn, .ref hs, .ref hd, .ref hp, .ref hc, .int wy2_32, .int dn2_33])), (hp, .inr (3, [.ref he, .int (nI la2_34), .int (nI ke2_35)])), (hn, .inl (cA, 34, .inl f2_36)), (hs, .inl (cA, 4096, .inl st2_37)), (he, .inl (cA, 10752, .inl en2_38))] := hD
        refine lv_aload_n hx hb dX4_doShort_57 rfl (lv_at hl 0 rfl) ?_
        refine k_get (C := RX4) (T := TX4) (N := 7) (ci := 4) (v := .ref hn) X hE hP 0 rfl rfl iX4 0 (by decide) w_69 rfl dX4_doShort_58 ?_
        refine lv_iconst (v := 0) hx hb dX4_doShort_61 (by decide) ?_
        refine lv_iload_n hx hb dX4_doShort_62 rfl (lv_at hl 2 rfl) ?_
        refine k_ast X hE hP hD hS 2 rfl 0 rfl (by decide) (by decide) [(h0, .inr (4, [.ref hn, .ref hs, .ref hd, .ref hp, .ref hc, .int wy2_32, .int dn2_33])), (hp, .inr (3, [.ref he, .int (nI la2_34), .int (nI ke2_35)])), (hn, .inl (cA, 34, .inl (upd f2_36 0 (nI v)))), (hs, .inl (cA, 4096, .inl st2_37)), (he, .inl (cA, 10752, .inl en2_38))] rfl dX4_doShort_63 (fun H locs hP hD hS => ?_)
        obtain ⟨g_44, eg_44⟩ : ∃ z, z = upd f2_36 0 (nI v) := ⟨_, rfl⟩
        rw [← eg_44] at hP hD
        have hg_44 := okN_upd hf_41 0 (nI v) (inR_of (k := v) rfl (by omega))
        rw [← eg_44] at hg_44
        have hP : va_P D classes [(h0, .inr (4, [.ref hn, .ref hs, .ref hd, .ref hp, .ref hc, .int wy2_32, .int dn2_33])), (hp, .inr (3, [.ref he, .int (nI la2_34), .int (nI ke2_35)])), (hn, .inl (cA, 34, .inl g_44)), (hs, .inl (cA, 4096, .inl st2_37)), (he, .inl (cA, 10752, .inl en2_38))] H := hP
        have hD : va_D A [(h0, .inr (4, [.ref hn, .ref hs, .ref hd, .ref hp, .ref hc, .int wy2_32, .int dn2_33])), (hp, .inr (3, [.ref he, .int (nI la2_34), .int (nI ke2_35)])), (hn, .inl (cA, 34, .inl g_44)), (hs, .inl (cA, 4096, .inl st2_37)), (he, .inl (cA, 10752, .inl en2_38))] := hD
        refine lv_bipush (v := 7) hx hb dX4_doShort_64 (by decide) ?_
        exact endI X hr hlocks hP hD hS dX4_doShort_66 ⟨wy2_32, dn2_33, la2_34, ke2_35, g_44, st2_37, en2_38, 7, rfl, (by omega), (by omega), hg_44, hf_42, hf_43, (by omega), rfl⟩
      · skip
        by_cases c_1_45 : (nI o) = 31
        · refine lv_tableIn (tgt := 67) (off := 66) hx hb dX4_doShort_1 (by rw [c_1_45]; decide) (by rw [c_1_45]; decide) (by rw [c_1_45]; decide) (by decide) ?_
          refine lv_iconst (v := 2) hx hb dX4_doShort_67 (by decide) ?_
          refine lv_iload_n hx hb dX4_doShort_68 rfl (lv_at hl 2 rfl) ?_
          refine lv_iadd hx hb dX4_doShort_69 ?_
          refine tk (y := nI (2 + v)) (nI_add 2 v) ?_
          exact endI X hr hlocks hP hD hS dX4_doShort_70 ⟨wy, dn, la, ke, f, st, en, (2 + v), rfl, (by omega), (by omega), hf, hst, hen, (by omega), rfl⟩
        · skip
          refine lv_tableOut (tgt := 71) hx hb dX4_doShort_1 (by have n_0 := lv_neT (k := 28) (a := 28) c_1_1 (by decide); have n_1 := lv_neT (k := 29) (a := 29) c_1_14 (by decide); have n_2 := lv_neT (k := 30) (a := 30) c_1_31 (by decide); have n_3 := lv_neT (k := 31) (a := 31) c_1_45 (by decide); omega) (by decide) ?_
          refine lv_aload_n hx hb dX4_doShort_71 rfl (lv_at hl 0 rfl) ?_
          refine lv_iload_n hx hb dX4_doShort_72 rfl (lv_at hl 1 rfl) ?_
          refine lv_iload_n hx hb dX4_doShort_73 rfl (lv_at hl 2 rfl) ?_
          refine kVi (n3 := 2) (As := [.int (nI o), .int (nI v)]) (rest := []) X hl.1 hE hP hD hS hA [(h0, .inr (4, [.ref hn, .ref hs, .ref hd, .ref hp, .ref hc, .int wy, .int dn])), (hn, .inl (cA, 34, .inl f))] [(hp, .inr (3, [.ref he, .int (nI la), .int (nI ke)])), (hs, .inl (cA, 4096, .inl st)), (he, .inl (cA, 10752, .inl en))] [0, 2] [1, 3, 4] rfl rfl rfl (by decide +kernel) (by decide +kernel) (by decide +kernel) (c_s_branch l D cA cB h0 hn hs hd hp hc wy dn f o v hf (by first | assumption | decide | rfl | omega) (by first | assumption | decide | rfl | omega)) w_201 w_66 w_200 w_202 w_203 0 (ci := 4) (T := TX4) (N := 7) rfl rfl (by decide +kernel) rfl rfl (Nat.le_of_ble_eq_true rfl) ⟨(Nat.le_of_ble_eq_true rfl), (Nat.le_of_ble_eq_true rfl)⟩ ⟨(Nat.le_of_ble_eq_true rfl), (Nat.le_of_ble_eq_true rfl)⟩ dX4_doShort_74 (fun r W1 H locs hw hP hD hS => ?_)
          obtain ⟨wy2_46, dn2_47, f2_48, rk_49, rfl, hf_50, hf_51, rfl⟩ := hw
          have hP : va_P D classes [(hp, .inr (3, [.ref he, .int (nI la), .int (nI ke)])), (hs, .inl (cA, 4096, .inl st)), (he, .inl (cA, 10752, .inl en)), (h0, .inr (4, [.ref hn, .ref hs, .ref hd, .ref hp, .ref hc, .int wy2_46, .int dn2_47])), (hn, .inl (cA, 34, .inl f2_48))] H := hP
          have hD : va_D A [(hp, .inr (3, [.ref he, .int (nI la), .int (nI ke)])), (hs, .inl (cA, 4096, .inl st)), (he, .inl (cA, 10752, .inl en)), (h0, .inr (4, [.ref hn, .ref hs, .ref hd, .ref hp, .ref hc, .int wy2_46, .int dn2_47])), (hn, .inl (cA, 34, .inl f2_48))] := hD
          have hP : va_P D classes [(h0, .inr (4, [.ref hn, .ref hs, .ref hd, .ref hp, .ref hc, .int wy2_46, .int dn2_47])), (hp, .inr (3, [.ref he, .int (nI la), .int (nI ke)])), (hn, .inl (cA, 34, .inl f2_48)), (hs, .inl (cA, 4096, .inl st)), (he, .inl (cA, 10752, .inl en))] _ := hP.sub [3, 0, 4, 1, 2] rfl
          have hD : va_D A [(h0, .inr (4, [.ref hn, .ref hs, .ref hd, .ref hp, .ref hc, .int wy2_46, .int dn2_47])), (hp, .inr (3, [.ref he, .int (nI la), .int (nI ke)])), (hn, .inl (cA, 34, .inl f2_48)), (hs, .inl (cA, 4096, .inl st)), (he, .inl (cA, 10752, .inl en))] := hD.sub [3, 0, 4, 1, 2] (by decide) rfl
          exact endI X hr hlocks hP hD hS dX4_doShort_77 ⟨wy2_46, dn2_47, la, ke, f2_48, st, en, rk_49, rfl, (by omega), (by omega), hf_50, hst, hen, (by omega), rfl⟩
set_option maxHeartbeats 4000000 in
set_option maxRecDepth 100000 in
theorem c_s_doOwn (l : Launch) (D : va_G) (cA cB : ClassId) (h0 : Nat) (hn : Nat) (hs : Nat) (hd : Nat) (hp : Nat) (hc : Nat) (he : Nat) (wy : Int32) (dn : Int32) (la : Nat) (ke : Nat) (f : Nat → Int32) (st : Nat → Int32) (en : Nat → Int32) (v : Nat) (hla : la < 256) (hke : ke < 257) (hf : okN f) (hst : ∀ j, j < 4096 → ∃ k : Nat, k < 256 ∧ st j = nI k) (hen : okE en) (hv : v < 256) : CI l yX4_doOwn cX4_doOwn 2 (some .int) 3 67 0 0 D cA cB [.ref h0, .int (nI v)] [(h0, .inr (4, [.ref hn, .ref hs, .ref hd, .ref hp, .ref hc, .int wy, .int dn])), (hp, .inr (3, [.ref he, .int (nI la), .int (nI ke)])), (hn, .inl (cA, 34, .inl f)), (hs, .inl (cA, 4096, .inl st)), (he, .inl (cA, 10752, .inl en))] (fun r W1 => ∃ (wy2 : Int32) (dn2 : Int32) (la2 : Nat) (ke2 : Nat) (f2 : Nat → Int32) (st2 : Nat → Int32) (en2 : Nat → Int32) (rk : Nat), r = nI rk ∧ (la2 < 256) ∧ (ke2 < 257) ∧ (okN f2) ∧ (∀ j, j < 4096 → ∃ k : Nat, k < 256 ∧ st2 j = nI k) ∧ (okE en2) ∧ (rk < 1000) ∧ W1 = [(h0, .inr (4, [.ref hn, .ref hs, .ref hd, .ref hp, .ref hc, .int wy2, .int dn2])), (hp, .inr (3, [.ref he, .int (nI la2), .int (nI ke2)])), (hn, .inl (cA, 34, .inl f2)), (hs, .inl (cA, 4096, .inl st2)), (he, .inl (cA, 10752, .inl en2))]) := by
  refine mkI (lv0 := [(0, .ref h0), (1, .int (nI v))]) (by decide) (Nat.le_of_ble_eq_true rfl) rfl ?_
  intro p e s m below meth c A ls X hr hlocks hnm hE hA hP hD hS hl
  have hx := X.1
  have hb := X.2.1
  refine lv_iload_n hx hb dX4_doOwn_0 rfl (lv_at hl 1 rfl) ?_
  refine lv_iconst (v := 4) hx hb dX4_doOwn_1 (by decide) ?_
  refine lv_icmp_ge (tgt := 11) hx hb dX4_doOwn_2 (by decide) (fun c_2_1 => ?_) (fun c_2_1 => ?_)
  · have nc_2_1 : 4 ≤ v := (nI_leI (a := 4) (b := v) (by omega) (by omega)).mp c_2_1
    refine lv_iload_n hx hb dX4_doOwn_11 rfl (lv_at hl 1 rfl) ?_
    refine lv_bipush (v := 10) hx hb dX4_doOwn_12 (by decide) ?_
    refine lv_icmp_ge (tgt := 24) hx hb dX4_doOwn_14 (by decide) (fun c_14_2 => ?_) (fun c_14_2 => ?_)
    · have nc_14_2 : 10 ≤ v := (nI_leI (a := 10) (b := v) (by omega) (by omega)).mp c_14_2
      refine lv_iload_n hx hb dX4_doOwn_24 rfl (lv_at hl 1 rfl) ?_
      refine lv_bipush (v := 18) hx hb dX4_doOwn_25 (by decide) ?_
      refine lv_icmp_ge (tgt := 37) hx hb dX4_doOwn_27 (by decide) (fun c_27_3 => ?_) (fun c_27_3 => ?_)
      · have nc_27_3 : 18 ≤ v := (nI_leI (a := 18) (b := v) (by omega) (by omega)).mp c_27_3
        refine lv_iload_n hx hb dX4_doOwn_37 rfl (lv_at hl 1 rfl) ?_
        refine lv_bipush (v := 23) hx hb dX4_doOwn_38 (by decide) ?_
        refine lv_icmp_ge (tgt := 51) hx hb dX4_doOwn_40 (by decide) (fun c_40_4 => ?_) (fun c_40_4 => ?_)
        · have nc_40_4 : 23 ≤ v := (nI_leI (a := 23) (b := v) (by omega) (by omega)).mp c_40_4
          refine lv_aload_n hx hb dX4_doOwn_51 rfl (lv_at hl 0 rfl) ?_
          refine lv_iload_n hx hb dX4_doOwn_52 rfl (lv_at hl 1 rfl) ?_
          refine kVv (n3 := 1) (As := [.int (nI v)]) (rest := []) X hl.1 hE hP hD hS hA [(h0, .inr (4, [.ref hn, .ref hs, .ref hd, .ref hp, .ref hc, .int wy, .int dn])), (hn, .inl (cA, 34, .inl f))] [(hp, .inr (3, [.ref he, .int (nI la), .int (nI ke)])), (hs, .inl (cA, 4096, .inl st)), (he, .inl (cA, 10752, .inl en))] [0, 2] [1, 3, 4] rfl rfl rfl (by decide +kernel) (by decide +kernel) (by decide +kernel) (c_s_changeRegister l D cA cB h0 hn hs hd hp hc wy dn f v hf (by first | assumption | decide | rfl | omega)) w_205 w_66 w_204 w_206 w_207 0 (ci := 4) (T := TX4) (N := 7) rfl rfl (by decide +kernel) rfl rfl (Nat.le_of_ble_eq_true rfl) ⟨(Nat.le_of_ble_eq_true rfl), (Nat.le_of_ble_eq_true rfl)⟩ ⟨(Nat.le_of_ble_eq_true rfl), (Nat.le_of_ble_eq_true rfl)⟩ dX4_doOwn_53 (fun W1 H locs hw hP hD hS => ?_)
          obtain ⟨wy2_5, dn2_6, f2_7, hf_8, rfl⟩ := hw
          have hP : va_P D classes [(hp, .inr (3, [.ref he, .int (nI la), .int (nI ke)])), (hs, .inl (cA, 4096, .inl st)), (he, .inl (cA, 10752, .inl en)), (h0, .inr (4, [.ref hn, .ref hs, .ref hd, .ref hp, .ref hc, .int wy2_5, .int dn2_6])), (hn, .inl (cA, 34, .inl f2_7))] H := hP
          have hD : va_D A [(hp, .inr (3, [.ref he, .int (nI la), .int (nI ke)])), (hs, .inl (cA, 4096, .inl st)), (he, .inl (cA, 10752, .inl en)), (h0, .inr (4, [.ref hn, .ref hs, .ref hd, .ref hp, .ref hc, .int wy2_5, .int dn2_6])), (hn, .inl (cA, 34, .inl f2_7))] := hD
          refine lv_iconst (v := 2) hx hb dX4_doOwn_56 (by decide) ?_
          have hP : va_P D classes [(h0, .inr (4, [.ref hn, .ref hs, .ref hd, .ref hp, .ref hc, .int wy2_5, .int dn2_6])), (hp, .inr (3, [.ref he, .int (nI la), .int (nI ke)])), (hn, .inl (cA, 34, .inl f2_7)), (hs, .inl (cA, 4096, .inl st)), (he, .inl (cA, 10752, .inl en))] _ := hP.sub [3, 0, 4, 1, 2] rfl
          have hD : va_D A [(h0, .inr (4, [.ref hn, .ref hs, .ref hd, .ref hp, .ref hc, .int wy2_5, .int dn2_6])), (hp, .inr (3, [.ref he, .int (nI la), .int (nI ke)])), (hn, .inl (cA, 34, .inl f2_7)), (hs, .inl (cA, 4096, .inl st)), (he, .inl (cA, 10752, .inl en))] := hD.sub [3, 0, 4, 1, 2] (by decide) rfl
          exact endI X hr hlocks hP hD hS dX4_doOwn_57 ⟨wy2_5, dn2_6, la, ke, f2_7, st, en, 2, rfl, (by omega), (by omega), hf_8, hst, hen, (by omega), rfl⟩
        · have nc_40_4 : v < 23 := Nat.not_le.mp (fun q => c_40_4 ((nI_leI (a := 23) (b := v) (by omega) (by omega)).mpr q))
          refine lv_aload_n hx hb dX4_doOwn_43 rfl (lv_at hl 0 rfl) ?_
          refine lv_iload_n hx hb dX4_doOwn_44 rfl (lv_at hl 1 rfl) ?_
          refine kVv (n3 := 1) (As := [.int (nI v)]) (rest := []) X hl.1 hE hP hD hS hA [(h0, .inr (4, [.ref hn, .ref hs, .ref hd, .ref hp, .ref hc, .int wy, .int dn])), (hn, .inl (cA, 34, .inl f))] [(hp, .inr (3, [.ref he, .int (nI la), .int (nI ke)])), (hs, .inl (cA, 4096, .inl st)), (he, .inl (cA, 10752, .inl en))] [0, 2] [1, 3, 4] rfl rfl rfl (by decide +kernel) (by decide +kernel) (by decide +kernel) (c_s_changeFlag l D cA cB h0 hn hs hd hp hc wy dn f v hf (by first | assumption | decide | rfl | omega)) w_209 w_66 w_208 w_210 w_211 0 (ci := 4) (T := TX4) (N := 7) rfl rfl (by decide +kernel) rfl rfl (Nat.le_of_ble_eq_true rfl) ⟨(Nat.le_of_ble_eq_true rfl), (Nat.le_of_ble_eq_true rfl)⟩ ⟨(Nat.le_of_ble_eq_true rfl), (Nat.le_of_ble_eq_true rfl)⟩ dX4_doOwn_45 (fun W1 H locs hw hP hD hS => ?_)
          obtain ⟨wy2_9, dn2_10, f2_11, hf_12, rfl⟩ := hw
          have hP : va_P D classes [(hp, .inr (3, [.ref he, .int (nI la), .int (nI ke)])), (hs, .inl (cA, 4096, .inl st)), (he, .inl (cA, 10752, .inl en)), (h0, .inr (4, [.ref hn, .ref hs, .ref hd, .ref hp, .ref hc, .int wy2_9, .int dn2_10])), (hn, .inl (cA, 34, .inl f2_11))] H := hP
          have hD : va_D A [(hp, .inr (3, [.ref he, .int (nI la), .int (nI ke)])), (hs, .inl (cA, 4096, .inl st)), (he, .inl (cA, 10752, .inl en)), (h0, .inr (4, [.ref hn, .ref hs, .ref hd, .ref hp, .ref hc, .int wy2_9, .int dn2_10])), (hn, .inl (cA, 34, .inl f2_11))] := hD
          refine lv_goto (tgt := 56) hx hb dX4_doOwn_48 (by decide) ?_
          refine lv_iconst (v := 2) hx hb dX4_doOwn_56 (by decide) ?_
          have hP : va_P D classes [(h0, .inr (4, [.ref hn, .ref hs, .ref hd, .ref hp, .ref hc, .int wy2_9, .int dn2_10])), (hp, .inr (3, [.ref he, .int (nI la), .int (nI ke)])), (hn, .inl (cA, 34, .inl f2_11)), (hs, .inl (cA, 4096, .inl st)), (he, .inl (cA, 10752, .inl en))] _ := hP.sub [3, 0, 4, 1, 2] rfl
          have hD : va_D A [(h0, .inr (4, [.ref hn, .ref hs, .ref hd, .ref hp, .ref hc, .int wy2_9, .int dn2_10])), (hp, .inr (3, [.ref he, .int (nI la), .int (nI ke)])), (hn, .inl (cA, 34, .inl f2_11)), (hs, .inl (cA, 4096, .inl st)), (he, .inl (cA, 10752, .inl en))] := hD.sub [3, 0, 4, 1, 2] (by decide) rfl
          exact endI X hr hlocks hP hD hS dX4_doOwn_57 ⟨wy2_9, dn2_10, la, ke, f2_11, st, en, 2, rfl, (by omega), (by omega), hf_12, hst, hen, (by omega), rfl⟩
      · have nc_27_3 : v < 18 := Nat.not_le.mp (fun q => c_27_3 ((nI_leI (a := 18) (b := v) (by omega) (by omega)).mpr q))
        refine lv_aload_n hx hb dX4_doOwn_30 rfl (lv_at hl 0 rfl) ?_
        refine lv_iload_n hx hb dX4_doOwn_31 rfl (lv_at hl 1 rfl) ?_
        refine kVv (n3 := 1) (As := [.int (nI v)]) (rest := []) X hl.1 hE hP hD hS hA [(h0, .inr (4, [.ref hn, .ref hs, .ref hd, .ref hp, .ref hc, .int wy, .int dn])), (hp, .inr (3, [.ref he, .int (nI la), .int (nI ke)])), (hn, .inl (cA, 34, .inl f)), (hs, .inl (cA, 4096, .inl st)), (he, .inl (cA, 10752, .inl en))] [] [0, 1, 2, 3, 4] [] rfl rfl rfl (by decide +kernel) (by decide +kernel) (by decide +kernel) (c_s_useStack l D cA cB h0 hn hs hd hp hc he wy dn la ke f st en v (by first | assumption | decide | rfl | omega) (by first | assumption | decide | rfl | omega) hf hst hen (by first | assumption | decide | rfl | omega)) w_213 w_66 w_212 w_214 w_215 0 (ci := 4) (T := TX4) (N := 7) rfl rfl (by decide +kernel) rfl rfl (Nat.le_of_ble_eq_true rfl) ⟨(Nat.le_of_ble_eq_true rfl), (Nat.le_of_ble_eq_true rfl)⟩ ⟨(Nat.le_of_ble_eq_true rfl), (Nat.le_of_ble_eq_true rfl)⟩ dX4_doOwn_32 (fun W1 H locs hw hP hD hS => ?_)
        obtain ⟨wy2_13, dn2_14, la2_15, ke2_16, f2_17, st2_18, en2_19, hf_20, hf_21, hf_22, hf_23, hf_24, rfl⟩ := hw
        have hP : va_P D classes [(h0, .inr (4, [.ref hn, .ref hs, .ref hd, .ref hp, .ref hc, .int wy2_13, .int dn2_14])), (hp, .inr (3, [.ref he, .int (nI la2_15), .int (nI ke2_16)])), (hn, .inl (cA, 34, .inl f2_17)), (hs, .inl (cA, 4096, .inl st2_18)), (he, .inl (cA, 10752, .inl en2_19))] H := hP
        have hD : va_D A [(h0, .inr (4, [.ref hn, .ref hs, .ref hd, .ref hp, .ref hc, .int wy2_13, .int dn2_14])), (hp, .inr (3, [.ref he, .int (nI la2_15), .int (nI ke2_16)])), (hn, .inl (cA, 34, .inl f2_17)), (hs, .inl (cA, 4096, .inl st2_18)), (he, .inl (cA, 10752, .inl en2_19))] := hD
        refine lv_iconst (v := 3) hx hb dX4_doOwn_35 (by decide) ?_
        exact endI X hr hlocks hP hD hS dX4_doOwn_36 ⟨wy2_13, dn2_14, la2_15, ke2_16, f2_17, st2_18, en2_19, 3, rfl, (by omega), (by omega), hf_22, hf_23, hf_24, (by omega), rfl⟩
    · have nc_14_2 : v < 10 := Nat.not_le.mp (fun q => c_14_2 ((nI_leI (a := 10) (b := v) (by omega) (by omega)).mpr q))
      refine lv_aload_n hx hb dX4_doOwn_17 rfl (lv_at hl 0 rfl) ?_
      refine lv_iload_n hx hb dX4_doOwn_18 rfl (lv_at hl 1 rfl) ?_
      refine kVv (n3 := 1) (As := [.int (nI v)]) (rest := []) X hl.1 hE hP hD hS hA [(h0, .inr (4, [.ref hn, .ref hs, .ref hd, .ref hp, .ref hc, .int wy, .int dn])), (hn, .inl (cA, 34, .inl f))] [(hp, .inr (3, [.ref he, .int (nI la), .int (nI ke)])), (hs, .inl (cA, 4096, .inl st)), (he, .inl (cA, 10752, .inl en))] [0, 2] [1, 3, 4] rfl rfl rfl (by decide +kernel) (by decide +kernel) (by decide +kernel) (c_s_move l D cA cB h0 hn hs hd hp hc wy dn f v hf (by first | assumption | decide | rfl | omega)) w_217 w_66 w_216 w_218 w_219 0 (ci := 4) (T := TX4) (N := 7) rfl rfl (by decide +kernel) rfl rfl (Nat.le_of_ble_eq_true rfl) ⟨(Nat.le_of_ble_eq_true rfl), (Nat.le_of_ble_eq_true rfl)⟩ ⟨(Nat.le_of_ble_eq_true rfl), (Nat.le_of_ble_eq_true rfl)⟩ dX4_doOwn_19 (fun W1 H locs hw hP hD hS => ?_)
      obtain ⟨wy2_25, dn2_26, f2_27, hf_28, rfl⟩ := hw
      have hP : va_P D classes [(hp, .inr (3, [.ref he, .int (nI la), .int (nI ke)])), (hs, .inl (cA, 4096, .inl st)), (he, .inl (cA, 10752, .inl en)), (h0, .inr (4, [.ref hn, .ref hs, .ref hd, .ref hp, .ref hc, .int wy2_25, .int dn2_26])), (hn, .inl (cA, 34, .inl f2_27))] H := hP
      have hD : va_D A [(hp, .inr (3, [.ref he, .int (nI la), .int (nI ke)])), (hs, .inl (cA, 4096, .inl st)), (he, .inl (cA, 10752, .inl en)), (h0, .inr (4, [.ref hn, .ref hs, .ref hd, .ref hp, .ref hc, .int wy2_25, .int dn2_26])), (hn, .inl (cA, 34, .inl f2_27))] := hD
      refine lv_iconst (v := 2) hx hb dX4_doOwn_22 (by decide) ?_
      have hP : va_P D classes [(h0, .inr (4, [.ref hn, .ref hs, .ref hd, .ref hp, .ref hc, .int wy2_25, .int dn2_26])), (hp, .inr (3, [.ref he, .int (nI la), .int (nI ke)])), (hn, .inl (cA, 34, .inl f2_27)), (hs, .inl (cA, 4096, .inl st)), (he, .inl (cA, 10752, .inl en))] _ := hP.sub [3, 0, 4, 1, 2] rfl
      have hD : va_D A [(h0, .inr (4, [.ref hn, .ref hs, .ref hd, .ref hp, .ref hc, .int wy2_25, .int dn2_26])), (hp, .inr (3, [.ref he, .int (nI la), .int (nI ke)])), (hn, .inl (cA, 34, .inl f2_27)), (hs, .inl (cA, 4096, .inl st)), (he, .inl (cA, 10752, .inl en))] := hD.sub [3, 0, 4, 1, 2] (by decide) rfl
      exact endI X hr hlocks hP hD hS dX4_doOwn_23 ⟨wy2_25, dn2_26, la, ke, f2_27, st, en, 2, rfl, (by omega), (by omega), hf_28, hst, hen, (by omega), rfl⟩
  · have nc_2_1 : v < 4 := Nat.not_le.mp (fun q => c_2_1 ((nI_leI (a := 4) (b := v) (by omega) (by omega)).mpr q))
    refine lv_aload_n hx hb dX4_doOwn_5 rfl (lv_at hl 0 rfl) ?_
    refine lv_iload_n hx hb dX4_doOwn_6 rfl (lv_at hl 1 rfl) ?_
    refine kVi (n3 := 1) (As := [.int (nI v)]) (rest := []) X hl.1 hE hP hD hS hA [(h0, .inr (4, [.ref hn, .ref hs, .ref hd, .ref hp, .ref hc, .int wy, .int dn])), (hn, .inl (cA, 34, .inl f)), (hs, .inl (cA, 4096, .inl st))] [(hp, .inr (3, [.ref he, .int (nI la), .int (nI ke)])), (he, .inl (cA, 10752, .inl en))] [0, 2, 3] [1, 4] rfl rfl rfl (by decide +kernel) (by decide +kernel) (by decide +kernel) (c_s_doEnding l D cA cB h0 hn hs hd hp hc wy dn f st v hf hst (by first | assumption | decide | rfl | omega)) w_221 w_66 w_220 w_222 w_223 0 (ci := 4) (T := TX4) (N := 7) rfl rfl (by decide +kernel) rfl rfl (Nat.le_of_ble_eq_true rfl) ⟨(Nat.le_of_ble_eq_true rfl), (Nat.le_of_ble_eq_true rfl)⟩ ⟨(Nat.le_of_ble_eq_true rfl), (Nat.le_of_ble_eq_true rfl)⟩ dX4_doOwn_7 (fun r W1 H locs hw hP hD hS => ?_)
    obtain ⟨wy2_29, dn2_30, f2_31, st2_32, rk_33, rfl, hf_34, hf_35, hf_36, rfl⟩ := hw
    have hP : va_P D classes [(hp, .inr (3, [.ref he, .int (nI la), .int (nI ke)])), (he, .inl (cA, 10752, .inl en)), (h0, .inr (4, [.ref hn, .ref hs, .ref hd, .ref hp, .ref hc, .int wy2_29, .int dn2_30])), (hn, .inl (cA, 34, .inl f2_31)), (hs, .inl (cA, 4096, .inl st2_32))] H := hP
    have hD : va_D A [(hp, .inr (3, [.ref he, .int (nI la), .int (nI ke)])), (he, .inl (cA, 10752, .inl en)), (h0, .inr (4, [.ref hn, .ref hs, .ref hd, .ref hp, .ref hc, .int wy2_29, .int dn2_30])), (hn, .inl (cA, 34, .inl f2_31)), (hs, .inl (cA, 4096, .inl st2_32))] := hD
    have hP : va_P D classes [(h0, .inr (4, [.ref hn, .ref hs, .ref hd, .ref hp, .ref hc, .int wy2_29, .int dn2_30])), (hp, .inr (3, [.ref he, .int (nI la), .int (nI ke)])), (hn, .inl (cA, 34, .inl f2_31)), (hs, .inl (cA, 4096, .inl st2_32)), (he, .inl (cA, 10752, .inl en))] _ := hP.sub [2, 0, 3, 4, 1] rfl
    have hD : va_D A [(h0, .inr (4, [.ref hn, .ref hs, .ref hd, .ref hp, .ref hc, .int wy2_29, .int dn2_30])), (hp, .inr (3, [.ref he, .int (nI la), .int (nI ke)])), (hn, .inl (cA, 34, .inl f2_31)), (hs, .inl (cA, 4096, .inl st2_32)), (he, .inl (cA, 10752, .inl en))] := hD.sub [2, 0, 3, 4, 1] (by decide) rfl
    exact endI X hr hlocks hP hD hS dX4_doOwn_10 ⟨wy2_29, dn2_30, la, ke, f2_31, st2_32, en, rk_33, rfl, (by omega), (by omega), hf_34, hf_35, hen, (by omega), rfl⟩
set_option maxHeartbeats 4000000 in
set_option maxRecDepth 100000 in
theorem c_s_interruptComes (l : Launch) (D : va_G) (cA cB : ClassId) (h0 : Nat) (hn : Nat) (hs : Nat) (hd : Nat) (hp : Nat) (hc : Nat) (h1 : Nat) (h2 : Nat) (h3 : Nat) (h4 : Nat) (wy : Int32) (dn : Int32) (f : Nat → Int32) (pn : Nat → Int32) (wt : Nat → Int32) (rg : Nat → Int32) (pa : Nat → Int32) (hf : okN f) (hpn : ∀ j, j < 64 → ∃ k : Nat, k < 256 ∧ pn j = nI k) (hwt : ∀ j, j < 16 → ∃ k : Nat, k < 256 ∧ wt j = nI k) : CI l yX4_interruptComes cX4_interruptComes 1 (some .boolean) 1 20 0 0 D cA cB [.ref h0] [(h0, .inr (4, [.ref hn, .ref hs, .ref hd, .ref hp, .ref hc, .int wy, .int dn])), (hd, .inr (1, [.ref hn, .ref h1, .ref h2, .ref h3, .ref h4])), (hn, .inl (cA, 34, .inl f)), (h1, .inl (cA, 64, .inl pn)), (h2, .inl (cA, 16, .inl wt)), (h3, .inl (cA, 900, .inl rg)), (h4, .inl (cA, 200, .inl pa))] (fun r W1 => ∃ (wy2 : Int32) (dn2 : Int32) (f2 : Nat → Int32) (pn2 : Nat → Int32) (wt2 : Nat → Int32) (rg2 : Nat → Int32) (pa2 : Nat → Int32) (rk : Nat), r = nI rk ∧ (okN f2) ∧ (∀ j, j < 64 → ∃ k : Nat, k < 256 ∧ pn2 j = nI k) ∧ (∀ j, j < 16 → ∃ k : Nat, k < 256 ∧ wt2 j = nI k) ∧ (rk < 2) ∧ W1 = [(h0, .inr (4, [.ref hn, .ref hs, .ref hd, .ref hp, .ref hc, .int wy2, .int dn2])), (hd, .inr (1, [.ref hn, .ref h1, .ref h2, .ref h3, .ref h4])), (hn, .inl (cA, 34, .inl f2)), (h1, .inl (cA, 64, .inl pn2)), (h2, .inl (cA, 16, .inl wt2)), (h3, .inl (cA, 900, .inl rg2)), (h4, .inl (cA, 200, .inl pa2))]) := by
  refine mkI (lv0 := [(0, .ref h0)]) (by decide) (Nat.le_of_ble_eq_true rfl) rfl ?_
  intro p e s m below meth c A ls X hr hlocks hnm hE hA hP hD hS hl
  have hx := X.1
  have hb := X.2.1
  refine lv_aload_n hx hb dX4_interruptComes_0 rfl (lv_at hl 0 rfl) ?_
  refine k_get (C := RX4) (T := TX4) (N := 7) (ci := 4) (v := .ref hn) X hE hP 0 rfl rfl iX4 0 (by decide) w_69 rfl dX4_interruptComes_1 ?_
  refine lv_iconst (v := 5) hx hb dX4_interruptComes_4 (by decide) ?_
  obtain ⟨k_1, hk_1, ek_1⟩ := hf.at 5 256 (by decide) rfl
  refine k_ald (v := nI k_1) X hE hP 2 rfl 5 rfl (by decide) (by decide) ek_1 dX4_interruptComes_5 ?_
  refine lv_iconst (v := 4) hx hb dX4_interruptComes_6 (by decide) ?_
  refine lv_iand hx hb dX4_interruptComes_7 ?_
  obtain ⟨k_2, hk_2, ek_2⟩ := sf_and (a := k_1) (by omega) 4 (by omega : k_1 < 256)
  have hk_2 : k_2 < 256 := hk_2
  refine tk (y := nI k_2) ek_2 ?_
  refine lv_if_ne (tgt := 25) hx hb dX4_interruptComes_8 (by decide) (fun c_8_3 => ?_) (fun c_8_3 => ?_)
  · have nc_8_3 : ¬ k_2 = 0 := fun q => c_8_3 ((nI_eq (a := k_2) (b := 0) (by omega) (by omega)).mpr q)
    refine lv_iconst (v := 0) hx hb dX4_interruptComes_25 (by decide) ?_
    exact endZ X hr rfl hlocks hP hD hS dX4_interruptComes_26 ⟨wy, dn, f, pn, wt, rg, pa, 0, rfl, hf, hpn, hwt, (by omega), rfl⟩
  · have nc_8_3 : k_2 = 0 := (nI_eq (a := k_2) (b := 0) (by omega) (by omega)).mp c_8_3
    refine lv_aload_n hx hb dX4_interruptComes_11 rfl (lv_at hl 0 rfl) ?_
    refine k_get (C := RX4) (T := TX4) (N := 7) (ci := 4) (v := .ref hd) X hE hP 0 rfl rfl iX4 2 (by decide) w_175 rfl dX4_interruptComes_12 ?_
    refine kVi (n3 := 0) (As := []) (rest := []) X hl.1 hE hP hD hS hA [(hd, .inr (1, [.ref hn, .ref h1, .ref h2, .ref h3, .ref h4])), (hn, .inl (cA, 34, .inl f)), (h1, .inl (cA, 64, .inl pn)), (h2, .inl (cA, 16, .inl wt)), (h3, .inl (cA, 900, .inl rg)), (h4, .inl (cA, 200, .inl pa))] [(h0, .inr (4, [.ref hn, .ref hs, .ref hd, .ref hp, .ref hc, .int wy, .int dn]))] [1, 2, 3, 4, 5, 6] [0] rfl rfl rfl (by decide +kernel) (by decide +kernel) (by decide +kernel) (c_s_lineIsOn l D cA cB hd hn h1 h2 h3 h4 f pn wt rg pa hf hpn hwt) w_225 w_9 w_224 w_226 w_227 0 (ci := 1) (T := TX1) (N := 5) rfl rfl (by decide +kernel) rfl rfl (Nat.le_of_ble_eq_true rfl) ⟨(Nat.le_of_ble_eq_true rfl), (Nat.le_of_ble_eq_true rfl)⟩ ⟨(Nat.le_of_ble_eq_true rfl), (Nat.le_of_ble_eq_true rfl)⟩ dX4_interruptComes_15 (fun r W1 H locs hw hP hD hS => ?_)
    obtain ⟨f2_4, pn2_5, wt2_6, rg2_7, pa2_8, rk_9, rfl, hf_10, hf_11, hf_12, hf_13, rfl⟩ := hw
    have hP : va_P D classes [(h0, .inr (4, [.ref hn, .ref hs, .ref hd, .ref hp, .ref hc, .int wy, .int dn])), (hd, .inr (1, [.ref hn, .ref h1, .ref h2, .ref h3, .ref h4])), (hn, .inl (cA, 34, .inl f2_4)), (h1, .inl (cA, 64, .inl pn2_5)), (h2, .inl (cA, 16, .inl wt2_6)), (h3, .inl (cA, 900, .inl rg2_7)), (h4, .inl (cA, 200, .inl pa2_8))] H := hP
    have hD : va_D A [(h0, .inr (4, [.ref hn, .ref hs, .ref hd, .ref hp, .ref hc, .int wy, .int dn])), (hd, .inr (1, [.ref hn, .ref h1, .ref h2, .ref h3, .ref h4])), (hn, .inl (cA, 34, .inl f2_4)), (h1, .inl (cA, 64, .inl pn2_5)), (h2, .inl (cA, 16, .inl wt2_6)), (h3, .inl (cA, 900, .inl rg2_7)), (h4, .inl (cA, 200, .inl pa2_8))] := hD
    refine lv_if_eq (tgt := 25) hx hb dX4_interruptComes_18 (by decide) (fun c_18_14 => ?_) (fun c_18_14 => ?_)
    · have nc_18_14 : rk_9 = 0 := (nI_eq (a := rk_9) (b := 0) (by omega) (by omega)).mp c_18_14
      refine lv_iconst (v := 0) hx hb dX4_interruptComes_25 (by decide) ?_
      exact endZ X hr rfl hlocks hP hD hS dX4_interruptComes_26 ⟨wy, dn, f2_4, pn2_5, wt2_6, rg2_7, pa2_8, 0, rfl, hf_10, hf_11, hf_12, (by omega), rfl⟩
    · have nc_18_14 : ¬ rk_9 = 0 := fun q => c_18_14 ((nI_eq (a := rk_9) (b := 0) (by omega) (by omega)).mpr q)
      refine lv_iconst (v := 1) hx hb dX4_interruptComes_21 (by decide) ?_
      refine lv_goto (tgt := 26) hx hb dX4_interruptComes_22 (by decide) ?_
      exact endZ X hr rfl hlocks hP hD hS dX4_interruptComes_26 ⟨wy, dn, f2_4, pn2_5, wt2_6, rg2_7, pa2_8, 1, rfl, hf_10, hf_11, hf_12, (by omega), rfl⟩
set_option maxHeartbeats 4000000 in
set_option maxRecDepth 100000 in
theorem c_s_reset (l : Launch) (D : va_G) (cA cB : ClassId) (h0 : Nat) (hn : Nat) (hs : Nat) (hd : Nat) (hp : Nat) (hc : Nat) (wy : Int32) (dn : Int32) (f : Nat → Int32) (st : Nat → Int32) (hf : okN f) (hst : ∀ j, j < 4096 → ∃ k : Nat, k < 256 ∧ st j = nI k) : CV l yX4_reset cX4_reset 1 none 3 62 0 0 D cA cB [.ref h0] [(h0, .inr (4, [.ref hn, .ref hs, .ref hd, .ref hp, .ref hc, .int wy, .int dn])), (hn, .inl (cA, 34, .inl f)), (hs, .inl (cA, 4096, .inl st))] (fun W1 => ∃ (wy2 : Int32) (dn2 : Int32) (f2 : Nat → Int32) (st2 : Nat → Int32), (okN f2) ∧ (∀ j, j < 4096 → ∃ k : Nat, k < 256 ∧ st2 j = nI k) ∧ W1 = [(h0, .inr (4, [.ref hn, .ref hs, .ref hd, .ref hp, .ref hc, .int wy2, .int dn2])), (hn, .inl (cA, 34, .inl f2)), (hs, .inl (cA, 4096, .inl st2))]) := by
  refine mkV (lv0 := [(0, .ref h0)]) (by decide) (Nat.le_of_ble_eq_true rfl) rfl ?_
  intro p e s m below meth c A ls X hr hlocks hnm hE hA hP hD hS hl
  have hx := X.1
  have hb := X.2.1
  refine lv_aload_n hx hb dX4_reset_0 rfl (lv_at hl 0 rfl) ?_
  refine kVv (n3 := 0) (As := []) (rest := []) X hl.1 hE hP hD hS hA [(h0, .inr (4, [.ref hn, .ref hs, .ref hd, .ref hp, .ref hc, .int wy, .int dn])), (hn, .inl (cA, 34, .inl f)), (hs, .inl (cA, 4096, .inl st))] [] [0, 1, 2] [] rfl rfl rfl (by decide +kernel) (by decide +kernel) (by decide +kernel) (c_s_start l D cA cB h0 hn hs hd hp hc wy dn f st hf hst) w_229 w_66 w_228 w_230 w_231 0 (ci := 4) (T := TX4) (N := 7) rfl rfl (by decide +kernel) rfl rfl (Nat.le_of_ble_eq_true rfl) ⟨(Nat.le_of_ble_eq_true rfl), (Nat.le_of_ble_eq_true rfl)⟩ ⟨(Nat.le_of_ble_eq_true rfl), (Nat.le_of_ble_eq_true rfl)⟩ dX4_reset_1 (fun W1 H locs hw hP hD hS => ?_)
  obtain ⟨wy2_1, dn2_2, f2_3, st2_4, hf_5, hf_6, rfl⟩ := hw
  have hP : va_P D classes [(h0, .inr (4, [.ref hn, .ref hs, .ref hd, .ref hp, .ref hc, .int wy2_1, .int dn2_2])), (hn, .inl (cA, 34, .inl f2_3)), (hs, .inl (cA, 4096, .inl st2_4))] H := hP
  have hD : va_D A [(h0, .inr (4, [.ref hn, .ref hs, .ref hd, .ref hp, .ref hc, .int wy2_1, .int dn2_2])), (hn, .inl (cA, 34, .inl f2_3)), (hs, .inl (cA, 4096, .inl st2_4))] := hD
  refine lv_aload_n hx hb dX4_reset_4 rfl (lv_at hl 0 rfl) ?_
  refine k_get (C := RX4) (T := TX4) (N := 7) (ci := 4) (v := .ref hn) X hE hP 0 rfl rfl iX4 0 (by decide) w_69 rfl dX4_reset_5 ?_
  refine lv_bipush (v := 10) hx hb dX4_reset_8 (by decide) ?_
  refine lv_iconst (v := 0) hx hb dX4_reset_10 (by decide) ?_
  refine k_ast X hE hP hD hS 1 rfl 10 rfl (by decide) (by decide) [(h0, .inr (4, [.ref hn, .ref hs, .ref hd, .ref hp, .ref hc, .int wy2_1, .int dn2_2])), (hn, .inl (cA, 34, .inl (upd f2_3 10 0))), (hs, .inl (cA, 4096, .inl st2_4))] rfl dX4_reset_11 (fun H locs hP hD hS => ?_)
  obtain ⟨g_7, eg_7⟩ : ∃ z, z = upd f2_3 10 0 := ⟨_, rfl⟩
  rw [← eg_7] at hP hD
  have hg_7 := okN_upd hf_5 10 0 (inR_of (k := 0) rfl (by omega))
  rw [← eg_7] at hg_7
  have hP : va_P D classes [(h0, .inr (4, [.ref hn, .ref hs, .ref hd, .ref hp, .ref hc, .int wy2_1, .int dn2_2])), (hn, .inl (cA, 34, .inl g_7)), (hs, .inl (cA, 4096, .inl st2_4))] H := hP
  have hD : va_D A [(h0, .inr (4, [.ref hn, .ref hs, .ref hd, .ref hp, .ref hc, .int wy2_1, .int dn2_2])), (hn, .inl (cA, 34, .inl g_7)), (hs, .inl (cA, 4096, .inl st2_4))] := hD
  refine lv_aload_n hx hb dX4_reset_12 rfl (lv_at hl 0 rfl) ?_
  refine k_get (C := RX4) (T := TX4) (N := 7) (ci := 4) (v := .ref hn) X hE hP 0 rfl rfl iX4 0 (by decide) w_69 rfl dX4_reset_13 ?_
  refine lv_bipush (v := 11) hx hb dX4_reset_16 (by decide) ?_
  refine lv_iconst (v := 0) hx hb dX4_reset_18 (by decide) ?_
  refine k_ast X hE hP hD hS 1 rfl 11 rfl (by decide) (by decide) [(h0, .inr (4, [.ref hn, .ref hs, .ref hd, .ref hp, .ref hc, .int wy2_1, .int dn2_2])), (hn, .inl (cA, 34, .inl (upd g_7 11 0))), (hs, .inl (cA, 4096, .inl st2_4))] rfl dX4_reset_19 (fun H locs hP hD hS => ?_)
  obtain ⟨g_8, eg_8⟩ : ∃ z, z = upd g_7 11 0 := ⟨_, rfl⟩
  rw [← eg_8] at hP hD
  have hg_8 := okN_upd hg_7 11 0 (inR_of (k := 0) rfl (by omega))
  rw [← eg_8] at hg_8
  have hP : va_P D classes [(h0, .inr (4, [.ref hn, .ref hs, .ref hd, .ref hp, .ref hc, .int wy2_1, .int dn2_2])), (hn, .inl (cA, 34, .inl g_8)), (hs, .inl (cA, 4096, .inl st2_4))] H := hP
  have hD : va_D A [(h0, .inr (4, [.ref hn, .ref hs, .ref hd, .ref hp, .ref hc, .int wy2_1, .int dn2_2])), (hn, .inl (cA, 34, .inl g_8)), (hs, .inl (cA, 4096, .inl st2_4))] := hD
  refine lv_aload_n hx hb dX4_reset_20 rfl (lv_at hl 0 rfl) ?_
  refine k_get (C := RX4) (T := TX4) (N := 7) (ci := 4) (v := .ref hn) X hE hP 0 rfl rfl iX4 0 (by decide) w_69 rfl dX4_reset_21 ?_
  refine lv_bipush (v := 15) hx hb dX4_reset_24 (by decide) ?_
  refine lv_iconst (v := 0) hx hb dX4_reset_26 (by decide) ?_
  refine k_ast X hE hP hD hS 1 rfl 15 rfl (by decide) (by decide) [(h0, .inr (4, [.ref hn, .ref hs, .ref hd, .ref hp, .ref hc, .int wy2_1, .int dn2_2])), (hn, .inl (cA, 34, .inl (upd g_8 15 0))), (hs, .inl (cA, 4096, .inl st2_4))] rfl dX4_reset_27 (fun H locs hP hD hS => ?_)
  obtain ⟨g_9, eg_9⟩ : ∃ z, z = upd g_8 15 0 := ⟨_, rfl⟩
  rw [← eg_9] at hP hD
  have hg_9 := okN_upd hg_8 15 0 (inR_of (k := 0) rfl (by omega))
  rw [← eg_9] at hg_9
  have hP : va_P D classes [(h0, .inr (4, [.ref hn, .ref hs, .ref hd, .ref hp, .ref hc, .int wy2_1, .int dn2_2])), (hn, .inl (cA, 34, .inl g_9)), (hs, .inl (cA, 4096, .inl st2_4))] H := hP
  have hD : va_D A [(h0, .inr (4, [.ref hn, .ref hs, .ref hd, .ref hp, .ref hc, .int wy2_1, .int dn2_2])), (hn, .inl (cA, 34, .inl g_9)), (hs, .inl (cA, 4096, .inl st2_4))] := hD
  refine lv_aload_n hx hb dX4_reset_28 rfl (lv_at hl 0 rfl) ?_
  refine k_get (C := RX4) (T := TX4) (N := 7) (ci := 4) (v := .ref hn) X hE hP 0 rfl rfl iX4 0 (by decide) w_69 rfl dX4_reset_29 ?_
  refine lv_bipush (v := 16) hx hb dX4_reset_32 (by decide) ?_
  refine lv_iconst (v := 0) hx hb dX4_reset_34 (by decide) ?_
  refine k_ast X hE hP hD hS 1 rfl 16 rfl (by decide) (by decide) [(h0, .inr (4, [.ref hn, .ref hs, .ref hd, .ref hp, .ref hc, .int wy2_1, .int dn2_2])), (hn, .inl (cA, 34, .inl (upd g_9 16 0))), (hs, .inl (cA, 4096, .inl st2_4))] rfl dX4_reset_35 (fun H locs hP hD hS => ?_)
  obtain ⟨g_10, eg_10⟩ : ∃ z, z = upd g_9 16 0 := ⟨_, rfl⟩
  rw [← eg_10] at hP hD
  have hg_10 := okN_upd hg_9 16 0 (inR_of (k := 0) rfl (by omega))
  rw [← eg_10] at hg_10
  have hP : va_P D classes [(h0, .inr (4, [.ref hn, .ref hs, .ref hd, .ref hp, .ref hc, .int wy2_1, .int dn2_2])), (hn, .inl (cA, 34, .inl g_10)), (hs, .inl (cA, 4096, .inl st2_4))] H := hP
  have hD : va_D A [(h0, .inr (4, [.ref hn, .ref hs, .ref hd, .ref hp, .ref hc, .int wy2_1, .int dn2_2])), (hn, .inl (cA, 34, .inl g_10)), (hs, .inl (cA, 4096, .inl st2_4))] := hD
  refine lv_aload_n hx hb dX4_reset_36 rfl (lv_at hl 0 rfl) ?_
  refine k_get (C := RX4) (T := TX4) (N := 7) (ci := 4) (v := .ref hn) X hE hP 0 rfl rfl iX4 0 (by decide) w_69 rfl dX4_reset_37 ?_
  refine lv_bipush (v := 30) hx hb dX4_reset_40 (by decide) ?_
  refine lv_dup2_11 hx hb dX4_reset_42 rfl rfl ?_
  refine k_ald (v := g_10 30) X hE hP 1 rfl 30 rfl (by decide) (by decide) rfl dX4_reset_43 ?_
  refine lv_iconst (v := 1) hx hb dX4_reset_44 (by decide) ?_
  refine lv_iadd hx hb dX4_reset_45 ?_
  refine k_ast X hE hP hD hS 1 rfl 30 rfl (by decide) (by decide) [(h0, .inr (4, [.ref hn, .ref hs, .ref hd, .ref hp, .ref hc, .int wy2_1, .int dn2_2])), (hn, .inl (cA, 34, .inl (upd g_10 30 ((g_10 30) + 1)))), (hs, .inl (cA, 4096, .inl st2_4))] rfl dX4_reset_46 (fun H locs hP hD hS => ?_)
  obtain ⟨g_11, eg_11⟩ : ∃ z, z = upd g_10 30 ((g_10 30) + 1) := ⟨_, rfl⟩
  rw [← eg_11] at hP hD
  have hg_11 := okN_upd hg_10 30 ((g_10 30) + 1) (inR_any rfl)
  rw [← eg_11] at hg_11
  have hP : va_P D classes [(h0, .inr (4, [.ref hn, .ref hs, .ref hd, .ref hp, .ref hc, .int wy2_1, .int dn2_2])), (hn, .inl (cA, 34, .inl g_11)), (hs, .inl (cA, 4096, .inl st2_4))] H := hP
  have hD : va_D A [(h0, .inr (4, [.ref hn, .ref hs, .ref hd, .ref hp, .ref hc, .int wy2_1, .int dn2_2])), (hn, .inl (cA, 34, .inl g_11)), (hs, .inl (cA, 4096, .inl st2_4))] := hD
  exact endV X hr hlocks hP hD hS dX4_reset_47 ⟨wy2_1, dn2_2, g_11, st2_4, hg_11, hf_6, rfl⟩
set_option maxHeartbeats 4000000 in
set_option maxRecDepth 100000 in
theorem c_s_doCode (l : Launch) (D : va_G) (cA cB : ClassId) (h0 : Nat) (hn : Nat) (hs : Nat) (hd : Nat) (hp : Nat) (hc : Nat) (h1 : Nat) (h2 : Nat) (h3 : Nat) (h4 : Nat) (he : Nat) (wy : Int32) (dn : Int32) (la : Nat) (ke : Nat) (f : Nat → Int32) (st : Nat → Int32) (pn : Nat → Int32) (wt : Nat → Int32) (rg : Nat → Int32) (pa : Nat → Int32) (en : Nat → Int32) (ct : Nat → Int32) (v : Nat) (hla : la < 256) (hke : ke < 257) (hf : okN f) (hst : ∀ j, j < 4096 → ∃ k : Nat, k < 256 ∧ st j = nI k) (hpn : ∀ j, j < 64 → ∃ k : Nat, k < 256 ∧ pn j = nI k) (hwt : ∀ j, j < 16 → ∃ k : Nat, k < 256 ∧ wt j = nI k) (hen : okE en) (hv : v < 256) : CI l yX4_doCode cX4_doCode 5 (some .int) 4 89 0 0 D cA cB [.ref h0, .int (nI v)] [(h0, .inr (4, [.ref hn, .ref hs, .ref hd, .ref hp, .ref hc, .int wy, .int dn])), (hd, .inr (1, [.ref hn, .ref h1, .ref h2, .ref h3, .ref h4])), (hp, .inr (3, [.ref he, .int (nI la), .int (nI ke)])), (hn, .inl (cA, 34, .inl f)), (hs, .inl (cA, 4096, .inl st)), (h1, .inl (cA, 64, .inl pn)), (h2, .inl (cA, 16, .inl wt)), (h3, .inl (cA, 900, .inl rg)), (h4, .inl (cA, 200, .inl pa)), (he, .inl (cA, 10752, .inl en)), (hc, .inl (cA, 257, .inl ct))] (fun r W1 => ∃ (wy2 : Int32) (dn2 : Int32) (la2 : Nat) (ke2 : Nat) (f2 : Nat → Int32) (st2 : Nat → Int32) (pn2 : Nat → Int32) (wt2 : Nat → Int32) (rg2 : Nat → Int32) (pa2 : Nat → Int32) (en2 : Nat → Int32) (ct2 : Nat → Int32) (rk : Nat), r = nI rk ∧ (la2 < 256) ∧ (ke2 < 257) ∧ (okN f2) ∧ (∀ j, j < 4096 → ∃ k : Nat, k < 256 ∧ st2 j = nI k) ∧ (∀ j, j < 64 → ∃ k : Nat, k < 256 ∧ pn2 j = nI k) ∧ (∀ j, j < 16 → ∃ k : Nat, k < 256 ∧ wt2 j = nI k) ∧ (okE en2) ∧ (rk < 1000) ∧ W1 = [(h0, .inr (4, [.ref hn, .ref hs, .ref hd, .ref hp, .ref hc, .int wy2, .int dn2])), (hd, .inr (1, [.ref hn, .ref h1, .ref h2, .ref h3, .ref h4])), (hp, .inr (3, [.ref he, .int (nI la2), .int (nI ke2)])), (hn, .inl (cA, 34, .inl f2)), (hs, .inl (cA, 4096, .inl st2)), (h1, .inl (cA, 64, .inl pn2)), (h2, .inl (cA, 16, .inl wt2)), (h3, .inl (cA, 900, .inl rg2)), (h4, .inl (cA, 200, .inl pa2)), (he, .inl (cA, 10752, .inl en2)), (hc, .inl (cA, 257, .inl ct2))]) := by
  refine mkI (lv0 := [(0, .ref h0), (1, .int (nI v))]) (by decide) (Nat.le_of_ble_eq_true rfl) rfl ?_
  intro p e s m below meth c A ls X hr hlocks hnm hE hA hP hD hS hl
  have hx := X.1
  have hb := X.2.1
  refine lv_iload_n hx hb dX4_doCode_0 rfl (lv_at hl 1 rfl) ?_
  refine lv_iconst (v := 3) hx hb dX4_doCode_1 (by decide) ?_
  refine lv_ishr hx hb dX4_doCode_2 ?_
  refine tk (y := nI (v / 8)) (pk_shrN (n := v) (by omega) _ 3 (by decide)) ?_
  refine lv_istore_n (lv' := [(2, .int (nI (v / 8))), (0, .ref h0), (1, .int (nI v))]) hx hb dX4_doCode_3 rfl hl (by decide) rfl (fun ls hl => ?_)
  refine lv_iload_n hx hb dX4_doCode_4 rfl (lv_at hl 2 rfl) ?_
  refine lv_bipush (v := 7) hx hb dX4_doCode_5 (by decide) ?_
  refine lv_iand hx hb dX4_doCode_7 ?_
  obtain ⟨k_1, hk_1, ek_1⟩ := pk_andE (nI v) (m := 7) 3 (by decide)
  have hk_1 : k_1 < 8 := hk_1
  refine tk (y := nI k_1) ek_1 ?_
  refine lv_istore_n (lv' := [(3, .int (nI k_1)), (2, .int (nI (v / 8))), (0, .ref h0), (1, .int (nI v))]) hx hb dX4_doCode_8 rfl hl (by decide) rfl (fun ls hl => ?_)
  refine lv_iload_n hx hb dX4_doCode_9 rfl (lv_at hl 3 rfl) ?_
  refine kSNi (n3 := 1) (As := [.int (nI v)]) (rest := []) X hl.1 hE hP hD hS hA [] [(h0, .inr (4, [.ref hn, .ref hs, .ref hd, .ref hp, .ref hc, .int wy, .int dn])), (hd, .inr (1, [.ref hn, .ref h1, .ref h2, .ref h3, .ref h4])), (hp, .inr (3, [.ref he, .int (nI la), .int (nI ke)])), (hn, .inl (cA, 34, .inl f)), (hs, .inl (cA, 4096, .inl st)), (h1, .inl (cA, 64, .inl pn)), (h2, .inl (cA, 16, .inl wt)), (h3, .inl (cA, 900, .inl rg)), (h4, .inl (cA, 200, .inl pa)), (he, .inl (cA, 10752, .inl en)), (hc, .inl (cA, 257, .inl ct))] [] [0, 1, 2, 3, 4, 5, 6, 7, 8, 9, 10] rfl rfl rfl (by decide +kernel) (by decide +kernel) (by decide +kernel) (c_s_isShort l D cA cB v (by first | assumption | decide | rfl | omega)) w_232 w_107 nw_32 w_233 (by decide +kernel) rfl rfl (Nat.le_of_ble_eq_true rfl) ⟨(Nat.le_of_ble_eq_true rfl), (Nat.le_of_ble_eq_true rfl)⟩ ⟨(Nat.le_of_ble_eq_true rfl), (Nat.le_of_ble_eq_true rfl)⟩ dX4_doCode_10 (fun r W1 H locs hw hP hD hS => ?_)
  obtain ⟨rk_2, rfl, hf_3, rfl⟩ := hw
  have hP : va_P D classes [(h0, .inr (4, [.ref hn, .ref hs, .ref hd, .ref hp, .ref hc, .int wy, .int dn])), (hd, .inr (1, [.ref hn, .ref h1, .ref h2, .ref h3, .ref h4])), (hp, .inr (3, [.ref he, .int (nI la), .int (nI ke)])), (hn, .inl (cA, 34, .inl f)), (hs, .inl (cA, 4096, .inl st)), (h1, .inl (cA, 64, .inl pn)), (h2, .inl (cA, 16, .inl wt)), (h3, .inl (cA, 900, .inl rg)), (h4, .inl (cA, 200, .inl pa)), (he, .inl (cA, 10752, .inl en)), (hc, .inl (cA, 257, .inl ct))] H := hP
  have hD : va_D A [(h0, .inr (4, [.ref hn, .ref hs, .ref hd, .ref hp, .ref hc, .int wy, .int dn])), (hd, .inr (1, [.ref hn, .ref h1, .ref h2, .ref h3, .ref h4])), (hp, .inr (3, [.ref he, .int (nI la), .int (nI ke)])), (hn, .inl (cA, 34, .inl f)), (hs, .inl (cA, 4096, .inl st)), (h1, .inl (cA, 64, .inl pn)), (h2, .inl (cA, 16, .inl wt)), (h3, .inl (cA, 900, .inl rg)), (h4, .inl (cA, 200, .inl pa)), (he, .inl (cA, 10752, .inl en)), (hc, .inl (cA, 257, .inl ct))] := hD
  refine lv_if_eq (tgt := 45) hx hb dX4_doCode_13 (by decide) (fun c_13_4 => ?_) (fun c_13_4 => ?_)
  · have nc_13_4 : rk_2 = 0 := (nI_eq (a := rk_2) (b := 0) (by omega) (by omega)).mp c_13_4
    refine lv_iload_n hx hb dX4_doCode_45 rfl (lv_at hl 1 rfl) ?_
    refine lv_bipush (v := 16) hx hb dX4_doCode_46 (by decide) ?_
    refine lv_icmp_ge (tgt := 79) hx hb dX4_doCode_48 (by decide) (fun c_48_5 => ?_) (fun c_48_5 => ?_)
    · have nc_48_5 : 16 ≤ (v / 8) := (nI_leI (a := 16) (b := v / 8) (by omega) (by omega)).mp c_48_5
      refine lv_aload_n hx hb dX4_doCode_79 rfl (lv_at hl 2 rfl) ?_
      refine lv_iload_n hx hb dX4_doCode_80 rfl (lv_at hl 1 rfl) ?_
      refine lv_aload_n hx hb dX4_doCode_81 rfl (lv_at hl 2 rfl) ?_
      refine lv_iload_n hx hb dX4_doCode_82 rfl (lv_at hl 0 rfl) ?_
      refine kVi (n3 := 1) (As := [.int (nI k_1)]) (rest := [.int (nI (v / 8)), .ref h0]) X hl.1 hE hP hD hS hA [(h0, .inr (4, [.ref hn, .ref hs, .ref hd, .ref hp, .ref hc, .int wy, .int dn])), (hn, .inl (cA, 34, .inl f)), (hs, .inl (cA, 4096, .inl st))] [(hd, .inr (1, [.ref hn, .ref h1, .ref h2, .ref h3, .ref h4])), (hp, .inr (3, [.ref he, .int (nI la), .int (nI ke)])), (h1, .inl (cA, 64, .inl pn)), (h2, .inl (cA, 16, .inl wt)), (h3, .inl (cA, 900, .inl rg)), (h4, .inl (cA, 200, .inl pa)), (he, .inl (cA, 10752, .inl en)), (hc, .inl (cA, 257, .inl ct))] [0, 3, 4] [1, 2, 5, 6, 7, 8, 9, 10] rfl rfl rfl (by decide +kernel) (by decide +kernel) (by decide +kernel) (c_s_findAddress l D cA cB h0 hn hs hd hp hc wy dn f st k_1 hf hst (by first | assumption | decide | rfl | omega)) w_235 w_66 w_234 w_236 w_237 0 (ci := 4) (T := TX4) (N := 7) rfl rfl (by decide +kernel) rfl rfl (Nat.le_of_ble_eq_true rfl) ⟨(Nat.le_of_ble_eq_true rfl), (Nat.le_of_ble_eq_true rfl)⟩ ⟨(Nat.le_of_ble_eq_true rfl), (Nat.le_of_ble_eq_true rfl)⟩ dX4_doCode_83 (fun r W1 H locs hw hP hD hS => ?_)
      obtain ⟨wy2_6, dn2_7, f2_8, st2_9, rk_10, rfl, hf_11, hf_12, hf_13, rfl⟩ := hw
      have hP : va_P D classes [(hd, .inr (1, [.ref hn, .ref h1, .ref h2, .ref h3, .ref h4])), (hp, .inr (3, [.ref he, .int (nI la), .int (nI ke)])), (h1, .inl (cA, 64, .inl pn)), (h2, .inl (cA, 16, .inl wt)), (h3, .inl (cA, 900, .inl rg)), (h4, .inl (cA, 200, .inl pa)), (he, .inl (cA, 10752, .inl en)), (hc, .inl (cA, 257, .inl ct)), (h0, .inr (4, [.ref hn, .ref hs, .ref hd, .ref hp, .ref hc, .int wy2_6, .int dn2_7])), (hn, .inl (cA, 34, .inl f2_8)), (hs, .inl (cA, 4096, .inl st2_9))] H := hP
      have hD : va_D A [(hd, .inr (1, [.ref hn, .ref h1, .ref h2, .ref h3, .ref h4])), (hp, .inr (3, [.ref he, .int (nI la), .int (nI ke)])), (h1, .inl (cA, 64, .inl pn)), (h2, .inl (cA, 16, .inl wt)), (h3, .inl (cA, 900, .inl rg)), (h4, .inl (cA, 200, .inl pa)), (he, .inl (cA, 10752, .inl en)), (hc, .inl (cA, 257, .inl ct)), (h0, .inr (4, [.ref hn, .ref hs, .ref hd, .ref hp, .ref hc, .int wy2_6, .int dn2_7])), (hn, .inl (cA, 34, .inl f2_8)), (hs, .inl (cA, 4096, .inl st2_9))] := hD
      refine kVv (n3 := 2) (As := [.int (nI (v / 8)), .int (nI rk_10)]) (rest := []) X hl.1 hE hP hD hS hA [(h0, .inr (4, [.ref hn, .ref hs, .ref hd, .ref hp, .ref hc, .int wy2_6, .int dn2_7])), (hd, .inr (1, [.ref hn, .ref h1, .ref h2, .ref h3, .ref h4])), (hp, .inr (3, [.ref he, .int (nI la), .int (nI ke)])), (hn, .inl (cA, 34, .inl f2_8)), (hs, .inl (cA, 4096, .inl st2_9)), (h1, .inl (cA, 64, .inl pn)), (h2, .inl (cA, 16, .inl wt)), (h3, .inl (cA, 900, .inl rg)), (h4, .inl (cA, 200, .inl pa)), (he, .inl (cA, 10752, .inl en)), (hc, .inl (cA, 257, .inl ct))] [] [8, 0, 1, 9, 10, 2, 3, 4, 5, 6, 7] [] rfl rfl rfl (by decide +kernel) (by decide +kernel) (by decide +kernel) (c_s_useAddress l D cA cB h0 hn hs hd hp hc h1 h2 h3 h4 he wy2_6 dn2_7 la ke f2_8 st2_9 pn wt rg pa en ct (v / 8) rk_10 (by first | assumption | decide | rfl | omega) (by first | assumption | decide | rfl | omega) hf_11 hf_12 hpn hwt hen (by first | assumption | decide | rfl | omega) (by first | assumption | decide | rfl | omega)) w_239 w_66 w_238 w_240 w_241 0 (ci := 4) (T := TX4) (N := 7) rfl rfl (by decide +kernel) rfl rfl (Nat.le_of_ble_eq_true rfl) ⟨(Nat.le_of_ble_eq_true rfl), (Nat.le_of_ble_eq_true rfl)⟩ ⟨(Nat.le_of_ble_eq_true rfl), (Nat.le_of_ble_eq_true rfl)⟩ dX4_doCode_86 (fun W1 H locs hw hP hD hS => ?_)
      obtain ⟨wy2_14, dn2_15, la2_16, ke2_17, f2_18, st2_19, pn2_20, wt2_21, rg2_22, pa2_23, en2_24, ct2_25, hf_26, hf_27, hf_28, hf_29, hf_30, hf_31, hf_32, rfl⟩ := hw
      have hP : va_P D classes [(h0, .inr (4, [.ref hn, .ref hs, .ref hd, .ref hp, .ref hc, .int wy2_14, .int dn2_15])), (hd, .inr (1, [.ref hn, .ref h1, .ref h2, .ref h3, .ref h4])), (hp, .inr (3, [.ref he, .int (nI la2_16), .int (nI ke2_17)])), (hn, .inl (cA, 34, .inl f2_18)), (hs, .inl (cA, 4096, .inl st2_19)), (h1, .inl (cA, 64, .inl pn2_20)), (h2, .inl (cA, 16, .inl wt2_21)), (h3, .inl (cA, 900, .inl rg2_22)), (h4, .inl (cA, 200, .inl pa2_23)), (he, .inl (cA, 10752, .inl en2_24)), (hc, .inl (cA, 257, .inl ct2_25))] H := hP
      have hD : va_D A [(h0, .inr (4, [.ref hn, .ref hs, .ref hd, .ref hp, .ref hc, .int wy2_14, .int dn2_15])), (hd, .inr (1, [.ref hn, .ref h1, .ref h2, .ref h3, .ref h4])), (hp, .inr (3, [.ref he, .int (nI la2_16), .int (nI ke2_17)])), (hn, .inl (cA, 34, .inl f2_18)), (hs, .inl (cA, 4096, .inl st2_19)), (h1, .inl (cA, 64, .inl pn2_20)), (h2, .inl (cA, 16, .inl wt2_21)), (h3, .inl (cA, 900, .inl rg2_22)), (h4, .inl (cA, 200, .inl pa2_23)), (he, .inl (cA, 10752, .inl en2_24)), (hc, .inl (cA, 257, .inl ct2_25))] := hD
      refine va_gets (C := "BelfryBox$Processor") (n := "WAY_CYCLES") (d := "[I") hx hb (e_z1 hE) hS X.2.2.2.1 (X.2.2.2.2 _ w_242) (fun _ h9 => h9) dX4_doCode_89 ?_
      refine lv_iload_n hx hb dX4_doCode_92 rfl (lv_at hl 0 rfl) ?_
      refine k_ti X (e_t1 hE) hS k_1 (by omega) (by decide) dX4_doCode_93 ?_
      obtain ⟨k_33, hk_33, ek_33⟩ := way_rng k_1 (by omega)
      have hk_33 : k_33 < 8 := hk_33
      refine tk (y := nI k_33) ek_33 ?_
      refine va_gets (C := "BelfryBox$Processor") (n := "MORE_CYCLES") (d := "[I") hx hb (e_z2 hE) hS X.2.2.2.1 (X.2.2.2.2 _ w_243) (fun _ h9 => h9) dX4_doCode_94 ?_
      refine lv_iload_n hx hb dX4_doCode_97 rfl (lv_at hl 1 rfl) ?_
      refine k_ti X (e_t2 hE) hS (v / 8) (by omega) (by decide) dX4_doCode_98 ?_
      obtain ⟨k_34, hk_34, ek_34⟩ := more_rng (v / 8) (by omega)
      have hk_34 : k_34 < 13 := hk_34
      refine tk (y := nI k_34) ek_34 ?_
      refine lv_iadd hx hb dX4_doCode_99 ?_
      refine tk (y := nI (k_33 + k_34)) (nI_add k_33 k_34) ?_
      exact endI X hr hlocks hP hD hS dX4_doCode_100 ⟨wy2_14, dn2_15, la2_16, ke2_17, f2_18, st2_19, pn2_20, wt2_21, rg2_22, pa2_23, en2_24, ct2_25, (k_33 + k_34), rfl, (by omega), (by omega), hf_28, hf_29, hf_30, hf_31, hf_32, (by omega), rfl⟩
    · have nc_48_5 : (v / 8) < 16 := Nat.not_le.mp (fun q => c_48_5 ((nI_leI (a := 16) (b := v / 8) (by omega) (by omega)).mpr q))
      refine lv_aload_n hx hb dX4_doCode_51 rfl (lv_at hl 2 rfl) ?_
      refine lv_iload_n hx hb dX4_doCode_52 rfl (lv_at hl 1 rfl) ?_
      refine lv_iload_n hx hb dX4_doCode_53 rfl (lv_at hl 0 rfl) ?_
      refine lv_if_ne (tgt := 64) hx hb dX4_doCode_54 (by decide) (fun c_54_35 => ?_) (fun c_54_35 => ?_)
      · have nc_54_35 : ¬ k_1 = 0 := fun q => c_54_35 ((nI_eq (a := k_1) (b := 0) (by omega) (by omega)).mpr q)
        refine lv_aload_n hx hb dX4_doCode_64 rfl (lv_at hl 2 rfl) ?_
        refine lv_aload_n hx hb dX4_doCode_65 rfl (lv_at hl 2 rfl) ?_
        refine lv_iload_n hx hb dX4_doCode_66 rfl (lv_at hl 0 rfl) ?_
        refine kVi (n3 := 1) (As := [.int (nI k_1)]) (rest := [.ref h0, .int (nI (v / 8)), .ref h0]) X hl.1 hE hP hD hS hA [(h0, .inr (4, [.ref hn, .ref hs, .ref hd, .ref hp, .ref hc, .int wy, .int dn])), (hn, .inl (cA, 34, .inl f)), (hs, .inl (cA, 4096, .inl st))] [(hd, .inr (1, [.ref hn, .ref h1, .ref h2, .ref h3, .ref h4])), (hp, .inr (3, [.ref he, .int (nI la), .int (nI ke)])), (h1, .inl (cA, 64, .inl pn)), (h2, .inl (cA, 16, .inl wt)), (h3, .inl (cA, 900, .inl rg)), (h4, .inl (cA, 200, .inl pa)), (he, .inl (cA, 10752, .inl en)), (hc, .inl (cA, 257, .inl ct))] [0, 3, 4] [1, 2, 5, 6, 7, 8, 9, 10] rfl rfl rfl (by decide +kernel) (by decide +kernel) (by decide +kernel) (c_s_findAddress l D cA cB h0 hn hs hd hp hc wy dn f st k_1 hf hst (by first | assumption | decide | rfl | omega)) w_235 w_66 w_234 w_236 w_237 0 (ci := 4) (T := TX4) (N := 7) rfl rfl (by decide +kernel) rfl rfl (Nat.le_of_ble_eq_true rfl) ⟨(Nat.le_of_ble_eq_true rfl), (Nat.le_of_ble_eq_true rfl)⟩ ⟨(Nat.le_of_ble_eq_true rfl), (Nat.le_of_ble_eq_true rfl)⟩ dX4_doCode_67 (fun r W1 H locs hw hP hD hS => ?_)
        obtain ⟨wy2_36, dn2_37, f2_38, st2_39, rk_40, rfl, hf_41, hf_42, hf_43, rfl⟩ := hw
        have hP : va_P D classes [(hd, .inr (1, [.ref hn, .ref h1, .ref h2, .ref h3, .ref h4])), (hp, .inr (3, [.ref he, .int (nI la), .int (nI ke)])), (h1, .inl (cA, 64, .inl pn)), (h2, .inl (cA, 16, .inl wt)), (h3, .inl (cA, 900, .inl rg)), (h4, .inl (cA, 200, .inl pa)), (he, .inl (cA, 10752, .inl en)), (hc, .inl (cA, 257, .inl ct)), (h0, .inr (4, [.ref hn, .ref hs, .ref hd, .ref hp, .ref hc, .int wy2_36, .int dn2_37])), (hn, .inl (cA, 34, .inl f2_38)), (hs, .inl (cA, 4096, .inl st2_39))] H := hP
        have hD : va_D A [(hd, .inr (1, [.ref hn, .ref h1, .ref h2, .ref h3, .ref h4])), (hp, .inr (3, [.ref he, .int (nI la), .int (nI ke)])), (h1, .inl (cA, 64, .inl pn)), (h2, .inl (cA, 16, .inl wt)), (h3, .inl (cA, 900, .inl rg)), (h4, .inl (cA, 200, .inl pa)), (he, .inl (cA, 10752, .inl en)), (hc, .inl (cA, 257, .inl ct)), (h0, .inr (4, [.ref hn, .ref hs, .ref hd, .ref hp, .ref hc, .int wy2_36, .int dn2_37])), (hn, .inl (cA, 34, .inl f2_38)), (hs, .inl (cA, 4096, .inl st2_39))] := hD
        refine kVi (n3 := 1) (As := [.int (nI rk_40)]) (rest := [.int (nI (v / 8)), .ref h0]) X hl.1 hE hP hD hS hA [(h0, .inr (4, [.ref hn, .ref hs, .ref hd, .ref hp, .ref hc, .int wy2_36, .int dn2_37])), (hd, .inr (1, [.ref hn, .ref h1, .ref h2, .ref h3, .ref h4])), (hp, .inr (3, [.ref he, .int (nI la), .int (nI ke)])), (hn, .inl (cA, 34, .inl f2_38)), (hs, .inl (cA, 4096, .inl st2_39)), (h1, .inl (cA, 64, .inl pn)), (h2, .inl (cA, 16, .inl wt)), (h3, .inl (cA, 900, .inl rg)), (h4, .inl (cA, 200, .inl pa)), (he, .inl (cA, 10752, .inl en)), (hc, .inl (cA, 257, .inl ct))] [] [8, 0, 1, 9, 10, 2, 3, 4, 5, 6, 7] [] rfl rfl rfl (by decide +kernel) (by decide +kernel) (by decide +kernel) (c_s_readAt l D cA cB h0 hn hs hd hp hc h1 h2 h3 h4 he wy2_36 dn2_37 la ke f2_38 st2_39 pn wt rg pa en ct rk_40 (by first | assumption | decide | rfl | omega) (by first | assumption | decide | rfl | omega) hf_41 hf_42 hpn hwt hen (by first | assumption | decide | rfl | omega)) w_189 w_66 w_188 w_190 w_191 0 (ci := 4) (T := TX4) (N := 7) rfl rfl (by decide +kernel) rfl rfl (Nat.le_of_ble_eq_true rfl) ⟨(Nat.le_of_ble_eq_true rfl), (Nat.le_of_ble_eq_true rfl)⟩ ⟨(Nat.le_of_ble_eq_true rfl), (Nat.le_of_ble_eq_true rfl)⟩ dX4_doCode_70 (fun r W1 H locs hw hP hD hS => ?_)
        obtain ⟨wy2_44, dn2_45, la2_46, ke2_47, f2_48, st2_49, pn2_50, wt2_51, rg2_52, pa2_53, en2_54, ct2_55, rk_56, rfl, hf_57, hf_58, hf_59, hf_60, hf_61, hf_62, hf_63, hf_64, rfl⟩ := hw
        have hP : va_P D classes [(h0, .inr (4, [.ref hn, .ref hs, .ref hd, .ref hp, .ref hc, .int wy2_44, .int dn2_45])), (hd, .inr (1, [.ref hn, .ref h1, .ref h2, .ref h3, .ref h4])), (hp, .inr (3, [.ref he, .int (nI la2_46), .int (nI ke2_47)])), (hn, .inl (cA, 34, .inl f2_48)), (hs, .inl (cA, 4096, .inl st2_49)), (h1, .inl (cA, 64, .inl pn2_50)), (h2, .inl (cA, 16, .inl wt2_51)), (h3, .inl (cA, 900, .inl rg2_52)), (h4, .inl (cA, 200, .inl pa2_53)), (he, .inl (cA, 10752, .inl en2_54)), (hc, .inl (cA, 257, .inl ct2_55))] H := hP
        have hD : va_D A [(h0, .inr (4, [.ref hn, .ref hs, .ref hd, .ref hp, .ref hc, .int wy2_44, .int dn2_45])), (hd, .inr (1, [.ref hn, .ref h1, .ref h2, .ref h3, .ref h4])), (hp, .inr (3, [.ref he, .int (nI la2_46), .int (nI ke2_47)])), (hn, .inl (cA, 34, .inl f2_48)), (hs, .inl (cA, 4096, .inl st2_49)), (h1, .inl (cA, 64, .inl pn2_50)), (h2, .inl (cA, 16, .inl wt2_51)), (h3, .inl (cA, 900, .inl rg2_52)), (h4, .inl (cA, 200, .inl pa2_53)), (he, .inl (cA, 10752, .inl en2_54)), (hc, .inl (cA, 257, .inl ct2_55))] := hD
        refine kVv (n3 := 2) (As := [.int (nI (v / 8)), .int (nI rk_56)]) (rest := []) X hl.1 hE hP hD hS hA [(h0, .inr (4, [.ref hn, .ref hs, .ref hd, .ref hp, .ref hc, .int wy2_44, .int dn2_45])), (hn, .inl (cA, 34, .inl f2_48))] [(hd, .inr (1, [.ref hn, .ref h1, .ref h2, .ref h3, .ref h4])), (hp, .inr (3, [.ref he, .int (nI la2_46), .int (nI ke2_47)])), (hs, .inl (cA, 4096, .inl st2_49)), (h1, .inl (cA, 64, .inl pn2_50)), (h2, .inl (cA, 16, .inl wt2_51)), (h3, .inl (cA, 900, .inl rg2_52)), (h4, .inl (cA, 200, .inl pa2_53)), (he, .inl (cA, 10752, .inl en2_54)), (hc, .inl (cA, 257, .inl ct2_55))] [0, 3] [1, 2, 4, 5, 6, 7, 8, 9, 10] rfl rfl rfl (by decide +kernel) (by decide +kernel) (by decide +kernel) (c_s_useValue l D cA cB h0 hn hs hd hp hc wy2_44 dn2_45 f2_48 (v / 8) rk_56 hf_59 (by first | assumption | decide | rfl | omega) (by first | assumption | decide | rfl | omega)) w_245 w_66 w_244 w_246 w_247 0 (ci := 4) (T := TX4) (N := 7) rfl rfl (by decide +kernel) rfl rfl (Nat.le_of_ble_eq_true rfl) ⟨(Nat.le_of_ble_eq_true rfl), (Nat.le_of_ble_eq_true rfl)⟩ ⟨(Nat.le_of_ble_eq_true rfl), (Nat.le_of_ble_eq_true rfl)⟩ dX4_doCode_73 (fun W1 H locs hw hP hD hS => ?_)
        obtain ⟨wy2_65, dn2_66, f2_67, hf_68, rfl⟩ := hw
        have hP : va_P D classes [(hd, .inr (1, [.ref hn, .ref h1, .ref h2, .ref h3, .ref h4])), (hp, .inr (3, [.ref he, .int (nI la2_46), .int (nI ke2_47)])), (hs, .inl (cA, 4096, .inl st2_49)), (h1, .inl (cA, 64, .inl pn2_50)), (h2, .inl (cA, 16, .inl wt2_51)), (h3, .inl (cA, 900, .inl rg2_52)), (h4, .inl (cA, 200, .inl pa2_53)), (he, .inl (cA, 10752, .inl en2_54)), (hc, .inl (cA, 257, .inl ct2_55)), (h0, .inr (4, [.ref hn, .ref hs, .ref hd, .ref hp, .ref hc, .int wy2_65, .int dn2_66])), (hn, .inl (cA, 34, .inl f2_67))] H := hP
        have hD : va_D A [(hd, .inr (1, [.ref hn, .ref h1, .ref h2, .ref h3, .ref h4])), (hp, .inr (3, [.ref he, .int (nI la2_46), .int (nI ke2_47)])), (hs, .inl (cA, 4096, .inl st2_49)), (h1, .inl (cA, 64, .inl pn2_50)), (h2, .inl (cA, 16, .inl wt2_51)), (h3, .inl (cA, 900, .inl rg2_52)), (h4, .inl (cA, 200, .inl pa2_53)), (he, .inl (cA, 10752, .inl en2_54)), (hc, .inl (cA, 257, .inl ct2_55)), (h0, .inr (4, [.ref hn, .ref hs, .ref hd, .ref hp, .ref hc, .int wy2_65, .int dn2_66])), (hn, .inl (cA, 34, .inl f2_67))] := hD
        refine lv_goto (tgt := 89) hx hb dX4_doCode_76 (by decide) ?_
        refine va_gets (C := "BelfryBox$Processor") (n := "WAY_CYCLES") (d := "[I") hx hb (e_z1 hE) hS X.2.2.2.1 (X.2.2.2.2 _ w_242) (fun _ h9 => h9) dX4_doCode_89 ?_
        refine lv_iload_n hx hb dX4_doCode_92 rfl (lv_at hl 0 rfl) ?_
        refine k_ti X (e_t1 hE) hS k_1 (by omega) (by decide) dX4_doCode_93 ?_
        obtain ⟨k_69, hk_69, ek_69⟩ := way_rng k_1 (by omega)
        have hk_69 : k_69 < 8 := hk_69
        refine tk (y := nI k_69) ek_69 ?_
        refine va_gets (C := "BelfryBox$Processor") (n := "MORE_CYCLES") (d := "[I") hx hb (e_z2 hE) hS X.2.2.2.1 (X.2.2.2.2 _ w_243) (fun _ h9 => h9) dX4_doCode_94 ?_
        refine lv_iload_n hx hb dX4_doCode_97 rfl (lv_at hl 1 rfl) ?_
        refine k_ti X (e_t2 hE) hS (v / 8) (by omega) (by decide) dX4_doCode_98 ?_
        obtain ⟨k_70, hk_70, ek_70⟩ := more_rng (v / 8) (by omega)
        have hk_70 : k_70 < 13 := hk_70
        refine tk (y := nI k_70) ek_70 ?_
        refine lv_iadd hx hb dX4_doCode_99 ?_
        refine tk (y := nI (k_69 + k_70)) (nI_add k_69 k_70) ?_
        have hP : va_P D classes [(h0, .inr (4, [.ref hn, .ref hs, .ref hd, .ref hp, .ref hc, .int wy2_65, .int dn2_66])), (hd, .inr (1, [.ref hn, .ref h1, .ref h2, .ref h3, .ref h4])), (hp, .inr (3, [.ref he, .int (nI la2_46), .int (nI ke2_47)])), (hn, .inl (cA, 34, .inl f2_67)), (hs, .inl (cA, 4096, .inl st2_49)), (h1, .inl (cA, 64, .inl pn2_50)), (h2, .inl (cA, 16, .inl wt2_51)), (h3, .inl (cA, 900, .inl rg2_52)), (h4, .inl (cA, 200, .inl pa2_53)), (he, .inl (cA, 10752, .inl en2_54)), (hc, .inl (cA, 257, .inl ct2_55))] _ := hP.sub [9, 0, 1, 10, 2, 3, 4, 5, 6, 7, 8] rfl
        have hD : va_D A [(h0, .inr (4, [.ref hn, .ref hs, .ref hd, .ref hp, .ref hc, .int wy2_65, .int dn2_66])), (hd, .inr (1, [.ref hn, .ref h1, .ref h2, .ref h3, .ref h4])), (hp, .inr (3, [.ref he, .int (nI la2_46), .int (nI ke2_47)])), (hn, .inl (cA, 34, .inl f2_67)), (hs, .inl (cA, 4096, .inl st2_49)), (h1, .inl (cA, 64, .inl pn2_50)), (h2, .inl (cA, 16, .inl wt2_51)), (h3, .inl (cA, 900, .inl rg2_52)), (h4, .inl (cA, 200, .inl pa2_53)), (he, .inl (cA, 10752, .inl en2_54)), (hc, .inl (cA, 257, .inl ct2_55))] := hD.sub [9, 0, 1, 10, 2, 3, 4, 5, 6, 7, 8] (by decide) rfl
        exact endI X hr hlocks hP hD hS dX4_doCode_100 ⟨wy2_65, dn2_66, la2_46, ke2_47, f2_67, st2_49, pn2_50, wt2_51, rg2_52, pa2_53, en2_54, ct2_55, (k_69 + k_70), rfl, (by omega), (by omega), hf_68, hf_60, hf_61, hf_62, hf_63, (by omega), rfl⟩
      · have nc_54_35 : k_1 = 0 := (nI_eq (a := k_1) (b := 0) (by omega) (by omega)).mp c_54_35
        refine lv_aload_n hx hb dX4_doCode_57 rfl (lv_at hl 2 rfl) ?_
        refine kVi (n3 := 0) (As := []) (rest := [.int (nI (v / 8)), .ref h0]) X hl.1 hE hP hD hS hA [(h0, .inr (4, [.ref hn, .ref hs, .ref hd, .ref hp, .ref hc, .int wy, .int dn])), (hn, .inl (cA, 34, .inl f)), (hs, .inl (cA, 4096, .inl st))] [(hd, .inr (1, [.ref hn, .ref h1, .ref h2, .ref h3, .ref h4])), (hp, .inr (3, [.ref he, .int (nI la), .int (nI ke)])), (h1, .inl (cA, 64, .inl pn)), (h2, .inl (cA, 16, .inl wt)), (h3, .inl (cA, 900, .inl rg)), (h4, .inl (cA, 200, .inl pa)), (he, .inl (cA, 10752, .inl en)), (hc, .inl (cA, 257, .inl ct))] [0, 3, 4] [1, 2, 5, 6, 7, 8, 9, 10] rfl rfl rfl (by decide +kernel) (by decide +kernel) (by decide +kernel) (c_s_takeByte l D cA cB h0 hn hs hd hp hc wy dn f st hf hst) w_71 w_66 w_70 w_72 w_73 0 (ci := 4) (T := TX4) (N := 7) rfl rfl (by decide +kernel) rfl rfl (Nat.le_of_ble_eq_true rfl) ⟨(Nat.le_of_ble_eq_true rfl), (Nat.le_of_ble_eq_true rfl)⟩ ⟨(Nat.le_of_ble_eq_true rfl), (Nat.le_of_ble_eq_true rfl)⟩ dX4_doCode_58 (fun r W1 H locs hw hP hD hS => ?_)
        obtain ⟨wy2_71, dn2_72, f2_73, st2_74, rk_75, rfl, hf_76, hf_77, hf_78, rfl⟩ := hw
        have hP : va_P D classes [(hd, .inr (1, [.ref hn, .ref h1, .ref h2, .ref h3, .ref h4])), (hp, .inr (3, [.ref he, .int (nI la), .int (nI ke)])), (h1, .inl (cA, 64, .inl pn)), (h2, .inl (cA, 16, .inl wt)), (h3, .inl (cA, 900, .inl rg)), (h4, .inl (cA, 200, .inl pa)), (he, .inl (cA, 10752, .inl en)), (hc, .inl (cA, 257, .inl ct)), (h0, .inr (4, [.ref hn, .ref hs, .ref hd, .ref hp, .ref hc, .int wy2_71, .int dn2_72])), (hn, .inl (cA, 34, .inl f2_73)), (hs, .inl (cA, 4096, .inl st2_74))] H := hP
        have hD : va_D A [(hd, .inr (1, [.ref hn, .ref h1, .ref h2, .ref h3, .ref h4])), (hp, .inr (3, [.ref he, .int (nI la), .int (nI ke)])), (h1, .inl (cA, 64, .inl pn)), (h2, .inl (cA, 16, .inl wt)), (h3, .inl (cA, 900, .inl rg)), (h4, .inl (cA, 200, .inl pa)), (he, .inl (cA, 10752, .inl en)), (hc, .inl (cA, 257, .inl ct)), (h0, .inr (4, [.ref hn, .ref hs, .ref hd, .ref hp, .ref hc, .int wy2_71, .int dn2_72])), (hn, .inl (cA, 34, .inl f2_73)), (hs, .inl (cA, 4096, .inl st2_74))] := hD
        refine lv_goto (tgt := 73) hx hb dX4_doCode_61 (by decide) ?_
        refine kVv (n3 := 2) (As := [.int (nI (v / 8)), .int (nI rk_75)]) (rest := []) X hl.1 hE hP hD hS hA [(h0, .inr (4, [.ref hn, .ref hs, .ref hd, .ref hp, .ref hc, .int wy2_71, .int dn2_72])), (hn, .inl (cA, 34, .inl f2_73))] [(hd, .inr (1, [.ref hn, .ref h1, .ref h2, .ref h3, .ref h4])), (hp, .inr (3, [.ref he, .int (nI la), .int (nI ke)])), (h1, .inl (cA, 64, .inl pn)), (h2, .inl (cA, 16, .inl wt)), (h3, .inl (cA, 900, .inl rg)), (h4, .inl (cA, 200, .inl pa)), (he, .inl (cA, 10752, .inl en)), (hc, .inl (cA, 257, .inl ct)), (hs, .inl (cA, 4096, .inl st2_74))] [8, 9] [0, 1, 2, 3, 4, 5, 6, 7, 10] rfl rfl rfl (by decide +kernel) (by decide +kernel) (by decide +kernel) (c_s_useValue l D cA cB h0 hn hs hd hp hc wy2_71 dn2_72 f2_73 (v / 8) rk_75 hf_76 (by first | assumption | decide | rfl | omega) (by first | assumption | decide | rfl | omega)) w_245 w_66 w_244 w_246 w_247 0 (ci := 4) (T := TX4) (N := 7) rfl rfl (by decide +kernel) rfl rfl (Nat.le_of_ble_eq_true rfl) ⟨(Nat.le_of_ble_eq_true rfl), (Nat.le_of_ble_eq_true rfl)⟩ ⟨(Nat.le_of_ble_eq_true rfl), (Nat.le_of_ble_eq_true rfl)⟩ dX4_doCode_73 (fun W1 H locs hw hP hD hS => ?_)
        obtain ⟨wy2_79, dn2_80, f2_81, hf_82, rfl⟩ := hw
        have hP : va_P D classes [(hd, .inr (1, [.ref hn, .ref h1, .ref h2, .ref h3, .ref h4])), (hp, .inr (3, [.ref he, .int (nI la), .int (nI ke)])), (h1, .inl (cA, 64, .inl pn)), (h2, .inl (cA, 16, .inl wt)), (h3, .inl (cA, 900, .inl rg)), (h4, .inl (cA, 200, .inl pa)), (he, .inl (cA, 10752, .inl en)), (hc, .inl (cA, 257, .inl ct)), (hs, .inl (cA, 4096, .inl st2_74)), (h0, .inr (4, [.ref hn, .ref hs, .ref hd, .ref hp, .ref hc, .int wy2_79, .int dn2_80])), (hn, .inl (cA, 34, .inl f2_81))] H := hP
        have hD : va_D A [(hd, .inr (1, [.ref hn, .ref h1, .ref h2, .ref h3, .ref h4])), (hp, .inr (3, [.ref he, .int (nI la), .int (nI ke)])), (h1, .inl (cA, 64, .inl pn)), (h2, .inl (cA, 16, .inl wt)), (h3, .inl (cA, 900, .inl rg)), (h4, .inl (cA, 200, .inl pa)), (he, .inl (cA, 10752, .inl en)), (hc, .inl (cA, 257, .inl ct)), (hs, .inl (cA, 4096, .inl st2_74)), (h0, .inr (4, [.ref hn, .ref hs, .ref hd, .ref hp, .ref hc, .int wy2_79, .int dn2_80])), (hn, .inl (cA, 34, .inl f2_81))] := hD
        refine lv_goto (tgt := 89) hx hb dX4_doCode_76 (by decide) ?_
        refine va_gets (C := "BelfryBox$Processor") (n := "WAY_CYCLES") (d := "[I") hx hb (e_z1 hE) hS X.2.2.2.1 (X.2.2.2.2 _ w_242) (fun _ h9 => h9) dX4_doCode_89 ?_
        refine lv_iload_n hx hb dX4_doCode_92 rfl (lv_at hl 0 rfl) ?_
        refine k_ti X (e_t1 hE) hS k_1 (by omega) (by decide) dX4_doCode_93 ?_
        obtain ⟨k_83, hk_83, ek_83⟩ := way_rng k_1 (by omega)
        have hk_83 : k_83 < 8 := hk_83
        refine tk (y := nI k_83) ek_83 ?_
        refine va_gets (C := "BelfryBox$Processor") (n := "MORE_CYCLES") (d := "[I") hx hb (e_z2 hE) hS X.2.2.2.1 (X.2.2.2.2 _ w_243) (fun _ h9 => h9) dX4_doCode_94 ?_
        refine lv_iload_n hx hb dX4_doCode_97 rfl (lv_at hl 1 rfl) ?_
        refine k_ti X (e_t2 hE) hS (v / 8) (by omega) (by decide) dX4_doCode_98 ?_
        obtain ⟨k_84, hk_84, ek_84⟩ := more_rng (v / 8) (by omega)
        have hk_84 : k_84 < 13 := hk_84
        refine tk (y := nI k_84) ek_84 ?_
        refine lv_iadd hx hb dX4_doCode_99 ?_
        refine tk (y := nI (k_83 + k_84)) (nI_add k_83 k_84) ?_
        have hP : va_P D classes [(h0, .inr (4, [.ref hn, .ref hs, .ref hd, .ref hp, .ref hc, .int wy2_79, .int dn2_80])), (hd, .inr (1, [.ref hn, .ref h1, .ref h2, .ref h3, .ref h4])), (hp, .inr (3, [.ref he, .int (nI la), .int (nI ke)])), (hn, .inl (cA, 34, .inl f2_81)), (hs, .inl (cA, 4096, .inl st2_74)), (h1, .inl (cA, 64, .inl pn)), (h2, .inl (cA, 16, .inl wt)), (h3, .inl (cA, 900, .inl rg)), (h4, .inl (cA, 200, .inl pa)), (he, .inl (cA, 10752, .inl en)), (hc, .inl (cA, 257, .inl ct))] _ := hP.sub [9, 0, 1, 10, 8, 2, 3, 4, 5, 6, 7] rfl
        have hD : va_D A [(h0, .inr (4, [.ref hn, .ref hs, .ref hd, .ref hp, .ref hc, .int wy2_79, .int dn2_80])), (hd, .inr (1, [.ref hn, .ref h1, .ref h2, .ref h3, .ref h4])), (hp, .inr (3, [.ref he, .int (nI la), .int (nI ke)])), (hn, .inl (cA, 34, .inl f2_81)), (hs, .inl (cA, 4096, .inl st2_74)), (h1, .inl (cA, 64, .inl pn)), (h2, .inl (cA, 16, .inl wt)), (h3, .inl (cA, 900, .inl rg)), (h4, .inl (cA, 200, .inl pa)), (he, .inl (cA, 10752, .inl en)), (hc, .inl (cA, 257, .inl ct))] := hD.sub [9, 0, 1, 10, 8, 2, 3, 4, 5, 6, 7] (by decide) rfl
        exact endI X hr hlocks hP hD hS dX4_doCode_100 ⟨wy2_79, dn2_80, la, ke, f2_81, st2_74, pn, wt, rg, pa, en, ct, (k_83 + k_84), rfl, (by omega), (by omega), hf_82, hf_77, hpn, hwt, hen, (by omega), rfl⟩
  · have nc_13_4 : ¬ rk_2 = 0 := fun q => c_13_4 ((nI_eq (a := rk_2) (b := 0) (by omega) (by omega)).mpr q)
    refine lv_aload_n hx hb dX4_doCode_16 rfl (lv_at hl 2 rfl) ?_
    refine kVi (n3 := 0) (As := []) (rest := []) X hl.1 hE hP hD hS hA [(h0, .inr (4, [.ref hn, .ref hs, .ref hd, .ref hp, .ref hc, .int wy, .int dn])), (hn, .inl (cA, 34, .inl f)), (hs, .inl (cA, 4096, .inl st))] [(hd, .inr (1, [.ref hn, .ref h1, .ref h2, .ref h3, .ref h4])), (hp, .inr (3, [.ref he, .int (nI la), .int (nI ke)])), (h1, .inl (cA, 64, .inl pn)), (h2, .inl (cA, 16, .inl wt)), (h3, .inl (cA, 900, .inl rg)), (h4, .inl (cA, 200, .inl pa)), (he, .inl (cA, 10752, .inl en)), (hc, .inl (cA, 257, .inl ct))] [0, 3, 4] [1, 2, 5, 6, 7, 8, 9, 10] rfl rfl rfl (by decide +kernel) (by decide +kernel) (by decide +kernel) (c_s_takeByte l D cA cB h0 hn hs hd hp hc wy dn f st hf hst) w_71 w_66 w_70 w_72 w_73 0 (ci := 4) (T := TX4) (N := 7) rfl rfl (by decide +kernel) rfl rfl (Nat.le_of_ble_eq_true rfl) ⟨(Nat.le_of_ble_eq_true rfl), (Nat.le_of_ble_eq_true rfl)⟩ ⟨(Nat.le_of_ble_eq_true rfl), (Nat.le_of_ble_eq_true rfl)⟩ dX4_doCode_17 (fun r W1 H locs hw hP hD hS => ?_)
    obtain ⟨wy2_85, dn2_86, f2_87, st2_88, rk_89, rfl, hf_90, hf_91, hf_92, rfl⟩ := hw
    have hP : va_P D classes [(hd, .inr (1, [.ref hn, .ref h1, .ref h2, .ref h3, .ref h4])), (hp, .inr (3, [.ref he, .int (nI la), .int (nI ke)])), (h1, .inl (cA, 64, .inl pn)), (h2, .inl (cA, 16, .inl wt)), (h3, .inl (cA, 900, .inl rg)), (h4, .inl (cA, 200, .inl pa)), (he, .inl (cA, 10752, .inl en)), (hc, .inl (cA, 257, .inl ct)), (h0, .inr (4, [.ref hn, .ref hs, .ref hd, .ref hp, .ref hc, .int wy2_85, .int dn2_86])), (hn, .inl (cA, 34, .inl f2_87)), (hs, .inl (cA, 4096, .inl st2_88))] H := hP
    have hD : va_D A [(hd, .inr (1, [.ref hn, .ref h1, .ref h2, .ref h3, .ref h4])), (hp, .inr (3, [.ref he, .int (nI la), .int (nI ke)])), (h1, .inl (cA, 64, .inl pn)), (h2, .inl (cA, 16, .inl wt)), (h3, .inl (cA, 900, .inl rg)), (h4, .inl (cA, 200, .inl pa)), (he, .inl (cA, 10752, .inl en)), (hc, .inl (cA, 257, .inl ct)), (h0, .inr (4, [.ref hn, .ref hs, .ref hd, .ref hp, .ref hc, .int wy2_85, .int dn2_86])), (hn, .inl (cA, 34, .inl f2_87)), (hs, .inl (cA, 4096, .inl st2_88))] := hD
    refine lv_istore (lv' := [(4, .int (nI rk_89)), (3, .int (nI k_1)), (2, .int (nI (v / 8))), (0, .ref h0), (1, .int (nI v))]) hx hb dX4_doCode_20 hl (by decide) rfl (fun ls hl => ?_)
    refine lv_iload_n hx hb dX4_doCode_22 rfl (lv_at hl 2 rfl) ?_
    refine lv_bipush (v := 27) hx hb dX4_doCode_23 (by decide) ?_
    refine lv_icmp_ne (tgt := 37) hx hb dX4_doCode_25 (by decide) (fun c_25_93 => ?_) (fun c_25_93 => ?_)
    · have nc_25_93 : ¬ (v / 8) = 27 := fun q => c_25_93 ((nI_eq (a := v / 8) (b := 27) (by omega) (by omega)).mpr q)
      refine lv_aload_n hx hb dX4_doCode_37 rfl (lv_at hl 3 rfl) ?_
      refine lv_iload_n hx hb dX4_doCode_38 rfl (lv_at hl 2 rfl) ?_
      refine lv_iload hx hb dX4_doCode_39 (lv_at hl 0 rfl) ?_
      refine kVi (n3 := 2) (As := [.int (nI (v / 8)), .int (nI rk_89)]) (rest := []) X hl.1 hE hP hD hS hA [(h0, .inr (4, [.ref hn, .ref hs, .ref hd, .ref hp, .ref hc, .int wy2_85, .int dn2_86])), (hp, .inr (3, [.ref he, .int (nI la), .int (nI ke)])), (hn, .inl (cA, 34, .inl f2_87)), (hs, .inl (cA, 4096, .inl st2_88)), (he, .inl (cA, 10752, .inl en))] [(hd, .inr (1, [.ref hn, .ref h1, .ref h2, .ref h3, .ref h4])), (h1, .inl (cA, 64, .inl pn)), (h2, .inl (cA, 16, .inl wt)), (h3, .inl (cA, 900, .inl rg)), (h4, .inl (cA, 200, .inl pa)), (hc, .inl (cA, 257, .inl ct))] [8, 1, 9, 10, 6] [0, 2, 3, 4, 5, 7] rfl rfl rfl (by decide +kernel) (by decide +kernel) (by decide +kernel) (c_s_doShort l D cA cB h0 hn hs hd hp hc he wy2_85 dn2_86 la ke f2_87 st2_88 en (v / 8) rk_89 (by first | assumption | decide | rfl | omega) (by first | assumption | decide | rfl | omega) hf_90 hf_91 hen (by first | assumption | decide | rfl | omega) (by first | assumption | decide | rfl | omega)) w_249 w_66 w_248 w_250 w_251 0 (ci := 4) (T := TX4) (N := 7) rfl rfl (by decide +kernel) rfl rfl (Nat.le_of_ble_eq_true rfl) ⟨(Nat.le_of_ble_eq_true rfl), (Nat.le_of_ble_eq_true rfl)⟩ ⟨(Nat.le_of_ble_eq_true rfl), (Nat.le_of_ble_eq_true rfl)⟩ dX4_doCode_41 (fun r W1 H locs hw hP hD hS => ?_)
      obtain ⟨wy2_94, dn2_95, la2_96, ke2_97, f2_98, st2_99, en2_100, rk_101, rfl, hf_102, hf_103, hf_104, hf_105, hf_106, hf_107, rfl⟩ := hw
      have hP : va_P D classes [(hd, .inr (1, [.ref hn, .ref h1, .ref h2, .ref h3, .ref h4])), (h1, .inl (cA, 64, .inl pn)), (h2, .inl (cA, 16, .inl wt)), (h3, .inl (cA, 900, .inl rg)), (h4, .inl (cA, 200, .inl pa)), (hc, .inl (cA, 257, .inl ct)), (h0, .inr (4, [.ref hn, .ref hs, .ref hd, .ref hp, .ref hc, .int wy2_94, .int dn2_95])), (hp, .inr (3, [.ref he, .int (nI la2_96), .int (nI ke2_97)])), (hn, .inl (cA, 34, .inl f2_98)), (hs, .inl (cA, 4096, .inl st2_99)), (he, .inl (cA, 10752, .inl en2_100))] H := hP
      have hD : va_D A [(hd, .inr (1, [.ref hn, .ref h1, .ref h2, .ref h3, .ref h4])), (h1, .inl (cA, 64, .inl pn)), (h2, .inl (cA, 16, .inl wt)), (h3, .inl (cA, 900, .inl rg)), (h4, .inl (cA, 200, .inl pa)), (hc, .inl (cA, 257, .inl ct)), (h0, .inr (4, [.ref hn, .ref hs, .ref hd, .ref hp, .ref hc, .int wy2_94, .int dn2_95])), (hp, .inr (3, [.ref he, .int (nI la2_96), .int (nI ke2_97)])), (hn, .inl (cA, 34, .inl f2_98)), (hs, .inl (cA, 4096, .inl st2_99)), (he, .inl (cA, 10752, .inl en2_100))] := hD
      have hP : va_P D classes [(h0, .inr (4, [.ref hn, .ref hs, .ref hd, .ref hp, .ref hc, .int wy2_94, .int dn2_95])), (hd, .inr (1, [.ref hn, .ref h1, .ref h2, .ref h3, .ref h4])), (hp, .inr (3, [.ref he, .int (nI la2_96), .int (nI ke2_97)])), (hn, .inl (cA, 34, .inl f2_98)), (hs, .inl (cA, 4096, .inl st2_99)), (h1, .inl (cA, 64, .inl pn)), (h2, .inl (cA, 16, .inl wt)), (h3, .inl (cA, 900, .inl rg)), (h4, .inl (cA, 200, .inl pa)), (he, .inl (cA, 10752, .inl en2_100)), (hc, .inl (cA, 257, .inl ct))] _ := hP.sub [6, 0, 7, 8, 9, 1, 2, 3, 4, 10, 5] rfl
      have hD : va_D A [(h0, .inr (4, [.ref hn, .ref hs, .ref hd, .ref hp, .ref hc, .int wy2_94, .int dn2_95])), (hd, .inr (1, [.ref hn, .ref h1, .ref h2, .ref h3, .ref h4])), (hp, .inr (3, [.ref he, .int (nI la2_96), .int (nI ke2_97)])), (hn, .inl (cA, 34, .inl f2_98)), (hs, .inl (cA, 4096, .inl st2_99)), (h1, .inl (cA, 64, .inl pn)), (h2, .inl (cA, 16, .inl wt)), (h3, .inl (cA, 900, .inl rg)), (h4, .inl (cA, 200, .inl pa)), (he, .inl (cA, 10752, .inl en2_100)), (hc, .inl (cA, 257, .inl ct))] := hD.sub [6, 0, 7, 8, 9, 1, 2, 3, 4, 10, 5] (by decide) rfl
      exact endI X hr hlocks hP hD hS dX4_doCode_44 ⟨wy2_94, dn2_95, la2_96, ke2_97, f2_98, st2_99, pn, wt, rg, pa, en2_100, ct, rk_101, rfl, (by omega), (by omega), hf_104, hf_105, hpn, hwt, hf_106, (by omega), rfl⟩
    · have nc_25_93 : (v / 8) = 27 := (nI_eq (a := v / 8) (b := 27) (by omega) (by omega)).mp c_25_93
      refine lv_aload_n hx hb dX4_doCode_28 rfl (lv_at hl 3 rfl) ?_
      refine lv_iload hx hb dX4_doCode_29 (lv_at hl 0 rfl) ?_
      refine kVi (n3 := 1) (As := [.int (nI rk_89)]) (rest := []) X hl.1 hE hP hD hS hA [(h0, .inr (4, [.ref hn, .ref hs, .ref hd, .ref hp, .ref hc, .int wy2_85, .int dn2_86])), (hp, .inr (3, [.ref he, .int (nI la), .int (nI ke)])), (hn, .inl (cA, 34, .inl f2_87)), (hs, .inl (cA, 4096, .inl st2_88)), (he, .inl (cA, 10752, .inl en))] [(hd, .inr (1, [.ref hn, .ref h1, .ref h2, .ref h3, .ref h4])), (h1, .inl (cA, 64, .inl pn)), (h2, .inl (cA, 16, .inl wt)), (h3, .inl (cA, 900, .inl rg)), (h4, .inl (cA, 200, .inl pa)), (hc, .inl (cA, 257, .inl ct))] [8, 1, 9, 10, 6] [0, 2, 3, 4, 5, 7] rfl rfl rfl (by decide +kernel) (by decide +kernel) (by decide +kernel) (c_s_doOwn l D cA cB h0 hn hs hd hp hc he wy2_85 dn2_86 la ke f2_87 st2_88 en rk_89 (by first | assumption | decide | rfl | omega) (by first | assumption | decide | rfl | omega) hf_90 hf_91 hen (by first | assumption | decide | rfl | omega)) w_253 w_66 w_252 w_254 w_255 0 (ci := 4) (T := TX4) (N := 7) rfl rfl (by decide +kernel) rfl rfl (Nat.le_of_ble_eq_true rfl) ⟨(Nat.le_of_ble_eq_true rfl), (Nat.le_of_ble_eq_true rfl)⟩ ⟨(Nat.le_of_ble_eq_true rfl), (Nat.le_of_ble_eq_true rfl)⟩ dX4_doCode_31 (fun r W1 H locs hw hP hD hS => ?_)
      obtain ⟨wy2_108, dn2_109, la2_110, ke2_111, f2_112, st2_113, en2_114, rk_115, rfl, hf_116, hf_117, hf_118, hf_119, hf_120, hf_121, rfl⟩ := hw
      have hP : va_P D classes [(hd, .inr (1, [.ref hn, .ref h1, .ref h2, .ref h3, .ref h4])), (h1, .inl (cA, 64, .inl pn)), (h2, .inl (cA, 16, .inl wt)), (h3, .inl (cA, 900, .inl rg)), (h4, .inl (cA, 200, .inl pa)), (hc, .inl (cA, 257, .inl ct)), (h0, .inr (4, [.ref hn, .ref hs, .ref hd, .ref hp, .ref hc, .int wy2_108, .int dn2_109])), (hp, .inr (3, [.ref he, .int (nI la2_110), .int (nI ke2_111)])), (hn, .inl (cA, 34, .inl f2_112)), (hs, .inl (cA, 4096, .inl st2_113)), (he, .inl (cA, 10752, .inl en2_114))] H := hP
      have hD : va_D A [(hd, .inr (1, [.ref hn, .ref h1, .ref h2, .ref h3, .ref h4])), (h1, .inl (cA, 64, .inl pn)), (h2, .inl (cA, 16, .inl wt)), (h3, .inl (cA, 900, .inl rg)), (h4, .inl (cA, 200, .inl pa)), (hc, .inl (cA, 257, .inl ct)), (h0, .inr (4, [.ref hn, .ref hs, .ref hd, .ref hp, .ref hc, .int wy2_108, .int dn2_109])), (hp, .inr (3, [.ref he, .int (nI la2_110), .int (nI ke2_111)])), (hn, .inl (cA, 34, .inl f2_112)), (hs, .inl (cA, 4096, .inl st2_113)), (he, .inl (cA, 10752, .inl en2_114))] := hD
      refine lv_goto (tgt := 44) hx hb dX4_doCode_34 (by decide) ?_
      have hP : va_P D classes [(h0, .inr (4, [.ref hn, .ref hs, .ref hd, .ref hp, .ref hc, .int wy2_108, .int dn2_109])), (hd, .inr (1, [.ref hn, .ref h1, .ref h2, .ref h3, .ref h4])), (hp, .inr (3, [.ref he, .int (nI la2_110), .int (nI ke2_111)])), (hn, .inl (cA, 34, .inl f2_112)), (hs, .inl (cA, 4096, .inl st2_113)), (h1, .inl (cA, 64, .inl pn)), (h2, .inl (cA, 16, .inl wt)), (h3, .inl (cA, 900, .inl rg)), (h4, .inl (cA, 200, .inl pa)), (he, .inl (cA, 10752, .inl en2_114)), (hc, .inl (cA, 257, .inl ct))] _ := hP.sub [6, 0, 7, 8, 9, 1, 2, 3, 4, 10, 5] rfl
      have hD : va_D A [(h0, .inr (4, [.ref hn, .ref hs, .ref hd, .ref hp, .ref hc, .int wy2_108, .int dn2_109])), (hd, .inr (1, [.ref hn, .ref h1, .ref h2, .ref h3, .ref h4])), (hp, .inr (3, [.ref he, .int (nI la2_110), .int (nI ke2_111)])), (hn, .inl (cA, 34, .inl f2_112)), (hs, .inl (cA, 4096, .inl st2_113)), (h1, .inl (cA, 64, .inl pn)), (h2, .inl (cA, 16, .inl wt)), (h3, .inl (cA, 900, .inl rg)), (h4, .inl (cA, 200, .inl pa)), (he, .inl (cA, 10752, .inl en2_114)), (hc, .inl (cA, 257, .inl ct))] := hD.sub [6, 0, 7, 8, 9, 1, 2, 3, 4, 10, 5] (by decide) rfl
      exact endI X hr hlocks hP hD hS dX4_doCode_44 ⟨wy2_108, dn2_109, la2_110, ke2_111, f2_112, st2_113, pn, wt, rg, pa, en2_114, ct, rk_115, rfl, (by omega), (by omega), hf_118, hf_119, hpn, hwt, hf_120, (by omega), rfl⟩
set_option maxHeartbeats 4000000 in
set_option maxRecDepth 100000 in
theorem c_s_doStep (l : Launch) (D : va_G) (cA cB : ClassId) (h0 : Nat) (hn : Nat) (hs : Nat) (hd : Nat) (hp : Nat) (hc : Nat) (h1 : Nat) (h2 : Nat) (h3 : Nat) (h4 : Nat) (he : Nat) (wy : Int32) (dn : Int32) (la : Nat) (ke : Nat) (f : Nat → Int32) (st : Nat → Int32) (pn : Nat → Int32) (wt : Nat → Int32) (rg : Nat → Int32) (pa : Nat → Int32) (en : Nat → Int32) (ct : Nat → Int32) (hla : la < 256) (hke : ke < 257) (hf : okN f) (hst : ∀ j, j < 4096 → ∃ k : Nat, k < 256 ∧ st j = nI k) (hpn : ∀ j, j < 64 → ∃ k : Nat, k < 256 ∧ pn j = nI k) (hwt : ∀ j, j < 16 → ∃ k : Nat, k < 256 ∧ wt j = nI k) (hen : okE en) : CV l yX4_doStep cX4_doStep 3 none 5 113 0 0 D cA cB [.ref h0] [(h0, .inr (4, [.ref hn, .ref hs, .ref hd, .ref hp, .ref hc, .int wy, .int dn])), (hd, .inr (1, [.ref hn, .ref h1, .ref h2, .ref h3, .ref h4])), (hp, .inr (3, [.ref he, .int (nI la), .int (nI ke)])), (hn, .inl (cA, 34, .inl f)), (hs, .inl (cA, 4096, .inl st)), (h1, .inl (cA, 64, .inl pn)), (h2, .inl (cA, 16, .inl wt)), (h3, .inl (cA, 900, .inl rg)), (h4, .inl (cA, 200, .inl pa)), (he, .inl (cA, 10752, .inl en)), (hc, .inl (cA, 257, .inl ct))] (fun W1 => ∃ (wy2 : Int32) (dn2 : Int32) (la2 : Nat) (ke2 : Nat) (f2 : Nat → Int32) (st2 : Nat → Int32) (pn2 : Nat → Int32) (wt2 : Nat → Int32) (rg2 : Nat → Int32) (pa2 : Nat → Int32) (en2 : Nat → Int32) (ct2 : Nat → Int32), (la2 < 256) ∧ (ke2 < 257) ∧ (okN f2) ∧ (∀ j, j < 4096 → ∃ k : Nat, k < 256 ∧ st2 j = nI k) ∧ (∀ j, j < 64 → ∃ k : Nat, k < 256 ∧ pn2 j = nI k) ∧ (∀ j, j < 16 → ∃ k : Nat, k < 256 ∧ wt2 j = nI k) ∧ (okE en2) ∧ W1 = [(h0, .inr (4, [.ref hn, .ref hs, .ref hd, .ref hp, .ref hc, .int wy2, .int dn2])), (hd, .inr (1, [.ref hn, .ref h1, .ref h2, .ref h3, .ref h4])), (hp, .inr (3, [.ref he, .int (nI la2), .int (nI ke2)])), (hn, .inl (cA, 34, .inl f2)), (hs, .inl (cA, 4096, .inl st2)), (h1, .inl (cA, 64, .inl pn2)), (h2, .inl (cA, 16, .inl wt2)), (h3, .inl (cA, 900, .inl rg2)), (h4, .inl (cA, 200, .inl pa2)), (he, .inl (cA, 10752, .inl en2)), (hc, .inl (cA, 257, .inl ct2))]) := by
  refine mkV (lv0 := [(0, .ref h0)]) (by decide) (Nat.le_of_ble_eq_true rfl) rfl ?_
  intro p e s m below meth c A ls X hr hlocks hnm hE hA hP hD hS hl
  have hx := X.1
  have hb := X.2.1
  refine lv_aload_n hx hb dX4_doStep_0 rfl (lv_at hl 0 rfl) ?_
  refine k_get (C := RX4) (T := TX4) (N := 7) (ci := 4) (v := .ref hp) X hE hP 0 rfl rfl iX4 3 (by decide) w_161 rfl dX4_doStep_1 ?_
  refine lv_aload_n hx hb dX4_doStep_4 rfl (lv_at hl 0 rfl) ?_
  refine k_get (C := RX4) (T := TX4) (N := 7) (ci := 4) (v := .ref hn) X hE hP 0 rfl rfl iX4 0 (by decide) w_69 rfl dX4_doStep_5 ?_
  refine kVv (n3 := 1) (As := [.ref hn]) (rest := []) X hl.1 hE hP hD hS hA [(hp, .inr (3, [.ref he, .int (nI la), .int (nI ke)])), (he, .inl (cA, 10752, .inl en)), (hn, .inl (cA, 34, .inl f))] [(h0, .inr (4, [.ref hn, .ref hs, .ref hd, .ref hp, .ref hc, .int wy, .int dn])), (hd, .inr (1, [.ref hn, .ref h1, .ref h2, .ref h3, .ref h4])), (hs, .inl (cA, 4096, .inl st)), (h1, .inl (cA, 64, .inl pn)), (h2, .inl (cA, 16, .inl wt)), (h3, .inl (cA, 900, .inl rg)), (h4, .inl (cA, 200, .inl pa)), (hc, .inl (cA, 257, .inl ct))] [2, 9, 3] [0, 1, 4, 5, 6, 7, 8, 10] rfl rfl rfl (by decide +kernel) (by decide +kernel) (by decide +kernel) (c_s_keep l D cA cB hp he hn la ke en f (by first | assumption | decide | rfl | omega) (by first | assumption | decide | rfl | omega) hen hf) w_257 w_164 w_256 w_258 w_259 0 (ci := 3) (T := TX3) (N := 3) rfl rfl (by decide +kernel) rfl rfl (Nat.le_of_ble_eq_true rfl) ⟨(Nat.le_of_ble_eq_true rfl), (Nat.le_of_ble_eq_true rfl)⟩ ⟨(Nat.le_of_ble_eq_true rfl), (Nat.le_of_ble_eq_true rfl)⟩ dX4_doStep_8 (fun W1 H locs hw hP hD hS => ?_)
  obtain ⟨la2_1, ke2_2, en2_3, f2_4, hf_5, hf_6, hf_7, hf_8, rfl⟩ := hw
  have hP : va_P D classes [(h0, .inr (4, [.ref hn, .ref hs, .ref hd, .ref hp, .ref hc, .int wy, .int dn])), (hd, .inr (1, [.ref hn, .ref h1, .ref h2, .ref h3, .ref h4])), (hs, .inl (cA, 4096, .inl st)), (h1, .inl (cA, 64, .inl pn)), (h2, .inl (cA, 16, .inl wt)), (h3, .inl (cA, 900, .inl rg)), (h4, .inl (cA, 200, .inl pa)), (hc, .inl (cA, 257, .inl ct)), (hp, .inr (3, [.ref he, .int (nI la2_1), .int (nI ke2_2)])), (he, .inl (cA, 10752, .inl en2_3)), (hn, .inl (cA, 34, .inl f2_4))] H := hP
  have hD : va_D A [(h0, .inr (4, [.ref hn, .ref hs, .ref hd, .ref hp, .ref hc, .int wy, .int dn])), (hd, .inr (1, [.ref hn, .ref h1, .ref h2, .ref h3, .ref h4])), (hs, .inl (cA, 4096, .inl st)), (h1, .inl (cA, 64, .inl pn)), (h2, .inl (cA, 16, .inl wt)), (h3, .inl (cA, 900, .inl rg)), (h4, .inl (cA, 200, .inl pa)), (hc, .inl (cA, 257, .inl ct)), (hp, .inr (3, [.ref he, .int (nI la2_1), .int (nI ke2_2)])), (he, .inl (cA, 10752, .inl en2_3)), (hn, .inl (cA, 34, .inl f2_4))] := hD
  refine lv_aload_n hx hb dX4_doStep_11 rfl (lv_at hl 0 rfl) ?_
  refine kVi (n3 := 0) (As := []) (rest := []) X hl.1 hE hP hD hS hA [(h0, .inr (4, [.ref hn, .ref hs, .ref hd, .ref hp, .ref hc, .int wy, .int dn])), (hd, .inr (1, [.ref hn, .ref h1, .ref h2, .ref h3, .ref h4])), (hn, .inl (cA, 34, .inl f2_4)), (h1, .inl (cA, 64, .inl pn)), (h2, .inl (cA, 16, .inl wt)), (h3, .inl (cA, 900, .inl rg)), (h4, .inl (cA, 200, .inl pa))] [(hs, .inl (cA, 4096, .inl st)), (hc, .inl (cA, 257, .inl ct)), (hp, .inr (3, [.ref he, .int (nI la2_1), .int (nI ke2_2)])), (he, .inl (cA, 10752, .inl en2_3))] [0, 1, 10, 3, 4, 5, 6] [2, 7, 8, 9] rfl rfl rfl (by decide +kernel) (by decide +kernel) (by decide +kernel) (c_s_interruptComes l D cA cB h0 hn hs hd hp hc h1 h2 h3 h4 wy dn f2_4 pn wt rg pa hf_8 hpn hwt) w_261 w_66 w_260 w_262 w_263 0 (ci := 4) (T := TX4) (N := 7) rfl rfl (by decide +kernel) rfl rfl (Nat.le_of_ble_eq_true rfl) ⟨(Nat.le_of_ble_eq_true rfl), (Nat.le_of_ble_eq_true rfl)⟩ ⟨(Nat.le_of_ble_eq_true rfl), (Nat.le_of_ble_eq_true rfl)⟩ dX4_doStep_12 (fun r W1 H locs hw hP hD hS => ?_)
  obtain ⟨wy2_9, dn2_10, f2_11, pn2_12, wt2_13, rg2_14, pa2_15, rk_16, rfl, hf_17, hf_18, hf_19, hf_20, rfl⟩ := hw
  have hP : va_P D classes [(hs, .inl (cA, 4096, .inl st)), (hc, .inl (cA, 257, .inl ct)), (hp, .inr (3, [.ref he, .int (nI la2_1), .int (nI ke2_2)])), (he, .inl (cA, 10752, .inl en2_3)), (h0, .inr (4, [.ref hn, .ref hs, .ref hd, .ref hp, .ref hc, .int wy2_9, .int dn2_10])), (hd, .inr (1, [.ref hn, .ref h1, .ref h2, .ref h3, .ref h4])), (hn, .inl (cA, 34, .inl f2_11)), (h1, .inl (cA, 64, .inl pn2_12)), (h2, .inl (cA, 16, .inl wt2_13)), (h3, .inl (cA, 900, .inl rg2_14)), (h4, .inl (cA, 200, .inl pa2_15))] H := hP
  have hD : va_D A [(hs, .inl (cA, 4096, .inl st)), (hc, .inl (cA, 257, .inl ct)), (hp, .inr (3, [.ref he, .int (nI la2_1), .int (nI ke2_2)])), (he, .inl (cA, 10752, .inl en2_3)), (h0, .inr (4, [.ref hn, .ref hs, .ref hd, .ref hp, .ref hc, .int wy2_9, .int dn2_10])), (hd, .inr (1, [.ref hn, .ref h1, .ref h2, .ref h3, .ref h4])), (hn, .inl (cA, 34, .inl f2_11)), (h1, .inl (cA, 64, .inl pn2_12)), (h2, .inl (cA, 16, .inl wt2_13)), (h3, .inl (cA, 900, .inl rg2_14)), (h4, .inl (cA, 200, .inl pa2_15))] := hD
  refine lv_if_eq (tgt := 24) hx hb dX4_doStep_15 (by decide) (fun c_15_21 => ?_) (fun c_15_21 => ?_)
  · have nc_15_21 : rk_16 = 0 := (nI_eq (a := rk_16) (b := 0) (by omega) (by omega)).mp c_15_21
    refine lv_aload_n hx hb dX4_doStep_24 rfl (lv_at hl 0 rfl) ?_
    refine kVi (n3 := 0) (As := []) (rest := []) X hl.1 hE hP hD hS hA [(h0, .inr (4, [.ref hn, .ref hs, .ref hd, .ref hp, .ref hc, .int wy2_9, .int dn2_10])), (hn, .inl (cA, 34, .inl f2_11)), (hs, .inl (cA, 4096, .inl st))] [(hc, .inl (cA, 257, .inl ct)), (hp, .inr (3, [.ref he, .int (nI la2_1), .int (nI ke2_2)])), (he, .inl (cA, 10752, .inl en2_3)), (hd, .inr (1, [.ref hn, .ref h1, .ref h2, .ref h3, .ref h4])), (h1, .inl (cA, 64, .inl pn2_12)), (h2, .inl (cA, 16, .inl wt2_13)), (h3, .inl (cA, 900, .inl rg2_14)), (h4, .inl (cA, 200, .inl pa2_15))] [4, 6, 0] [1, 2, 3, 5, 7, 8, 9, 10] rfl rfl rfl (by decide +kernel) (by decide +kernel) (by decide +kernel) (c_s_takeByte l D cA cB h0 hn hs hd hp hc wy2_9 dn2_10 f2_11 st hf_17 hst) w_71 w_66 w_70 w_72 w_73 0 (ci := 4) (T := TX4) (N := 7) rfl rfl (by decide +kernel) rfl rfl (Nat.le_of_ble_eq_true rfl) ⟨(Nat.le_of_ble_eq_true rfl), (Nat.le_of_ble_eq_true rfl)⟩ ⟨(Nat.le_of_ble_eq_true rfl), (Nat.le_of_ble_eq_true rfl)⟩ dX4_doStep_25 (fun r W1 H locs hw hP hD hS => ?_)
    obtain ⟨wy2_22, dn2_23, f2_24, st2_25, rk_26, rfl, hf_27, hf_28, hf_29, rfl⟩ := hw
    have hP : va_P D classes [(hc, .inl (cA, 257, .inl ct)), (hp, .inr (3, [.ref he, .int (nI la2_1), .int (nI ke2_2)])), (he, .inl (cA, 10752, .inl en2_3)), (hd, .inr (1, [.ref hn, .ref h1, .ref h2, .ref h3, .ref h4])), (h1, .inl (cA, 64, .inl pn2_12)), (h2, .inl (cA, 16, .inl wt2_13)), (h3, .inl (cA, 900, .inl rg2_14)), (h4, .inl (cA, 200, .inl pa2_15)), (h0, .inr (4, [.ref hn, .ref hs, .ref hd, .ref hp, .ref hc, .int wy2_22, .int dn2_23])), (hn, .inl (cA, 34, .inl f2_24)), (hs, .inl (cA, 4096, .inl st2_25))] H := hP
    have hD : va_D A [(hc, .inl (cA, 257, .inl ct)), (hp, .inr (3, [.ref he, .int (nI la2_1), .int (nI ke2_2)])), (he, .inl (cA, 10752, .inl en2_3)), (hd, .inr (1, [.ref hn, .ref h1, .ref h2, .ref h3, .ref h4])), (h1, .inl (cA, 64, .inl pn2_12)), (h2, .inl (cA, 16, .inl wt2_13)), (h3, .inl (cA, 900, .inl rg2_14)), (h4, .inl (cA, 200, .inl pa2_15)), (h0, .inr (4, [.ref hn, .ref hs, .ref hd, .ref hp, .ref hc, .int wy2_22, .int dn2_23])), (hn, .inl (cA, 34, .inl f2_24)), (hs, .inl (cA, 4096, .inl st2_25))] := hD
    refine lv_istore_n (lv' := [(1, .int (nI rk_26)), (0, .ref h0)]) hx hb dX4_doStep_28 rfl hl (by decide) rfl (fun ls hl => ?_)
    refine lv_aload_n hx hb dX4_doStep_29 rfl (lv_at hl 1 rfl) ?_
    refine k_get (C := RX4) (T := TX4) (N := 7) (ci := 4) (v := .ref hp) X hE hP 8 rfl rfl iX4 3 (by decide) w_161 rfl dX4_doStep_30 ?_
    refine lv_iload_n hx hb dX4_doStep_33 rfl (lv_at hl 0 rfl) ?_
    refine kVv (n3 := 1) (As := [.int (nI rk_26)]) (rest := []) X hl.1 hE hP hD hS hA [(hp, .inr (3, [.ref he, .int (nI la2_1), .int (nI ke2_2)])), (he, .inl (cA, 10752, .inl en2_3))] [(hc, .inl (cA, 257, .inl ct)), (hd, .inr (1, [.ref hn, .ref h1, .ref h2, .ref h3, .ref h4])), (h1, .inl (cA, 64, .inl pn2_12)), (h2, .inl (cA, 16, .inl wt2_13)), (h3, .inl (cA, 900, .inl rg2_14)), (h4, .inl (cA, 200, .inl pa2_15)), (h0, .inr (4, [.ref hn, .ref hs, .ref hd, .ref hp, .ref hc, .int wy2_22, .int dn2_23])), (hn, .inl (cA, 34, .inl f2_24)), (hs, .inl (cA, 4096, .inl st2_25))] [1, 2] [0, 3, 4, 5, 6, 7, 8, 9, 10] rfl rfl rfl (by decide +kernel) (by decide +kernel) (by decide +kernel) (c_s_keepCode l D cA cB hp he la2_1 ke2_2 en2_3 rk_26 (by first | assumption | decide | rfl | omega) (by first | assumption | decide | rfl | omega) hf_7 (by first | assumption | decide | rfl | omega)) w_265 w_164 w_264 w_266 w_267 0 (ci := 3) (T := TX3) (N := 3) rfl rfl (by decide +kernel) rfl rfl (Nat.le_of_ble_eq_true rfl) ⟨(Nat.le_of_ble_eq_true rfl), (Nat.le_of_ble_eq_true rfl)⟩ ⟨(Nat.le_of_ble_eq_true rfl), (Nat.le_of_ble_eq_true rfl)⟩ dX4_doStep_34 (fun W1 H locs hw hP hD hS => ?_)
    obtain ⟨la2_30, ke2_31, en2_32, hf_33, hf_34, hf_35, rfl⟩ := hw
    have hP : va_P D classes [(hc, .inl (cA, 257, .inl ct)), (hd, .inr (1, [.ref hn, .ref h1, .ref h2, .ref h3, .ref h4])), (h1, .inl (cA, 64, .inl pn2_12)), (h2, .inl (cA, 16, .inl wt2_13)), (h3, .inl (cA, 900, .inl rg2_14)), (h4, .inl (cA, 200, .inl pa2_15)), (h0, .inr (4, [.ref hn, .ref hs, .ref hd, .ref hp, .ref hc, .int wy2_22, .int dn2_23])), (hn, .inl (cA, 34, .inl f2_24)), (hs, .inl (cA, 4096, .inl st2_25)), (hp, .inr (3, [.ref he, .int (nI la2_30), .int (nI ke2_31)])), (he, .inl (cA, 10752, .inl en2_32))] H := hP
    have hD : va_D A [(hc, .inl (cA, 257, .inl ct)), (hd, .inr (1, [.ref hn, .ref h1, .ref h2, .ref h3, .ref h4])), (h1, .inl (cA, 64, .inl pn2_12)), (h2, .inl (cA, 16, .inl wt2_13)), (h3, .inl (cA, 900, .inl rg2_14)), (h4, .inl (cA, 200, .inl pa2_15)), (h0, .inr (4, [.ref hn, .ref hs, .ref hd, .ref hp, .ref hc, .int wy2_22, .int dn2_23])), (hn, .inl (cA, 34, .inl f2_24)), (hs, .inl (cA, 4096, .inl st2_25)), (hp, .inr (3, [.ref he, .int (nI la2_30), .int (nI ke2_31)])), (he, .inl (cA, 10752, .inl en2_32))] := hD
    refine lv_aload_n hx hb dX4_doStep_37 rfl (lv_at hl 1 rfl) ?_
    refine k_get (C := RX4) (T := TX4) (N := 7) (ci := 4) (v := .ref hc) X hE hP 6 rfl rfl iX4 4 (by decide) w_268 rfl dX4_doStep_38 ?_
    refine lv_iload_n hx hb dX4_doStep_41 rfl (lv_at hl 0 rfl) ?_
    refine lv_dup2_11 hx hb dX4_doStep_42 rfl rfl ?_
    refine k_ald (v := ct rk_26) X hE hP 0 rfl rk_26 rfl (by omega) (by decide) rfl dX4_doStep_43 ?_
    refine lv_iconst (v := 1) hx hb dX4_doStep_44 (by decide) ?_
    refine lv_iadd hx hb dX4_doStep_45 ?_
    refine k_ast X hE hP hD hS 0 rfl rk_26 rfl (by omega) (by decide) [(hc, .inl (cA, 257, .inl (upd ct rk_26 ((ct rk_26) + 1)))), (hd, .inr (1, [.ref hn, .ref h1, .ref h2, .ref h3, .ref h4])), (h1, .inl (cA, 64, .inl pn2_12)), (h2, .inl (cA, 16, .inl wt2_13)), (h3, .inl (cA, 900, .inl rg2_14)), (h4, .inl (cA, 200, .inl pa2_15)), (h0, .inr (4, [.ref hn, .ref hs, .ref hd, .ref hp, .ref hc, .int wy2_22, .int dn2_23])), (hn, .inl (cA, 34, .inl f2_24)), (hs, .inl (cA, 4096, .inl st2_25)), (hp, .inr (3, [.ref he, .int (nI la2_30), .int (nI ke2_31)])), (he, .inl (cA, 10752, .inl en2_32))] rfl dX4_doStep_46 (fun H locs hP hD hS => ?_)
    obtain ⟨g_36, eg_36⟩ : ∃ z, z = upd ct rk_26 ((ct rk_26) + 1) := ⟨_, rfl⟩
    rw [← eg_36] at hP hD
    have hP : va_P D classes [(hc, .inl (cA, 257, .inl g_36)), (hd, .inr (1, [.ref hn, .ref h1, .ref h2, .ref h3, .ref h4])), (h1, .inl (cA, 64, .inl pn2_12)), (h2, .inl (cA, 16, .inl wt2_13)), (h3, .inl (cA, 900, .inl rg2_14)), (h4, .inl (cA, 200, .inl pa2_15)), (h0, .inr (4, [.ref hn, .ref hs, .ref hd, .ref hp, .ref hc, .int wy2_22, .int dn2_23])), (hn, .inl (cA, 34, .inl f2_24)), (hs, .inl (cA, 4096, .inl st2_25)), (hp, .inr (3, [.ref he, .int (nI la2_30), .int (nI ke2_31)])), (he, .inl (cA, 10752, .inl en2_32))] H := hP
    have hD : va_D A [(hc, .inl (cA, 257, .inl g_36)), (hd, .inr (1, [.ref hn, .ref h1, .ref h2, .ref h3, .ref h4])), (h1, .inl (cA, 64, .inl pn2_12)), (h2, .inl (cA, 16, .inl wt2_13)), (h3, .inl (cA, 900, .inl rg2_14)), (h4, .inl (cA, 200, .inl pa2_15)), (h0, .inr (4, [.ref hn, .ref hs, .ref hd, .ref hp, .ref hc, .int wy2_22, .int dn2_23])), (hn, .inl (cA, 34, .inl f2_24)), (hs, .inl (cA, 4096, .inl st2_25)), (hp, .inr (3, [.ref he, .int (nI la2_30), .int (nI ke2_31)])), (he, .inl (cA, 10752, .inl en2_32))] := hD
    refine lv_iload_n hx hb dX4_doStep_47 rfl (lv_at hl 0 rfl) ?_
    refine lv_sipush (v := 256) hx hb dX4_doStep_48 (by decide) ?_
    refine lv_icmp_ne (tgt := 61) hx hb dX4_doStep_51 (by decide) (fun c_51_37 => ?_) (fun c_51_37 => ?_)
    · have nc_51_37 : ¬ rk_26 = 256 := fun q => c_51_37 ((nI_eq (a := rk_26) (b := 256) (by omega) (by omega)).mpr q)
      refine lv_aload_n hx hb dX4_doStep_61 rfl (lv_at hl 1 rfl) ?_
      refine lv_iload_n hx hb dX4_doStep_62 rfl (lv_at hl 0 rfl) ?_
      refine kVi (n3 := 1) (As := [.int (nI rk_26)]) (rest := []) X hl.1 hE hP hD hS hA [(h0, .inr (4, [.ref hn, .ref hs, .ref hd, .ref hp, .ref hc, .int wy2_22, .int dn2_23])), (hd, .inr (1, [.ref hn, .ref h1, .ref h2, .ref h3, .ref h4])), (hp, .inr (3, [.ref he, .int (nI la2_30), .int (nI ke2_31)])), (hn, .inl (cA, 34, .inl f2_24)), (hs, .inl (cA, 4096, .inl st2_25)), (h1, .inl (cA, 64, .inl pn2_12)), (h2, .inl (cA, 16, .inl wt2_13)), (h3, .inl (cA, 900, .inl rg2_14)), (h4, .inl (cA, 200, .inl pa2_15)), (he, .inl (cA, 10752, .inl en2_32)), (hc, .inl (cA, 257, .inl g_36))] [] [6, 1, 9, 7, 8, 2, 3, 4, 5, 10, 0] [] rfl rfl rfl (by decide +kernel) (by decide +kernel) (by decide +kernel) (c_s_doCode l D cA cB h0 hn hs hd hp hc h1 h2 h3 h4 he wy2_22 dn2_23 la2_30 ke2_31 f2_24 st2_25 pn2_12 wt2_13 rg2_14 pa2_15 en2_32 g_36 rk_26 (by first | assumption | decide | rfl | omega) (by first | assumption | decide | rfl | omega) hf_27 hf_28 hf_18 hf_19 hf_35 (by first | assumption | decide | rfl | omega)) w_270 w_66 w_269 w_271 w_272 0 (ci := 4) (T := TX4) (N := 7) rfl rfl (by decide +kernel) rfl rfl (Nat.le_of_ble_eq_true rfl) ⟨(Nat.le_of_ble_eq_true rfl), (Nat.le_of_ble_eq_true rfl)⟩ ⟨(Nat.le_of_ble_eq_true rfl), (Nat.le_of_ble_eq_true rfl)⟩ dX4_doStep_63 (fun r W1 H locs hw hP hD hS => ?_)
      obtain ⟨wy2_38, dn2_39, la2_40, ke2_41, f2_42, st2_43, pn2_44, wt2_45, rg2_46, pa2_47, en2_48, ct2_49, rk_50, rfl, hf_51, hf_52, hf_53, hf_54, hf_55, hf_56, hf_57, hf_58, rfl⟩ := hw
      have hP : va_P D classes [(h0, .inr (4, [.ref hn, .ref hs, .ref hd, .ref hp, .ref hc, .int wy2_38, .int dn2_39])), (hd, .inr (1, [.ref hn, .ref h1, .ref h2, .ref h3, .ref h4])), (hp, .inr (3, [.ref he, .int (nI la2_40), .int (nI ke2_41)])), (hn, .inl (cA, 34, .inl f2_42)), (hs, .inl (cA, 4096, .inl st2_43)), (h1, .inl (cA, 64, .inl pn2_44)), (h2, .inl (cA, 16, .inl wt2_45)), (h3, .inl (cA, 900, .inl rg2_46)), (h4, .inl (cA, 200, .inl pa2_47)), (he, .inl (cA, 10752, .inl en2_48)), (hc, .inl (cA, 257, .inl ct2_49))] H := hP
      have hD : va_D A [(h0, .inr (4, [.ref hn, .ref hs, .ref hd, .ref hp, .ref hc, .int wy2_38, .int dn2_39])), (hd, .inr (1, [.ref hn, .ref h1, .ref h2, .ref h3, .ref h4])), (hp, .inr (3, [.ref he, .int (nI la2_40), .int (nI ke2_41)])), (hn, .inl (cA, 34, .inl f2_42)), (hs, .inl (cA, 4096, .inl st2_43)), (h1, .inl (cA, 64, .inl pn2_44)), (h2, .inl (cA, 16, .inl wt2_45)), (h3, .inl (cA, 900, .inl rg2_46)), (h4, .inl (cA, 200, .inl pa2_47)), (he, .inl (cA, 10752, .inl en2_48)), (hc, .inl (cA, 257, .inl ct2_49))] := hD
      refine lv_istore_n (lv' := [(2, .int (nI rk_50)), (1, .int (nI rk_26)), (0, .ref h0)]) hx hb dX4_doStep_66 rfl hl (by decide) rfl (fun ls hl => ?_)
      refine lv_aload_n hx hb dX4_doStep_67 rfl (lv_at hl 2 rfl) ?_
      refine k_get (C := RX4) (T := TX4) (N := 7) (ci := 4) (v := .ref hd) X hE hP 0 rfl rfl iX4 2 (by decide) w_175 rfl dX4_doStep_68 ?_
      refine lv_iload_n hx hb dX4_doStep_71 rfl (lv_at hl 0 rfl) ?_
      refine kVi (n3 := 1) (As := [.int (nI rk_50)]) (rest := []) X hl.1 hE hP hD hS hA [(hd, .inr (1, [.ref hn, .ref h1, .ref h2, .ref h3, .ref h4])), (hn, .inl (cA, 34, .inl f2_42)), (h1, .inl (cA, 64, .inl pn2_44)), (h2, .inl (cA, 16, .inl wt2_45)), (h3, .inl (cA, 900, .inl rg2_46)), (h4, .inl (cA, 200, .inl pa2_47))] [(h0, .inr (4, [.ref hn, .ref hs, .ref hd, .ref hp, .ref hc, .int wy2_38, .int dn2_39])), (hp, .inr (3, [.ref he, .int (nI la2_40), .int (nI ke2_41)])), (hs, .inl (cA, 4096, .inl st2_43)), (he, .inl (cA, 10752, .inl en2_48)), (hc, .inl (cA, 257, .inl ct2_49))] [1, 3, 5, 6, 7, 8] [0, 2, 4, 9, 10] rfl rfl rfl (by decide +kernel) (by decide +kernel) (by decide +kernel) (c_s_pass l D cA cB hd hn h1 h2 h3 h4 f2_42 pn2_44 wt2_45 rg2_46 pa2_47 rk_50 hf_53 hf_55 hf_56 (by first | assumption | decide | rfl | omega)) w_274 w_9 w_273 w_275 w_276 0 (ci := 1) (T := TX1) (N := 5) rfl rfl (by decide +kernel) rfl rfl (Nat.le_of_ble_eq_true rfl) ⟨(Nat.le_of_ble_eq_true rfl), (Nat.le_of_ble_eq_true rfl)⟩ ⟨(Nat.le_of_ble_eq_true rfl), (Nat.le_of_ble_eq_true rfl)⟩ dX4_doStep_72 (fun r W1 H locs hw hP hD hS => ?_)
      obtain ⟨f2_59, pn2_60, wt2_61, rg2_62, pa2_63, rk_64, rfl, hf_65, hf_66, hf_67, hf_68, rfl⟩ := hw
      have hP : va_P D classes [(h0, .inr (4, [.ref hn, .ref hs, .ref hd, .ref hp, .ref hc, .int wy2_38, .int dn2_39])), (hp, .inr (3, [.ref he, .int (nI la2_40), .int (nI ke2_41)])), (hs, .inl (cA, 4096, .inl st2_43)), (he, .inl (cA, 10752, .inl en2_48)), (hc, .inl (cA, 257, .inl ct2_49)), (hd, .inr (1, [.ref hn, .ref h1, .ref h2, .ref h3, .ref h4])), (hn, .inl (cA, 34, .inl f2_59)), (h1, .inl (cA, 64, .inl pn2_60)), (h2, .inl (cA, 16, .inl wt2_61)), (h3, .inl (cA, 900, .inl rg2_62)), (h4, .inl (cA, 200, .inl pa2_63))] H := hP
      have hD : va_D A [(h0, .inr (4, [.ref hn, .ref hs, .ref hd, .ref hp, .ref hc, .int wy2_38, .int dn2_39])), (hp, .inr (3, [.ref he, .int (nI la2_40), .int (nI ke2_41)])), (hs, .inl (cA, 4096, .inl st2_43)), (he, .inl (cA, 10752, .inl en2_48)), (hc, .inl (cA, 257, .inl ct2_49)), (hd, .inr (1, [.ref hn, .ref h1, .ref h2, .ref h3, .ref h4])), (hn, .inl (cA, 34, .inl f2_59)), (h1, .inl (cA, 64, .inl pn2_60)), (h2, .inl (cA, 16, .inl wt2_61)), (h3, .inl (cA, 900, .inl rg2_62)), (h4, .inl (cA, 200, .inl pa2_63))] := hD
      refine lv_if_eq (tgt := 82) hx hb dX4_doStep_75 (by decide) (fun c_75_69 => ?_) (fun c_75_69 => ?_)
      · have nc_75_69 : rk_64 = 0 := (nI_eq (a := rk_64) (b := 0) (by omega) (by omega)).mp c_75_69
        have hP : va_P D classes [(h0, .inr (4, [.ref hn, .ref hs, .ref hd, .ref hp, .ref hc, .int wy2_38, .int dn2_39])), (hd, .inr (1, [.ref hn, .ref h1, .ref h2, .ref h3, .ref h4])), (hp, .inr (3, [.ref he, .int (nI la2_40), .int (nI ke2_41)])), (hn, .inl (cA, 34, .inl f2_59)), (hs, .inl (cA, 4096, .inl st2_43)), (h1, .inl (cA, 64, .inl pn2_60)), (h2, .inl (cA, 16, .inl wt2_61)), (h3, .inl (cA, 900, .inl rg2_62)), (h4, .inl (cA, 200, .inl pa2_63)), (he, .inl (cA, 10752, .inl en2_48)), (hc, .inl (cA, 257, .inl ct2_49))] _ := hP.sub [0, 5, 1, 6, 2, 7, 8, 9, 10, 3, 4] rfl
        have hD : va_D A [(h0, .inr (4, [.ref hn, .ref hs, .ref hd, .ref hp, .ref hc, .int wy2_38, .int dn2_39])), (hd, .inr (1, [.ref hn, .ref h1, .ref h2, .ref h3, .ref h4])), (hp, .inr (3, [.ref he, .int (nI la2_40), .int (nI ke2_41)])), (hn, .inl (cA, 34, .inl f2_59)), (hs, .inl (cA, 4096, .inl st2_43)), (h1, .inl (cA, 64, .inl pn2_60)), (h2, .inl (cA, 16, .inl wt2_61)), (h3, .inl (cA, 900, .inl rg2_62)), (h4, .inl (cA, 200, .inl pa2_63)), (he, .inl (cA, 10752, .inl en2_48)), (hc, .inl (cA, 257, .inl ct2_49))] := hD.sub [0, 5, 1, 6, 2, 7, 8, 9, 10, 3, 4] (by decide) rfl
        exact endV X hr hlocks hP hD hS dX4_doStep_82 ⟨wy2_38, dn2_39, la2_40, ke2_41, f2_59, st2_43, pn2_60, wt2_61, rg2_62, pa2_63, en2_48, ct2_49, (by omega), (by omega), hf_65, hf_54, hf_66, hf_67, hf_57, rfl⟩
      · have nc_75_69 : ¬ rk_64 = 0 := fun q => c_75_69 ((nI_eq (a := rk_64) (b := 0) (by omega) (by omega)).mpr q)
        refine lv_aload_n hx hb dX4_doStep_78 rfl (lv_at hl 2 rfl) ?_
        refine kVv (n3 := 0) (As := []) (rest := []) X hl.1 hE hP hD hS hA [(h0, .inr (4, [.ref hn, .ref hs, .ref hd, .ref hp, .ref hc, .int wy2_38, .int dn2_39])), (hn, .inl (cA, 34, .inl f2_59)), (hs, .inl (cA, 4096, .inl st2_43))] [(hp, .inr (3, [.ref he, .int (nI la2_40), .int (nI ke2_41)])), (he, .inl (cA, 10752, .inl en2_48)), (hc, .inl (cA, 257, .inl ct2_49)), (hd, .inr (1, [.ref hn, .ref h1, .ref h2, .ref h3, .ref h4])), (h1, .inl (cA, 64, .inl pn2_60)), (h2, .inl (cA, 16, .inl wt2_61)), (h3, .inl (cA, 900, .inl rg2_62)), (h4, .inl (cA, 200, .inl pa2_63))] [0, 6, 2] [1, 3, 4, 5, 7, 8, 9, 10] rfl rfl rfl (by decide +kernel) (by decide +kernel) (by decide +kernel) (c_s_reset l D cA cB h0 hn hs hd hp hc wy2_38 dn2_39 f2_59 st2_43 hf_65 hf_54) w_278 w_66 w_277 w_279 w_280 0 (ci := 4) (T := TX4) (N := 7) rfl rfl (by decide +kernel) rfl rfl (Nat.le_of_ble_eq_true rfl) ⟨(Nat.le_of_ble_eq_true rfl), (Nat.le_of_ble_eq_true rfl)⟩ ⟨(Nat.le_of_ble_eq_true rfl), (Nat.le_of_ble_eq_true rfl)⟩ dX4_doStep_79 (fun W1 H locs hw hP hD hS => ?_)
        obtain ⟨wy2_70, dn2_71, f2_72, st2_73, hf_74, hf_75, rfl⟩ := hw
        have hP : va_P D classes [(hp, .inr (3, [.ref he, .int (nI la2_40), .int (nI ke2_41)])), (he, .inl (cA, 10752, .inl en2_48)), (hc, .inl (cA, 257, .inl ct2_49)), (hd, .inr (1, [.ref hn, .ref h1, .ref h2, .ref h3, .ref h4])), (h1, .inl (cA, 64, .inl pn2_60)), (h2, .inl (cA, 16, .inl wt2_61)), (h3, .inl (cA, 900, .inl rg2_62)), (h4, .inl (cA, 200, .inl pa2_63)), (h0, .inr (4, [.ref hn, .ref hs, .ref hd, .ref hp, .ref hc, .int wy2_70, .int dn2_71])), (hn, .inl (cA, 34, .inl f2_72)), (hs, .inl (cA, 4096, .inl st2_73))] H := hP
        have hD : va_D A [(hp, .inr (3, [.ref he, .int (nI la2_40), .int (nI ke2_41)])), (he, .inl (cA, 10752, .inl en2_48)), (hc, .inl (cA, 257, .inl ct2_49)), (hd, .inr (1, [.ref hn, .ref h1, .ref h2, .ref h3, .ref h4])), (h1, .inl (cA, 64, .inl pn2_60)), (h2, .inl (cA, 16, .inl wt2_61)), (h3, .inl (cA, 900, .inl rg2_62)), (h4, .inl (cA, 200, .inl pa2_63)), (h0, .inr (4, [.ref hn, .ref hs, .ref hd, .ref hp, .ref hc, .int wy2_70, .int dn2_71])), (hn, .inl (cA, 34, .inl f2_72)), (hs, .inl (cA, 4096, .inl st2_73))] := hD
        have hP : va_P D classes [(h0, .inr (4, [.ref hn, .ref hs, .ref hd, .ref hp, .ref hc, .int wy2_70, .int dn2_71])), (hd, .inr (1, [.ref hn, .ref h1, .ref h2, .ref h3, .ref h4])), (hp, .inr (3, [.ref he, .int (nI la2_40), .int (nI ke2_41)])), (hn, .inl (cA, 34, .inl f2_72)), (hs, .inl (cA, 4096, .inl st2_73)), (h1, .inl (cA, 64, .inl pn2_60)), (h2, .inl (cA, 16, .inl wt2_61)), (h3, .inl (cA, 900, .inl rg2_62)), (h4, .inl (cA, 200, .inl pa2_63)), (he, .inl (cA, 10752, .inl en2_48)), (hc, .inl (cA, 257, .inl ct2_49))] _ := hP.sub [8, 3, 0, 9, 10, 4, 5, 6, 7, 1, 2] rfl
        have hD : va_D A [(h0, .inr (4, [.ref hn, .ref hs, .ref hd, .ref hp, .ref hc, .int wy2_70, .int dn2_71])), (hd, .inr (1, [.ref hn, .ref h1, .ref h2, .ref h3, .ref h4])), (hp, .inr (3, [.ref he, .int (nI la2_40), .int (nI ke2_41)])), (hn, .inl (cA, 34, .inl f2_72)), (hs, .inl (cA, 4096, .inl st2_73)), (h1, .inl (cA, 64, .inl pn2_60)), (h2, .inl (cA, 16, .inl wt2_61)), (h3, .inl (cA, 900, .inl rg2_62)), (h4, .inl (cA, 200, .inl pa2_63)), (he, .inl (cA, 10752, .inl en2_48)), (hc, .inl (cA, 257, .inl ct2_49))] := hD.sub [8, 3, 0, 9, 10, 4, 5, 6, 7, 1, 2] (by decide) rfl
        exact endV X hr hlocks hP hD hS dX4_doStep_82 ⟨wy2_70, dn2_71, la2_40, ke2_41, f2_72, st2_73, pn2_60, wt2_61, rg2_62, pa2_63, en2_48, ct2_49, (by omega), (by omega), hf_74, hf_75, hf_66, hf_67, hf_57, rfl⟩
    · have nc_51_37 : rk_26 = 256 := (nI_eq (a := rk_26) (b := 256) (by omega) (by omega)).mp c_51_37
      refine lv_aload_n hx hb dX4_doStep_54 rfl (lv_at hl 1 rfl) ?_
      refine kVi (n3 := 0) (As := []) (rest := []) X hl.1 hE hP hD hS hA [(h0, .inr (4, [.ref hn, .ref hs, .ref hd, .ref hp, .ref hc, .int wy2_22, .int dn2_23])), (hp, .inr (3, [.ref he, .int (nI la2_30), .int (nI ke2_31)])), (hn, .inl (cA, 34, .inl f2_24)), (hs, .inl (cA, 4096, .inl st2_25)), (he, .inl (cA, 10752, .inl en2_32))] [(hc, .inl (cA, 257, .inl g_36)), (hd, .inr (1, [.ref hn, .ref h1, .ref h2, .ref h3, .ref h4])), (h1, .inl (cA, 64, .inl pn2_12)), (h2, .inl (cA, 16, .inl wt2_13)), (h3, .inl (cA, 900, .inl rg2_14)), (h4, .inl (cA, 200, .inl pa2_15))] [6, 9, 7, 8, 10] [0, 1, 2, 3, 4, 5] rfl rfl rfl (by decide +kernel) (by decide +kernel) (by decide +kernel) (c_s_interrupt l D cA cB h0 hn hs hd hp hc he wy2_22 dn2_23 la2_30 ke2_31 f2_24 st2_25 en2_32 (by first | assumption | decide | rfl | omega) (by first | assumption | decide | rfl | omega) hf_27 hf_28 hf_35) w_282 w_66 w_281 w_283 w_284 0 (ci := 4) (T := TX4) (N := 7) rfl rfl (by decide +kernel) rfl rfl (Nat.le_of_ble_eq_true rfl) ⟨(Nat.le_of_ble_eq_true rfl), (Nat.le_of_ble_eq_true rfl)⟩ ⟨(Nat.le_of_ble_eq_true rfl), (Nat.le_of_ble_eq_true rfl)⟩ dX4_doStep_55 (fun r W1 H locs hw hP hD hS => ?_)
      obtain ⟨wy2_76, dn2_77, la2_78, ke2_79, f2_80, st2_81, en2_82, rk_83, rfl, hf_84, hf_85, hf_86, hf_87, hf_88, hf_89, rfl⟩ := hw
      have hP : va_P D classes [(hc, .inl (cA, 257, .inl g_36)), (hd, .inr (1, [.ref hn, .ref h1, .ref h2, .ref h3, .ref h4])), (h1, .inl (cA, 64, .inl pn2_12)), (h2, .inl (cA, 16, .inl wt2_13)), (h3, .inl (cA, 900, .inl rg2_14)), (h4, .inl (cA, 200, .inl pa2_15)), (h0, .inr (4, [.ref hn, .ref hs, .ref hd, .ref hp, .ref hc, .int wy2_76, .int dn2_77])), (hp, .inr (3, [.ref he, .int (nI la2_78), .int (nI ke2_79)])), (hn, .inl (cA, 34, .inl f2_80)), (hs, .inl (cA, 4096, .inl st2_81)), (he, .inl (cA, 10752, .inl en2_82))] H := hP
      have hD : va_D A [(hc, .inl (cA, 257, .inl g_36)), (hd, .inr (1, [.ref hn, .ref h1, .ref h2, .ref h3, .ref h4])), (h1, .inl (cA, 64, .inl pn2_12)), (h2, .inl (cA, 16, .inl wt2_13)), (h3, .inl (cA, 900, .inl rg2_14)), (h4, .inl (cA, 200, .inl pa2_15)), (h0, .inr (4, [.ref hn, .ref hs, .ref hd, .ref hp, .ref hc, .int wy2_76, .int dn2_77])), (hp, .inr (3, [.ref he, .int (nI la2_78), .int (nI ke2_79)])), (hn, .inl (cA, 34, .inl f2_80)), (hs, .inl (cA, 4096, .inl st2_81)), (he, .inl (cA, 10752, .inl en2_82))] := hD
      refine lv_goto (tgt := 66) hx hb dX4_doStep_58 (by decide) ?_
      refine lv_istore_n (lv' := [(2, .int (nI rk_83)), (1, .int (nI rk_26)), (0, .ref h0)]) hx hb dX4_doStep_66 rfl hl (by decide) rfl (fun ls hl => ?_)
      refine lv_aload_n hx hb dX4_doStep_67 rfl (lv_at hl 2 rfl) ?_
      refine k_get (C := RX4) (T := TX4) (N := 7) (ci := 4) (v := .ref hd) X hE hP 6 rfl rfl iX4 2 (by decide) w_175 rfl dX4_doStep_68 ?_
      refine lv_iload_n hx hb dX4_doStep_71 rfl (lv_at hl 0 rfl) ?_
      refine kVi (n3 := 1) (As := [.int (nI rk_83)]) (rest := []) X hl.1 hE hP hD hS hA [(hd, .inr (1, [.ref hn, .ref h1, .ref h2, .ref h3, .ref h4])), (hn, .inl (cA, 34, .inl f2_80)), (h1, .inl (cA, 64, .inl pn2_12)), (h2, .inl (cA, 16, .inl wt2_13)), (h3, .inl (cA, 900, .inl rg2_14)), (h4, .inl (cA, 200, .inl pa2_15))] [(hc, .inl (cA, 257, .inl g_36)), (h0, .inr (4, [.ref hn, .ref hs, .ref hd, .ref hp, .ref hc, .int wy2_76, .int dn2_77])), (hp, .inr (3, [.ref he, .int (nI la2_78), .int (nI ke2_79)])), (hs, .inl (cA, 4096, .inl st2_81)), (he, .inl (cA, 10752, .inl en2_82))] [1, 8, 2, 3, 4, 5] [0, 6, 7, 9, 10] rfl rfl rfl (by decide +kernel) (by decide +kernel) (by decide +kernel) (c_s_pass l D cA cB hd hn h1 h2 h3 h4 f2_80 pn2_12 wt2_13 rg2_14 pa2_15 rk_83 hf_86 hf_18 hf_19 (by first | assumption | decide | rfl | omega)) w_274 w_9 w_273 w_275 w_276 0 (ci := 1) (T := TX1) (N := 5) rfl rfl (by decide +kernel) rfl rfl (Nat.le_of_ble_eq_true rfl) ⟨(Nat.le_of_ble_eq_true rfl), (Nat.le_of_ble_eq_true rfl)⟩ ⟨(Nat.le_of_ble_eq_true rfl), (Nat.le_of_ble_eq_true rfl)⟩ dX4_doStep_72 (fun r W1 H locs hw hP hD hS => ?_)
      obtain ⟨f2_90, pn2_91, wt2_92, rg2_93, pa2_94, rk_95, rfl, hf_96, hf_97, hf_98, hf_99, rfl⟩ := hw
      have hP : va_P D classes [(hc, .inl (cA, 257, .inl g_36)), (h0, .inr (4, [.ref hn, .ref hs, .ref hd, .ref hp, .ref hc, .int wy2_76, .int dn2_77])), (hp, .inr (3, [.ref he, .int (nI la2_78), .int (nI ke2_79)])), (hs, .inl (cA, 4096, .inl st2_81)), (he, .inl (cA, 10752, .inl en2_82)), (hd, .inr (1, [.ref hn, .ref h1, .ref h2, .ref h3, .ref h4])), (hn, .inl (cA, 34, .inl f2_90)), (h1, .inl (cA, 64, .inl pn2_91)), (h2, .inl (cA, 16, .inl wt2_92)), (h3, .inl (cA, 900, .inl rg2_93)), (h4, .inl (cA, 200, .inl pa2_94))] H := hP
      have hD : va_D A [(hc, .inl (cA, 257, .inl g_36)), (h0, .inr (4, [.ref hn, .ref hs, .ref hd, .ref hp, .ref hc, .int wy2_76, .int dn2_77])), (hp, .inr (3, [.ref he, .int (nI la2_78), .int (nI ke2_79)])), (hs, .inl (cA, 4096, .inl st2_81)), (he, .inl (cA, 10752, .inl en2_82)), (hd, .inr (1, [.ref hn, .ref h1, .ref h2, .ref h3, .ref h4])), (hn, .inl (cA, 34, .inl f2_90)), (h1, .inl (cA, 64, .inl pn2_91)), (h2, .inl (cA, 16, .inl wt2_92)), (h3, .inl (cA, 900, .inl rg2_93)), (h4, .inl (cA, 200, .inl pa2_94))] := hD
      refine lv_if_eq (tgt := 82) hx hb dX4_doStep_75 (by decide) (fun c_75_100 => ?_) (fun c_75_100 => ?_)
      · have nc_75_100 : rk_95 = 0 := (nI_eq (a := rk_95) (b := 0) (by omega) (by omega)).mp c_75_100
        have hP : va_P D classes [(h0, .inr (4, [.ref hn, .ref hs, .ref hd, .ref hp, .ref hc, .int wy2_76, .int dn2_77])), (hd, .inr (1, [.ref hn, .ref h1, .ref h2, .ref h3, .ref h4])), (hp, .inr (3, [.ref he, .int (nI la2_78), .int (nI ke2_79)])), (hn, .inl (cA, 34, .inl f2_90)), (hs, .inl (cA, 4096, .inl st2_81)), (h1, .inl (cA, 64, .inl pn2_91)), (h2, .inl (cA, 16, .inl wt2_92)), (h3, .inl (cA, 900, .inl rg2_93)), (h4, .inl (cA, 200, .inl pa2_94)), (he, .inl (cA, 10752, .inl en2_82)), (hc, .inl (cA, 257, .inl g_36))] _ := hP.sub [1, 5, 2, 6, 3, 7, 8, 9, 10, 4, 0] rfl
        have hD : va_D A [(h0, .inr (4, [.ref hn, .ref hs, .ref hd, .ref hp, .ref hc, .int wy2_76, .int dn2_77])), (hd, .inr (1, [.ref hn, .ref h1, .ref h2, .ref h3, .ref h4])), (hp, .inr (3, [.ref he, .int (nI la2_78), .int (nI ke2_79)])), (hn, .inl (cA, 34, .inl f2_90)), (hs, .inl (cA, 4096, .inl st2_81)), (h1, .inl (cA, 64, .inl pn2_91)), (h2, .inl (cA, 16, .inl wt2_92)), (h3, .inl (cA, 900, .inl rg2_93)), (h4, .inl (cA, 200, .inl pa2_94)), (he, .inl (cA, 10752, .inl en2_82)), (hc, .inl (cA, 257, .inl g_36))] := hD.sub [1, 5, 2, 6, 3, 7, 8, 9, 10, 4, 0] (by decide) rfl
        exact endV X hr hlocks hP hD hS dX4_doStep_82 ⟨wy2_76, dn2_77, la2_78, ke2_79, f2_90, st2_81, pn2_91, wt2_92, rg2_93, pa2_94, en2_82, g_36, (by omega), (by omega), hf_96, hf_87, hf_97, hf_98, hf_88, rfl⟩
      · have nc_75_100 : ¬ rk_95 = 0 := fun q => c_75_100 ((nI_eq (a := rk_95) (b := 0) (by omega) (by omega)).mpr q)
        refine lv_aload_n hx hb dX4_doStep_78 rfl (lv_at hl 2 rfl) ?_
        refine kVv (n3 := 0) (As := []) (rest := []) X hl.1 hE hP hD hS hA [(h0, .inr (4, [.ref hn, .ref hs, .ref hd, .ref hp, .ref hc, .int wy2_76, .int dn2_77])), (hn, .inl (cA, 34, .inl f2_90)), (hs, .inl (cA, 4096, .inl st2_81))] [(hc, .inl (cA, 257, .inl g_36)), (hp, .inr (3, [.ref he, .int (nI la2_78), .int (nI ke2_79)])), (he, .inl (cA, 10752, .inl en2_82)), (hd, .inr (1, [.ref hn, .ref h1, .ref h2, .ref h3, .ref h4])), (h1, .inl (cA, 64, .inl pn2_91)), (h2, .inl (cA, 16, .inl wt2_92)), (h3, .inl (cA, 900, .inl rg2_93)), (h4, .inl (cA, 200, .inl pa2_94))] [1, 6, 3] [0, 2, 4, 5, 7, 8, 9, 10] rfl rfl rfl (by decide +kernel) (by decide +kernel) (by decide +kernel) (c_s_reset l D cA cB h0 hn hs hd hp hc wy2_76 dn2_77 f2_90 st2_81 hf_96 hf_87) w_278 w_66 w_277 w_279 w_280 0 (ci := 4) (T := TX4) (N := 7) rfl rfl (by decide +kernel) rfl rfl (Nat.le_of_ble_eq_true rfl) ⟨(Nat.le_of_ble_eq_true rfl), (Nat.le_of_ble_eq_true rfl)⟩ ⟨(Nat.le_of_ble_eq_true rfl), (Nat.le_of_ble_eq_true rfl)⟩ dX4_doStep_79 (fun W1 H locs hw hP hD hS => ?_)
        obtain ⟨wy2_101, dn2_102, f2_103, st2_104, hf_105, hf_106, rfl⟩ := hw
        have hP : va_P D classes [(hc, .inl (cA, 257, .inl g_36)), (hp, .inr (3, [.ref he, .int (nI la2_78), .int (nI ke2_79)])), (he, .inl (cA, 10752, .inl en2_82)), (hd, .inr (1, [.ref hn, .ref h1, .ref h2, .ref h3, .ref h4])), (h1, .inl (cA, 64, .inl pn2_91)), (h2, .inl (cA, 16, .inl wt2_92)), (h3, .inl (cA, 900, .inl rg2_93)), (h4, .inl (cA, 200, .inl pa2_94)), (h0, .inr (4, [.ref hn, .ref hs, .ref hd, .ref hp, .ref hc, .int wy2_101, .int dn2_102])), (hn, .inl (cA, 34, .inl f2_103)), (hs, .inl (cA, 4096, .inl st2_104))] H := hP
        have hD : va_D A [(hc, .inl (cA, 257, .inl g_36)), (hp, .inr (3, [.ref he, .int (nI la2_78), .int (nI ke2_79)])), (he, .inl (cA, 10752, .inl en2_82)), (hd, .inr (1, [.ref hn, .ref h1, .ref h2, .ref h3, .ref h4])), (h1, .inl (cA, 64, .inl pn2_91)), (h2, .inl (cA, 16, .inl wt2_92)), (h3, .inl (cA, 900, .inl rg2_93)), (h4, .inl (cA, 200, .inl pa2_94)), (h0, .inr (4, [.ref hn, .ref hs, .ref hd, .ref hp, .ref hc, .int wy2_101, .int dn2_102])), (hn, .inl (cA, 34, .inl f2_103)), (hs, .inl (cA, 4096, .inl st2_104))] := hD
        have hP : va_P D classes [(h0, .inr (4, [.ref hn, .ref hs, .ref hd, .ref hp, .ref hc, .int wy2_101, .int dn2_102])), (hd, .inr (1, [.ref hn, .ref h1, .ref h2, .ref h3, .ref h4])), (hp, .inr (3, [.ref he, .int (nI la2_78), .int (nI ke2_79)])), (hn, .inl (cA, 34, .inl f2_103)), (hs, .inl (cA, 4096, .inl st2_104)), (h1, .inl (cA, 64, .inl pn2_91)), (h2, .inl (cA, 16, .inl wt2_92)), (h3, .inl (cA, 900, .inl rg2_93)), (h4, .inl (cA, 200, .inl pa2_94)), (he, .inl (cA, 10752, .inl en2_82)), (hc, .inl (cA, 257, .inl g_36))] _ := hP.sub [8, 3, 1, 9, 10, 4, 5, 6, 7, 2, 0] rfl
        have hD : va_D A [(h0, .inr (4, [.ref hn, .ref hs, .ref hd, .ref hp, .ref hc, .int wy2_101, .int dn2_102])), (hd, .inr (1, [.ref hn, .ref h1, .ref h2, .ref h3, .ref h4])), (hp, .inr (3, [.ref he, .int (nI la2_78), .int (nI ke2_79)])), (hn, .inl (cA, 34, .inl f2_103)), (hs, .inl (cA, 4096, .inl st2_104)), (h1, .inl (cA, 64, .inl pn2_91)), (h2, .inl (cA, 16, .inl wt2_92)), (h3, .inl (cA, 900, .inl rg2_93)), (h4, .inl (cA, 200, .inl pa2_94)), (he, .inl (cA, 10752, .inl en2_82)), (hc, .inl (cA, 257, .inl g_36))] := hD.sub [8, 3, 1, 9, 10, 4, 5, 6, 7, 2, 0] (by decide) rfl
        exact endV X hr hlocks hP hD hS dX4_doStep_82 ⟨wy2_101, dn2_102, la2_78, ke2_79, f2_103, st2_104, pn2_91, wt2_92, rg2_93, pa2_94, en2_82, g_36, (by omega), (by omega), hf_105, hf_106, hf_97, hf_98, hf_88, rfl⟩
  · have nc_15_21 : ¬ rk_16 = 0 := fun q => c_15_21 ((nI_eq (a := rk_16) (b := 0) (by omega) (by omega)).mpr q)
    refine lv_sipush (v := 256) hx hb dX4_doStep_18 (by decide) ?_
    refine lv_goto (tgt := 28) hx hb dX4_doStep_21 (by decide) ?_
    refine lv_istore_n (lv' := [(1, .int 256), (0, .ref h0)]) hx hb dX4_doStep_28 rfl hl (by decide) rfl (fun ls hl => ?_)
    refine lv_aload_n hx hb dX4_doStep_29 rfl (lv_at hl 1 rfl) ?_
    refine k_get (C := RX4) (T := TX4) (N := 7) (ci := 4) (v := .ref hp) X hE hP 4 rfl rfl iX4 3 (by decide) w_161 rfl dX4_doStep_30 ?_
    refine lv_iload_n hx hb dX4_doStep_33 rfl (lv_at hl 0 rfl) ?_
    refine kVv (n3 := 1) (As := [.int 256]) (rest := []) X hl.1 hE hP hD hS hA [(hp, .inr (3, [.ref he, .int (nI la2_1), .int (nI ke2_2)])), (he, .inl (cA, 10752, .inl en2_3))] [(hs, .inl (cA, 4096, .inl st)), (hc, .inl (cA, 257, .inl ct)), (h0, .inr (4, [.ref hn, .ref hs, .ref hd, .ref hp, .ref hc, .int wy2_9, .int dn2_10])), (hd, .inr (1, [.ref hn, .ref h1, .ref h2, .ref h3, .ref h4])), (hn, .inl (cA, 34, .inl f2_11)), (h1, .inl (cA, 64, .inl pn2_12)), (h2, .inl (cA, 16, .inl wt2_13)), (h3, .inl (cA, 900, .inl rg2_14)), (h4, .inl (cA, 200, .inl pa2_15))] [2, 3] [0, 1, 4, 5, 6, 7, 8, 9, 10] rfl rfl rfl (by decide +kernel) (by decide +kernel) (by decide +kernel) (c_s_keepCode l D cA cB hp he la2_1 ke2_2 en2_3 256 (by first | assumption | decide | rfl | omega) (by first | assumption | decide | rfl | omega) hf_7 (by first | assumption | decide | rfl | omega)) w_265 w_164 w_264 w_266 w_267 0 (ci := 3) (T := TX3) (N := 3) rfl rfl (by decide +kernel) rfl rfl (Nat.le_of_ble_eq_true rfl) ⟨(Nat.le_of_ble_eq_true rfl), (Nat.le_of_ble_eq_true rfl)⟩ ⟨(Nat.le_of_ble_eq_true rfl), (Nat.le_of_ble_eq_true rfl)⟩ dX4_doStep_34 (fun W1 H locs hw hP hD hS => ?_)
    obtain ⟨la2_107, ke2_108, en2_109, hf_110, hf_111, hf_112, rfl⟩ := hw
    have hP : va_P D classes [(hs, .inl (cA, 4096, .inl st)), (hc, .inl (cA, 257, .inl ct)), (h0, .inr (4, [.ref hn, .ref hs, .ref hd, .ref hp, .ref hc, .int wy2_9, .int dn2_10])), (hd, .inr (1, [.ref hn, .ref h1, .ref h2, .ref h3, .ref h4])), (hn, .inl (cA, 34, .inl f2_11)), (h1, .inl (cA, 64, .inl pn2_12)), (h2, .inl (cA, 16, .inl wt2_13)), (h3, .inl (cA, 900, .inl rg2_14)), (h4, .inl (cA, 200, .inl pa2_15)), (hp, .inr (3, [.ref he, .int (nI la2_107), .int (nI ke2_108)])), (he, .inl (cA, 10752, .inl en2_109))] H := hP
    have hD : va_D A [(hs, .inl (cA, 4096, .inl st)), (hc, .inl (cA, 257, .inl ct)), (h0, .inr (4, [.ref hn, .ref hs, .ref hd, .ref hp, .ref hc, .int wy2_9, .int dn2_10])), (hd, .inr (1, [.ref hn, .ref h1, .ref h2, .ref h3, .ref h4])), (hn, .inl (cA, 34, .inl f2_11)), (h1, .inl (cA, 64, .inl pn2_12)), (h2, .inl (cA, 16, .inl wt2_13)), (h3, .inl (cA, 900, .inl rg2_14)), (h4, .inl (cA, 200, .inl pa2_15)), (hp, .inr (3, [.ref he, .int (nI la2_107), .int (nI ke2_108)])), (he, .inl (cA, 10752, .inl en2_109))] := hD
    refine lv_aload_n hx hb dX4_doStep_37 rfl (lv_at hl 1 rfl) ?_
    refine k_get (C := RX4) (T := TX4) (N := 7) (ci := 4) (v := .ref hc) X hE hP 2 rfl rfl iX4 4 (by decide) w_268 rfl dX4_doStep_38 ?_
    refine lv_iload_n hx hb dX4_doStep_41 rfl (lv_at hl 0 rfl) ?_
    refine lv_dup2_11 hx hb dX4_doStep_42 rfl rfl ?_
    refine k_ald (v := ct 256) X hE hP 1 rfl 256 rfl (by decide) (by decide) rfl dX4_doStep_43 ?_
    refine lv_iconst (v := 1) hx hb dX4_doStep_44 (by decide) ?_
    refine lv_iadd hx hb dX4_doStep_45 ?_
    refine k_ast X hE hP hD hS 1 rfl 256 rfl (by decide) (by decide) [(hs, .inl (cA, 4096, .inl st)), (hc, .inl (cA, 257, .inl (upd ct 256 ((ct 256) + 1)))), (h0, .inr (4, [.ref hn, .ref hs, .ref hd, .ref hp, .ref hc, .int wy2_9, .int dn2_10])), (hd, .inr (1, [.ref hn, .ref h1, .ref h2, .ref h3, .ref h4])), (hn, .inl (cA, 34, .inl f2_11)), (h1, .inl (cA, 64, .inl pn2_12)), (h2, .inl (cA, 16, .inl wt2_13)), (h3, .inl (cA, 900, .inl rg2_14)), (h4, .inl (cA, 200, .inl pa2_15)), (hp, .inr (3, [.ref he, .int (nI la2_107), .int (nI ke2_108)])), (he, .inl (cA, 10752, .inl en2_109))] rfl dX4_doStep_46 (fun H locs hP hD hS => ?_)
    obtain ⟨g_113, eg_113⟩ : ∃ z, z = upd ct 256 ((ct 256) + 1) := ⟨_, rfl⟩
    rw [← eg_113] at hP hD
    have hP : va_P D classes [(hs, .inl (cA, 4096, .inl st)), (hc, .inl (cA, 257, .inl g_113)), (h0, .inr (4, [.ref hn, .ref hs, .ref hd, .ref hp, .ref hc, .int wy2_9, .int dn2_10])), (hd, .inr (1, [.ref hn, .ref h1, .ref h2, .ref h3, .ref h4])), (hn, .inl (cA, 34, .inl f2_11)), (h1, .inl (cA, 64, .inl pn2_12)), (h2, .inl (cA, 16, .inl wt2_13)), (h3, .inl (cA, 900, .inl rg2_14)), (h4, .inl (cA, 200, .inl pa2_15)), (hp, .inr (3, [.ref he, .int (nI la2_107), .int (nI ke2_108)])), (he, .inl (cA, 10752, .inl en2_109))] H := hP
    have hD : va_D A [(hs, .inl (cA, 4096, .inl st)), (hc, .inl (cA, 257, .inl g_113)), (h0, .inr (4, [.ref hn, .ref hs, .ref hd, .ref hp, .ref hc, .int wy2_9, .int dn2_10])), (hd, .inr (1, [.ref hn, .ref h1, .ref h2, .ref h3, .ref h4])), (hn, .inl (cA, 34, .inl f2_11)), (h1, .inl (cA, 64, .inl pn2_12)), (h2, .inl (cA, 16, .inl wt2_13)), (h3, .inl (cA, 900, .inl rg2_14)), (h4, .inl (cA, 200, .inl pa2_15)), (hp, .inr (3, [.ref he, .int (nI la2_107), .int (nI ke2_108)])), (he, .inl (cA, 10752, .inl en2_109))] := hD
    refine lv_iload_n hx hb dX4_doStep_47 rfl (lv_at hl 0 rfl) ?_
    refine lv_sipush (v := 256) hx hb dX4_doStep_48 (by decide) ?_
    refine lv_icmp_ne (tgt := 61) hx hb dX4_doStep_51 (by decide) (fun c_51 => absurd (by decide) c_51) (fun c_51 => ?_)
    refine lv_aload_n hx hb dX4_doStep_54 rfl (lv_at hl 1 rfl) ?_
    refine kVi (n3 := 0) (As := []) (rest := []) X hl.1 hE hP hD hS hA [(h0, .inr (4, [.ref hn, .ref hs, .ref hd, .ref hp, .ref hc, .int wy2_9, .int dn2_10])), (hp, .inr (3, [.ref he, .int (nI la2_107), .int (nI ke2_108)])), (hn, .inl (cA, 34, .inl f2_11)), (hs, .inl (cA, 4096, .inl st)), (he, .inl (cA, 10752, .inl en2_109))] [(hc, .inl (cA, 257, .inl g_113)), (hd, .inr (1, [.ref hn, .ref h1, .ref h2, .ref h3, .ref h4])), (h1, .inl (cA, 64, .inl pn2_12)), (h2, .inl (cA, 16, .inl wt2_13)), (h3, .inl (cA, 900, .inl rg2_14)), (h4, .inl (cA, 200, .inl pa2_15))] [2, 9, 4, 0, 10] [1, 3, 5, 6, 7, 8] rfl rfl rfl (by decide +kernel) (by decide +kernel) (by decide +kernel) (c_s_interrupt l D cA cB h0 hn hs hd hp hc he wy2_9 dn2_10 la2_107 ke2_108 f2_11 st en2_109 (by first | assumption | decide | rfl | omega) (by first | assumption | decide | rfl | omega) hf_17 hst hf_112) w_282 w_66 w_281 w_283 w_284 0 (ci := 4) (T := TX4) (N := 7) rfl rfl (by decide +kernel) rfl rfl (Nat.le_of_ble_eq_true rfl) ⟨(Nat.le_of_ble_eq_true rfl), (Nat.le_of_ble_eq_true rfl)⟩ ⟨(Nat.le_of_ble_eq_true rfl), (Nat.le_of_ble_eq_true rfl)⟩ dX4_doStep_55 (fun r W1 H locs hw hP hD hS => ?_)
    obtain ⟨wy2_114, dn2_115, la2_116, ke2_117, f2_118, st2_119, en2_120, rk_121, rfl, hf_122, hf_123, hf_124, hf_125, hf_126, hf_127, rfl⟩ := hw
    have hP : va_P D classes [(hc, .inl (cA, 257, .inl g_113)), (hd, .inr (1, [.ref hn, .ref h1, .ref h2, .ref h3, .ref h4])), (h1, .inl (cA, 64, .inl pn2_12)), (h2, .inl (cA, 16, .inl wt2_13)), (h3, .inl (cA, 900, .inl rg2_14)), (h4, .inl (cA, 200, .inl pa2_15)), (h0, .inr (4, [.ref hn, .ref hs, .ref hd, .ref hp, .ref hc, .int wy2_114, .int dn2_115])), (hp, .inr (3, [.ref he, .int (nI la2_116), .int (nI ke2_117)])), (hn, .inl (cA, 34, .inl f2_118)), (hs, .inl (cA, 4096, .inl st2_119)), (he, .inl (cA, 10752, .inl en2_120))] H := hP
    have hD : va_D A [(hc, .inl (cA, 257, .inl g_113)), (hd, .inr (1, [.ref hn, .ref h1, .ref h2, .ref h3, .ref h4])), (h1, .inl (cA, 64, .inl pn2_12)), (h2, .inl (cA, 16, .inl wt2_13)), (h3, .inl (cA, 900, .inl rg2_14)), (h4, .inl (cA, 200, .inl pa2_15)), (h0, .inr (4, [.ref hn, .ref hs, .ref hd, .ref hp, .ref hc, .int wy2_114, .int dn2_115])), (hp, .inr (3, [.ref he, .int (nI la2_116), .int (nI ke2_117)])), (hn, .inl (cA, 34, .inl f2_118)), (hs, .inl (cA, 4096, .inl st2_119)), (he, .inl (cA, 10752, .inl en2_120))] := hD
    refine lv_goto (tgt := 66) hx hb dX4_doStep_58 (by decide) ?_
    refine lv_istore_n (lv' := [(2, .int (nI rk_121)), (1, .int 256), (0, .ref h0)]) hx hb dX4_doStep_66 rfl hl (by decide) rfl (fun ls hl => ?_)
    refine lv_aload_n hx hb dX4_doStep_67 rfl (lv_at hl 2 rfl) ?_
    refine k_get (C := RX4) (T := TX4) (N := 7) (ci := 4) (v := .ref hd) X hE hP 6 rfl rfl iX4 2 (by decide) w_175 rfl dX4_doStep_68 ?_
    refine lv_iload_n hx hb dX4_doStep_71 rfl (lv_at hl 0 rfl) ?_
    refine kVi (n3 := 1) (As := [.int (nI rk_121)]) (rest := []) X hl.1 hE hP hD hS hA [(hd, .inr (1, [.ref hn, .ref h1, .ref h2, .ref h3, .ref h4])), (hn, .inl (cA, 34, .inl f2_118)), (h1, .inl (cA, 64, .inl pn2_12)), (h2, .inl (cA, 16, .inl wt2_13)), (h3, .inl (cA, 900, .inl rg2_14)), (h4, .inl (cA, 200, .inl pa2_15))] [(hc, .inl (cA, 257, .inl g_113)), (h0, .inr (4, [.ref hn, .ref hs, .ref hd, .ref hp, .ref hc, .int wy2_114, .int dn2_115])), (hp, .inr (3, [.ref he, .int (nI la2_116), .int (nI ke2_117)])), (hs, .inl (cA, 4096, .inl st2_119)), (he, .inl (cA, 10752, .inl en2_120))] [1, 8, 2, 3, 4, 5] [0, 6, 7, 9, 10] rfl rfl rfl (by decide +kernel) (by decide +kernel) (by decide +kernel) (c_s_pass l D cA cB hd hn h1 h2 h3 h4 f2_118 pn2_12 wt2_13 rg2_14 pa2_15 rk_121 hf_124 hf_18 hf_19 (by first | assumption | decide | rfl | omega)) w_274 w_9 w_273 w_275 w_276 0 (ci := 1) (T := TX1) (N := 5) rfl rfl (by decide +kernel) rfl rfl (Nat.le_of_ble_eq_true rfl) ⟨(Nat.le_of_ble_eq_true rfl), (Nat.le_of_ble_eq_true rfl)⟩ ⟨(Nat.le_of_ble_eq_true rfl), (Nat.le_of_ble_eq_true rfl)⟩ dX4_doStep_72 (fun r W1 H locs hw hP hD hS => ?_)
    obtain ⟨f2_128, pn2_129, wt2_130, rg2_131, pa2_132, rk_133, rfl, hf_134, hf_135, hf_136, hf_137, rfl⟩ := hw
    have hP : va_P D classes [(hc, .inl (cA, 257, .inl g_113)), (h0, .inr (4, [.ref hn, .ref hs, .ref hd, .ref hp, .ref hc, .int wy2_114, .int dn2_115])), (hp, .inr (3, [.ref he, .int (nI la2_116), .int (nI ke2_117)])), (hs, .inl (cA, 4096, .inl st2_119)), (he, .inl (cA, 10752, .inl en2_120)), (hd, .inr (1, [.ref hn, .ref h1, .ref h2, .ref h3, .ref h4])), (hn, .inl (cA, 34, .inl f2_128)), (h1, .inl (cA, 64, .inl pn2_129)), (h2, .inl (cA, 16, .inl wt2_130)), (h3, .inl (cA, 900, .inl rg2_131)), (h4, .inl (cA, 200, .inl pa2_132))] H := hP
    have hD : va_D A [(hc, .inl (cA, 257, .inl g_113)), (h0, .inr (4, [.ref hn, .ref hs, .ref hd, .ref hp, .ref hc, .int wy2_114, .int dn2_115])), (hp, .inr (3, [.ref he, .int (nI la2_116), .int (nI ke2_117)])), (hs, .inl (cA, 4096, .inl st2_119)), (he, .inl (cA, 10752, .inl en2_120)), (hd, .inr (1, [.ref hn, .ref h1, .ref h2, .ref h3, .ref h4])), (hn, .inl (cA, 34, .inl f2_128)), (h1, .inl (cA, 64, .inl pn2_129)), (h2, .inl (cA, 16, .inl wt2_130)), (h3, .inl (cA, 900, .inl rg2_131)), (h4, .inl (cA, 200, .inl pa2_132))] := hD
    refine lv_if_eq (tgt := 82) hx hb dX4_doStep_75 (by decide) (fun c_75_138 => ?_) (fun c_75_138 => ?_)
    · have nc_75_138 : rk_133 = 0 := (nI_eq (a := rk_133) (b := 0) (by omega) (by omega)).mp c_75_138
      have hP : va_P D classes [(h0, .inr (4, [.ref hn, .ref hs, .ref hd, .ref hp, .ref hc, .int wy2_114, .int dn2_115])), (hd, .inr (1, [.ref hn, .ref h1, .ref h2, .ref h3, .ref h4])), (hp, .inr (3, [.ref he, .int (nI la2_116), .int (nI ke2_117)])), (hn, .inl (cA, 34, .inl f2_128)), (hs, .inl (cA, 4096, .inl st2_119)), (h1, .inl (cA, 64, .inl pn2_129)), (h2, .inl (cA, 16, .inl wt2_130)), (h3, .inl (cA, 900, .inl rg2_131)), (h4, .inl (cA, 200, .inl pa2_132)), (he, .inl (cA, 10752, .inl en2_120)), (hc, .inl (cA, 257, .inl g_113))] _ := hP.sub [1, 5, 2, 6, 3, 7, 8, 9, 10, 4, 0] rfl
      have hD : va_D A [(h0, .inr (4, [.ref hn, .ref hs, .ref hd, .ref hp, .ref hc, .int wy2_114, .int dn2_115])), (hd, .inr (1, [.ref hn, .ref h1, .ref h2, .ref h3, .ref h4])), (hp, .inr (3, [.ref he, .int (nI la2_116), .int (nI ke2_117)])), (hn, .inl (cA, 34, .inl f2_128)), (hs, .inl (cA, 4096, .inl st2_119)), (h1, .inl (cA, 64, .inl pn2_129)), (h2, .inl (cA, 16, .inl wt2_130)), (h3, .inl (cA, 900, .inl rg2_131)), (h4, .inl (cA, 200, .inl pa2_132)), (he, .inl (cA, 10752, .inl en2_120)), (hc, .inl (cA, 257, .inl g_113))] := hD.sub [1, 5, 2, 6, 3, 7, 8, 9, 10, 4, 0] (by decide) rfl
      exact endV X hr hlocks hP hD hS dX4_doStep_82 ⟨wy2_114, dn2_115, la2_116, ke2_117, f2_128, st2_119, pn2_129, wt2_130, rg2_131, pa2_132, en2_120, g_113, (by omega), (by omega), hf_134, hf_125, hf_135, hf_136, hf_126, rfl⟩
    · have nc_75_138 : ¬ rk_133 = 0 := fun q => c_75_138 ((nI_eq (a := rk_133) (b := 0) (by omega) (by omega)).mpr q)
      refine lv_aload_n hx hb dX4_doStep_78 rfl (lv_at hl 2 rfl) ?_
      refine kVv (n3 := 0) (As := []) (rest := []) X hl.1 hE hP hD hS hA [(h0, .inr (4, [.ref hn, .ref hs, .ref hd, .ref hp, .ref hc, .int wy2_114, .int dn2_115])), (hn, .inl (cA, 34, .inl f2_128)), (hs, .inl (cA, 4096, .inl st2_119))] [(hc, .inl (cA, 257, .inl g_113)), (hp, .inr (3, [.ref he, .int (nI la2_116), .int (nI ke2_117)])), (he, .inl (cA, 10752, .inl en2_120)), (hd, .inr (1, [.ref hn, .ref h1, .ref h2, .ref h3, .ref h4])), (h1, .inl (cA, 64, .inl pn2_129)), (h2, .inl (cA, 16, .inl wt2_130)), (h3, .inl (cA, 900, .inl rg2_131)), (h4, .inl (cA, 200, .inl pa2_132))] [1, 6, 3] [0, 2, 4, 5, 7, 8, 9, 10] rfl rfl rfl (by decide +kernel) (by decide +kernel) (by decide +kernel) (c_s_reset l D cA cB h0 hn hs hd hp hc wy2_114 dn2_115 f2_128 st2_119 hf_134 hf_125) w_278 w_66 w_277 w_279 w_280 0 (ci := 4) (T := TX4) (N := 7) rfl rfl (by decide +kernel) rfl rfl (Nat.le_of_ble_eq_true rfl) ⟨(Nat.le_of_ble_eq_true rfl), (Nat.le_of_ble_eq_true rfl)⟩ ⟨(Nat.le_of_ble_eq_true rfl), (Nat.le_of_ble_eq_true rfl)⟩ dX4_doStep_79 (fun W1 H locs hw hP hD hS => ?_)
      obtain ⟨wy2_139, dn2_140, f2_141, st2_142, hf_143, hf_144, rfl⟩ := hw
      have hP : va_P D classes [(hc, .inl (cA, 257, .inl g_113)), (hp, .inr (3, [.ref he, .int (nI la2_116), .int (nI ke2_117)])), (he, .inl (cA, 10752, .inl en2_120)), (hd, .inr (1, [.ref hn, .ref h1, .ref h2, .ref h3, .ref h4])), (h1, .inl (cA, 64, .inl pn2_129)), (h2, .inl (cA, 16, .inl wt2_130)), (h3, .inl (cA, 900, .inl rg2_131)), (h4, .inl (cA, 200, .inl pa2_132)), (h0, .inr (4, [.ref hn, .ref hs, .ref hd, .ref hp, .ref hc, .int wy2_139, .int dn2_140])), (hn, .inl (cA, 34, .inl f2_141)), (hs, .inl (cA, 4096, .inl st2_142))] H := hP
      have hD : va_D A [(hc, .inl (cA, 257, .inl g_113)), (hp, .inr (3, [.ref he, .int (nI la2_116), .int (nI ke2_117)])), (he, .inl (cA, 10752, .inl en2_120)), (hd, .inr (1, [.ref hn, .ref h1, .ref h2, .ref h3, .ref h4])), (h1, .inl (cA, 64, .inl pn2_129)), (h2, .inl (cA, 16, .inl wt2_130)), (h3, .inl (cA, 900, .inl rg2_131)), (h4, .inl (cA, 200, .inl pa2_132)), (h0, .inr (4, [.ref hn, .ref hs, .ref hd, .ref hp, .ref hc, .int wy2_139, .int dn2_140])), (hn, .inl (cA, 34, .inl f2_141)), (hs, .inl (cA, 4096, .inl st2_142))] := hD
      have hP : va_P D classes [(h0, .inr (4, [.ref hn, .ref hs, .ref hd, .ref hp, .ref hc, .int wy2_139, .int dn2_140])), (hd, .inr (1, [.ref hn, .ref h1, .ref h2, .ref h3, .ref h4])), (hp, .inr (3, [.ref he, .int (nI la2_116), .int (nI ke2_117)])), (hn, .inl (cA, 34, .inl f2_141)), (hs, .inl (cA, 4096, .inl st2_142)), (h1, .inl (cA, 64, .inl pn2_129)), (h2, .inl (cA, 16, .inl wt2_130)), (h3, .inl (cA, 900, .inl rg2_131)), (h4, .inl (cA, 200, .inl pa2_132)), (he, .inl (cA, 10752, .inl en2_120)), (hc, .inl (cA, 257, .inl g_113))] _ := hP.sub [8, 3, 1, 9, 10, 4, 5, 6, 7, 2, 0] rfl
      have hD : va_D A [(h0, .inr (4, [.ref hn, .ref hs, .ref hd, .ref hp, .ref hc, .int wy2_139, .int dn2_140])), (hd, .inr (1, [.ref hn, .ref h1, .ref h2, .ref h3, .ref h4])), (hp, .inr (3, [.ref he, .int (nI la2_116), .int (nI ke2_117)])), (hn, .inl (cA, 34, .inl f2_141)), (hs, .inl (cA, 4096, .inl st2_142)), (h1, .inl (cA, 64, .inl pn2_129)), (h2, .inl (cA, 16, .inl wt2_130)), (h3, .inl (cA, 900, .inl rg2_131)), (h4, .inl (cA, 200, .inl pa2_132)), (he, .inl (cA, 10752, .inl en2_120)), (hc, .inl (cA, 257, .inl g_113))] := hD.sub [8, 3, 1, 9, 10, 4, 5, 6, 7, 2, 0] (by decide) rfl
      exact endV X hr hlocks hP hD hS dX4_doStep_82 ⟨wy2_139, dn2_140, la2_116, ke2_117, f2_141, st2_142, pn2_129, wt2_130, rg2_131, pa2_132, en2_120, g_113, (by omega), (by omega), hf_143, hf_144, hf_135, hf_136, hf_126, rfl⟩
set_option maxHeartbeats 4000000 in
set_option maxRecDepth 100000 in
theorem c_s_whyToEnd (l : Launch) (D : va_G) (cA cB : ClassId) (h0 : Nat) (hn : Nat) (hs : Nat) (hd : Nat) (hp : Nat) (hc : Nat) (h1 : Nat) (h2 : Nat) (h3 : Nat) (h4 : Nat) (he : Nat) (wy : Int32) (dn : Int32) (la : Nat) (ke : Nat) (f : Nat → Int32) (st : Nat → Int32) (pn : Nat → Int32) (wt : Nat → Int32) (rg : Nat → Int32) (pa : Nat → Int32) (en : Nat → Int32) (ct : Nat → Int32) (o : Nat) (hla : la < 256) (hke : ke < 257) (hf : okN f) (hst : ∀ j, j < 4096 → ∃ k : Nat, k < 256 ∧ st j = nI k) (hpn : ∀ j, j < 64 → ∃ k : Nat, k < 256 ∧ pn j = nI k) (hwt : ∀ j, j < 16 → ∃ k : Nat, k < 256 ∧ wt j = nI k) (hen : okE en) (ho : o < 2) : CI l yX4_whyToEnd cX4_whyToEnd 3 (some .int) 2 40 0 0 D cA cB [.ref h0, .int (nI o)] [(h0, .inr (4, [.ref hn, .ref hs, .ref hd, .ref hp, .ref hc, .int wy, .int dn])), (hd, .inr (1, [.ref hn, .ref h1, .ref h2, .ref h3, .ref h4])), (hp, .inr (3, [.ref he, .int (nI la), .int (nI ke)])), (hn, .inl (cA, 34, .inl f)), (hs, .inl (cA, 4096, .inl st)), (h1, .inl (cA, 64, .inl pn)), (h2, .inl (cA, 16, .inl wt)), (h3, .inl (cA, 900, .inl rg)), (h4, .inl (cA, 200, .inl pa)), (he, .inl (cA, 10752, .inl en)), (hc, .inl (cA, 257, .inl ct))] (fun r W1 => ∃ (wy2 : Int32) (dn2 : Int32) (la2 : Nat) (ke2 : Nat) (f2 : Nat → Int32) (st2 : Nat → Int32) (pn2 : Nat → Int32) (wt2 : Nat → Int32) (rg2 : Nat → Int32) (pa2 : Nat → Int32) (en2 : Nat → Int32) (ct2 : Nat → Int32) (rk : Nat), r = nI rk ∧ (la2 < 256) ∧ (ke2 < 257) ∧ (okN f2) ∧ (∀ j, j < 4096 → ∃ k : Nat, k < 256 ∧ st2 j = nI k) ∧ (∀ j, j < 64 → ∃ k : Nat, k < 256 ∧ pn2 j = nI k) ∧ (∀ j, j < 16 → ∃ k : Nat, k < 256 ∧ wt2 j = nI k) ∧ (okE en2) ∧ (rk < 4) ∧ W1 = [(h0, .inr (4, [.ref hn, .ref hs, .ref hd, .ref hp, .ref hc, .int wy2, .int dn2])), (hd, .inr (1, [.ref hn, .ref h1, .ref h2, .ref h3, .ref h4])), (hp, .inr (3, [.ref he, .int (nI la2), .int (nI ke2)])), (hn, .inl (cA, 34, .inl f2)), (hs, .inl (cA, 4096, .inl st2)), (h1, .inl (cA, 64, .inl pn2)), (h2, .inl (cA, 16, .inl wt2)), (h3, .inl (cA, 900, .inl rg2)), (h4, .inl (cA, 200, .inl pa2)), (he, .inl (cA, 10752, .inl en2)), (hc, .inl (cA, 257, .inl ct2))]) := by
  refine mkI (lv0 := [(0, .ref h0), (1, .int (nI o))]) (by decide) (Nat.le_of_ble_eq_true rfl) rfl ?_
  intro p e s m below meth c A ls X hr hlocks hnm hE hA hP hD hS hl
  have hx := X.1
  have hb := X.2.1
  refine lv_iload_n hx hb dX4_whyToEnd_0 rfl (lv_at hl 1 rfl) ?_
  refine lv_if_eq (tgt := 6) hx hb dX4_whyToEnd_1 (by decide) (fun c_1_1 => ?_) (fun c_1_1 => ?_)
  · have nc_1_1 : o = 0 := (nI_eq (a := o) (b := 0) (by omega) (by omega)).mp c_1_1
    refine lv_aload_n hx hb dX4_whyToEnd_6 rfl (lv_at hl 0 rfl) ?_
    refine k_get (C := RX4) (T := TX4) (N := 7) (ci := 4) (v := .ref hn) X hE hP 0 rfl rfl iX4 0 (by decide) w_69 rfl dX4_whyToEnd_7 ?_
    refine lv_bipush (v := 6) hx hb dX4_whyToEnd_10 (by decide) ?_
    refine k_ald (v := f 6) X hE hP 3 rfl 6 rfl (by decide) (by decide) rfl dX4_whyToEnd_12 ?_
    refine lv_if_eq (tgt := 18) hx hb dX4_whyToEnd_13 (by decide) (fun c_13 => ?_) (fun c_13 => ?_)
    · skip
      refine lv_aload_n hx hb dX4_whyToEnd_18 rfl (lv_at hl 0 rfl) ?_
      refine lv_aload_n hx hb dX4_whyToEnd_19 rfl (lv_at hl 0 rfl) ?_
      refine k_get (C := RX4) (T := TX4) (N := 7) (ci := 4) (v := .ref hn) X hE hP 0 rfl rfl iX4 0 (by decide) w_69 rfl dX4_whyToEnd_20 ?_
      refine lv_iconst (v := 4) hx hb dX4_whyToEnd_23 (by decide) ?_
      obtain ⟨k_2, hk_2, ek_2⟩ := hf.at 4 4096 (by decide) rfl
      refine k_ald (v := nI k_2) X hE hP 3 rfl 4 rfl (by decide) (by decide) ek_2 dX4_whyToEnd_24 ?_
      refine kVi (n3 := 1) (As := [.int (nI k_2)]) (rest := []) X hl.1 hE hP hD hS hA [(h0, .inr (4, [.ref hn, .ref hs, .ref hd, .ref hp, .ref hc, .int wy, .int dn])), (hn, .inl (cA, 34, .inl f)), (hs, .inl (cA, 4096, .inl st))] [(hd, .inr (1, [.ref hn, .ref h1, .ref h2, .ref h3, .ref h4])), (hp, .inr (3, [.ref he, .int (nI la), .int (nI ke)])), (h1, .inl (cA, 64, .inl pn)), (h2, .inl (cA, 16, .inl wt)), (h3, .inl (cA, 900, .inl rg)), (h4, .inl (cA, 200, .inl pa)), (he, .inl (cA, 10752, .inl en)), (hc, .inl (cA, 257, .inl ct))] [0, 3, 4] [1, 2, 5, 6, 7, 8, 9, 10] rfl rfl rfl (by decide +kernel) (by decide +kernel) (by decide +kernel) (c_s_byteAt l D cA cB h0 hn hs hd hp hc wy dn f st (nI k_2) hf hst) w_65 w_66 w_64 w_67 w_68 0 (ci := 4) (T := TX4) (N := 7) rfl rfl (by decide +kernel) rfl rfl (Nat.le_of_ble_eq_true rfl) ⟨(Nat.le_of_ble_eq_true rfl), (Nat.le_of_ble_eq_true rfl)⟩ ⟨(Nat.le_of_ble_eq_true rfl), (Nat.le_of_ble_eq_true rfl)⟩ dX4_whyToEnd_25 (fun r W1 H locs hw hP hD hS => ?_)
      obtain ⟨wy2_3, dn2_4, f2_5, st2_6, rk_7, rfl, hf_8, hf_9, hf_10, rfl⟩ := hw
      have hP : va_P D classes [(hd, .inr (1, [.ref hn, .ref h1, .ref h2, .ref h3, .ref h4])), (hp, .inr (3, [.ref he, .int (nI la), .int (nI ke)])), (h1, .inl (cA, 64, .inl pn)), (h2, .inl (cA, 16, .inl wt)), (h3, .inl (cA, 900, .inl rg)), (h4, .inl (cA, 200, .inl pa)), (he, .inl (cA, 10752, .inl en)), (hc, .inl (cA, 257, .inl ct)), (h0, .inr (4, [.ref hn, .ref hs, .ref hd, .ref hp, .ref hc, .int wy2_3, .int dn2_4])), (hn, .inl (cA, 34, .inl f2_5)), (hs, .inl (cA, 4096, .inl st2_6))] H := hP
      have hD : va_D A [(hd, .inr (1, [.ref hn, .ref h1, .ref h2, .ref h3, .ref h4])), (hp, .inr (3, [.ref he, .int (nI la), .int (nI ke)])), (h1, .inl (cA, 64, .inl pn)), (h2, .inl (cA, 16, .inl wt)), (h3, .inl (cA, 900, .inl rg)), (h4, .inl (cA, 200, .inl pa)), (he, .inl (cA, 10752, .inl en)), (hc, .inl (cA, 257, .inl ct)), (h0, .inr (4, [.ref hn, .ref hs, .ref hd, .ref hp, .ref hc, .int wy2_3, .int dn2_4])), (hn, .inl (cA, 34, .inl f2_5)), (hs, .inl (cA, 4096, .inl st2_6))] := hD
      refine lv_sipush (v := 216) hx hb dX4_whyToEnd_28 (by decide) ?_
      refine lv_icmp_ne (tgt := 55) hx hb dX4_whyToEnd_31 (by decide) (fun c_31_11 => ?_) (fun c_31_11 => ?_)
      · have nc_31_11 : ¬ rk_7 = 216 := fun q => c_31_11 ((nI_eq (a := rk_7) (b := 216) (by omega) (by omega)).mpr q)
        refine lv_iconst (v := 0) hx hb dX4_whyToEnd_55 (by decide) ?_
        refine lv_istore_n (lv' := [(2, .int 0), (0, .ref h0), (1, .int (nI o))]) hx hb dX4_whyToEnd_56 rfl hl (by decide) rfl (fun ls hl => ?_)
        refine lv_iload_n hx hb dX4_whyToEnd_57 rfl (lv_at hl 0 rfl) ?_
        refine lv_if_eq (tgt := 72) hx hb dX4_whyToEnd_58 (by decide) (fun c_58 => ?_) (fun c_58 => absurd (by decide) c_58)
        refine lv_iconst (v := 0) hx hb dX4_whyToEnd_72 (by decide) ?_
        have hP : va_P D classes [(h0, .inr (4, [.ref hn, .ref hs, .ref hd, .ref hp, .ref hc, .int wy2_3, .int dn2_4])), (hd, .inr (1, [.ref hn, .ref h1, .ref h2, .ref h3, .ref h4])), (hp, .inr (3, [.ref he, .int (nI la), .int (nI ke)])), (hn, .inl (cA, 34, .inl f2_5)), (hs, .inl (cA, 4096, .inl st2_6)), (h1, .inl (cA, 64, .inl pn)), (h2, .inl (cA, 16, .inl wt)), (h3, .inl (cA, 900, .inl rg)), (h4, .inl (cA, 200, .inl pa)), (he, .inl (cA, 10752, .inl en)), (hc, .inl (cA, 257, .inl ct))] _ := hP.sub [8, 0, 1, 9, 10, 2, 3, 4, 5, 6, 7] rfl
        have hD : va_D A [(h0, .inr (4, [.ref hn, .ref hs, .ref hd, .ref hp, .ref hc, .int wy2_3, .int dn2_4])), (hd, .inr (1, [.ref hn, .ref h1, .ref h2, .ref h3, .ref h4])), (hp, .inr (3, [.ref he, .int (nI la), .int (nI ke)])), (hn, .inl (cA, 34, .inl f2_5)), (hs, .inl (cA, 4096, .inl st2_6)), (h1, .inl (cA, 64, .inl pn)), (h2, .inl (cA, 16, .inl wt)), (h3, .inl (cA, 900, .inl rg)), (h4, .inl (cA, 200, .inl pa)), (he, .inl (cA, 10752, .inl en)), (hc, .inl (cA, 257, .inl ct))] := hD.sub [8, 0, 1, 9, 10, 2, 3, 4, 5, 6, 7] (by decide) rfl
        exact endI X hr hlocks hP hD hS dX4_whyToEnd_73 ⟨wy2_3, dn2_4, la, ke, f2_5, st2_6, pn, wt, rg, pa, en, ct, 0, rfl, (by omega), (by omega), hf_8, hf_9, hpn, hwt, hen, (by omega), rfl⟩
      · have nc_31_11 : rk_7 = 216 := (nI_eq (a := rk_7) (b := 216) (by omega) (by omega)).mp c_31_11
        refine lv_aload_n hx hb dX4_whyToEnd_34 rfl (lv_at hl 0 rfl) ?_
        refine lv_aload_n hx hb dX4_whyToEnd_35 rfl (lv_at hl 0 rfl) ?_
        refine k_get (C := RX4) (T := TX4) (N := 7) (ci := 4) (v := .ref hn) X hE hP 8 rfl rfl iX4 0 (by decide) w_69 rfl dX4_whyToEnd_36 ?_
        refine lv_iconst (v := 4) hx hb dX4_whyToEnd_39 (by decide) ?_
        obtain ⟨k_12, hk_12, ek_12⟩ := hf_8.at 4 4096 (by decide) rfl
        refine k_ald (v := nI k_12) X hE hP 9 rfl 4 rfl (by decide) (by decide) ek_12 dX4_whyToEnd_40 ?_
        refine lv_iconst (v := 1) hx hb dX4_whyToEnd_41 (by decide) ?_
        refine lv_iadd hx hb dX4_whyToEnd_42 ?_
        refine tk (y := nI (k_12 + 1)) (nI_add k_12 1) ?_
        refine kVi (n3 := 1) (As := [.int (nI (k_12 + 1))]) (rest := []) X hl.1 hE hP hD hS hA [(h0, .inr (4, [.ref hn, .ref hs, .ref hd, .ref hp, .ref hc, .int wy2_3, .int dn2_4])), (hn, .inl (cA, 34, .inl f2_5)), (hs, .inl (cA, 4096, .inl st2_6))] [(hd, .inr (1, [.ref hn, .ref h1, .ref h2, .ref h3, .ref h4])), (hp, .inr (3, [.ref he, .int (nI la), .int (nI ke)])), (h1, .inl (cA, 64, .inl pn)), (h2, .inl (cA, 16, .inl wt)), (h3, .inl (cA, 900, .inl rg)), (h4, .inl (cA, 200, .inl pa)), (he, .inl (cA, 10752, .inl en)), (hc, .inl (cA, 257, .inl ct))] [8, 9, 10] [0, 1, 2, 3, 4, 5, 6, 7] rfl rfl rfl (by decide +kernel) (by decide +kernel) (by decide +kernel) (c_s_byteAt l D cA cB h0 hn hs hd hp hc wy2_3 dn2_4 f2_5 st2_6 (nI (k_12 + 1)) hf_8 hf_9) w_65 w_66 w_64 w_67 w_68 0 (ci := 4) (T := TX4) (N := 7) rfl rfl (by decide +kernel) rfl rfl (Nat.le_of_ble_eq_true rfl) ⟨(Nat.le_of_ble_eq_true rfl), (Nat.le_of_ble_eq_true rfl)⟩ ⟨(Nat.le_of_ble_eq_true rfl), (Nat.le_of_ble_eq_true rfl)⟩ dX4_whyToEnd_43 (fun r W1 H locs hw hP hD hS => ?_)
        obtain ⟨wy2_13, dn2_14, f2_15, st2_16, rk_17, rfl, hf_18, hf_19, hf_20, rfl⟩ := hw
        have hP : va_P D classes [(hd, .inr (1, [.ref hn, .ref h1, .ref h2, .ref h3, .ref h4])), (hp, .inr (3, [.ref he, .int (nI la), .int (nI ke)])), (h1, .inl (cA, 64, .inl pn)), (h2, .inl (cA, 16, .inl wt)), (h3, .inl (cA, 900, .inl rg)), (h4, .inl (cA, 200, .inl pa)), (he, .inl (cA, 10752, .inl en)), (hc, .inl (cA, 257, .inl ct)), (h0, .inr (4, [.ref hn, .ref hs, .ref hd, .ref hp, .ref hc, .int wy2_13, .int dn2_14])), (hn, .inl (cA, 34, .inl f2_15)), (hs, .inl (cA, 4096, .inl st2_16))] H := hP
        have hD : va_D A [(hd, .inr (1, [.ref hn, .ref h1, .ref h2, .ref h3, .ref h4])), (hp, .inr (3, [.ref he, .int (nI la), .int (nI ke)])), (h1, .inl (cA, 64, .inl pn)), (h2, .inl (cA, 16, .inl wt)), (h3, .inl (cA, 900, .inl rg)), (h4, .inl (cA, 200, .inl pa)), (he, .inl (cA, 10752, .inl en)), (hc, .inl (cA, 257, .inl ct)), (h0, .inr (4, [.ref hn, .ref hs, .ref hd, .ref hp, .ref hc, .int wy2_13, .int dn2_14])), (hn, .inl (cA, 34, .inl f2_15)), (hs, .inl (cA, 4096, .inl st2_16))] := hD
        refine lv_bipush (v := 31) hx hb dX4_whyToEnd_46 (by decide) ?_
        refine lv_icmp_le (tgt := 55) hx hb dX4_whyToEnd_48 (by decide) (fun c_48_21 => ?_) (fun c_48_21 => ?_)
        · have nc_48_21 : rk_17 ≤ 31 := (nI_leI (a := rk_17) (b := 31) (by omega) (by omega)).mp c_48_21
          refine lv_iconst (v := 0) hx hb dX4_whyToEnd_55 (by decide) ?_
          refine lv_istore_n (lv' := [(2, .int 0), (0, .ref h0), (1, .int (nI o))]) hx hb dX4_whyToEnd_56 rfl hl (by decide) rfl (fun ls hl => ?_)
          refine lv_iload_n hx hb dX4_whyToEnd_57 rfl (lv_at hl 0 rfl) ?_
          refine lv_if_eq (tgt := 72) hx hb dX4_whyToEnd_58 (by decide) (fun c_58 => ?_) (fun c_58 => absurd (by decide) c_58)
          refine lv_iconst (v := 0) hx hb dX4_whyToEnd_72 (by decide) ?_
          have hP : va_P D classes [(h0, .inr (4, [.ref hn, .ref hs, .ref hd, .ref hp, .ref hc, .int wy2_13, .int dn2_14])), (hd, .inr (1, [.ref hn, .ref h1, .ref h2, .ref h3, .ref h4])), (hp, .inr (3, [.ref he, .int (nI la), .int (nI ke)])), (hn, .inl (cA, 34, .inl f2_15)), (hs, .inl (cA, 4096, .inl st2_16)), (h1, .inl (cA, 64, .inl pn)), (h2, .inl (cA, 16, .inl wt)), (h3, .inl (cA, 900, .inl rg)), (h4, .inl (cA, 200, .inl pa)), (he, .inl (cA, 10752, .inl en)), (hc, .inl (cA, 257, .inl ct))] _ := hP.sub [8, 0, 1, 9, 10, 2, 3, 4, 5, 6, 7] rfl
          have hD : va_D A [(h0, .inr (4, [.ref hn, .ref hs, .ref hd, .ref hp, .ref hc, .int wy2_13, .int dn2_14])), (hd, .inr (1, [.ref hn, .ref h1, .ref h2, .ref h3, .ref h4])), (hp, .inr (3, [.ref he, .int (nI la), .int (nI ke)])), (hn, .inl (cA, 34, .inl f2_15)), (hs, .inl (cA, 4096, .inl st2_16)), (h1, .inl (cA, 64, .inl pn)), (h2, .inl (cA, 16, .inl wt)), (h3, .inl (cA, 900, .inl rg)), (h4, .inl (cA, 200, .inl pa)), (he, .inl (cA, 10752, .inl en)), (hc, .inl (cA, 257, .inl ct))] := hD.sub [8, 0, 1, 9, 10, 2, 3, 4, 5, 6, 7] (by decide) rfl
          exact endI X hr hlocks hP hD hS dX4_whyToEnd_73 ⟨wy2_13, dn2_14, la, ke, f2_15, st2_16, pn, wt, rg, pa, en, ct, 0, rfl, (by omega), (by omega), hf_18, hf_19, hpn, hwt, hen, (by omega), rfl⟩
        · have nc_48_21 : 31 < rk_17 := Nat.not_le.mp (fun q => c_48_21 ((nI_leI (a := rk_17) (b := 31) (by omega) (by omega)).mpr q))
          refine lv_iconst (v := 1) hx hb dX4_whyToEnd_51 (by decide) ?_
          refine lv_goto (tgt := 56) hx hb dX4_whyToEnd_52 (by decide) ?_
          refine lv_istore_n (lv' := [(2, .int 1), (0, .ref h0), (1, .int (nI o))]) hx hb dX4_whyToEnd_56 rfl hl (by decide) rfl (fun ls hl => ?_)
          refine lv_iload_n hx hb dX4_whyToEnd_57 rfl (lv_at hl 0 rfl) ?_
          refine lv_if_eq (tgt := 72) hx hb dX4_whyToEnd_58 (by decide) (fun c_58 => absurd c_58 (by decide)) (fun c_58 => ?_)
          refine lv_aload_n hx hb dX4_whyToEnd_61 rfl (lv_at hl 1 rfl) ?_
          refine kVi (n3 := 0) (As := []) (rest := []) X hl.1 hE hP hD hS hA [(h0, .inr (4, [.ref hn, .ref hs, .ref hd, .ref hp, .ref hc, .int wy2_13, .int dn2_14])), (hd, .inr (1, [.ref hn, .ref h1, .ref h2, .ref h3, .ref h4])), (hn, .inl (cA, 34, .inl f2_15)), (h1, .inl (cA, 64, .inl pn)), (h2, .inl (cA, 16, .inl wt)), (h3, .inl (cA, 900, .inl rg)), (h4, .inl (cA, 200, .inl pa))] [(hp, .inr (3, [.ref he, .int (nI la), .int (nI ke)])), (he, .inl (cA, 10752, .inl en)), (hc, .inl (cA, 257, .inl ct)), (hs, .inl (cA, 4096, .inl st2_16))] [8, 0, 9, 2, 3, 4, 5] [1, 6, 7, 10] rfl rfl rfl (by decide +kernel) (by decide +kernel) (by decide +kernel) (c_s_interruptComes l D cA cB h0 hn hs hd hp hc h1 h2 h3 h4 wy2_13 dn2_14 f2_15 pn wt rg pa hf_18 hpn hwt) w_261 w_66 w_260 w_262 w_263 0 (ci := 4) (T := TX4) (N := 7) rfl rfl (by decide +kernel) rfl rfl (Nat.le_of_ble_eq_true rfl) ⟨(Nat.le_of_ble_eq_true rfl), (Nat.le_of_ble_eq_true rfl)⟩ ⟨(Nat.le_of_ble_eq_true rfl), (Nat.le_of_ble_eq_true rfl)⟩ dX4_whyToEnd_62 (fun r W1 H locs hw hP hD hS => ?_)
          obtain ⟨wy2_22, dn2_23, f2_24, pn2_25, wt2_26, rg2_27, pa2_28, rk_29, rfl, hf_30, hf_31, hf_32, hf_33, rfl⟩ := hw
          have hP : va_P D classes [(hp, .inr (3, [.ref he, .int (nI la), .int (nI ke)])), (he, .inl (cA, 10752, .inl en)), (hc, .inl (cA, 257, .inl ct)), (hs, .inl (cA, 4096, .inl st2_16)), (h0, .inr (4, [.ref hn, .ref hs, .ref hd, .ref hp, .ref hc, .int wy2_22, .int dn2_23])), (hd, .inr (1, [.ref hn, .ref h1, .ref h2, .ref h3, .ref h4])), (hn, .inl (cA, 34, .inl f2_24)), (h1, .inl (cA, 64, .inl pn2_25)), (h2, .inl (cA, 16, .inl wt2_26)), (h3, .inl (cA, 900, .inl rg2_27)), (h4, .inl (cA, 200, .inl pa2_28))] H := hP
          have hD : va_D A [(hp, .inr (3, [.ref he, .int (nI la), .int (nI ke)])), (he, .inl (cA, 10752, .inl en)), (hc, .inl (cA, 257, .inl ct)), (hs, .inl (cA, 4096, .inl st2_16)), (h0, .inr (4, [.ref hn, .ref hs, .ref hd, .ref hp, .ref hc, .int wy2_22, .int dn2_23])), (hd, .inr (1, [.ref hn, .ref h1, .ref h2, .ref h3, .ref h4])), (hn, .inl (cA, 34, .inl f2_24)), (h1, .inl (cA, 64, .inl pn2_25)), (h2, .inl (cA, 16, .inl wt2_26)), (h3, .inl (cA, 900, .inl rg2_27)), (h4, .inl (cA, 200, .inl pa2_28))] := hD
          refine lv_if_ne (tgt := 72) hx hb dX4_whyToEnd_65 (by decide) (fun c_65_34 => ?_) (fun c_65_34 => ?_)
          · have nc_65_34 : ¬ rk_29 = 0 := fun q => c_65_34 ((nI_eq (a := rk_29) (b := 0) (by omega) (by omega)).mpr q)
            refine lv_iconst (v := 0) hx hb dX4_whyToEnd_72 (by decide) ?_
            have hP : va_P D classes [(h0, .inr (4, [.ref hn, .ref hs, .ref hd, .ref hp, .ref hc, .int wy2_22, .int dn2_23])), (hd, .inr (1, [.ref hn, .ref h1, .ref h2, .ref h3, .ref h4])), (hp, .inr (3, [.ref he, .int (nI la), .int (nI ke)])), (hn, .inl (cA, 34, .inl f2_24)), (hs, .inl (cA, 4096, .inl st2_16)), (h1, .inl (cA, 64, .inl pn2_25)), (h2, .inl (cA, 16, .inl wt2_26)), (h3, .inl (cA, 900, .inl rg2_27)), (h4, .inl (cA, 200, .inl pa2_28)), (he, .inl (cA, 10752, .inl en)), (hc, .inl (cA, 257, .inl ct))] _ := hP.sub [4, 5, 0, 6, 3, 7, 8, 9, 10, 1, 2] rfl
            have hD : va_D A [(h0, .inr (4, [.ref hn, .ref hs, .ref hd, .ref hp, .ref hc, .int wy2_22, .int dn2_23])), (hd, .inr (1, [.ref hn, .ref h1, .ref h2, .ref h3, .ref h4])), (hp, .inr (3, [.ref he, .int (nI la), .int (nI ke)])), (hn, .inl (cA, 34, .inl f2_24)), (hs, .inl (cA, 4096, .inl st2_16)), (h1, .inl (cA, 64, .inl pn2_25)), (h2, .inl (cA, 16, .inl wt2_26)), (h3, .inl (cA, 900, .inl rg2_27)), (h4, .inl (cA, 200, .inl pa2_28)), (he, .inl (cA, 10752, .inl en)), (hc, .inl (cA, 257, .inl ct))] := hD.sub [4, 5, 0, 6, 3, 7, 8, 9, 10, 1, 2] (by decide) rfl
            exact endI X hr hlocks hP hD hS dX4_whyToEnd_73 ⟨wy2_22, dn2_23, la, ke, f2_24, st2_16, pn2_25, wt2_26, rg2_27, pa2_28, en, ct, 0, rfl, (by omega), (by omega), hf_30, hf_19, hf_31, hf_32, hen, (by omega), rfl⟩
          · have nc_65_34 : rk_29 = 0 := (nI_eq (a := rk_29) (b := 0) (by omega) (by omega)).mp c_65_34
            refine lv_iconst (v := 3) hx hb dX4_whyToEnd_68 (by decide) ?_
            refine lv_goto (tgt := 73) hx hb dX4_whyToEnd_69 (by decide) ?_
            have hP : va_P D classes [(h0, .inr (4, [.ref hn, .ref hs, .ref hd, .ref hp, .ref hc, .int wy2_22, .int dn2_23])), (hd, .inr (1, [.ref hn, .ref h1, .ref h2, .ref h3, .ref h4])), (hp, .inr (3, [.ref he, .int (nI la), .int (nI ke)])), (hn, .inl (cA, 34, .inl f2_24)), (hs, .inl (cA, 4096, .inl st2_16)), (h1, .inl (cA, 64, .inl pn2_25)), (h2, .inl (cA, 16, .inl wt2_26)), (h3, .inl (cA, 900, .inl rg2_27)), (h4, .inl (cA, 200, .inl pa2_28)), (he, .inl (cA, 10752, .inl en)), (hc, .inl (cA, 257, .inl ct))] _ := hP.sub [4, 5, 0, 6, 3, 7, 8, 9, 10, 1, 2] rfl
            have hD : va_D A [(h0, .inr (4, [.ref hn, .ref hs, .ref hd, .ref hp, .ref hc, .int wy2_22, .int dn2_23])), (hd, .inr (1, [.ref hn, .ref h1, .ref h2, .ref h3, .ref h4])), (hp, .inr (3, [.ref he, .int (nI la), .int (nI ke)])), (hn, .inl (cA, 34, .inl f2_24)), (hs, .inl (cA, 4096, .inl st2_16)), (h1, .inl (cA, 64, .inl pn2_25)), (h2, .inl (cA, 16, .inl wt2_26)), (h3, .inl (cA, 900, .inl rg2_27)), (h4, .inl (cA, 200, .inl pa2_28)), (he, .inl (cA, 10752, .inl en)), (hc, .inl (cA, 257, .inl ct))] := hD.sub [4, 5, 0, 6, 3, 7, 8, 9, 10, 1, 2] (by decide) rfl
            exact endI X hr hlocks hP hD hS dX4_whyToEnd_73 ⟨wy2_22, dn2_23, la, ke, f2_24, st2_16, pn2_25, wt2_26, rg2_27, pa2_28, en, ct, 3, rfl, (by omega), (by omega), hf_30, hf_19, hf_31, hf_32, hen, (by omega), rfl⟩
    · skip
      refine lv_iconst (v := 2) hx hb dX4_whyToEnd_16 (by decide) ?_
      exact endI X hr hlocks hP hD hS dX4_whyToEnd_17 ⟨wy, dn, la, ke, f, st, pn, wt, rg, pa, en, ct, 2, rfl, (by omega), (by omega), hf, hst, hpn, hwt, hen, (by omega), rfl⟩
  · have nc_1_1 : ¬ o = 0 := fun q => c_1_1 ((nI_eq (a := o) (b := 0) (by omega) (by omega)).mpr q)
    refine lv_iconst (v := 1) hx hb dX4_whyToEnd_4 (by decide) ?_
    exact endI X hr hlocks hP hD hS dX4_whyToEnd_5 ⟨wy, dn, la, ke, f, st, pn, wt, rg, pa, en, ct, 1, rfl, (by omega), (by omega), hf, hst, hpn, hwt, hen, (by omega), rfl⟩
