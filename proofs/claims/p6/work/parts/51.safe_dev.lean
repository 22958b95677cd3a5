abbrev cX1_lineIsOn : ByteArray := prog_3_method_2_code
def yX1_lineIsOn : MethodName := ⟨RX1, "lineIsOn", "()Z"⟩
abbrev cX1_pinsOfRow : ByteArray := prog_3_method_3_code
def yX1_pinsOfRow : MethodName := ⟨RX1, "pinsOfRow", "()I"⟩
abbrev cX1_addKey : ByteArray := prog_3_method_4_code
def yX1_addKey : MethodName := ⟨RX1, "addKey", "(I)V"⟩
abbrev cX1_keyAt : ByteArray := prog_3_method_5_code
def yX1_keyAt : MethodName := ⟨RX1, "keyAt", "(I)I"⟩
abbrev cX1_setClock : ByteArray := prog_3_method_8_code
def yX1_setClock : MethodName := ⟨RX1, "setClock", "(I)V"⟩
abbrev cX1_takeKey : ByteArray := prog_3_method_10_code
def yX1_takeKey : MethodName := ⟨RX1, "takeKey", "()I"⟩
abbrev cX1_castDice : ByteArray := prog_3_method_11_code
def yX1_castDice : MethodName := ⟨RX1, "castDice", "()I"⟩
abbrev cX1_bellsReady : ByteArray := prog_3_method_9_code
def yX1_bellsReady : MethodName := ⟨RX1, "bellsReady", "()I"⟩
abbrev cX1_strike : ByteArray := prog_3_method_12_code
def yX1_strike : MethodName := ⟨RX1, "strike", "(II)V"⟩
abbrev cX1_print : ByteArray := prog_3_method_13_code
def yX1_print : MethodName := ⟨RX1, "print", "(I)V"⟩
abbrev cX1_readPort : ByteArray := prog_3_method_6_code
def yX1_readPort : MethodName := ⟨RX1, "readPort", "(I)I"⟩
abbrev cX1_writePort : ByteArray := prog_3_method_7_code
def yX1_writePort : MethodName := ⟨RX1, "writePort", "(II)V"⟩
abbrev cX1_passClock : ByteArray := prog_3_method_15_code
def yX1_passClock : MethodName := ⟨RX1, "passClock", "(I)V"⟩
abbrev cX1_passDrum : ByteArray := prog_3_method_16_code
def yX1_passDrum : MethodName := ⟨RX1, "passDrum", "(I)V"⟩
abbrev cX1_passBells : ByteArray := prog_3_method_17_code
def yX1_passBells : MethodName := ⟨RX1, "passBells", "(I)V"⟩
abbrev cX1_pass : ByteArray := prog_3_method_14_code
def yX1_pass : MethodName := ⟨RX1, "pass", "(I)Z"⟩
def RJ9 : String := "java/lang/Math"
abbrev cJ9_max_7cf53 : ByteArray := prog_13_method_65_code
def yJ9_max_7cf53 : MethodName := ⟨RJ9, "max", "(II)I"⟩
set_option maxRecDepth 100000 in
theorem w_1 : (Cond.fieldLink "BelfryBox$Devices" 24 "BelfryBox$Devices" "now" "[I" : Cond) ∈ gw := List.mem_filter.mpr ⟨List.mem_append_right _ (tb1 (List.mem_of_getElem? (i := 33) rfl)), rfl⟩
set_option maxRecDepth 100000 in
theorem w_2 : (Cond.fieldLink "BelfryBox$Devices" 9 "BelfryBox$Devices" "pins" "[I" : Cond) ∈ gw := List.mem_filter.mpr ⟨List.mem_append_right _ (tb1 (List.mem_of_getElem? (i := 34) rfl)), rfl⟩
set_option maxRecDepth 100000 in
theorem w_3 : (Cond.fieldLink "BelfryBox$Devices" 15 "BelfryBox$Devices" "waiting" "[I" : Cond) ∈ gw := List.mem_filter.mpr ⟨List.mem_append_right _ (tb1 (List.mem_of_getElem? (i := 36) rfl)), rfl⟩
set_option maxRecDepth 100000 in
theorem w_4 : (Cond.constant "BelfryBox$Devices" 52 1103515245 : Cond) ∈ gw := List.mem_filter.mpr ⟨List.mem_append_right _ (tb4 (List.mem_of_getElem? (i := 101) rfl)), rfl⟩
set_option maxRecDepth 100000 in
theorem w_5 : (Cond.fieldLink "BelfryBox$Devices" 18 "BelfryBox$Devices" "rings" "[I" : Cond) ∈ gw := List.mem_filter.mpr ⟨List.mem_append_right _ (tb1 (List.mem_of_getElem? (i := 37) rfl)), rfl⟩
set_option maxRecDepth 100000 in
theorem w_6 : (Cond.fieldLink "BelfryBox$Devices" 21 "BelfryBox$Devices" "paper" "[I" : Cond) ∈ gw := List.mem_filter.mpr ⟨List.mem_append_right _ (tb1 (List.mem_of_getElem? (i := 39) rfl)), rfl⟩
set_option maxRecDepth 100000 in
theorem w_7 : (Cond.methodLink "BelfryBox$Devices" 27 yX1_pinsOfRow : Cond) ∈ gw := List.mem_filter.mpr ⟨List.mem_append_right _ (tb4 (List.mem_of_getElem? (i := 85) rfl)), rfl⟩
set_option maxRecDepth 100000 in
theorem w_8 : (Cond.code yX1_pinsOfRow prog_3_method_3_code 1 (Option.some Jvm.ClassFile.FieldType.int) : Cond) ∈ gw := List.mem_filter.mpr ⟨List.mem_append_right _ (tb4 (List.mem_of_getElem? (i := 88) rfl)), rfl⟩
set_option maxRecDepth 100000 in
theorem w_9 : (Cond.initialized "BelfryBox$Devices" : Cond) ∈ gw := List.mem_filter.mpr ⟨List.mem_append_right _ (tb1 (List.mem_of_getElem? (i := 2) rfl)), rfl⟩
set_option maxRecDepth 100000 in
theorem w_10 : (Cond.instanceMethod yX1_pinsOfRow : Cond) ∈ gw := List.mem_filter.mpr ⟨List.mem_append_right _ (tb4 (List.mem_of_getElem? (i := 86) rfl)), rfl⟩
set_option maxRecDepth 100000 in
theorem w_11 : (Cond.selects "BelfryBox$Devices" yX1_pinsOfRow yX1_pinsOfRow : Cond) ∈ gw := List.mem_filter.mpr ⟨List.mem_append_right _ (tb4 (List.mem_of_getElem? (i := 87) rfl)), rfl⟩
set_option maxRecDepth 100000 in
theorem w_12 : (Cond.methodLink "BelfryBox$Devices" 31 yX1_bellsReady : Cond) ∈ gw := List.mem_filter.mpr ⟨List.mem_append_right _ (tb4 (List.mem_of_getElem? (i := 89) rfl)), rfl⟩
set_option maxRecDepth 100000 in
theorem w_13 : (Cond.code yX1_bellsReady prog_3_method_9_code 3 (Option.some Jvm.ClassFile.FieldType.int) : Cond) ∈ gw := List.mem_filter.mpr ⟨List.mem_append_right _ (tb4 (List.mem_of_getElem? (i := 92) rfl)), rfl⟩
set_option maxRecDepth 100000 in
theorem w_14 : (Cond.instanceMethod yX1_bellsReady : Cond) ∈ gw := List.mem_filter.mpr ⟨List.mem_append_right _ (tb4 (List.mem_of_getElem? (i := 91) rfl)), rfl⟩
set_option maxRecDepth 100000 in
theorem w_15 : (Cond.selects "BelfryBox$Devices" yX1_bellsReady yX1_bellsReady : Cond) ∈ gw := List.mem_filter.mpr ⟨List.mem_append_left _ (List.mem_map.mpr ⟨(⟨"BelfryBox$Devices", "bellsReady", "()I"⟩, 5), sl4 (List.mem_of_getElem? (i := 6) rfl), rfl⟩), rfl⟩
set_option maxRecDepth 100000 in
theorem w_16 : (Cond.methodLink "BelfryBox$Devices" 34 yX1_takeKey : Cond) ∈ gw := List.mem_filter.mpr ⟨List.mem_append_right _ (tb4 (List.mem_of_getElem? (i := 93) rfl)), rfl⟩
set_option maxRecDepth 100000 in
theorem w_17 : (Cond.code yX1_takeKey prog_3_method_10_code 2 (Option.some Jvm.ClassFile.FieldType.int) : Cond) ∈ gw := List.mem_filter.mpr ⟨List.mem_append_right _ (tb4 (List.mem_of_getElem? (i := 96) rfl)), rfl⟩
set_option maxRecDepth 100000 in
theorem w_18 : (Cond.instanceMethod yX1_takeKey : Cond) ∈ gw := List.mem_filter.mpr ⟨List.mem_append_right _ (tb4 (List.mem_of_getElem? (i := 95) rfl)), rfl⟩
set_option maxRecDepth 100000 in
theorem w_19 : (Cond.selects "BelfryBox$Devices" yX1_takeKey yX1_takeKey : Cond) ∈ gw := List.mem_filter.mpr ⟨List.mem_append_left _ (List.mem_map.mpr ⟨(⟨"BelfryBox$Devices", "takeKey", "()I"⟩, 5), sl4 (List.mem_of_getElem? (i := 7) rfl), rfl⟩), rfl⟩
set_option maxRecDepth 100000 in
theorem w_20 : (Cond.methodLink "BelfryBox$Devices" 37 yX1_castDice : Cond) ∈ gw := List.mem_filter.mpr ⟨List.mem_append_right _ (tb4 (List.mem_of_getElem? (i := 97) rfl)), rfl⟩
set_option maxRecDepth 100000 in
theorem w_21 : (Cond.code yX1_castDice prog_3_method_11_code 1 (Option.some Jvm.ClassFile.FieldType.int) : Cond) ∈ gw := List.mem_filter.mpr ⟨List.mem_append_right _ (tb4 (List.mem_of_getElem? (i := 100) rfl)), rfl⟩
set_option maxRecDepth 100000 in
theorem w_22 : (Cond.instanceMethod yX1_castDice : Cond) ∈ gw := List.mem_filter.mpr ⟨List.mem_append_right _ (tb4 (List.mem_of_getElem? (i := 99) rfl)), rfl⟩
set_option maxRecDepth 100000 in
theorem w_23 : (Cond.selects "BelfryBox$Devices" yX1_castDice yX1_castDice : Cond) ∈ gw := List.mem_filter.mpr ⟨List.mem_append_left _ (List.mem_map.mpr ⟨(⟨"BelfryBox$Devices", "castDice", "()I"⟩, 5), sl4 (List.mem_of_getElem? (i := 8) rfl), rfl⟩), rfl⟩
set_option maxRecDepth 100000 in
theorem w_24 : (Cond.constant "BelfryBox$Devices" 40 65280 : Cond) ∈ gw := List.mem_filter.mpr ⟨List.mem_append_right _ (tb4 (List.mem_of_getElem? (i := 146) rfl)), rfl⟩
set_option maxRecDepth 100000 in
theorem w_25 : (Cond.methodLink "BelfryBox$Devices" 41 yX1_setClock : Cond) ∈ gw := List.mem_filter.mpr ⟨List.mem_append_right _ (tb4 (List.mem_of_getElem? (i := 147) rfl)), rfl⟩
set_option maxRecDepth 100000 in
theorem w_26 : (Cond.code yX1_setClock prog_3_method_8_code 2 (Option.none : Option Jvm.ClassFile.FieldType) : Cond) ∈ gw := List.mem_filter.mpr ⟨List.mem_append_right _ (tb4 (List.mem_of_getElem? (i := 150) rfl)), rfl⟩
set_option maxRecDepth 100000 in
theorem w_27 : (Cond.instanceMethod yX1_setClock : Cond) ∈ gw := List.mem_filter.mpr ⟨List.mem_append_right _ (tb4 (List.mem_of_getElem? (i := 149) rfl)), rfl⟩
set_option maxRecDepth 100000 in
theorem w_28 : (Cond.selects "BelfryBox$Devices" yX1_setClock yX1_setClock : Cond) ∈ gw := List.mem_filter.mpr ⟨List.mem_append_left _ (List.mem_map.mpr ⟨(⟨"BelfryBox$Devices", "setClock", "(I)V"⟩, 5), sl5 (List.mem_of_getElem? (i := 3) rfl), rfl⟩), rfl⟩
set_option maxRecDepth 100000 in
theorem w_29 : (Cond.methodLink "BelfryBox$Devices" 45 yX1_strike : Cond) ∈ gw := List.mem_filter.mpr ⟨List.mem_append_right _ (tb4 (List.mem_of_getElem? (i := 151) rfl)), rfl⟩
set_option maxRecDepth 100000 in
theorem w_30 : (Cond.code yX1_strike prog_3_method_12_code 4 (Option.none : Option Jvm.ClassFile.FieldType) : Cond) ∈ gw := List.mem_filter.mpr ⟨List.mem_append_right _ (tb4 (List.mem_of_getElem? (i := 154) rfl)), rfl⟩
set_option maxRecDepth 100000 in
theorem w_31 : (Cond.instanceMethod yX1_strike : Cond) ∈ gw := List.mem_filter.mpr ⟨List.mem_append_right _ (tb4 (List.mem_of_getElem? (i := 153) rfl)), rfl⟩
set_option maxRecDepth 100000 in
theorem w_32 : (Cond.selects "BelfryBox$Devices" yX1_strike yX1_strike : Cond) ∈ gw := List.mem_filter.mpr ⟨List.mem_append_left _ (List.mem_map.mpr ⟨(⟨"BelfryBox$Devices", "strike", "(II)V"⟩, 5), sl5 (List.mem_of_getElem? (i := 4) rfl), rfl⟩), rfl⟩
set_option maxRecDepth 100000 in
theorem w_33 : (Cond.methodLink "BelfryBox$Devices" 49 yX1_print : Cond) ∈ gw := List.mem_filter.mpr ⟨List.mem_append_right _ (tb4 (List.mem_of_getElem? (i := 155) rfl)), rfl⟩
set_option maxRecDepth 100000 in
theorem w_34 : (Cond.code yX1_print prog_3_method_13_code 3 (Option.none : Option Jvm.ClassFile.FieldType) : Cond) ∈ gw := List.mem_filter.mpr ⟨List.mem_append_right _ (tb4 (List.mem_of_getElem? (i := 158) rfl)), rfl⟩
set_option maxRecDepth 100000 in
theorem w_35 : (Cond.instanceMethod yX1_print : Cond) ∈ gw := List.mem_filter.mpr ⟨List.mem_append_right _ (tb4 (List.mem_of_getElem? (i := 157) rfl)), rfl⟩
set_option maxRecDepth 100000 in
theorem w_36 : (Cond.selects "BelfryBox$Devices" yX1_print yX1_print : Cond) ∈ gw := List.mem_filter.mpr ⟨List.mem_append_left _ (List.mem_map.mpr ⟨(⟨"BelfryBox$Devices", "print", "(I)V"⟩, 5), sl5 (List.mem_of_getElem? (i := 5) rfl), rfl⟩), rfl⟩
set_option maxRecDepth 100000 in
theorem w_37 : (Cond.methodLink "BelfryBox$Devices" 59 yX1_passBells : Cond) ∈ gw := List.mem_filter.mpr ⟨List.mem_append_right _ (tb4 (List.mem_of_getElem? (i := 187) rfl)), rfl⟩
set_option maxRecDepth 100000 in
theorem w_38 : (Cond.code yX1_passBells prog_3_method_17_code 3 (Option.none : Option Jvm.ClassFile.FieldType) : Cond) ∈ gw := List.mem_filter.mpr ⟨List.mem_append_right _ (tb4 (List.mem_of_getElem? (i := 190) rfl)), rfl⟩
set_option maxRecDepth 100000 in
theorem w_39 : (Cond.instanceMethod yX1_passBells : Cond) ∈ gw := List.mem_filter.mpr ⟨List.mem_append_right _ (tb4 (List.mem_of_getElem? (i := 189) rfl)), rfl⟩
set_option maxRecDepth 100000 in
theorem w_40 : (Cond.selects "BelfryBox$Devices" yX1_passBells yX1_passBells : Cond) ∈ gw := List.mem_filter.mpr ⟨List.mem_append_left _ (List.mem_map.mpr ⟨(⟨"BelfryBox$Devices", "passBells", "(I)V"⟩, 5), sl5 (List.mem_of_getElem? (i := 11) rfl), rfl⟩), rfl⟩
set_option maxRecDepth 100000 in
theorem w_41 : (Cond.methodLink "BelfryBox$Devices" 62 yJ9_max_7cf53 : Cond) ∈ gw := List.mem_filter.mpr ⟨List.mem_append_right _ (tb4 (List.mem_of_getElem? (i := 191) rfl)), rfl⟩
set_option maxRecDepth 100000 in
theorem w_42 : (Cond.static yJ9_max_7cf53 : Cond) ∈ gw := List.mem_filter.mpr ⟨List.mem_append_right _ (tb2 (List.mem_of_getElem? (i := 180) rfl)), rfl⟩
set_option maxRecDepth 100000 in
theorem w_43 : (Cond.initialized "java/lang/Math" : Cond) ∈ gw := List.mem_filter.mpr ⟨List.mem_append_right _ (tb1 (List.mem_of_getElem? (i := 16) rfl)), rfl⟩
set_option maxRecDepth 100000 in
theorem w_44 : (Cond.code yJ9_max_7cf53 prog_13_method_65_code 2 (Option.some Jvm.ClassFile.FieldType.int) : Cond) ∈ gw := List.mem_filter.mpr ⟨List.mem_append_right _ (tb2 (List.mem_of_getElem? (i := 181) rfl)), rfl⟩
set_option maxRecDepth 100000 in
theorem w_45 : (Cond.methodLink "BelfryBox$Devices" 56 yX1_passDrum : Cond) ∈ gw := List.mem_filter.mpr ⟨List.mem_append_right _ (tb4 (List.mem_of_getElem? (i := 183) rfl)), rfl⟩
set_option maxRecDepth 100000 in
theorem w_46 : (Cond.code yX1_passDrum prog_3_method_16_code 4 (Option.none : Option Jvm.ClassFile.FieldType) : Cond) ∈ gw := List.mem_filter.mpr ⟨List.mem_append_right _ (tb4 (List.mem_of_getElem? (i := 186) rfl)), rfl⟩
set_option maxRecDepth 100000 in
theorem w_47 : (Cond.instanceMethod yX1_passDrum : Cond) ∈ gw := List.mem_filter.mpr ⟨List.mem_append_right _ (tb4 (List.mem_of_getElem? (i := 185) rfl)), rfl⟩
set_option maxRecDepth 100000 in
theorem w_48 : (Cond.selects "BelfryBox$Devices" yX1_passDrum yX1_passDrum : Cond) ∈ gw := List.mem_filter.mpr ⟨List.mem_append_left _ (List.mem_map.mpr ⟨(⟨"BelfryBox$Devices", "passDrum", "(I)V"⟩, 5), sl5 (List.mem_of_getElem? (i := 10) rfl), rfl⟩), rfl⟩
set_option maxRecDepth 100000 in
theorem w_49 : (Cond.methodLink "BelfryBox$Devices" 53 yX1_passClock : Cond) ∈ gw := List.mem_filter.mpr ⟨List.mem_append_right _ (tb4 (List.mem_of_getElem? (i := 179) rfl)), rfl⟩
set_option maxRecDepth 100000 in
theorem w_50 : (Cond.code yX1_passClock prog_3_method_15_code 3 (Option.none : Option Jvm.ClassFile.FieldType) : Cond) ∈ gw := List.mem_filter.mpr ⟨List.mem_append_right _ (tb4 (List.mem_of_getElem? (i := 182) rfl)), rfl⟩
set_option maxRecDepth 100000 in
theorem w_51 : (Cond.instanceMethod yX1_passClock : Cond) ∈ gw := List.mem_filter.mpr ⟨List.mem_append_right _ (tb4 (List.mem_of_getElem? (i := 181) rfl)), rfl⟩
set_option maxRecDepth 100000 in
theorem w_52 : (Cond.selects "BelfryBox$Devices" yX1_passClock yX1_passClock : Cond) ∈ gw := List.mem_filter.mpr ⟨List.mem_append_left _ (List.mem_map.mpr ⟨(⟨"BelfryBox$Devices", "passClock", "(I)V"⟩, 5), sl5 (List.mem_of_getElem? (i := 9) rfl), rfl⟩), rfl⟩
theorem dX1_lineIsOn_0 : decode cX1_lineIsOn 0 = .ok (.aload_n 0, 1) := by decide +kernel
theorem dX1_lineIsOn_1 : decode cX1_lineIsOn 1 = .ok (.getfield 24, 3) := by decide +kernel
theorem dX1_lineIsOn_4 : decode cX1_lineIsOn 4 = .ok (.bipush 15, 2) := by decide +kernel
theorem dX1_lineIsOn_6 : decode cX1_lineIsOn 6 = .ok (.iaload, 1) := by decide +kernel
theorem dX1_lineIsOn_7 : decode cX1_lineIsOn 7 = .ok (.aload_n 0, 1) := by decide +kernel
theorem dX1_lineIsOn_8 : decode cX1_lineIsOn 8 = .ok (.getfield 24, 3) := by decide +kernel
theorem dX1_lineIsOn_11 : decode cX1_lineIsOn 11 = .ok (.bipush 16, 2) := by decide +kernel
theorem dX1_lineIsOn_13 : decode cX1_lineIsOn 13 = .ok (.iaload, 1) := by decide +kernel
theorem dX1_lineIsOn_14 : decode cX1_lineIsOn 14 = .ok (.iand, 1) := by decide +kernel
theorem dX1_lineIsOn_15 : decode cX1_lineIsOn 15 = .ok (.ifCond .eq 7, 3) := by decide +kernel
theorem dX1_lineIsOn_22 : decode cX1_lineIsOn 22 = .ok (.iconst 0, 1) := by decide +kernel
theorem dX1_lineIsOn_23 : decode cX1_lineIsOn 23 = .ok (.ireturn, 1) := by decide +kernel
theorem dX1_lineIsOn_18 : decode cX1_lineIsOn 18 = .ok (.iconst 1, 1) := by decide +kernel
theorem dX1_lineIsOn_19 : decode cX1_lineIsOn 19 = .ok (.goto 4, 3) := by decide +kernel
theorem dX1_pinsOfRow_0 : decode cX1_pinsOfRow 0 = .ok (.aload_n 0, 1) := by decide +kernel
theorem dX1_pinsOfRow_1 : decode cX1_pinsOfRow 1 = .ok (.getfield 9, 3) := by decide +kernel
theorem dX1_pinsOfRow_4 : decode cX1_pinsOfRow 4 = .ok (.aload_n 0, 1) := by decide +kernel
theorem dX1_pinsOfRow_5 : decode cX1_pinsOfRow 5 = .ok (.getfield 24, 3) := by decide +kernel
theorem dX1_pinsOfRow_8 : decode cX1_pinsOfRow 8 = .ok (.bipush 14, 2) := by decide +kernel
theorem dX1_pinsOfRow_10 : decode cX1_pinsOfRow 10 = .ok (.iaload, 1) := by decide +kernel
theorem dX1_pinsOfRow_11 : decode cX1_pinsOfRow 11 = .ok (.bipush 64, 2) := by decide +kernel
theorem dX1_pinsOfRow_13 : decode cX1_pinsOfRow 13 = .ok (.irem, 1) := by decide +kernel
theorem dX1_pinsOfRow_14 : decode cX1_pinsOfRow 14 = .ok (.iaload, 1) := by decide +kernel
theorem dX1_pinsOfRow_15 : decode cX1_pinsOfRow 15 = .ok (.ireturn, 1) := by decide +kernel
theorem dX1_addKey_0 : decode cX1_addKey 0 = .ok (.aload_n 0, 1) := by decide +kernel
theorem dX1_addKey_1 : decode cX1_addKey 1 = .ok (.getfield 15, 3) := by decide +kernel
theorem dX1_addKey_4 : decode cX1_addKey 4 = .ok (.aload_n 0, 1) := by decide +kernel
theorem dX1_addKey_5 : decode cX1_addKey 5 = .ok (.getfield 24, 3) := by decide +kernel
theorem dX1_addKey_8 : decode cX1_addKey 8 = .ok (.bipush 33, 2) := by decide +kernel
theorem dX1_addKey_10 : decode cX1_addKey 10 = .ok (.iaload, 1) := by decide +kernel
theorem dX1_addKey_11 : decode cX1_addKey 11 = .ok (.aload_n 0, 1) := by decide +kernel
theorem dX1_addKey_12 : decode cX1_addKey 12 = .ok (.getfield 24, 3) := by decide +kernel
theorem dX1_addKey_15 : decode cX1_addKey 15 = .ok (.bipush 19, 2) := by decide +kernel
theorem dX1_addKey_17 : decode cX1_addKey 17 = .ok (.iaload, 1) := by decide +kernel
theorem dX1_addKey_18 : decode cX1_addKey 18 = .ok (.iadd, 1) := by decide +kernel
theorem dX1_addKey_19 : decode cX1_addKey 19 = .ok (.bipush 16, 2) := by decide +kernel
theorem dX1_addKey_21 : decode cX1_addKey 21 = .ok (.irem, 1) := by decide +kernel
theorem dX1_addKey_22 : decode cX1_addKey 22 = .ok (.iload_n 1, 1) := by decide +kernel
theorem dX1_addKey_23 : decode cX1_addKey 23 = .ok (.iastore, 1) := by decide +kernel
theorem dX1_addKey_24 : decode cX1_addKey 24 = .ok (.aload_n 0, 1) := by decide +kernel
theorem dX1_addKey_25 : decode cX1_addKey 25 = .ok (.getfield 24, 3) := by decide +kernel
theorem dX1_addKey_28 : decode cX1_addKey 28 = .ok (.bipush 19, 2) := by decide +kernel
theorem dX1_addKey_30 : decode cX1_addKey 30 = .ok (.dup2, 1) := by decide +kernel
theorem dX1_addKey_31 : decode cX1_addKey 31 = .ok (.iaload, 1) := by decide +kernel
theorem dX1_addKey_32 : decode cX1_addKey 32 = .ok (.iconst 1, 1) := by decide +kernel
theorem dX1_addKey_33 : decode cX1_addKey 33 = .ok (.iadd, 1) := by decide +kernel
theorem dX1_addKey_34 : decode cX1_addKey 34 = .ok (.iastore, 1) := by decide +kernel
theorem dX1_addKey_35 : decode cX1_addKey 35 = .ok (.aload_n 0, 1) := by decide +kernel
theorem dX1_addKey_36 : decode cX1_addKey 36 = .ok (.getfield 24, 3) := by decide +kernel
theorem dX1_addKey_39 : decode cX1_addKey 39 = .ok (.bipush 15, 2) := by decide +kernel
theorem dX1_addKey_41 : decode cX1_addKey 41 = .ok (.dup2, 1) := by decide +kernel
theorem dX1_addKey_42 : decode cX1_addKey 42 = .ok (.iaload, 1) := by decide +kernel
theorem dX1_addKey_43 : decode cX1_addKey 43 = .ok (.bipush 8, 2) := by decide +kernel
theorem dX1_addKey_45 : decode cX1_addKey 45 = .ok (.ior, 1) := by decide +kernel
theorem dX1_addKey_46 : decode cX1_addKey 46 = .ok (.iastore, 1) := by decide +kernel
theorem dX1_addKey_47 : decode cX1_addKey 47 = .ok (.return_, 1) := by decide +kernel
theorem dX1_keyAt_0 : decode cX1_keyAt 0 = .ok (.iload_n 1, 1) := by decide +kernel
theorem dX1_keyAt_1 : decode cX1_keyAt 1 = .ok (.aload_n 0, 1) := by decide +kernel
theorem dX1_keyAt_2 : decode cX1_keyAt 2 = .ok (.getfield 24, 3) := by decide +kernel
theorem dX1_keyAt_5 : decode cX1_keyAt 5 = .ok (.bipush 19, 2) := by decide +kernel
theorem dX1_keyAt_7 : decode cX1_keyAt 7 = .ok (.iaload, 1) := by decide +kernel
theorem dX1_keyAt_8 : decode cX1_keyAt 8 = .ok (.if_icmp .ge 23, 3) := by decide +kernel
theorem dX1_keyAt_31 : decode cX1_keyAt 31 = .ok (.iconst 0, 1) := by decide +kernel
theorem dX1_keyAt_32 : decode cX1_keyAt 32 = .ok (.ireturn, 1) := by decide +kernel
theorem dX1_keyAt_11 : decode cX1_keyAt 11 = .ok (.aload_n 0, 1) := by decide +kernel
theorem dX1_keyAt_12 : decode cX1_keyAt 12 = .ok (.getfield 15, 3) := by decide +kernel
theorem dX1_keyAt_15 : decode cX1_keyAt 15 = .ok (.aload_n 0, 1) := by decide +kernel
theorem dX1_keyAt_16 : decode cX1_keyAt 16 = .ok (.getfield 24, 3) := by decide +kernel
theorem dX1_keyAt_19 : decode cX1_keyAt 19 = .ok (.bipush 33, 2) := by decide +kernel
theorem dX1_keyAt_21 : decode cX1_keyAt 21 = .ok (.iaload, 1) := by decide +kernel
theorem dX1_keyAt_22 : decode cX1_keyAt 22 = .ok (.iload_n 1, 1) := by decide +kernel
theorem dX1_keyAt_23 : decode cX1_keyAt 23 = .ok (.iadd, 1) := by decide +kernel
theorem dX1_keyAt_24 : decode cX1_keyAt 24 = .ok (.bipush 16, 2) := by decide +kernel
theorem dX1_keyAt_26 : decode cX1_keyAt 26 = .ok (.irem, 1) := by decide +kernel
theorem dX1_keyAt_27 : decode cX1_keyAt 27 = .ok (.iaload, 1) := by decide +kernel
theorem dX1_keyAt_28 : decode cX1_keyAt 28 = .ok (.goto 4, 3) := by decide +kernel
theorem dX1_setClock_0 : decode cX1_setClock 0 = .ok (.aload_n 0, 1) := by decide +kernel
theorem dX1_setClock_1 : decode cX1_setClock 1 = .ok (.getfield 24, 3) := by decide +kernel
theorem dX1_setClock_4 : decode cX1_setClock 4 = .ok (.bipush 10, 2) := by decide +kernel
theorem dX1_setClock_6 : decode cX1_setClock 6 = .ok (.iaload, 1) := by decide +kernel
theorem dX1_setClock_7 : decode cX1_setClock 7 = .ok (.ifCond .ne 17, 3) := by decide +kernel
theorem dX1_setClock_24 : decode cX1_setClock 24 = .ok (.aload_n 0, 1) := by decide +kernel
theorem dX1_setClock_25 : decode cX1_setClock 25 = .ok (.getfield 24, 3) := by decide +kernel
theorem dX1_setClock_28 : decode cX1_setClock 28 = .ok (.bipush 10, 2) := by decide +kernel
theorem dX1_setClock_30 : decode cX1_setClock 30 = .ok (.iload_n 1, 1) := by decide +kernel
theorem dX1_setClock_31 : decode cX1_setClock 31 = .ok (.iastore, 1) := by decide +kernel
theorem dX1_setClock_32 : decode cX1_setClock 32 = .ok (.return_, 1) := by decide +kernel
theorem dX1_setClock_10 : decode cX1_setClock 10 = .ok (.aload_n 0, 1) := by decide +kernel
theorem dX1_setClock_11 : decode cX1_setClock 11 = .ok (.getfield 24, 3) := by decide +kernel
theorem dX1_setClock_14 : decode cX1_setClock 14 = .ok (.bipush 9, 2) := by decide +kernel
theorem dX1_setClock_16 : decode cX1_setClock 16 = .ok (.aload_n 0, 1) := by decide +kernel
theorem dX1_setClock_17 : decode cX1_setClock 17 = .ok (.getfield 24, 3) := by decide +kernel
theorem dX1_setClock_20 : decode cX1_setClock 20 = .ok (.bipush 8, 2) := by decide +kernel
theorem dX1_setClock_22 : decode cX1_setClock 22 = .ok (.iaload, 1) := by decide +kernel
theorem dX1_setClock_23 : decode cX1_setClock 23 = .ok (.iastore, 1) := by decide +kernel
theorem dX1_takeKey_0 : decode cX1_takeKey 0 = .ok (.aload_n 0, 1) := by decide +kernel
theorem dX1_takeKey_1 : decode cX1_takeKey 1 = .ok (.getfield 24, 3) := by decide +kernel
theorem dX1_takeKey_4 : decode cX1_takeKey 4 = .ok (.bipush 19, 2) := by decide +kernel
theorem dX1_takeKey_6 : decode cX1_takeKey 6 = .ok (.iaload, 1) := by decide +kernel
theorem dX1_takeKey_7 : decode cX1_takeKey 7 = .ok (.ifCond .ne 5, 3) := by decide +kernel
theorem dX1_takeKey_12 : decode cX1_takeKey 12 = .ok (.aload_n 0, 1) := by decide +kernel
theorem dX1_takeKey_13 : decode cX1_takeKey 13 = .ok (.getfield 15, 3) := by decide +kernel
theorem dX1_takeKey_16 : decode cX1_takeKey 16 = .ok (.aload_n 0, 1) := by decide +kernel
theorem dX1_takeKey_17 : decode cX1_takeKey 17 = .ok (.getfield 24, 3) := by decide +kernel
theorem dX1_takeKey_20 : decode cX1_takeKey 20 = .ok (.bipush 33, 2) := by decide +kernel
theorem dX1_takeKey_22 : decode cX1_takeKey 22 = .ok (.iaload, 1) := by decide +kernel
theorem dX1_takeKey_23 : decode cX1_takeKey 23 = .ok (.bipush 16, 2) := by decide +kernel
theorem dX1_takeKey_25 : decode cX1_takeKey 25 = .ok (.irem, 1) := by decide +kernel
theorem dX1_takeKey_26 : decode cX1_takeKey 26 = .ok (.iaload, 1) := by decide +kernel
theorem dX1_takeKey_27 : decode cX1_takeKey 27 = .ok (.istore_n 1, 1) := by decide +kernel
theorem dX1_takeKey_28 : decode cX1_takeKey 28 = .ok (.aload_n 0, 1) := by decide +kernel
theorem dX1_takeKey_29 : decode cX1_takeKey 29 = .ok (.getfield 24, 3) := by decide +kernel
theorem dX1_takeKey_32 : decode cX1_takeKey 32 = .ok (.bipush 33, 2) := by decide +kernel
theorem dX1_takeKey_34 : decode cX1_takeKey 34 = .ok (.aload_n 0, 1) := by decide +kernel
theorem dX1_takeKey_35 : decode cX1_takeKey 35 = .ok (.getfield 24, 3) := by decide +kernel
theorem dX1_takeKey_38 : decode cX1_takeKey 38 = .ok (.bipush 33, 2) := by decide +kernel
theorem dX1_takeKey_40 : decode cX1_takeKey 40 = .ok (.iaload, 1) := by decide +kernel
theorem dX1_takeKey_41 : decode cX1_takeKey 41 = .ok (.iconst 1, 1) := by decide +kernel
theorem dX1_takeKey_42 : decode cX1_takeKey 42 = .ok (.iadd, 1) := by decide +kernel
theorem dX1_takeKey_43 : decode cX1_takeKey 43 = .ok (.bipush 16, 2) := by decide +kernel
theorem dX1_takeKey_45 : decode cX1_takeKey 45 = .ok (.irem, 1) := by decide +kernel
theorem dX1_takeKey_46 : decode cX1_takeKey 46 = .ok (.iastore, 1) := by decide +kernel
theorem dX1_takeKey_47 : decode cX1_takeKey 47 = .ok (.aload_n 0, 1) := by decide +kernel
theorem dX1_takeKey_48 : decode cX1_takeKey 48 = .ok (.getfield 24, 3) := by decide +kernel
theorem dX1_takeKey_51 : decode cX1_takeKey 51 = .ok (.bipush 19, 2) := by decide +kernel
theorem dX1_takeKey_53 : decode cX1_takeKey 53 = .ok (.dup2, 1) := by decide +kernel
theorem dX1_takeKey_54 : decode cX1_takeKey 54 = .ok (.iaload, 1) := by decide +kernel
theorem dX1_takeKey_55 : decode cX1_takeKey 55 = .ok (.iconst 1, 1) := by decide +kernel
theorem dX1_takeKey_56 : decode cX1_takeKey 56 = .ok (.isub, 1) := by decide +kernel
theorem dX1_takeKey_57 : decode cX1_takeKey 57 = .ok (.iastore, 1) := by decide +kernel
theorem dX1_takeKey_58 : decode cX1_takeKey 58 = .ok (.iload_n 1, 1) := by decide +kernel
theorem dX1_takeKey_59 : decode cX1_takeKey 59 = .ok (.ireturn, 1) := by decide +kernel
theorem dX1_takeKey_10 : decode cX1_takeKey 10 = .ok (.iconst 0, 1) := by decide +kernel
theorem dX1_takeKey_11 : decode cX1_takeKey 11 = .ok (.ireturn, 1) := by decide +kernel
theorem dX1_castDice_0 : decode cX1_castDice 0 = .ok (.aload_n 0, 1) := by decide +kernel
theorem dX1_castDice_1 : decode cX1_castDice 1 = .ok (.getfield 24, 3) := by decide +kernel
theorem dX1_castDice_4 : decode cX1_castDice 4 = .ok (.bipush 18, 2) := by decide +kernel
theorem dX1_castDice_6 : decode cX1_castDice 6 = .ok (.aload_n 0, 1) := by decide +kernel
theorem dX1_castDice_7 : decode cX1_castDice 7 = .ok (.getfield 24, 3) := by decide +kernel
theorem dX1_castDice_10 : decode cX1_castDice 10 = .ok (.bipush 18, 2) := by decide +kernel
theorem dX1_castDice_12 : decode cX1_castDice 12 = .ok (.iaload, 1) := by decide +kernel
theorem dX1_castDice_13 : decode cX1_castDice 13 = .ok (.ldc 52, 2) := by decide +kernel
theorem dX1_castDice_15 : decode cX1_castDice 15 = .ok (.imul, 1) := by decide +kernel
theorem dX1_castDice_16 : decode cX1_castDice 16 = .ok (.sipush 12345, 3) := by decide +kernel
theorem dX1_castDice_19 : decode cX1_castDice 19 = .ok (.iadd, 1) := by decide +kernel
theorem dX1_castDice_20 : decode cX1_castDice 20 = .ok (.iastore, 1) := by decide +kernel
theorem dX1_castDice_21 : decode cX1_castDice 21 = .ok (.aload_n 0, 1) := by decide +kernel
theorem dX1_castDice_22 : decode cX1_castDice 22 = .ok (.getfield 24, 3) := by decide +kernel
theorem dX1_castDice_25 : decode cX1_castDice 25 = .ok (.bipush 18, 2) := by decide +kernel
theorem dX1_castDice_27 : decode cX1_castDice 27 = .ok (.iaload, 1) := by decide +kernel
theorem dX1_castDice_28 : decode cX1_castDice 28 = .ok (.bipush 16, 2) := by decide +kernel
theorem dX1_castDice_30 : decode cX1_castDice 30 = .ok (.ishr, 1) := by decide +kernel
theorem dX1_castDice_31 : decode cX1_castDice 31 = .ok (.sipush 255, 3) := by decide +kernel
theorem dX1_castDice_34 : decode cX1_castDice 34 = .ok (.iand, 1) := by decide +kernel
theorem dX1_castDice_35 : decode cX1_castDice 35 = .ok (.ireturn, 1) := by decide +kernel
theorem dX1_bellsReady_0 : decode cX1_bellsReady 0 = .ok (.iconst 0, 1) := by decide +kernel
theorem dX1_bellsReady_1 : decode cX1_bellsReady 1 = .ok (.istore_n 1, 1) := by decide +kernel
theorem dX1_bellsReady_2 : decode cX1_bellsReady 2 = .ok (.iconst 0, 1) := by decide +kernel
theorem dX1_bellsReady_3 : decode cX1_bellsReady 3 = .ok (.istore_n 2, 1) := by decide +kernel
theorem dX1_bellsReady_4 : decode cX1_bellsReady 4 = .ok (.iload_n 2, 1) := by decide +kernel
theorem dX1_bellsReady_5 : decode cX1_bellsReady 5 = .ok (.bipush 8, 2) := by decide +kernel
theorem dX1_bellsReady_7 : decode cX1_bellsReady 7 = .ok (.if_icmp .ge 27, 3) := by decide +kernel
theorem dX1_bellsReady_34 : decode cX1_bellsReady 34 = .ok (.iload_n 1, 1) := by decide +kernel
theorem dX1_bellsReady_35 : decode cX1_bellsReady 35 = .ok (.ireturn, 1) := by decide +kernel
theorem dX1_bellsReady_10 : decode cX1_bellsReady 10 = .ok (.aload_n 0, 1) := by decide +kernel
theorem dX1_bellsReady_11 : decode cX1_bellsReady 11 = .ok (.getfield 24, 3) := by decide +kernel
theorem dX1_bellsReady_14 : decode cX1_bellsReady 14 = .ok (.bipush 20, 2) := by decide +kernel
theorem dX1_bellsReady_16 : decode cX1_bellsReady 16 = .ok (.iload_n 2, 1) := by decide +kernel
theorem dX1_bellsReady_17 : decode cX1_bellsReady 17 = .ok (.iadd, 1) := by decide +kernel
theorem dX1_bellsReady_18 : decode cX1_bellsReady 18 = .ok (.iaload, 1) := by decide +kernel
theorem dX1_bellsReady_19 : decode cX1_bellsReady 19 = .ok (.ifCond .ne 9, 3) := by decide +kernel
theorem dX1_bellsReady_28 : decode cX1_bellsReady 28 = .ok (.iinc 2 1, 3) := by decide +kernel
theorem dX1_bellsReady_31 : decode cX1_bellsReady 31 = .ok (.goto (-27), 3) := by decide +kernel
theorem dX1_bellsReady_22 : decode cX1_bellsReady 22 = .ok (.iload_n 1, 1) := by decide +kernel
theorem dX1_bellsReady_23 : decode cX1_bellsReady 23 = .ok (.iconst 1, 1) := by decide +kernel
theorem dX1_bellsReady_24 : decode cX1_bellsReady 24 = .ok (.iload_n 2, 1) := by decide +kernel
theorem dX1_bellsReady_25 : decode cX1_bellsReady 25 = .ok (.ishl, 1) := by decide +kernel
theorem dX1_bellsReady_26 : decode cX1_bellsReady 26 = .ok (.ior, 1) := by decide +kernel
theorem dX1_bellsReady_27 : decode cX1_bellsReady 27 = .ok (.istore_n 1, 1) := by decide +kernel
theorem dX1_strike_0 : decode cX1_strike 0 = .ok (.aload_n 0, 1) := by decide +kernel
theorem dX1_strike_1 : decode cX1_strike 1 = .ok (.getfield 24, 3) := by decide +kernel
theorem dX1_strike_4 : decode cX1_strike 4 = .ok (.bipush 20, 2) := by decide +kernel
theorem dX1_strike_6 : decode cX1_strike 6 = .ok (.iload_n 1, 1) := by decide +kernel
theorem dX1_strike_7 : decode cX1_strike 7 = .ok (.iadd, 1) := by decide +kernel
theorem dX1_strike_8 : decode cX1_strike 8 = .ok (.iaload, 1) := by decide +kernel
theorem dX1_strike_9 : decode cX1_strike 9 = .ok (.ifCond .le 15, 3) := by decide +kernel
theorem dX1_strike_24 : decode cX1_strike 24 = .ok (.aload_n 0, 1) := by decide +kernel
theorem dX1_strike_25 : decode cX1_strike 25 = .ok (.getfield 24, 3) := by decide +kernel
theorem dX1_strike_28 : decode cX1_strike 28 = .ok (.bipush 20, 2) := by decide +kernel
theorem dX1_strike_30 : decode cX1_strike 30 = .ok (.iload_n 1, 1) := by decide +kernel
theorem dX1_strike_31 : decode cX1_strike 31 = .ok (.iadd, 1) := by decide +kernel
theorem dX1_strike_32 : decode cX1_strike 32 = .ok (.bipush 100, 2) := by decide +kernel
theorem dX1_strike_34 : decode cX1_strike 34 = .ok (.bipush 20, 2) := by decide +kernel
theorem dX1_strike_36 : decode cX1_strike 36 = .ok (.iload_n 2, 1) := by decide +kernel
theorem dX1_strike_37 : decode cX1_strike 37 = .ok (.imul, 1) := by decide +kernel
theorem dX1_strike_38 : decode cX1_strike 38 = .ok (.iadd, 1) := by decide +kernel
theorem dX1_strike_39 : decode cX1_strike 39 = .ok (.iastore, 1) := by decide +kernel
theorem dX1_strike_40 : decode cX1_strike 40 = .ok (.aload_n 0, 1) := by decide +kernel
theorem dX1_strike_41 : decode cX1_strike 41 = .ok (.getfield 24, 3) := by decide +kernel
theorem dX1_strike_44 : decode cX1_strike 44 = .ok (.bipush 31, 2) := by decide +kernel
theorem dX1_strike_46 : decode cX1_strike 46 = .ok (.iaload, 1) := by decide +kernel
theorem dX1_strike_47 : decode cX1_strike 47 = .ok (.istore_n 3, 1) := by decide +kernel
theorem dX1_strike_48 : decode cX1_strike 48 = .ok (.iload_n 3, 1) := by decide +kernel
theorem dX1_strike_49 : decode cX1_strike 49 = .ok (.sipush 300, 3) := by decide +kernel
theorem dX1_strike_52 : decode cX1_strike 52 = .ok (.if_icmp .lt 15, 3) := by decide +kernel
theorem dX1_strike_67 : decode cX1_strike 67 = .ok (.aload_n 0, 1) := by decide +kernel
theorem dX1_strike_68 : decode cX1_strike 68 = .ok (.getfield 18, 3) := by decide +kernel
theorem dX1_strike_71 : decode cX1_strike 71 = .ok (.iconst 3, 1) := by decide +kernel
theorem dX1_strike_72 : decode cX1_strike 72 = .ok (.iload_n 3, 1) := by decide +kernel
theorem dX1_strike_73 : decode cX1_strike 73 = .ok (.imul, 1) := by decide +kernel
theorem dX1_strike_74 : decode cX1_strike 74 = .ok (.aload_n 0, 1) := by decide +kernel
theorem dX1_strike_75 : decode cX1_strike 75 = .ok (.getfield 24, 3) := by decide +kernel
theorem dX1_strike_78 : decode cX1_strike 78 = .ok (.bipush 7, 2) := by decide +kernel
theorem dX1_strike_80 : decode cX1_strike 80 = .ok (.iaload, 1) := by decide +kernel
theorem dX1_strike_81 : decode cX1_strike 81 = .ok (.iastore, 1) := by decide +kernel
theorem dX1_strike_82 : decode cX1_strike 82 = .ok (.aload_n 0, 1) := by decide +kernel
theorem dX1_strike_83 : decode cX1_strike 83 = .ok (.getfield 18, 3) := by decide +kernel
theorem dX1_strike_86 : decode cX1_strike 86 = .ok (.iconst 3, 1) := by decide +kernel
theorem dX1_strike_87 : decode cX1_strike 87 = .ok (.iload_n 3, 1) := by decide +kernel
theorem dX1_strike_88 : decode cX1_strike 88 = .ok (.imul, 1) := by decide +kernel
theorem dX1_strike_89 : decode cX1_strike 89 = .ok (.iconst 1, 1) := by decide +kernel
theorem dX1_strike_90 : decode cX1_strike 90 = .ok (.iadd, 1) := by decide +kernel
theorem dX1_strike_91 : decode cX1_strike 91 = .ok (.iload_n 1, 1) := by decide +kernel
theorem dX1_strike_92 : decode cX1_strike 92 = .ok (.iastore, 1) := by decide +kernel
theorem dX1_strike_93 : decode cX1_strike 93 = .ok (.aload_n 0, 1) := by decide +kernel
theorem dX1_strike_94 : decode cX1_strike 94 = .ok (.getfield 18, 3) := by decide +kernel
theorem dX1_strike_97 : decode cX1_strike 97 = .ok (.iconst 3, 1) := by decide +kernel
theorem dX1_strike_98 : decode cX1_strike 98 = .ok (.iload_n 3, 1) := by decide +kernel
theorem dX1_strike_99 : decode cX1_strike 99 = .ok (.imul, 1) := by decide +kernel
theorem dX1_strike_100 : decode cX1_strike 100 = .ok (.iconst 2, 1) := by decide +kernel
theorem dX1_strike_101 : decode cX1_strike 101 = .ok (.iadd, 1) := by decide +kernel
theorem dX1_strike_102 : decode cX1_strike 102 = .ok (.iload_n 2, 1) := by decide +kernel
theorem dX1_strike_103 : decode cX1_strike 103 = .ok (.iastore, 1) := by decide +kernel
theorem dX1_strike_104 : decode cX1_strike 104 = .ok (.aload_n 0, 1) := by decide +kernel
theorem dX1_strike_105 : decode cX1_strike 105 = .ok (.getfield 24, 3) := by decide +kernel
theorem dX1_strike_108 : decode cX1_strike 108 = .ok (.bipush 31, 2) := by decide +kernel
theorem dX1_strike_110 : decode cX1_strike 110 = .ok (.iload_n 3, 1) := by decide +kernel
theorem dX1_strike_111 : decode cX1_strike 111 = .ok (.iconst 1, 1) := by decide +kernel
theorem dX1_strike_112 : decode cX1_strike 112 = .ok (.iadd, 1) := by decide +kernel
theorem dX1_strike_113 : decode cX1_strike 113 = .ok (.iastore, 1) := by decide +kernel
theorem dX1_strike_114 : decode cX1_strike 114 = .ok (.return_, 1) := by decide +kernel
theorem dX1_strike_55 : decode cX1_strike 55 = .ok (.aload_n 0, 1) := by decide +kernel
theorem dX1_strike_56 : decode cX1_strike 56 = .ok (.getfield 24, 3) := by decide +kernel
theorem dX1_strike_59 : decode cX1_strike 59 = .ok (.bipush 29, 2) := by decide +kernel
theorem dX1_strike_61 : decode cX1_strike 61 = .ok (.dup2, 1) := by decide +kernel
theorem dX1_strike_62 : decode cX1_strike 62 = .ok (.iaload, 1) := by decide +kernel
theorem dX1_strike_63 : decode cX1_strike 63 = .ok (.iconst 1, 1) := by decide +kernel
theorem dX1_strike_64 : decode cX1_strike 64 = .ok (.iadd, 1) := by decide +kernel
theorem dX1_strike_65 : decode cX1_strike 65 = .ok (.iastore, 1) := by decide +kernel
theorem dX1_strike_66 : decode cX1_strike 66 = .ok (.return_, 1) := by decide +kernel
theorem dX1_strike_12 : decode cX1_strike 12 = .ok (.aload_n 0, 1) := by decide +kernel
theorem dX1_strike_13 : decode cX1_strike 13 = .ok (.getfield 24, 3) := by decide +kernel
theorem dX1_strike_16 : decode cX1_strike 16 = .ok (.bipush 28, 2) := by decide +kernel
theorem dX1_strike_18 : decode cX1_strike 18 = .ok (.dup2, 1) := by decide +kernel
theorem dX1_strike_19 : decode cX1_strike 19 = .ok (.iaload, 1) := by decide +kernel
theorem dX1_strike_20 : decode cX1_strike 20 = .ok (.iconst 1, 1) := by decide +kernel
theorem dX1_strike_21 : decode cX1_strike 21 = .ok (.iadd, 1) := by decide +kernel
theorem dX1_strike_22 : decode cX1_strike 22 = .ok (.iastore, 1) := by decide +kernel
theorem dX1_strike_23 : decode cX1_strike 23 = .ok (.return_, 1) := by decide +kernel
theorem dX1_print_0 : decode cX1_print 0 = .ok (.aload_n 0, 1) := by decide +kernel
theorem dX1_print_1 : decode cX1_print 1 = .ok (.getfield 24, 3) := by decide +kernel
theorem dX1_print_4 : decode cX1_print 4 = .ok (.bipush 32, 2) := by decide +kernel
theorem dX1_print_6 : decode cX1_print 6 = .ok (.iaload, 1) := by decide +kernel
theorem dX1_print_7 : decode cX1_print 7 = .ok (.istore_n 2, 1) := by decide +kernel
theorem dX1_print_8 : decode cX1_print 8 = .ok (.iload_n 2, 1) := by decide +kernel
theorem dX1_print_9 : decode cX1_print 9 = .ok (.sipush 200, 3) := by decide +kernel
theorem dX1_print_12 : decode cX1_print 12 = .ok (.if_icmp .lt 15, 3) := by decide +kernel
theorem dX1_print_27 : decode cX1_print 27 = .ok (.aload_n 0, 1) := by decide +kernel
theorem dX1_print_28 : decode cX1_print 28 = .ok (.getfield 21, 3) := by decide +kernel
theorem dX1_print_31 : decode cX1_print 31 = .ok (.iload_n 2, 1) := by decide +kernel
theorem dX1_print_32 : decode cX1_print 32 = .ok (.iload_n 1, 1) := by decide +kernel
theorem dX1_print_33 : decode cX1_print 33 = .ok (.iastore, 1) := by decide +kernel
theorem dX1_print_34 : decode cX1_print 34 = .ok (.aload_n 0, 1) := by decide +kernel
theorem dX1_print_35 : decode cX1_print 35 = .ok (.getfield 24, 3) := by decide +kernel
theorem dX1_print_38 : decode cX1_print 38 = .ok (.bipush 32, 2) := by decide +kernel
theorem dX1_print_40 : decode cX1_print 40 = .ok (.iload_n 2, 1) := by decide +kernel
theorem dX1_print_41 : decode cX1_print 41 = .ok (.iconst 1, 1) := by decide +kernel
theorem dX1_print_42 : decode cX1_print 42 = .ok (.iadd, 1) := by decide +kernel
theorem dX1_print_43 : decode cX1_print 43 = .ok (.iastore, 1) := by decide +kernel
theorem dX1_print_44 : decode cX1_print 44 = .ok (.return_, 1) := by decide +kernel
theorem dX1_print_15 : decode cX1_print 15 = .ok (.aload_n 0, 1) := by decide +kernel
theorem dX1_print_16 : decode cX1_print 16 = .ok (.getfield 24, 3) := by decide +kernel
theorem dX1_print_19 : decode cX1_print 19 = .ok (.bipush 29, 2) := by decide +kernel
theorem dX1_print_21 : decode cX1_print 21 = .ok (.dup2, 1) := by decide +kernel
theorem dX1_print_22 : decode cX1_print 22 = .ok (.iaload, 1) := by decide +kernel
theorem dX1_print_23 : decode cX1_print 23 = .ok (.iconst 1, 1) := by decide +kernel
theorem dX1_print_24 : decode cX1_print 24 = .ok (.iadd, 1) := by decide +kernel
theorem dX1_print_25 : decode cX1_print 25 = .ok (.iastore, 1) := by decide +kernel
theorem dX1_print_26 : decode cX1_print 26 = .ok (.return_, 1) := by decide +kernel
theorem dX1_readPort_0 : decode cX1_readPort 0 = .ok (.iload_n 1, 1) := by decide +kernel
theorem dX1_readPort_1 : decode cX1_readPort 1 = .ok (.tableswitch 193 0 14 #[75, 87, 98, 106, 118, 129, 134, 142, 147, 152, 160, 193, 172, 180, 188], 75) := by decide +kernel
theorem dX1_readPort_76 : decode cX1_readPort 76 = .ok (.aload_n 0, 1) := by decide +kernel
theorem dX1_readPort_77 : decode cX1_readPort 77 = .ok (.getfield 24, 3) := by decide +kernel
theorem dX1_readPort_80 : decode cX1_readPort 80 = .ok (.bipush 8, 2) := by decide +kernel
theorem dX1_readPort_82 : decode cX1_readPort 82 = .ok (.iaload, 1) := by decide +kernel
theorem dX1_readPort_83 : decode cX1_readPort 83 = .ok (.sipush 255, 3) := by decide +kernel
theorem dX1_readPort_86 : decode cX1_readPort 86 = .ok (.iand, 1) := by decide +kernel
theorem dX1_readPort_87 : decode cX1_readPort 87 = .ok (.ireturn, 1) := by decide +kernel
theorem dX1_readPort_88 : decode cX1_readPort 88 = .ok (.aload_n 0, 1) := by decide +kernel
theorem dX1_readPort_89 : decode cX1_readPort 89 = .ok (.getfield 24, 3) := by decide +kernel
theorem dX1_readPort_92 : decode cX1_readPort 92 = .ok (.bipush 8, 2) := by decide +kernel
theorem dX1_readPort_94 : decode cX1_readPort 94 = .ok (.iaload, 1) := by decide +kernel
theorem dX1_readPort_95 : decode cX1_readPort 95 = .ok (.bipush 8, 2) := by decide +kernel
theorem dX1_readPort_97 : decode cX1_readPort 97 = .ok (.ishr, 1) := by decide +kernel
theorem dX1_readPort_98 : decode cX1_readPort 98 = .ok (.ireturn, 1) := by decide +kernel
theorem dX1_readPort_99 : decode cX1_readPort 99 = .ok (.aload_n 0, 1) := by decide +kernel
theorem dX1_readPort_100 : decode cX1_readPort 100 = .ok (.getfield 24, 3) := by decide +kernel
theorem dX1_readPort_103 : decode cX1_readPort 103 = .ok (.bipush 10, 2) := by decide +kernel
theorem dX1_readPort_105 : decode cX1_readPort 105 = .ok (.iaload, 1) := by decide +kernel
theorem dX1_readPort_106 : decode cX1_readPort 106 = .ok (.ireturn, 1) := by decide +kernel
theorem dX1_readPort_107 : decode cX1_readPort 107 = .ok (.aload_n 0, 1) := by decide +kernel
theorem dX1_readPort_108 : decode cX1_readPort 108 = .ok (.getfield 24, 3) := by decide +kernel
theorem dX1_readPort_111 : decode cX1_readPort 111 = .ok (.bipush 9, 2) := by decide +kernel
theorem dX1_readPort_113 : decode cX1_readPort 113 = .ok (.iaload, 1) := by decide +kernel
theorem dX1_readPort_114 : decode cX1_readPort 114 = .ok (.sipush 255, 3) := by decide +kernel
theorem dX1_readPort_117 : decode cX1_readPort 117 = .ok (.iand, 1) := by decide +kernel
theorem dX1_readPort_118 : decode cX1_readPort 118 = .ok (.ireturn, 1) := by decide +kernel
theorem dX1_readPort_119 : decode cX1_readPort 119 = .ok (.aload_n 0, 1) := by decide +kernel
theorem dX1_readPort_120 : decode cX1_readPort 120 = .ok (.getfield 24, 3) := by decide +kernel
theorem dX1_readPort_123 : decode cX1_readPort 123 = .ok (.bipush 9, 2) := by decide +kernel
theorem dX1_readPort_125 : decode cX1_readPort 125 = .ok (.iaload, 1) := by decide +kernel
theorem dX1_readPort_126 : decode cX1_readPort 126 = .ok (.bipush 8, 2) := by decide +kernel
theorem dX1_readPort_128 : decode cX1_readPort 128 = .ok (.ishr, 1) := by decide +kernel
theorem dX1_readPort_129 : decode cX1_readPort 129 = .ok (.ireturn, 1) := by decide +kernel
theorem dX1_readPort_130 : decode cX1_readPort 130 = .ok (.aload_n 0, 1) := by decide +kernel
theorem dX1_readPort_131 : decode cX1_readPort 131 = .ok (.invokevirtual 27, 3) := by decide +kernel
theorem dX1_readPort_134 : decode cX1_readPort 134 = .ok (.ireturn, 1) := by decide +kernel
theorem dX1_readPort_135 : decode cX1_readPort 135 = .ok (.aload_n 0, 1) := by decide +kernel
theorem dX1_readPort_136 : decode cX1_readPort 136 = .ok (.getfield 24, 3) := by decide +kernel
theorem dX1_readPort_139 : decode cX1_readPort 139 = .ok (.bipush 14, 2) := by decide +kernel
theorem dX1_readPort_141 : decode cX1_readPort 141 = .ok (.iaload, 1) := by decide +kernel
theorem dX1_readPort_142 : decode cX1_readPort 142 = .ok (.ireturn, 1) := by decide +kernel
theorem dX1_readPort_143 : decode cX1_readPort 143 = .ok (.aload_n 0, 1) := by decide +kernel
theorem dX1_readPort_144 : decode cX1_readPort 144 = .ok (.invokevirtual 31, 3) := by decide +kernel
theorem dX1_readPort_147 : decode cX1_readPort 147 = .ok (.ireturn, 1) := by decide +kernel
theorem dX1_readPort_148 : decode cX1_readPort 148 = .ok (.aload_n 0, 1) := by decide +kernel
theorem dX1_readPort_149 : decode cX1_readPort 149 = .ok (.invokevirtual 34, 3) := by decide +kernel
theorem dX1_readPort_152 : decode cX1_readPort 152 = .ok (.ireturn, 1) := by decide +kernel
theorem dX1_readPort_153 : decode cX1_readPort 153 = .ok (.aload_n 0, 1) := by decide +kernel
theorem dX1_readPort_154 : decode cX1_readPort 154 = .ok (.getfield 24, 3) := by decide +kernel
theorem dX1_readPort_157 : decode cX1_readPort 157 = .ok (.bipush 19, 2) := by decide +kernel
theorem dX1_readPort_159 : decode cX1_readPort 159 = .ok (.iaload, 1) := by decide +kernel
theorem dX1_readPort_160 : decode cX1_readPort 160 = .ok (.ireturn, 1) := by decide +kernel
theorem dX1_readPort_161 : decode cX1_readPort 161 = .ok (.aload_n 0, 1) := by decide +kernel
theorem dX1_readPort_162 : decode cX1_readPort 162 = .ok (.getfield 24, 3) := by decide +kernel
theorem dX1_readPort_165 : decode cX1_readPort 165 = .ok (.bipush 32, 2) := by decide +kernel
theorem dX1_readPort_167 : decode cX1_readPort 167 = .ok (.iaload, 1) := by decide +kernel
theorem dX1_readPort_168 : decode cX1_readPort 168 = .ok (.sipush 255, 3) := by decide +kernel
theorem dX1_readPort_171 : decode cX1_readPort 171 = .ok (.iand, 1) := by decide +kernel
theorem dX1_readPort_172 : decode cX1_readPort 172 = .ok (.ireturn, 1) := by decide +kernel
theorem dX1_readPort_194 : decode cX1_readPort 194 = .ok (.iconst 0, 1) := by decide +kernel
theorem dX1_readPort_195 : decode cX1_readPort 195 = .ok (.ireturn, 1) := by decide +kernel
theorem dX1_readPort_173 : decode cX1_readPort 173 = .ok (.aload_n 0, 1) := by decide +kernel
theorem dX1_readPort_174 : decode cX1_readPort 174 = .ok (.getfield 24, 3) := by decide +kernel
theorem dX1_readPort_177 : decode cX1_readPort 177 = .ok (.bipush 15, 2) := by decide +kernel
theorem dX1_readPort_179 : decode cX1_readPort 179 = .ok (.iaload, 1) := by decide +kernel
theorem dX1_readPort_180 : decode cX1_readPort 180 = .ok (.ireturn, 1) := by decide +kernel
theorem dX1_readPort_181 : decode cX1_readPort 181 = .ok (.aload_n 0, 1) := by decide +kernel
theorem dX1_readPort_182 : decode cX1_readPort 182 = .ok (.getfield 24, 3) := by decide +kernel
theorem dX1_readPort_185 : decode cX1_readPort 185 = .ok (.bipush 16, 2) := by decide +kernel
theorem dX1_readPort_187 : decode cX1_readPort 187 = .ok (.iaload, 1) := by decide +kernel
theorem dX1_readPort_188 : decode cX1_readPort 188 = .ok (.ireturn, 1) := by decide +kernel
theorem dX1_readPort_189 : decode cX1_readPort 189 = .ok (.aload_n 0, 1) := by decide +kernel
theorem dX1_readPort_190 : decode cX1_readPort 190 = .ok (.invokevirtual 37, 3) := by decide +kernel
theorem dX1_readPort_193 : decode cX1_readPort 193 = .ok (.ireturn, 1) := by decide +kernel
theorem dX1_writePort_0 : decode cX1_writePort 0 = .ok (.iload_n 1, 1) := by decide +kernel
theorem dX1_writePort_1 : decode cX1_writePort 1 = .ok (.tableswitch 231 0 14 #[75, 97, 123, 231, 231, 133, 146, 157, 231, 231, 171, 179, 193, 209, 220], 75) := by decide +kernel
theorem dX1_writePort_76 : decode cX1_writePort 76 = .ok (.aload_n 0, 1) := by decide +kernel
theorem dX1_writePort_77 : decode cX1_writePort 77 = .ok (.getfield 24, 3) := by decide +kernel
theorem dX1_writePort_80 : decode cX1_writePort 80 = .ok (.bipush 8, 2) := by decide +kernel
theorem dX1_writePort_82 : decode cX1_writePort 82 = .ok (.aload_n 0, 1) := by decide +kernel
theorem dX1_writePort_83 : decode cX1_writePort 83 = .ok (.getfield 24, 3) := by decide +kernel
theorem dX1_writePort_86 : decode cX1_writePort 86 = .ok (.bipush 8, 2) := by decide +kernel
theorem dX1_writePort_88 : decode cX1_writePort 88 = .ok (.iaload, 1) := by decide +kernel
theorem dX1_writePort_89 : decode cX1_writePort 89 = .ok (.ldc 40, 2) := by decide +kernel
theorem dX1_writePort_91 : decode cX1_writePort 91 = .ok (.iand, 1) := by decide +kernel
theorem dX1_writePort_92 : decode cX1_writePort 92 = .ok (.iload_n 2, 1) := by decide +kernel
theorem dX1_writePort_93 : decode cX1_writePort 93 = .ok (.ior, 1) := by decide +kernel
theorem dX1_writePort_94 : decode cX1_writePort 94 = .ok (.iastore, 1) := by decide +kernel
theorem dX1_writePort_95 : decode cX1_writePort 95 = .ok (.goto 137, 3) := by decide +kernel
theorem dX1_writePort_232 : decode cX1_writePort 232 = .ok (.return_, 1) := by decide +kernel
theorem dX1_writePort_98 : decode cX1_writePort 98 = .ok (.aload_n 0, 1) := by decide +kernel
theorem dX1_writePort_99 : decode cX1_writePort 99 = .ok (.getfield 24, 3) := by decide +kernel
theorem dX1_writePort_102 : decode cX1_writePort 102 = .ok (.bipush 8, 2) := by decide +kernel
theorem dX1_writePort_104 : decode cX1_writePort 104 = .ok (.aload_n 0, 1) := by decide +kernel
theorem dX1_writePort_105 : decode cX1_writePort 105 = .ok (.getfield 24, 3) := by decide +kernel
theorem dX1_writePort_108 : decode cX1_writePort 108 = .ok (.bipush 8, 2) := by decide +kernel
theorem dX1_writePort_110 : decode cX1_writePort 110 = .ok (.iaload, 1) := by decide +kernel
theorem dX1_writePort_111 : decode cX1_writePort 111 = .ok (.sipush 255, 3) := by decide +kernel
theorem dX1_writePort_114 : decode cX1_writePort 114 = .ok (.iand, 1) := by decide +kernel
theorem dX1_writePort_115 : decode cX1_writePort 115 = .ok (.iload_n 2, 1) := by decide +kernel
theorem dX1_writePort_116 : decode cX1_writePort 116 = .ok (.bipush 8, 2) := by decide +kernel
theorem dX1_writePort_118 : decode cX1_writePort 118 = .ok (.ishl, 1) := by decide +kernel
theorem dX1_writePort_119 : decode cX1_writePort 119 = .ok (.ior, 1) := by decide +kernel
theorem dX1_writePort_120 : decode cX1_writePort 120 = .ok (.iastore, 1) := by decide +kernel
theorem dX1_writePort_121 : decode cX1_writePort 121 = .ok (.goto 111, 3) := by decide +kernel
theorem dX1_writePort_124 : decode cX1_writePort 124 = .ok (.aload_n 0, 1) := by decide +kernel
theorem dX1_writePort_125 : decode cX1_writePort 125 = .ok (.iload_n 2, 1) := by decide +kernel
theorem dX1_writePort_126 : decode cX1_writePort 126 = .ok (.iconst 1, 1) := by decide +kernel
theorem dX1_writePort_127 : decode cX1_writePort 127 = .ok (.iand, 1) := by decide +kernel
theorem dX1_writePort_128 : decode cX1_writePort 128 = .ok (.invokevirtual 41, 3) := by decide +kernel
theorem dX1_writePort_131 : decode cX1_writePort 131 = .ok (.goto 101, 3) := by decide +kernel
theorem dX1_writePort_134 : decode cX1_writePort 134 = .ok (.aload_n 0, 1) := by decide +kernel
theorem dX1_writePort_135 : decode cX1_writePort 135 = .ok (.getfield 24, 3) := by decide +kernel
theorem dX1_writePort_138 : decode cX1_writePort 138 = .ok (.bipush 11, 2) := by decide +kernel
theorem dX1_writePort_140 : decode cX1_writePort 140 = .ok (.iload_n 2, 1) := by decide +kernel
theorem dX1_writePort_141 : decode cX1_writePort 141 = .ok (.iconst 1, 1) := by decide +kernel
theorem dX1_writePort_142 : decode cX1_writePort 142 = .ok (.iand, 1) := by decide +kernel
theorem dX1_writePort_143 : decode cX1_writePort 143 = .ok (.iastore, 1) := by decide +kernel
theorem dX1_writePort_144 : decode cX1_writePort 144 = .ok (.goto 88, 3) := by decide +kernel
theorem dX1_writePort_147 : decode cX1_writePort 147 = .ok (.aload_n 0, 1) := by decide +kernel
theorem dX1_writePort_148 : decode cX1_writePort 148 = .ok (.getfield 24, 3) := by decide +kernel
theorem dX1_writePort_151 : decode cX1_writePort 151 = .ok (.bipush 12, 2) := by decide +kernel
theorem dX1_writePort_153 : decode cX1_writePort 153 = .ok (.iload_n 2, 1) := by decide +kernel
theorem dX1_writePort_154 : decode cX1_writePort 154 = .ok (.iastore, 1) := by decide +kernel
theorem dX1_writePort_155 : decode cX1_writePort 155 = .ok (.goto 77, 3) := by decide +kernel
theorem dX1_writePort_158 : decode cX1_writePort 158 = .ok (.aload_n 0, 1) := by decide +kernel
theorem dX1_writePort_159 : decode cX1_writePort 159 = .ok (.iload_n 2, 1) := by decide +kernel
theorem dX1_writePort_160 : decode cX1_writePort 160 = .ok (.bipush 7, 2) := by decide +kernel
theorem dX1_writePort_162 : decode cX1_writePort 162 = .ok (.iand, 1) := by decide +kernel
theorem dX1_writePort_163 : decode cX1_writePort 163 = .ok (.iload_n 2, 1) := by decide +kernel
theorem dX1_writePort_164 : decode cX1_writePort 164 = .ok (.iconst 3, 1) := by decide +kernel
theorem dX1_writePort_165 : decode cX1_writePort 165 = .ok (.ishr, 1) := by decide +kernel
theorem dX1_writePort_166 : decode cX1_writePort 166 = .ok (.invokevirtual 45, 3) := by decide +kernel
theorem dX1_writePort_169 : decode cX1_writePort 169 = .ok (.goto 63, 3) := by decide +kernel
theorem dX1_writePort_172 : decode cX1_writePort 172 = .ok (.aload_n 0, 1) := by decide +kernel
theorem dX1_writePort_173 : decode cX1_writePort 173 = .ok (.iload_n 2, 1) := by decide +kernel
theorem dX1_writePort_174 : decode cX1_writePort 174 = .ok (.invokevirtual 49, 3) := by decide +kernel
theorem dX1_writePort_177 : decode cX1_writePort 177 = .ok (.goto 55, 3) := by decide +kernel
theorem dX1_writePort_180 : decode cX1_writePort 180 = .ok (.aload_n 0, 1) := by decide +kernel
theorem dX1_writePort_181 : decode cX1_writePort 181 = .ok (.getfield 24, 3) := by decide +kernel
theorem dX1_writePort_184 : decode cX1_writePort 184 = .ok (.bipush 17, 2) := by decide +kernel
theorem dX1_writePort_186 : decode cX1_writePort 186 = .ok (.bipush 64, 2) := by decide +kernel
theorem dX1_writePort_188 : decode cX1_writePort 188 = .ok (.iload_n 2, 1) := by decide +kernel
theorem dX1_writePort_189 : decode cX1_writePort 189 = .ok (.imul, 1) := by decide +kernel
theorem dX1_writePort_190 : decode cX1_writePort 190 = .ok (.iastore, 1) := by decide +kernel
theorem dX1_writePort_191 : decode cX1_writePort 191 = .ok (.goto 41, 3) := by decide +kernel
theorem dX1_writePort_194 : decode cX1_writePort 194 = .ok (.aload_n 0, 1) := by decide +kernel
theorem dX1_writePort_195 : decode cX1_writePort 195 = .ok (.getfield 24, 3) := by decide +kernel
theorem dX1_writePort_198 : decode cX1_writePort 198 = .ok (.bipush 15, 2) := by decide +kernel
theorem dX1_writePort_200 : decode cX1_writePort 200 = .ok (.dup2, 1) := by decide +kernel
theorem dX1_writePort_201 : decode cX1_writePort 201 = .ok (.iaload, 1) := by decide +kernel
theorem dX1_writePort_202 : decode cX1_writePort 202 = .ok (.iload_n 2, 1) := by decide +kernel
theorem dX1_writePort_203 : decode cX1_writePort 203 = .ok (.iconst (-1), 1) := by decide +kernel
theorem dX1_writePort_204 : decode cX1_writePort 204 = .ok (.ixor, 1) := by decide +kernel
theorem dX1_writePort_205 : decode cX1_writePort 205 = .ok (.iand, 1) := by decide +kernel
theorem dX1_writePort_206 : decode cX1_writePort 206 = .ok (.iastore, 1) := by decide +kernel
theorem dX1_writePort_207 : decode cX1_writePort 207 = .ok (.goto 25, 3) := by decide +kernel
theorem dX1_writePort_210 : decode cX1_writePort 210 = .ok (.aload_n 0, 1) := by decide +kernel
theorem dX1_writePort_211 : decode cX1_writePort 211 = .ok (.getfield 24, 3) := by decide +kernel
theorem dX1_writePort_214 : decode cX1_writePort 214 = .ok (.bipush 16, 2) := by decide +kernel
theorem dX1_writePort_216 : decode cX1_writePort 216 = .ok (.iload_n 2, 1) := by decide +kernel
theorem dX1_writePort_217 : decode cX1_writePort 217 = .ok (.iastore, 1) := by decide +kernel
theorem dX1_writePort_218 : decode cX1_writePort 218 = .ok (.goto 14, 3) := by decide +kernel
theorem dX1_writePort_221 : decode cX1_writePort 221 = .ok (.aload_n 0, 1) := by decide +kernel
theorem dX1_writePort_222 : decode cX1_writePort 222 = .ok (.getfield 24, 3) := by decide +kernel
theorem dX1_writePort_225 : decode cX1_writePort 225 = .ok (.bipush 18, 2) := by decide +kernel
theorem dX1_writePort_227 : decode cX1_writePort 227 = .ok (.iload_n 2, 1) := by decide +kernel
theorem dX1_writePort_228 : decode cX1_writePort 228 = .ok (.iastore, 1) := by decide +kernel
theorem dX1_writePort_229 : decode cX1_writePort 229 = .ok (.goto 3, 3) := by decide +kernel
theorem dX1_passClock_0 : decode cX1_passClock 0 = .ok (.iconst 0, 1) := by decide +kernel
theorem dX1_passClock_1 : decode cX1_passClock 1 = .ok (.istore_n 2, 1) := by decide +kernel
theorem dX1_passClock_2 : decode cX1_passClock 2 = .ok (.iload_n 2, 1) := by decide +kernel
theorem dX1_passClock_3 : decode cX1_passClock 3 = .ok (.iload_n 1, 1) := by decide +kernel
theorem dX1_passClock_4 : decode cX1_passClock 4 = .ok (.if_icmp .ge 58, 3) := by decide +kernel
theorem dX1_passClock_62 : decode cX1_passClock 62 = .ok (.return_, 1) := by decide +kernel
theorem dX1_passClock_7 : decode cX1_passClock 7 = .ok (.aload_n 0, 1) := by decide +kernel
theorem dX1_passClock_8 : decode cX1_passClock 8 = .ok (.getfield 24, 3) := by decide +kernel
theorem dX1_passClock_11 : decode cX1_passClock 11 = .ok (.bipush 9, 2) := by decide +kernel
theorem dX1_passClock_13 : decode cX1_passClock 13 = .ok (.iaload, 1) := by decide +kernel
theorem dX1_passClock_14 : decode cX1_passClock 14 = .ok (.ifCond .ne 31, 3) := by decide +kernel
theorem dX1_passClock_45 : decode cX1_passClock 45 = .ok (.aload_n 0, 1) := by decide +kernel
theorem dX1_passClock_46 : decode cX1_passClock 46 = .ok (.getfield 24, 3) := by decide +kernel
theorem dX1_passClock_49 : decode cX1_passClock 49 = .ok (.bipush 9, 2) := by decide +kernel
theorem dX1_passClock_51 : decode cX1_passClock 51 = .ok (.dup2, 1) := by decide +kernel
theorem dX1_passClock_52 : decode cX1_passClock 52 = .ok (.iaload, 1) := by decide +kernel
theorem dX1_passClock_53 : decode cX1_passClock 53 = .ok (.iconst 1, 1) := by decide +kernel
theorem dX1_passClock_54 : decode cX1_passClock 54 = .ok (.isub, 1) := by decide +kernel
theorem dX1_passClock_55 : decode cX1_passClock 55 = .ok (.iastore, 1) := by decide +kernel
theorem dX1_passClock_56 : decode cX1_passClock 56 = .ok (.iinc 2 1, 3) := by decide +kernel
theorem dX1_passClock_59 : decode cX1_passClock 59 = .ok (.goto (-57), 3) := by decide +kernel
theorem dX1_passClock_17 : decode cX1_passClock 17 = .ok (.aload_n 0, 1) := by decide +kernel
theorem dX1_passClock_18 : decode cX1_passClock 18 = .ok (.getfield 24, 3) := by decide +kernel
theorem dX1_passClock_21 : decode cX1_passClock 21 = .ok (.bipush 9, 2) := by decide +kernel
theorem dX1_passClock_23 : decode cX1_passClock 23 = .ok (.aload_n 0, 1) := by decide +kernel
theorem dX1_passClock_24 : decode cX1_passClock 24 = .ok (.getfield 24, 3) := by decide +kernel
theorem dX1_passClock_27 : decode cX1_passClock 27 = .ok (.bipush 8, 2) := by decide +kernel
theorem dX1_passClock_29 : decode cX1_passClock 29 = .ok (.iaload, 1) := by decide +kernel
theorem dX1_passClock_30 : decode cX1_passClock 30 = .ok (.iastore, 1) := by decide +kernel
theorem dX1_passClock_31 : decode cX1_passClock 31 = .ok (.aload_n 0, 1) := by decide +kernel
theorem dX1_passClock_32 : decode cX1_passClock 32 = .ok (.getfield 24, 3) := by decide +kernel
theorem dX1_passClock_35 : decode cX1_passClock 35 = .ok (.bipush 15, 2) := by decide +kernel
theorem dX1_passClock_37 : decode cX1_passClock 37 = .ok (.dup2, 1) := by decide +kernel
theorem dX1_passClock_38 : decode cX1_passClock 38 = .ok (.iaload, 1) := by decide +kernel
theorem dX1_passClock_39 : decode cX1_passClock 39 = .ok (.iconst 1, 1) := by decide +kernel
theorem dX1_passClock_40 : decode cX1_passClock 40 = .ok (.ior, 1) := by decide +kernel
theorem dX1_passClock_41 : decode cX1_passClock 41 = .ok (.iastore, 1) := by decide +kernel
theorem dX1_passClock_42 : decode cX1_passClock 42 = .ok (.goto 14, 3) := by decide +kernel
theorem dX1_passDrum_0 : decode cX1_passDrum 0 = .ok (.bipush 8, 2) := by decide +kernel
theorem dX1_passDrum_2 : decode cX1_passDrum 2 = .ok (.aload_n 0, 1) := by decide +kernel
theorem dX1_passDrum_3 : decode cX1_passDrum 3 = .ok (.getfield 24, 3) := by decide +kernel
theorem dX1_passDrum_6 : decode cX1_passDrum 6 = .ok (.bipush 12, 2) := by decide +kernel
theorem dX1_passDrum_8 : decode cX1_passDrum 8 = .ok (.iaload, 1) := by decide +kernel
theorem dX1_passDrum_9 : decode cX1_passDrum 9 = .ok (.iconst 1, 1) := by decide +kernel
theorem dX1_passDrum_10 : decode cX1_passDrum 10 = .ok (.iadd, 1) := by decide +kernel
theorem dX1_passDrum_11 : decode cX1_passDrum 11 = .ok (.imul, 1) := by decide +kernel
theorem dX1_passDrum_12 : decode cX1_passDrum 12 = .ok (.istore_n 2, 1) := by decide +kernel
theorem dX1_passDrum_13 : decode cX1_passDrum 13 = .ok (.iconst 0, 1) := by decide +kernel
theorem dX1_passDrum_14 : decode cX1_passDrum 14 = .ok (.istore_n 3, 1) := by decide +kernel
theorem dX1_passDrum_15 : decode cX1_passDrum 15 = .ok (.iload_n 3, 1) := by decide +kernel
theorem dX1_passDrum_16 : decode cX1_passDrum 16 = .ok (.iload_n 1, 1) := by decide +kernel
theorem dX1_passDrum_17 : decode cX1_passDrum 17 = .ok (.if_icmp .ge 76, 3) := by decide +kernel
theorem dX1_passDrum_93 : decode cX1_passDrum 93 = .ok (.return_, 1) := by decide +kernel
theorem dX1_passDrum_20 : decode cX1_passDrum 20 = .ok (.aload_n 0, 1) := by decide +kernel
theorem dX1_passDrum_21 : decode cX1_passDrum 21 = .ok (.getfield 24, 3) := by decide +kernel
theorem dX1_passDrum_24 : decode cX1_passDrum 24 = .ok (.bipush 13, 2) := by decide +kernel
theorem dX1_passDrum_26 : decode cX1_passDrum 26 = .ok (.dup2, 1) := by decide +kernel
theorem dX1_passDrum_27 : decode cX1_passDrum 27 = .ok (.iaload, 1) := by decide +kernel
theorem dX1_passDrum_28 : decode cX1_passDrum 28 = .ok (.iconst 1, 1) := by decide +kernel
theorem dX1_passDrum_29 : decode cX1_passDrum 29 = .ok (.iadd, 1) := by decide +kernel
theorem dX1_passDrum_30 : decode cX1_passDrum 30 = .ok (.iastore, 1) := by decide +kernel
theorem dX1_passDrum_31 : decode cX1_passDrum 31 = .ok (.aload_n 0, 1) := by decide +kernel
theorem dX1_passDrum_32 : decode cX1_passDrum 32 = .ok (.getfield 24, 3) := by decide +kernel
theorem dX1_passDrum_35 : decode cX1_passDrum 35 = .ok (.bipush 13, 2) := by decide +kernel
theorem dX1_passDrum_37 : decode cX1_passDrum 37 = .ok (.iaload, 1) := by decide +kernel
theorem dX1_passDrum_38 : decode cX1_passDrum 38 = .ok (.iload_n 2, 1) := by decide +kernel
theorem dX1_passDrum_39 : decode cX1_passDrum 39 = .ok (.if_icmp .lt 48, 3) := by decide +kernel
theorem dX1_passDrum_87 : decode cX1_passDrum 87 = .ok (.iinc 3 1, 3) := by decide +kernel
theorem dX1_passDrum_90 : decode cX1_passDrum 90 = .ok (.goto (-75), 3) := by decide +kernel
theorem dX1_passDrum_42 : decode cX1_passDrum 42 = .ok (.aload_n 0, 1) := by decide +kernel
theorem dX1_passDrum_43 : decode cX1_passDrum 43 = .ok (.getfield 24, 3) := by decide +kernel
theorem dX1_passDrum_46 : decode cX1_passDrum 46 = .ok (.bipush 13, 2) := by decide +kernel
theorem dX1_passDrum_48 : decode cX1_passDrum 48 = .ok (.iconst 0, 1) := by decide +kernel
theorem dX1_passDrum_49 : decode cX1_passDrum 49 = .ok (.iastore, 1) := by decide +kernel
theorem dX1_passDrum_50 : decode cX1_passDrum 50 = .ok (.aload_n 0, 1) := by decide +kernel
theorem dX1_passDrum_51 : decode cX1_passDrum 51 = .ok (.getfield 24, 3) := by decide +kernel
theorem dX1_passDrum_54 : decode cX1_passDrum 54 = .ok (.bipush 14, 2) := by decide +kernel
theorem dX1_passDrum_56 : decode cX1_passDrum 56 = .ok (.aload_n 0, 1) := by decide +kernel
theorem dX1_passDrum_57 : decode cX1_passDrum 57 = .ok (.getfield 24, 3) := by decide +kernel
theorem dX1_passDrum_60 : decode cX1_passDrum 60 = .ok (.bipush 14, 2) := by decide +kernel
theorem dX1_passDrum_62 : decode cX1_passDrum 62 = .ok (.iaload, 1) := by decide +kernel
theorem dX1_passDrum_63 : decode cX1_passDrum 63 = .ok (.iconst 1, 1) := by decide +kernel
theorem dX1_passDrum_64 : decode cX1_passDrum 64 = .ok (.iadd, 1) := by decide +kernel
theorem dX1_passDrum_65 : decode cX1_passDrum 65 = .ok (.bipush 64, 2) := by decide +kernel
theorem dX1_passDrum_67 : decode cX1_passDrum 67 = .ok (.irem, 1) := by decide +kernel
theorem dX1_passDrum_68 : decode cX1_passDrum 68 = .ok (.iastore, 1) := by decide +kernel
theorem dX1_passDrum_69 : decode cX1_passDrum 69 = .ok (.aload_n 0, 1) := by decide +kernel
theorem dX1_passDrum_70 : decode cX1_passDrum 70 = .ok (.invokevirtual 27, 3) := by decide +kernel
theorem dX1_passDrum_73 : decode cX1_passDrum 73 = .ok (.ifCond .eq 14, 3) := by decide +kernel
theorem dX1_passDrum_76 : decode cX1_passDrum 76 = .ok (.aload_n 0, 1) := by decide +kernel
theorem dX1_passDrum_77 : decode cX1_passDrum 77 = .ok (.getfield 24, 3) := by decide +kernel
theorem dX1_passDrum_80 : decode cX1_passDrum 80 = .ok (.bipush 15, 2) := by decide +kernel
theorem dX1_passDrum_82 : decode cX1_passDrum 82 = .ok (.dup2, 1) := by decide +kernel
theorem dX1_passDrum_83 : decode cX1_passDrum 83 = .ok (.iaload, 1) := by decide +kernel
theorem dX1_passDrum_84 : decode cX1_passDrum 84 = .ok (.iconst 2, 1) := by decide +kernel
theorem dX1_passDrum_85 : decode cX1_passDrum 85 = .ok (.ior, 1) := by decide +kernel
theorem dX1_passDrum_86 : decode cX1_passDrum 86 = .ok (.iastore, 1) := by decide +kernel
theorem dX1_passBells_0 : decode cX1_passBells 0 = .ok (.bipush 20, 2) := by decide +kernel
theorem dX1_passBells_2 : decode cX1_passBells 2 = .ok (.istore_n 2, 1) := by decide +kernel
theorem dX1_passBells_3 : decode cX1_passBells 3 = .ok (.iload_n 2, 1) := by decide +kernel
theorem dX1_passBells_4 : decode cX1_passBells 4 = .ok (.bipush 28, 2) := by decide +kernel
theorem dX1_passBells_6 : decode cX1_passBells 6 = .ok (.if_icmp .ge 59, 3) := by decide +kernel
theorem dX1_passBells_65 : decode cX1_passBells 65 = .ok (.return_, 1) := by decide +kernel
theorem dX1_passBells_9 : decode cX1_passBells 9 = .ok (.aload_n 0, 1) := by decide +kernel
theorem dX1_passBells_10 : decode cX1_passBells 10 = .ok (.getfield 24, 3) := by decide +kernel
theorem dX1_passBells_13 : decode cX1_passBells 13 = .ok (.iload_n 2, 1) := by decide +kernel
theorem dX1_passBells_14 : decode cX1_passBells 14 = .ok (.iaload, 1) := by decide +kernel
theorem dX1_passBells_15 : decode cX1_passBells 15 = .ok (.iload_n 1, 1) := by decide +kernel
theorem dX1_passBells_16 : decode cX1_passBells 16 = .ok (.if_icmp .le 16, 3) := by decide +kernel
theorem dX1_passBells_32 : decode cX1_passBells 32 = .ok (.aload_n 0, 1) := by decide +kernel
theorem dX1_passBells_33 : decode cX1_passBells 33 = .ok (.getfield 24, 3) := by decide +kernel
theorem dX1_passBells_36 : decode cX1_passBells 36 = .ok (.iload_n 2, 1) := by decide +kernel
theorem dX1_passBells_37 : decode cX1_passBells 37 = .ok (.iaload, 1) := by decide +kernel
theorem dX1_passBells_38 : decode cX1_passBells 38 = .ok (.ifCond .le 21, 3) := by decide +kernel
theorem dX1_passBells_59 : decode cX1_passBells 59 = .ok (.iinc 2 1, 3) := by decide +kernel
theorem dX1_passBells_62 : decode cX1_passBells 62 = .ok (.goto (-59), 3) := by decide +kernel
theorem dX1_passBells_41 : decode cX1_passBells 41 = .ok (.aload_n 0, 1) := by decide +kernel
theorem dX1_passBells_42 : decode cX1_passBells 42 = .ok (.getfield 24, 3) := by decide +kernel
theorem dX1_passBells_45 : decode cX1_passBells 45 = .ok (.iload_n 2, 1) := by decide +kernel
theorem dX1_passBells_46 : decode cX1_passBells 46 = .ok (.iconst 0, 1) := by decide +kernel
theorem dX1_passBells_47 : decode cX1_passBells 47 = .ok (.iastore, 1) := by decide +kernel
theorem dX1_passBells_48 : decode cX1_passBells 48 = .ok (.aload_n 0, 1) := by decide +kernel
theorem dX1_passBells_49 : decode cX1_passBells 49 = .ok (.getfield 24, 3) := by decide +kernel
theorem dX1_passBells_52 : decode cX1_passBells 52 = .ok (.bipush 15, 2) := by decide +kernel
theorem dX1_passBells_54 : decode cX1_passBells 54 = .ok (.dup2, 1) := by decide +kernel
theorem dX1_passBells_55 : decode cX1_passBells 55 = .ok (.iaload, 1) := by decide +kernel
theorem dX1_passBells_56 : decode cX1_passBells 56 = .ok (.iconst 4, 1) := by decide +kernel
theorem dX1_passBells_57 : decode cX1_passBells 57 = .ok (.ior, 1) := by decide +kernel
theorem dX1_passBells_58 : decode cX1_passBells 58 = .ok (.iastore, 1) := by decide +kernel
theorem dX1_passBells_19 : decode cX1_passBells 19 = .ok (.aload_n 0, 1) := by decide +kernel
theorem dX1_passBells_20 : decode cX1_passBells 20 = .ok (.getfield 24, 3) := by decide +kernel
theorem dX1_passBells_23 : decode cX1_passBells 23 = .ok (.iload_n 2, 1) := by decide +kernel
theorem dX1_passBells_24 : decode cX1_passBells 24 = .ok (.dup2, 1) := by decide +kernel
theorem dX1_passBells_25 : decode cX1_passBells 25 = .ok (.iaload, 1) := by decide +kernel
theorem dX1_passBells_26 : decode cX1_passBells 26 = .ok (.iload_n 1, 1) := by decide +kernel
theorem dX1_passBells_27 : decode cX1_passBells 27 = .ok (.isub, 1) := by decide +kernel
theorem dX1_passBells_28 : decode cX1_passBells 28 = .ok (.iastore, 1) := by decide +kernel
theorem dX1_passBells_29 : decode cX1_passBells 29 = .ok (.goto 30, 3) := by decide +kernel
theorem dX1_pass_0 : decode cX1_pass 0 = .ok (.aload_n 0, 1) := by decide +kernel
theorem dX1_pass_1 : decode cX1_pass 1 = .ok (.getfield 24, 3) := by decide +kernel
theorem dX1_pass_4 : decode cX1_pass 4 = .ok (.bipush 7, 2) := by decide +kernel
theorem dX1_pass_6 : decode cX1_pass 6 = .ok (.dup2, 1) := by decide +kernel
theorem dX1_pass_7 : decode cX1_pass 7 = .ok (.iaload, 1) := by decide +kernel
theorem dX1_pass_8 : decode cX1_pass 8 = .ok (.iload_n 1, 1) := by decide +kernel
theorem dX1_pass_9 : decode cX1_pass 9 = .ok (.iadd, 1) := by decide +kernel
theorem dX1_pass_10 : decode cX1_pass 10 = .ok (.iastore, 1) := by decide +kernel
theorem dX1_pass_11 : decode cX1_pass 11 = .ok (.aload_n 0, 1) := by decide +kernel
theorem dX1_pass_12 : decode cX1_pass 12 = .ok (.getfield 24, 3) := by decide +kernel
theorem dX1_pass_15 : decode cX1_pass 15 = .ok (.bipush 10, 2) := by decide +kernel
theorem dX1_pass_17 : decode cX1_pass 17 = .ok (.iaload, 1) := by decide +kernel
theorem dX1_pass_18 : decode cX1_pass 18 = .ok (.ifCond .eq 8, 3) := by decide +kernel
theorem dX1_pass_26 : decode cX1_pass 26 = .ok (.aload_n 0, 1) := by decide +kernel
theorem dX1_pass_27 : decode cX1_pass 27 = .ok (.getfield 24, 3) := by decide +kernel
theorem dX1_pass_30 : decode cX1_pass 30 = .ok (.bipush 11, 2) := by decide +kernel
theorem dX1_pass_32 : decode cX1_pass 32 = .ok (.iaload, 1) := by decide +kernel
theorem dX1_pass_33 : decode cX1_pass 33 = .ok (.ifCond .eq 8, 3) := by decide +kernel
theorem dX1_pass_41 : decode cX1_pass 41 = .ok (.aload_n 0, 1) := by decide +kernel
theorem dX1_pass_42 : decode cX1_pass 42 = .ok (.iload_n 1, 1) := by decide +kernel
theorem dX1_pass_43 : decode cX1_pass 43 = .ok (.invokevirtual 59, 3) := by decide +kernel
theorem dX1_pass_46 : decode cX1_pass 46 = .ok (.aload_n 0, 1) := by decide +kernel
theorem dX1_pass_47 : decode cX1_pass 47 = .ok (.getfield 24, 3) := by decide +kernel
theorem dX1_pass_50 : decode cX1_pass 50 = .ok (.bipush 17, 2) := by decide +kernel
theorem dX1_pass_52 : decode cX1_pass 52 = .ok (.iaload, 1) := by decide +kernel
theorem dX1_pass_53 : decode cX1_pass 53 = .ok (.ifCond .le 18, 3) := by decide +kernel
theorem dX1_pass_71 : decode cX1_pass 71 = .ok (.iconst 0, 1) := by decide +kernel
theorem dX1_pass_72 : decode cX1_pass 72 = .ok (.istore_n 2, 1) := by decide +kernel
theorem dX1_pass_73 : decode cX1_pass 73 = .ok (.aload_n 0, 1) := by decide +kernel
theorem dX1_pass_74 : decode cX1_pass 74 = .ok (.getfield 24, 3) := by decide +kernel
theorem dX1_pass_77 : decode cX1_pass 77 = .ok (.bipush 17, 2) := by decide +kernel
theorem dX1_pass_79 : decode cX1_pass 79 = .ok (.iconst 0, 1) := by decide +kernel
theorem dX1_pass_80 : decode cX1_pass 80 = .ok (.aload_n 0, 1) := by decide +kernel
theorem dX1_pass_81 : decode cX1_pass 81 = .ok (.getfield 24, 3) := by decide +kernel
theorem dX1_pass_84 : decode cX1_pass 84 = .ok (.bipush 17, 2) := by decide +kernel
theorem dX1_pass_86 : decode cX1_pass 86 = .ok (.iaload, 1) := by decide +kernel
theorem dX1_pass_87 : decode cX1_pass 87 = .ok (.iload_n 1, 1) := by decide +kernel
theorem dX1_pass_88 : decode cX1_pass 88 = .ok (.isub, 1) := by decide +kernel
theorem dX1_pass_89 : decode cX1_pass 89 = .ok (.invokestatic 62, 3) := by decide +kernel
theorem dX1_pass_92 : decode cX1_pass 92 = .ok (.iastore, 1) := by decide +kernel
theorem dX1_pass_93 : decode cX1_pass 93 = .ok (.iload_n 2, 1) := by decide +kernel
theorem dX1_pass_94 : decode cX1_pass 94 = .ok (.ireturn, 1) := by decide +kernel
theorem dX1_pass_56 : decode cX1_pass 56 = .ok (.aload_n 0, 1) := by decide +kernel
theorem dX1_pass_57 : decode cX1_pass 57 = .ok (.getfield 24, 3) := by decide +kernel
theorem dX1_pass_60 : decode cX1_pass 60 = .ok (.bipush 17, 2) := by decide +kernel
theorem dX1_pass_62 : decode cX1_pass 62 = .ok (.iaload, 1) := by decide +kernel
theorem dX1_pass_63 : decode cX1_pass 63 = .ok (.iload_n 1, 1) := by decide +kernel
theorem dX1_pass_64 : decode cX1_pass 64 = .ok (.if_icmp .gt 7, 3) := by decide +kernel
theorem dX1_pass_67 : decode cX1_pass 67 = .ok (.iconst 1, 1) := by decide +kernel
theorem dX1_pass_68 : decode cX1_pass 68 = .ok (.goto 4, 3) := by decide +kernel
theorem dX1_pass_36 : decode cX1_pass 36 = .ok (.aload_n 0, 1) := by decide +kernel
theorem dX1_pass_37 : decode cX1_pass 37 = .ok (.iload_n 1, 1) := by decide +kernel
theorem dX1_pass_38 : decode cX1_pass 38 = .ok (.invokevirtual 56, 3) := by decide +kernel
theorem dX1_pass_21 : decode cX1_pass 21 = .ok (.aload_n 0, 1) := by decide +kernel
theorem dX1_pass_22 : decode cX1_pass 22 = .ok (.iload_n 1, 1) := by decide +kernel
theorem dX1_pass_23 : decode cX1_pass 23 = .ok (.invokevirtual 53, 3) := by decide +kernel
set_option maxHeartbeats 4000000 in
set_option maxRecDepth 100000 in
theorem c_s_lineIsOn (l : Launch) (D : va_G) (cA cB : ClassId) (h0 : Nat) (hn : Nat) (h1 : Nat) (h2 : Nat) (h3 : Nat) (h4 : Nat) (f : Nat → Int32) (pn : Nat → Int32) (wt : Nat → Int32) (rg : Nat → Int32) (pa : Nat → Int32) (hf : okN f) (hpn : ∀ j, j < 64 → ∃ k : Nat, k < 256 ∧ pn j = nI k) (hwt : ∀ j, j < 16 → ∃ k : Nat, k < 256 ∧ wt j = nI k) : CI l yX1_lineIsOn cX1_lineIsOn 1 (some .boolean) 0 0 0 0 D cA cB [.ref h0] [(h0, .inr (1, [.ref hn, .ref h1, .ref h2, .ref h3, .ref h4])), (hn, .inl (cA, 34, .inl f)), (h1, .inl (cA, 64, .inl pn)), (h2, .inl (cA, 16, .inl wt)), (h3, .inl (cA, 900, .inl rg)), (h4, .inl (cA, 200, .inl pa))] (fun r W1 => ∃ (f2 : Nat → Int32) (pn2 : Nat → Int32) (wt2 : Nat → Int32) (rg2 : Nat → Int32) (pa2 : Nat → Int32) (rk : Nat), r = nI rk ∧ (okN f2) ∧ (∀ j, j < 64 → ∃ k : Nat, k < 256 ∧ pn2 j = nI k) ∧ (∀ j, j < 16 → ∃ k : Nat, k < 256 ∧ wt2 j = nI k) ∧ (rk < 2) ∧ W1 = [(h0, .inr (1, [.ref hn, .ref h1, .ref h2, .ref h3, .ref h4])), (hn, .inl (cA, 34, .inl f2)), (h1, .inl (cA, 64, .inl pn2)), (h2, .inl (cA, 16, .inl wt2)), (h3, .inl (cA, 900, .inl rg2)), (h4, .inl (cA, 200, .inl pa2))]) := by
  refine mkI (lv0 := [(0, .ref h0)]) (by decide) (Nat.le_of_ble_eq_true rfl) rfl ?_
  intro p e s m below meth c A ls X hr hlocks hnm hE hA hP hD hS hl
  have hx := X.1
  have hb := X.2.1
  refine lv_aload_n hx hb dX1_lineIsOn_0 rfl (lv_at hl 0 rfl) ?_
  refine k_get (C := RX1) (T := TX1) (N := 5) (ci := 1) (v := .ref hn) X hE hP 0 rfl rfl iX1 0 (by decide) w_1 rfl dX1_lineIsOn_1 ?_
  refine lv_bipush (v := 15) hx hb dX1_lineIsOn_4 (by decide) ?_
  obtain ⟨k_1, hk_1, ek_1⟩ := hf.at 15 256 (by decide) rfl
  refine k_ald (v := nI k_1) X hE hP 1 rfl 15 rfl (by decide) (by decide) ek_1 dX1_lineIsOn_6 ?_
  refine lv_aload_n hx hb dX1_lineIsOn_7 rfl (lv_at hl 0 rfl) ?_
  refine k_get (C := RX1) (T := TX1) (N := 5) (ci := 1) (v := .ref hn) X hE hP 0 rfl rfl iX1 0 (by decide) w_1 rfl dX1_lineIsOn_8 ?_
  refine lv_bipush (v := 16) hx hb dX1_lineIsOn_11 (by decide) ?_
  obtain ⟨k_2, hk_2, ek_2⟩ := hf.at 16 256 (by decide) rfl
  refine k_ald (v := nI k_2) X hE hP 1 rfl 16 rfl (by decide) (by decide) ek_2 dX1_lineIsOn_13 ?_
  refine lv_iand hx hb dX1_lineIsOn_14 ?_
  obtain ⟨k_3, hk_3, ek_3⟩ := sf_and (a := k_1) (by omega) (nI k_2) (by omega : k_1 < 256)
  have hk_3 : k_3 < 256 := hk_3
  refine tk (y := nI k_3) ek_3 ?_
  refine lv_if_eq (tgt := 22) hx hb dX1_lineIsOn_15 (by decide) (fun c_15_4 => ?_) (fun c_15_4 => ?_)
  · have nc_15_4 : k_3 = 0 := (nI_eq (a := k_3) (b := 0) (by omega) (by omega)).mp c_15_4
    refine lv_iconst (v := 0) hx hb dX1_lineIsOn_22 (by decide) ?_
    exact endZ X hr rfl hlocks hP hD hS dX1_lineIsOn_23 ⟨f, pn, wt, rg, pa, 0, rfl, hf, hpn, hwt, (by omega), rfl⟩
  · have nc_15_4 : ¬ k_3 = 0 := fun q => c_15_4 ((nI_eq (a := k_3) (b := 0) (by omega) (by omega)).mpr q)
    refine lv_iconst (v := 1) hx hb dX1_lineIsOn_18 (by decide) ?_
    refine lv_goto (tgt := 23) hx hb dX1_lineIsOn_19 (by decide) ?_
    exact endZ X hr rfl hlocks hP hD hS dX1_lineIsOn_23 ⟨f, pn, wt, rg, pa, 1, rfl, hf, hpn, hwt, (by omega), rfl⟩
set_option maxHeartbeats 4000000 in
set_option maxRecDepth 100000 in
theorem c_s_pinsOfRow (l : Launch) (D : va_G) (cA cB : ClassId) (h0 : Nat) (hn : Nat) (h1 : Nat) (h2 : Nat) (h3 : Nat) (h4 : Nat) (f : Nat → Int32) (pn : Nat → Int32) (wt : Nat → Int32) (rg : Nat → Int32) (pa : Nat → Int32) (hf : okN f) (hpn : ∀ j, j < 64 → ∃ k : Nat, k < 256 ∧ pn j = nI k) (hwt : ∀ j, j < 16 → ∃ k : Nat, k < 256 ∧ wt j = nI k) : CI l yX1_pinsOfRow cX1_pinsOfRow 1 (some .int) 0 0 0 0 D cA cB [.ref h0] [(h0, .inr (1, [.ref hn, .ref h1, .ref h2, .ref h3, .ref h4])), (hn, .inl (cA, 34, .inl f)), (h1, .inl (cA, 64, .inl pn)), (h2, .inl (cA, 16, .inl wt)), (h3, .inl (cA, 900, .inl rg)), (h4, .inl (cA, 200, .inl pa))] (fun r W1 => ∃ (f2 : Nat → Int32) (pn2 : Nat → Int32) (wt2 : Nat → Int32) (rg2 : Nat → Int32) (pa2 : Nat → Int32) (rk : Nat), r = nI rk ∧ (okN f2) ∧ (∀ j, j < 64 → ∃ k : Nat, k < 256 ∧ pn2 j = nI k) ∧ (∀ j, j < 16 → ∃ k : Nat, k < 256 ∧ wt2 j = nI k) ∧ (rk < 256) ∧ W1 = [(h0, .inr (1, [.ref hn, .ref h1, .ref h2, .ref h3, .ref h4])), (hn, .inl (cA, 34, .inl f2)), (h1, .inl (cA, 64, .inl pn2)), (h2, .inl (cA, 16, .inl wt2)), (h3, .inl (cA, 900, .inl rg2)), (h4, .inl (cA, 200, .inl pa2))]) := by
  refine mkI (lv0 := [(0, .ref h0)]) (by decide) (Nat.le_of_ble_eq_true rfl) rfl ?_
  intro p e s m below meth c A ls X hr hlocks hnm hE hA hP hD hS hl
  have hx := X.1
  have hb := X.2.1
  refine lv_aload_n hx hb dX1_pinsOfRow_0 rfl (lv_at hl 0 rfl) ?_
  refine k_get (C := RX1) (T := TX1) (N := 5) (ci := 1) (v := .ref h1) X hE hP 0 rfl rfl iX1 1 (by decide) w_2 rfl dX1_pinsOfRow_1 ?_
  refine lv_aload_n hx hb dX1_pinsOfRow_4 rfl (lv_at hl 0 rfl) ?_
  refine k_get (C := RX1) (T := TX1) (N := 5) (ci := 1) (v := .ref hn) X hE hP 0 rfl rfl iX1 0 (by decide) w_1 rfl dX1_pinsOfRow_5 ?_
  refine lv_bipush (v := 14) hx hb dX1_pinsOfRow_8 (by decide) ?_
  obtain ⟨k_1, hk_1, ek_1⟩ := hf.at 14 64 (by decide) rfl
  refine k_ald (v := nI k_1) X hE hP 1 rfl 14 rfl (by decide) (by decide) ek_1 dX1_pinsOfRow_10 ?_
  refine lv_bipush (v := 64) hx hb dX1_pinsOfRow_11 (by decide) ?_
  refine lv_irem hx hb dX1_pinsOfRow_13 (by decide) ?_
  refine tk (y := nI (k_1 % 64)) (pk_rem (a := k_1) (d := 64) (by omega) (by decide) (by decide)) ?_
  obtain ⟨k_2, hk_2, ek_2⟩ := hpn (k_1 % 64) (by omega)
  refine k_ald (v := nI k_2) X hE hP 2 rfl (k_1 % 64) rfl (by omega) (by decide) ek_2 dX1_pinsOfRow_14 ?_
  exact endI X hr hlocks hP hD hS dX1_pinsOfRow_15 ⟨f, pn, wt, rg, pa, k_2, rfl, hf, hpn, hwt, (by omega), rfl⟩
set_option maxHeartbeats 4000000 in
set_option maxRecDepth 100000 in
theorem c_s_addKey (l : Launch) (D : va_G) (cA cB : ClassId) (h0 : Nat) (hn : Nat) (h1 : Nat) (h2 : Nat) (h3 : Nat) (h4 : Nat) (f : Nat → Int32) (pn : Nat → Int32) (wt : Nat → Int32) (rg : Nat → Int32) (pa : Nat → Int32) (v : Nat) (hf : okN f) (hpn : ∀ j, j < 64 → ∃ k : Nat, k < 256 ∧ pn j = nI k) (hwt : ∀ j, j < 16 → ∃ k : Nat, k < 256 ∧ wt j = nI k) (hv : v < 256) (hk19 : ∃ k : Nat, k < 16 ∧ f 19 = nI k) : CV l yX1_addKey cX1_addKey 2 none 0 0 0 0 D cA cB [.ref h0, .int (nI v)] [(h0, .inr (1, [.ref hn, .ref h1, .ref h2, .ref h3, .ref h4])), (hn, .inl (cA, 34, .inl f)), (h1, .inl (cA, 64, .inl pn)), (h2, .inl (cA, 16, .inl wt)), (h3, .inl (cA, 900, .inl rg)), (h4, .inl (cA, 200, .inl pa))] (fun W1 => ∃ (f2 : Nat → Int32) (pn2 : Nat → Int32) (wt2 : Nat → Int32) (rg2 : Nat → Int32) (pa2 : Nat → Int32), (okN f2) ∧ (∀ j, j < 64 → ∃ k : Nat, k < 256 ∧ pn2 j = nI k) ∧ (∀ j, j < 16 → ∃ k : Nat, k < 256 ∧ wt2 j = nI k) ∧ W1 = [(h0, .inr (1, [.ref hn, .ref h1, .ref h2, .ref h3, .ref h4])), (hn, .inl (cA, 34, .inl f2)), (h1, .inl (cA, 64, .inl pn2)), (h2, .inl (cA, 16, .inl wt2)), (h3, .inl (cA, 900, .inl rg2)), (h4, .inl (cA, 200, .inl pa2))]) := by
  refine mkV (lv0 := [(0, .ref h0), (1, .int (nI v))]) (by decide) (Nat.le_of_ble_eq_true rfl) rfl ?_
  intro p e s m below meth c A ls X hr hlocks hnm hE hA hP hD hS hl
  have hx := X.1
  have hb := X.2.1
  refine lv_aload_n hx hb dX1_addKey_0 rfl (lv_at hl 0 rfl) ?_
  refine k_get (C := RX1) (T := TX1) (N := 5) (ci := 1) (v := .ref h2) X hE hP 0 rfl rfl iX1 2 (by decide) w_3 rfl dX1_addKey_1 ?_
  refine lv_aload_n hx hb dX1_addKey_4 rfl (lv_at hl 0 rfl) ?_
  refine k_get (C := RX1) (T := TX1) (N := 5) (ci := 1) (v := .ref hn) X hE hP 0 rfl rfl iX1 0 (by decide) w_1 rfl dX1_addKey_5 ?_
  refine lv_bipush (v := 33) hx hb dX1_addKey_8 (by decide) ?_
  obtain ⟨k_1, hk_1, ek_1⟩ := hf.at 33 16 (by decide) rfl
  refine k_ald (v := nI k_1) X hE hP 1 rfl 33 rfl (by decide) (by decide) ek_1 dX1_addKey_10 ?_
  refine lv_aload_n hx hb dX1_addKey_11 rfl (lv_at hl 0 rfl) ?_
  refine k_get (C := RX1) (T := TX1) (N := 5) (ci := 1) (v := .ref hn) X hE hP 0 rfl rfl iX1 0 (by decide) w_1 rfl dX1_addKey_12 ?_
  refine lv_bipush (v := 19) hx hb dX1_addKey_15 (by decide) ?_
  obtain ⟨k_2, hk_2, ek_2⟩ := hk19
  refine k_ald (v := nI k_2) X hE hP 1 rfl 19 rfl (by decide) (by decide) ek_2 dX1_addKey_17 ?_
  refine lv_iadd hx hb dX1_addKey_18 ?_
  refine tk (y := nI (k_1 + k_2)) (nI_add k_1 k_2) ?_
  refine lv_bipush (v := 16) hx hb dX1_addKey_19 (by decide) ?_
  refine lv_irem hx hb dX1_addKey_21 (by decide) ?_
  refine tk (y := nI ((k_1 + k_2) % 16)) (pk_rem (a := k_1 + k_2) (d := 16) (by omega) (by decide) (by decide)) ?_
  refine lv_iload_n hx hb dX1_addKey_22 rfl (lv_at hl 1 rfl) ?_
  refine k_ast X hE hP hD hS 3 rfl ((k_1 + k_2) % 16) rfl (by omega) (by decide) [(h0, .inr (1, [.ref hn, .ref h1, .ref h2, .ref h3, .ref h4])), (hn, .inl (cA, 34, .inl f)), (h1, .inl (cA, 64, .inl pn)), (h2, .inl (cA, 16, .inl (upd wt ((k_1 + k_2) % 16) (nI v)))), (h3, .inl (cA, 900, .inl rg)), (h4, .inl (cA, 200, .inl pa))] rfl dX1_addKey_23 (fun H locs hP hD hS => ?_)
  obtain ⟨g_3, eg_3⟩ : ∃ z, z = upd wt ((k_1 + k_2) % 16) (nI v) := ⟨_, rfl⟩
  rw [← eg_3] at hP hD
  have hg_3 := okB_upd hwt ((k_1 + k_2) % 16) (nI v) ⟨v, by omega, rfl⟩
  rw [← eg_3] at hg_3
  have hP : va_P D classes [(h0, .inr (1, [.ref hn, .ref h1, .ref h2, .ref h3, .ref h4])), (hn, .inl (cA, 34, .inl f)), (h1, .inl (cA, 64, .inl pn)), (h2, .inl (cA, 16, .inl g_3)), (h3, .inl (cA, 900, .inl rg)), (h4, .inl (cA, 200, .inl pa))] H := hP
  have hD : va_D A [(h0, .inr (1, [.ref hn, .ref h1, .ref h2, .ref h3, .ref h4])), (hn, .inl (cA, 34, .inl f)), (h1, .inl (cA, 64, .inl pn)), (h2, .inl (cA, 16, .inl g_3)), (h3, .inl (cA, 900, .inl rg)), (h4, .inl (cA, 200, .inl pa))] := hD
  refine lv_aload_n hx hb dX1_addKey_24 rfl (lv_at hl 0 rfl) ?_
  refine k_get (C := RX1) (T := TX1) (N := 5) (ci := 1) (v := .ref hn) X hE hP 0 rfl rfl iX1 0 (by decide) w_1 rfl dX1_addKey_25 ?_
  refine lv_bipush (v := 19) hx hb dX1_addKey_28 (by decide) ?_
  refine lv_dup2_11 hx hb dX1_addKey_30 rfl rfl ?_
  refine k_ald (v := nI k_2) X hE hP 1 rfl 19 rfl (by decide) (by decide) ek_2 dX1_addKey_31 ?_
  refine lv_iconst (v := 1) hx hb dX1_addKey_32 (by decide) ?_
  refine lv_iadd hx hb dX1_addKey_33 ?_
  refine tk (y := nI (k_2 + 1)) (nI_add k_2 1) ?_
  refine k_ast X hE hP hD hS 1 rfl 19 rfl (by decide) (by decide) [(h0, .inr (1, [.ref hn, .ref h1, .ref h2, .ref h3, .ref h4])), (hn, .inl (cA, 34, .inl (upd f 19 (nI (k_2 + 1))))), (h1, .inl (cA, 64, .inl pn)), (h2, .inl (cA, 16, .inl g_3)), (h3, .inl (cA, 900, .inl rg)), (h4, .inl (cA, 200, .inl pa))] rfl dX1_addKey_34 (fun H locs hP hD hS => ?_)
  obtain ⟨g_4, eg_4⟩ : ∃ z, z = upd f 19 (nI (k_2 + 1)) := ⟨_, rfl⟩
  rw [← eg_4] at hP hD
  have hg_4 := okN_upd hf 19 (nI (k_2 + 1)) (inR_of (k := k_2 + 1) rfl (by omega))
  rw [← eg_4] at hg_4
  have hP : va_P D classes [(h0, .inr (1, [.ref hn, .ref h1, .ref h2, .ref h3, .ref h4])), (hn, .inl (cA, 34, .inl g_4)), (h1, .inl (cA, 64, .inl pn)), (h2, .inl (cA, 16, .inl g_3)), (h3, .inl (cA, 900, .inl rg)), (h4, .inl (cA, 200, .inl pa))] H := hP
  have hD : va_D A [(h0, .inr (1, [.ref hn, .ref h1, .ref h2, .ref h3, .ref h4])), (hn, .inl (cA, 34, .inl g_4)), (h1, .inl (cA, 64, .inl pn)), (h2, .inl (cA, 16, .inl g_3)), (h3, .inl (cA, 900, .inl rg)), (h4, .inl (cA, 200, .inl pa))] := hD
  refine lv_aload_n hx hb dX1_addKey_35 rfl (lv_at hl 0 rfl) ?_
  refine k_get (C := RX1) (T := TX1) (N := 5) (ci := 1) (v := .ref hn) X hE hP 0 rfl rfl iX1 0 (by decide) w_1 rfl dX1_addKey_36 ?_
  refine lv_bipush (v := 15) hx hb dX1_addKey_39 (by decide) ?_
  refine lv_dup2_11 hx hb dX1_addKey_41 rfl rfl ?_
  obtain ⟨k_5, hk_5, ek_5⟩ := hg_4.at 15 256 (by decide) rfl
  refine k_ald (v := nI k_5) X hE hP 1 rfl 15 rfl (by decide) (by decide) ek_5 dX1_addKey_42 ?_
  refine lv_bipush (v := 8) hx hb dX1_addKey_43 (by decide) ?_
  refine lv_ior hx hb dX1_addKey_45 ?_
  obtain ⟨k_6, hk_6, ek_6⟩ := sf_or (a := k_5) (b := 8) 8 256 rfl (by decide) (by omega) (by omega)
  have hk_6 : k_6 < 256 := hk_6
  refine tk (y := nI k_6) ek_6 ?_
  refine k_ast X hE hP hD hS 1 rfl 15 rfl (by decide) (by decide) [(h0, .inr (1, [.ref hn, .ref h1, .ref h2, .ref h3, .ref h4])), (hn, .inl (cA, 34, .inl (upd g_4 15 (nI k_6)))), (h1, .inl (cA, 64, .inl pn)), (h2, .inl (cA, 16, .inl g_3)), (h3, .inl (cA, 900, .inl rg)), (h4, .inl (cA, 200, .inl pa))] rfl dX1_addKey_46 (fun H locs hP hD hS => ?_)
  obtain ⟨g_7, eg_7⟩ : ∃ z, z = upd g_4 15 (nI k_6) := ⟨_, rfl⟩
  rw [← eg_7] at hP hD
  have hg_7 := okN_upd hg_4 15 (nI k_6) (inR_of (k := k_6) rfl (by omega))
  rw [← eg_7] at hg_7
  have hP : va_P D classes [(h0, .inr (1, [.ref hn, .ref h1, .ref h2, .ref h3, .ref h4])), (hn, .inl (cA, 34, .inl g_7)), (h1, .inl (cA, 64, .inl pn)), (h2, .inl (cA, 16, .inl g_3)), (h3, .inl (cA, 900, .inl rg)), (h4, .inl (cA, 200, .inl pa))] H := hP
  have hD : va_D A [(h0, .inr (1, [.ref hn, .ref h1, .ref h2, .ref h3, .ref h4])), (hn, .inl (cA, 34, .inl g_7)), (h1, .inl (cA, 64, .inl pn)), (h2, .inl (cA, 16, .inl g_3)), (h3, .inl (cA, 900, .inl rg)), (h4, .inl (cA, 200, .inl pa))] := hD
  exact endV X hr hlocks hP hD hS dX1_addKey_47 ⟨g_7, pn, g_3, rg, pa, hg_7, hpn, hg_3, rfl⟩
set_option maxHeartbeats 4000000 in
set_option maxRecDepth 100000 in
theorem c_s_keyAt (l : Launch) (D : va_G) (cA cB : ClassId) (h0 : Nat) (hn : Nat) (h1 : Nat) (h2 : Nat) (h3 : Nat) (h4 : Nat) (f : Nat → Int32) (pn : Nat → Int32) (wt : Nat → Int32) (rg : Nat → Int32) (pa : Nat → Int32) (i : Nat) (hf : okN f) (hpn : ∀ j, j < 64 → ∃ k : Nat, k < 256 ∧ pn j = nI k) (hwt : ∀ j, j < 16 → ∃ k : Nat, k < 256 ∧ wt j = nI k) (hi : i < 16) : CI l yX1_keyAt cX1_keyAt 2 (some .int) 0 0 0 0 D cA cB [.ref h0, .int (nI i)] [(h0, .inr (1, [.ref hn, .ref h1, .ref h2, .ref h3, .ref h4])), (hn, .inl (cA, 34, .inl f)), (h1, .inl (cA, 64, .inl pn)), (h2, .inl (cA, 16, .inl wt)), (h3, .inl (cA, 900, .inl rg)), (h4, .inl (cA, 200, .inl pa))] (fun r W1 => ∃ (f2 : Nat → Int32) (pn2 : Nat → Int32) (wt2 : Nat → Int32) (rg2 : Nat → Int32) (pa2 : Nat → Int32) (rk : Nat), r = nI rk ∧ (okN f2) ∧ (∀ j, j < 64 → ∃ k : Nat, k < 256 ∧ pn2 j = nI k) ∧ (∀ j, j < 16 → ∃ k : Nat, k < 256 ∧ wt2 j = nI k) ∧ (rk < 256) ∧ W1 = [(h0, .inr (1, [.ref hn, .ref h1, .ref h2, .ref h3, .ref h4])), (hn, .inl (cA, 34, .inl f2)), (h1, .inl (cA, 64, .inl pn2)), (h2, .inl (cA, 16, .inl wt2)), (h3, .inl (cA, 900, .inl rg2)), (h4, .inl (cA, 200, .inl pa2))]) := by
  refine mkI (lv0 := [(0, .ref h0), (1, .int (nI i))]) (by decide) (Nat.le_of_ble_eq_true rfl) rfl ?_
  intro p e s m below meth c A ls X hr hlocks hnm hE hA hP hD hS hl
  have hx := X.1
  have hb := X.2.1
  refine lv_iload_n hx hb dX1_keyAt_0 rfl (lv_at hl 1 rfl) ?_
  refine lv_aload_n hx hb dX1_keyAt_1 rfl (lv_at hl 0 rfl) ?_
  refine k_get (C := RX1) (T := TX1) (N := 5) (ci := 1) (v := .ref hn) X hE hP 0 rfl rfl iX1 0 (by decide) w_1 rfl dX1_keyAt_2 ?_
  refine lv_bipush (v := 19) hx hb dX1_keyAt_5 (by decide) ?_
  obtain ⟨k_1, hk_1, ek_1⟩ := hf.at 19 17 (by decide) rfl
  refine k_ald (v := nI k_1) X hE hP 1 rfl 19 rfl (by decide) (by decide) ek_1 dX1_keyAt_7 ?_
  refine lv_icmp_ge (tgt := 31) hx hb dX1_keyAt_8 (by decide) (fun c_8_2 => ?_) (fun c_8_2 => ?_)
  · have nc_8_2 : k_1 ≤ i := (nI_leI (a := k_1) (b := i) (by omega) (by omega)).mp c_8_2
    refine lv_iconst (v := 0) hx hb dX1_keyAt_31 (by decide) ?_
    exact endI X hr hlocks hP hD hS dX1_keyAt_32 ⟨f, pn, wt, rg, pa, 0, rfl, hf, hpn, hwt, (by omega), rfl⟩
  · have nc_8_2 : i < k_1 := Nat.not_le.mp (fun q => c_8_2 ((nI_leI (a := k_1) (b := i) (by omega) (by omega)).mpr q))
    refine lv_aload_n hx hb dX1_keyAt_11 rfl (lv_at hl 0 rfl) ?_
    refine k_get (C := RX1) (T := TX1) (N := 5) (ci := 1) (v := .ref h2) X hE hP 0 rfl rfl iX1 2 (by decide) w_3 rfl dX1_keyAt_12 ?_
    refine lv_aload_n hx hb dX1_keyAt_15 rfl (lv_at hl 0 rfl) ?_
    refine k_get (C := RX1) (T := TX1) (N := 5) (ci := 1) (v := .ref hn) X hE hP 0 rfl rfl iX1 0 (by decide) w_1 rfl dX1_keyAt_16 ?_
    refine lv_bipush (v := 33) hx hb dX1_keyAt_19 (by decide) ?_
    obtain ⟨k_3, hk_3, ek_3⟩ := hf.at 33 16 (by decide) rfl
    refine k_ald (v := nI k_3) X hE hP 1 rfl 33 rfl (by decide) (by decide) ek_3 dX1_keyAt_21 ?_
    refine lv_iload_n hx hb dX1_keyAt_22 rfl (lv_at hl 1 rfl) ?_
    refine lv_iadd hx hb dX1_keyAt_23 ?_
    refine tk (y := nI (k_3 + i)) (nI_add k_3 i) ?_
    refine lv_bipush (v := 16) hx hb dX1_keyAt_24 (by decide) ?_
    refine lv_irem hx hb dX1_keyAt_26 (by decide) ?_
    refine tk (y := nI ((k_3 + i) % 16)) (pk_rem (a := k_3 + i) (d := 16) (by omega) (by decide) (by decide)) ?_
    obtain ⟨k_4, hk_4, ek_4⟩ := hwt ((k_3 + i) % 16) (by omega)
    refine k_ald (v := nI k_4) X hE hP 3 rfl ((k_3 + i) % 16) rfl (by omega) (by decide) ek_4 dX1_keyAt_27 ?_
    refine lv_goto (tgt := 32) hx hb dX1_keyAt_28 (by decide) ?_
    exact endI X hr hlocks hP hD hS dX1_keyAt_32 ⟨f, pn, wt, rg, pa, k_4, rfl, hf, hpn, hwt, (by omega), rfl⟩
set_option maxHeartbeats 4000000 in
set_option maxRecDepth 100000 in
theorem c_s_setClock (l : Launch) (D : va_G) (cA cB : ClassId) (h0 : Nat) (hn : Nat) (h1 : Nat) (h2 : Nat) (h3 : Nat) (h4 : Nat) (f : Nat → Int32) (pn : Nat → Int32) (wt : Nat → Int32) (rg : Nat → Int32) (pa : Nat → Int32) (o : Nat) (hf : okN f) (hpn : ∀ j, j < 64 → ∃ k : Nat, k < 256 ∧ pn j = nI k) (hwt : ∀ j, j < 16 → ∃ k : Nat, k < 256 ∧ wt j = nI k) (ho : o < 2) : CV l yX1_setClock cX1_setClock 2 none 0 0 0 0 D cA cB [.ref h0, .int (nI o)] [(h0, .inr (1, [.ref hn, .ref h1, .ref h2, .ref h3, .ref h4])), (hn, .inl (cA, 34, .inl f)), (h1, .inl (cA, 64, .inl pn)), (h2, .inl (cA, 16, .inl wt)), (h3, .inl (cA, 900, .inl rg)), (h4, .inl (cA, 200, .inl pa))] (fun W1 => ∃ (f2 : Nat → Int32) (pn2 : Nat → Int32) (wt2 : Nat → Int32) (rg2 : Nat → Int32) (pa2 : Nat → Int32), (okN f2) ∧ (∀ j, j < 64 → ∃ k : Nat, k < 256 ∧ pn2 j = nI k) ∧ (∀ j, j < 16 → ∃ k : Nat, k < 256 ∧ wt2 j = nI k) ∧ W1 = [(h0, .inr (1, [.ref hn, .ref h1, .ref h2, .ref h3, .ref h4])), (hn, .inl (cA, 34, .inl f2)), (h1, .inl (cA, 64, .inl pn2)), (h2, .inl (cA, 16, .inl wt2)), (h3, .inl (cA, 900, .inl rg2)), (h4, .inl (cA, 200, .inl pa2))]) := by
  refine mkV (lv0 := [(0, .ref h0), (1, .int (nI o))]) (by decide) (Nat.le_of_ble_eq_true rfl) rfl ?_
  intro p e s m below meth c A ls X hr hlocks hnm hE hA hP hD hS hl
  have hx := X.1
  have hb := X.2.1
  refine lv_aload_n hx hb dX1_setClock_0 rfl (lv_at hl 0 rfl) ?_
  refine k_get (C := RX1) (T := TX1) (N := 5) (ci := 1) (v := .ref hn) X hE hP 0 rfl rfl iX1 0 (by decide) w_1 rfl dX1_setClock_1 ?_
  refine lv_bipush (v := 10) hx hb dX1_setClock_4 (by decide) ?_
  obtain ⟨k_1, hk_1, ek_1⟩ := hf.at 10 2 (by decide) rfl
  refine k_ald (v := nI k_1) X hE hP 1 rfl 10 rfl (by decide) (by decide) ek_1 dX1_setClock_6 ?_
  refine lv_if_ne (tgt := 24) hx hb dX1_setClock_7 (by decide) (fun c_7_2 => ?_) (fun c_7_2 => ?_)
  · have nc_7_2 : ¬ k_1 = 0 := fun q => c_7_2 ((nI_eq (a := k_1) (b := 0) (by omega) (by omega)).mpr q)
    refine lv_aload_n hx hb dX1_setClock_24 rfl (lv_at hl 0 rfl) ?_
    refine k_get (C := RX1) (T := TX1) (N := 5) (ci := 1) (v := .ref hn) X hE hP 0 rfl rfl iX1 0 (by decide) w_1 rfl dX1_setClock_25 ?_
    refine lv_bipush (v := 10) hx hb dX1_setClock_28 (by decide) ?_
    refine lv_iload_n hx hb dX1_setClock_30 rfl (lv_at hl 1 rfl) ?_
    refine k_ast X hE hP hD hS 1 rfl 10 rfl (by decide) (by decide) [(h0, .inr (1, [.ref hn, .ref h1, .ref h2, .ref h3, .ref h4])), (hn, .inl (cA, 34, .inl (upd f 10 (nI o)))), (h1, .inl (cA, 64, .inl pn)), (h2, .inl (cA, 16, .inl wt)), (h3, .inl (cA, 900, .inl rg)), (h4, .inl (cA, 200, .inl pa))] rfl dX1_setClock_31 (fun H locs hP hD hS => ?_)
    obtain ⟨g_3, eg_3⟩ : ∃ z, z = upd f 10 (nI o) := ⟨_, rfl⟩
    rw [← eg_3] at hP hD
    have hg_3 := okN_upd hf 10 (nI o) (inR_of (k := o) rfl (by omega))
    rw [← eg_3] at hg_3
    have hP : va_P D classes [(h0, .inr (1, [.ref hn, .ref h1, .ref h2, .ref h3, .ref h4])), (hn, .inl (cA, 34, .inl g_3)), (h1, .inl (cA, 64, .inl pn)), (h2, .inl (cA, 16, .inl wt)), (h3, .inl (cA, 900, .inl rg)), (h4, .inl (cA, 200, .inl pa))] H := hP
    have hD : va_D A [(h0, .inr (1, [.ref hn, .ref h1, .ref h2, .ref h3, .ref h4])), (hn, .inl (cA, 34, .inl g_3)), (h1, .inl (cA, 64, .inl pn)), (h2, .inl (cA, 16, .inl wt)), (h3, .inl (cA, 900, .inl rg)), (h4, .inl (cA, 200, .inl pa))] := hD
    exact endV X hr hlocks hP hD hS dX1_setClock_32 ⟨g_3, pn, wt, rg, pa, hg_3, hpn, hwt, rfl⟩
  · have nc_7_2 : k_1 = 0 := (nI_eq (a := k_1) (b := 0) (by omega) (by omega)).mp c_7_2
    refine lv_aload_n hx hb dX1_setClock_10 rfl (lv_at hl 0 rfl) ?_
    refine k_get (C := RX1) (T := TX1) (N := 5) (ci := 1) (v := .ref hn) X hE hP 0 rfl rfl iX1 0 (by decide) w_1 rfl dX1_setClock_11 ?_
    refine lv_bipush (v := 9) hx hb dX1_setClock_14 (by decide) ?_
    refine lv_aload_n hx hb dX1_setClock_16 rfl (lv_at hl 0 rfl) ?_
    refine k_get (C := RX1) (T := TX1) (N := 5) (ci := 1) (v := .ref hn) X hE hP 0 rfl rfl iX1 0 (by decide) w_1 rfl dX1_setClock_17 ?_
    refine lv_bipush (v := 8) hx hb dX1_setClock_20 (by decide) ?_
    obtain ⟨k_4, hk_4, ek_4⟩ := hf.at 8 65536 (by decide) rfl
    refine k_ald (v := nI k_4) X hE hP 1 rfl 8 rfl (by decide) (by decide) ek_4 dX1_setClock_22 ?_
    refine k_ast X hE hP hD hS 1 rfl 9 rfl (by decide) (by decide) [(h0, .inr (1, [.ref hn, .ref h1, .ref h2, .ref h3, .ref h4])), (hn, .inl (cA, 34, .inl (upd f 9 (nI k_4)))), (h1, .inl (cA, 64, .inl pn)), (h2, .inl (cA, 16, .inl wt)), (h3, .inl (cA, 900, .inl rg)), (h4, .inl (cA, 200, .inl pa))] rfl dX1_setClock_23 (fun H locs hP hD hS => ?_)
    obtain ⟨g_5, eg_5⟩ : ∃ z, z = upd f 9 (nI k_4) := ⟨_, rfl⟩
    rw [← eg_5] at hP hD
    have hg_5 := okN_upd hf 9 (nI k_4) (inR_of (k := k_4) rfl (by omega))
    rw [← eg_5] at hg_5
    have hP : va_P D classes [(h0, .inr (1, [.ref hn, .ref h1, .ref h2, .ref h3, .ref h4])), (hn, .inl (cA, 34, .inl g_5)), (h1, .inl (cA, 64, .inl pn)), (h2, .inl (cA, 16, .inl wt)), (h3, .inl (cA, 900, .inl rg)), (h4, .inl (cA, 200, .inl pa))] H := hP
    have hD : va_D A [(h0, .inr (1, [.ref hn, .ref h1, .ref h2, .ref h3, .ref h4])), (hn, .inl (cA, 34, .inl g_5)), (h1, .inl (cA, 64, .inl pn)), (h2, .inl (cA, 16, .inl wt)), (h3, .inl (cA, 900, .inl rg)), (h4, .inl (cA, 200, .inl pa))] := hD
    refine lv_aload_n hx hb dX1_setClock_24 rfl (lv_at hl 0 rfl) ?_
    refine k_get (C := RX1) (T := TX1) (N := 5) (ci := 1) (v := .ref hn) X hE hP 0 rfl rfl iX1 0 (by decide) w_1 rfl dX1_setClock_25 ?_
    refine lv_bipush (v := 10) hx hb dX1_setClock_28 (by decide) ?_
    refine lv_iload_n hx hb dX1_setClock_30 rfl (lv_at hl 1 rfl) ?_
    refine k_ast X hE hP hD hS 1 rfl 10 rfl (by decide) (by decide) [(h0, .inr (1, [.ref hn, .ref h1, .ref h2, .ref h3, .ref h4])), (hn, .inl (cA, 34, .inl (upd g_5 10 (nI o)))), (h1, .inl (cA, 64, .inl pn)), (h2, .inl (cA, 16, .inl wt)), (h3, .inl (cA, 900, .inl rg)), (h4, .inl (cA, 200, .inl pa))] rfl dX1_setClock_31 (fun H locs hP hD hS => ?_)
    obtain ⟨g_6, eg_6⟩ : ∃ z, z = upd g_5 10 (nI o) := ⟨_, rfl⟩
    rw [← eg_6] at hP hD
    have hg_6 := okN_upd hg_5 10 (nI o) (inR_of (k := o) rfl (by omega))
    rw [← eg_6] at hg_6
    have hP : va_P D classes [(h0, .inr (1, [.ref hn, .ref h1, .ref h2, .ref h3, .ref h4])), (hn, .inl (cA, 34, .inl g_6)), (h1, .inl (cA, 64, .inl pn)), (h2, .inl (cA, 16, .inl wt)), (h3, .inl (cA, 900, .inl rg)), (h4, .inl (cA, 200, .inl pa))] H := hP
    have hD : va_D A [(h0, .inr (1, [.ref hn, .ref h1, .ref h2, .ref h3, .ref h4])), (hn, .inl (cA, 34, .inl g_6)), (h1, .inl (cA, 64, .inl pn)), (h2, .inl (cA, 16, .inl wt)), (h3, .inl (cA, 900, .inl rg)), (h4, .inl (cA, 200, .inl pa))] := hD
    exact endV X hr hlocks hP hD hS dX1_setClock_32 ⟨g_6, pn, wt, rg, pa, hg_6, hpn, hwt, rfl⟩
set_option maxHeartbeats 4000000 in
set_option maxRecDepth 100000 in
theorem c_s_takeKey (l : Launch) (D : va_G) (cA cB : ClassId) (h0 : Nat) (hn : Nat) (h1 : Nat) (h2 : Nat) (h3 : Nat) (h4 : Nat) (f : Nat → Int32) (pn : Nat → Int32) (wt : Nat → Int32) (rg : Nat → Int32) (pa : Nat → Int32) (hf : okN f) (hpn : ∀ j, j < 64 → ∃ k : Nat, k < 256 ∧ pn j = nI k) (hwt : ∀ j, j < 16 → ∃ k : Nat, k < 256 ∧ wt j = nI k) : CI l yX1_takeKey cX1_takeKey 2 (some .int) 0 0 0 0 D cA cB [.ref h0] [(h0, .inr (1, [.ref hn, .ref h1, .ref h2, .ref h3, .ref h4])), (hn, .inl (cA, 34, .inl f)), (h1, .inl (cA, 64, .inl pn)), (h2, .inl (cA, 16, .inl wt)), (h3, .inl (cA, 900, .inl rg)), (h4, .inl (cA, 200, .inl pa))] (fun r W1 => ∃ (f2 : Nat → Int32) (pn2 : Nat → Int32) (wt2 : Nat → Int32) (rg2 : Nat → Int32) (pa2 : Nat → Int32) (rk : Nat), r = nI rk ∧ (okN f2) ∧ (∀ j, j < 64 → ∃ k : Nat, k < 256 ∧ pn2 j = nI k) ∧ (∀ j, j < 16 → ∃ k : Nat, k < 256 ∧ wt2 j = nI k) ∧ (rk < 256) ∧ W1 = [(h0, .inr (1, [.ref hn, .ref h1, .ref h2, .ref h3, .ref h4])), (hn, .inl (cA, 34, .inl f2)), (h1, .inl (cA, 64, .inl pn2)), (h2, .inl (cA, 16, .inl wt2)), (h3, .inl (cA, 900, .inl rg2)), (h4, .inl (cA, 200, .inl pa2))]) := by
  refine mkI (lv0 := [(0, .ref h0)]) (by decide) (Nat.le_of_ble_eq_true rfl) rfl ?_
  intro p e s m below meth c A ls X hr hlocks hnm hE hA hP hD hS hl
  have hx := X.1
  have hb := X.2.1
  refine lv_aload_n hx hb dX1_takeKey_0 rfl (lv_at hl 0 rfl) ?_
  refine k_get (C := RX1) (T := TX1) (N := 5) (ci := 1) (v := .ref hn) X hE hP 0 rfl rfl iX1 0 (by decide) w_1 rfl dX1_takeKey_1 ?_
  refine lv_bipush (v := 19) hx hb dX1_takeKey_4 (by decide) ?_
  obtain ⟨k_1, hk_1, ek_1⟩ := hf.at 19 17 (by decide) rfl
  refine k_ald (v := nI k_1) X hE hP 1 rfl 19 rfl (by decide) (by decide) ek_1 dX1_takeKey_6 ?_
  refine lv_if_ne (tgt := 12) hx hb dX1_takeKey_7 (by decide) (fun c_7_2 => ?_) (fun c_7_2 => ?_)
  · have nc_7_2 : ¬ k_1 = 0 := fun q => c_7_2 ((nI_eq (a := k_1) (b := 0) (by omega) (by omega)).mpr q)
    refine lv_aload_n hx hb dX1_takeKey_12 rfl (lv_at hl 0 rfl) ?_
    refine k_get (C := RX1) (T := TX1) (N := 5) (ci := 1) (v := .ref h2) X hE hP 0 rfl rfl iX1 2 (by decide) w_3 rfl dX1_takeKey_13 ?_
    refine lv_aload_n hx hb dX1_takeKey_16 rfl (lv_at hl 0 rfl) ?_
    refine k_get (C := RX1) (T := TX1) (N := 5) (ci := 1) (v := .ref hn) X hE hP 0 rfl rfl iX1 0 (by decide) w_1 rfl dX1_takeKey_17 ?_
    refine lv_bipush (v := 33) hx hb dX1_takeKey_20 (by decide) ?_
    obtain ⟨k_3, hk_3, ek_3⟩ := hf.at 33 16 (by decide) rfl
    refine k_ald (v := nI k_3) X hE hP 1 rfl 33 rfl (by decide) (by decide) ek_3 dX1_takeKey_22 ?_
    refine lv_bipush (v := 16) hx hb dX1_takeKey_23 (by decide) ?_
    refine lv_irem hx hb dX1_takeKey_25 (by decide) ?_
    refine tk (y := nI (k_3 % 16)) (pk_rem (a := k_3) (d := 16) (by omega) (by decide) (by decide)) ?_
    obtain ⟨k_4, hk_4, ek_4⟩ := hwt (k_3 % 16) (by omega)
    refine k_ald (v := nI k_4) X hE hP 3 rfl (k_3 % 16) rfl (by omega) (by decide) ek_4 dX1_takeKey_26 ?_
    refine lv_istore_n (lv' := [(1, .int (nI k_4)), (0, .ref h0)]) hx hb dX1_takeKey_27 rfl hl (by decide) rfl (fun ls hl => ?_)
    refine lv_aload_n hx hb dX1_takeKey_28 rfl (lv_at hl 1 rfl) ?_
    refine k_get (C := RX1) (T := TX1) (N := 5) (ci := 1) (v := .ref hn) X hE hP 0 rfl rfl iX1 0 (by decide) w_1 rfl dX1_takeKey_29 ?_
    refine lv_bipush (v := 33) hx hb dX1_takeKey_32 (by decide) ?_
    refine lv_aload_n hx hb dX1_takeKey_34 rfl (lv_at hl 1 rfl) ?_
    refine k_get (C := RX1) (T := TX1) (N := 5) (ci := 1) (v := .ref hn) X hE hP 0 rfl rfl iX1 0 (by decide) w_1 rfl dX1_takeKey_35 ?_
    refine lv_bipush (v := 33) hx hb dX1_takeKey_38 (by decide) ?_
    refine k_ald (v := nI k_3) X hE hP 1 rfl 33 rfl (by decide) (by decide) ek_3 dX1_takeKey_40 ?_
    refine lv_iconst (v := 1) hx hb dX1_takeKey_41 (by decide) ?_
    refine lv_iadd hx hb dX1_takeKey_42 ?_
    refine tk (y := nI (k_3 + 1)) (nI_add k_3 1) ?_
    refine lv_bipush (v := 16) hx hb dX1_takeKey_43 (by decide) ?_
    refine lv_irem hx hb dX1_takeKey_45 (by decide) ?_
    refine tk (y := nI ((k_3 + 1) % 16)) (pk_rem (a := k_3 + 1) (d := 16) (by omega) (by decide) (by decide)) ?_
    refine k_ast X hE hP hD hS 1 rfl 33 rfl (by decide) (by decide) [(h0, .inr (1, [.ref hn, .ref h1, .ref h2, .ref h3, .ref h4])), (hn, .inl (cA, 34, .inl (upd f 33 (nI ((k_3 + 1) % 16))))), (h1, .inl (cA, 64, .inl pn)), (h2, .inl (cA, 16, .inl wt)), (h3, .inl (cA, 900, .inl rg)), (h4, .inl (cA, 200, .inl pa))] rfl dX1_takeKey_46 (fun H locs hP hD hS => ?_)
    obtain ⟨g_5, eg_5⟩ : ∃ z, z = upd f 33 (nI ((k_3 + 1) % 16)) := ⟨_, rfl⟩
    rw [← eg_5] at hP hD
    have hg_5 := okN_upd hf 33 (nI ((k_3 + 1) % 16)) (inR_of (k := (k_3 + 1) % 16) rfl (by omega))
    rw [← eg_5] at hg_5
    have hP : va_P D classes [(h0, .inr (1, [.ref hn, .ref h1, .ref h2, .ref h3, .ref h4])), (hn, .inl (cA, 34, .inl g_5)), (h1, .inl (cA, 64, .inl pn)), (h2, .inl (cA, 16, .inl wt)), (h3, .inl (cA, 900, .inl rg)), (h4, .inl (cA, 200, .inl pa))] H := hP
    have hD : va_D A [(h0, .inr (1, [.ref hn, .ref h1, .ref h2, .ref h3, .ref h4])), (hn, .inl (cA, 34, .inl g_5)), (h1, .inl (cA, 64, .inl pn)), (h2, .inl (cA, 16, .inl wt)), (h3, .inl (cA, 900, .inl rg)), (h4, .inl (cA, 200, .inl pa))] := hD
    refine lv_aload_n hx hb dX1_takeKey_47 rfl (lv_at hl 1 rfl) ?_
    refine k_get (C := RX1) (T := TX1) (N := 5) (ci := 1) (v := .ref hn) X hE hP 0 rfl rfl iX1 0 (by decide) w_1 rfl dX1_takeKey_48 ?_
    refine lv_bipush (v := 19) hx hb dX1_takeKey_51 (by decide) ?_
    refine lv_dup2_11 hx hb dX1_takeKey_53 rfl rfl ?_
    have em_6 : g_5 19 = nI k_1 := by rw [eg_5]; exact ek_1
    refine k_ald (v := nI k_1) X hE hP 1 rfl 19 rfl (by decide) (by decide) em_6 dX1_takeKey_54 ?_
    refine lv_iconst (v := 1) hx hb dX1_takeKey_55 (by decide) ?_
    refine lv_isub hx hb dX1_takeKey_56 ?_
    refine tk (y := nI (k_1 - 1)) (pk_sub (a := k_1) (b := 1) (by omega)) ?_
    refine k_ast X hE hP hD hS 1 rfl 19 rfl (by decide) (by decide) [(h0, .inr (1, [.ref hn, .ref h1, .ref h2, .ref h3, .ref h4])), (hn, .inl (cA, 34, .inl (upd g_5 19 (nI (k_1 - 1))))), (h1, .inl (cA, 64, .inl pn)), (h2, .inl (cA, 16, .inl wt)), (h3, .inl (cA, 900, .inl rg)), (h4, .inl (cA, 200, .inl pa))] rfl dX1_takeKey_57 (fun H locs hP hD hS => ?_)
    obtain ⟨g_7, eg_7⟩ : ∃ z, z = upd g_5 19 (nI (k_1 - 1)) := ⟨_, rfl⟩
    rw [← eg_7] at hP hD
    have hg_7 := okN_upd hg_5 19 (nI (k_1 - 1)) (inR_of (k := k_1 - 1) rfl (by omega))
    rw [← eg_7] at hg_7
    have hP : va_P D classes [(h0, .inr (1, [.ref hn, .ref h1, .ref h2, .ref h3, .ref h4])), (hn, .inl (cA, 34, .inl g_7)), (h1, .inl (cA, 64, .inl pn)), (h2, .inl (cA, 16, .inl wt)), (h3, .inl (cA, 900, .inl rg)), (h4, .inl (cA, 200, .inl pa))] H := hP
    have hD : va_D A [(h0, .inr (1, [.ref hn, .ref h1, .ref h2, .ref h3, .ref h4])), (hn, .inl (cA, 34, .inl g_7)), (h1, .inl (cA, 64, .inl pn)), (h2, .inl (cA, 16, .inl wt)), (h3, .inl (cA, 900, .inl rg)), (h4, .inl (cA, 200, .inl pa))] := hD
    refine lv_iload_n hx hb dX1_takeKey_58 rfl (lv_at hl 0 rfl) ?_
    exact endI X hr hlocks hP hD hS dX1_takeKey_59 ⟨g_7, pn, wt, rg, pa, k_4, rfl, hg_7, hpn, hwt, (by omega), rfl⟩
  · have nc_7_2 : k_1 = 0 := (nI_eq (a := k_1) (b := 0) (by omega) (by omega)).mp c_7_2
    refine lv_iconst (v := 0) hx hb dX1_takeKey_10 (by decide) ?_
    exact endI X hr hlocks hP hD hS dX1_takeKey_11 ⟨f, pn, wt, rg, pa, 0, rfl, hf, hpn, hwt, (by omega), rfl⟩
set_option maxHeartbeats 4000000 in
set_option maxRecDepth 100000 in
theorem c_s_castDice (l : Launch) (D : va_G) (cA cB : ClassId) (h0 : Nat) (hn : Nat) (h1 : Nat) (h2 : Nat) (h3 : Nat) (h4 : Nat) (f : Nat → Int32) (pn : Nat → Int32) (wt : Nat → Int32) (rg : Nat → Int32) (pa : Nat → Int32) (hf : okN f) (hpn : ∀ j, j < 64 → ∃ k : Nat, k < 256 ∧ pn j = nI k) (hwt : ∀ j, j < 16 → ∃ k : Nat, k < 256 ∧ wt j = nI k) : CI l yX1_castDice cX1_castDice 1 (some .int) 0 0 0 0 D cA cB [.ref h0] [(h0, .inr (1, [.ref hn, .ref h1, .ref h2, .ref h3, .ref h4])), (hn, .inl (cA, 34, .inl f)), (h1, .inl (cA, 64, .inl pn)), (h2, .inl (cA, 16, .inl wt)), (h3, .inl (cA, 900, .inl rg)), (h4, .inl (cA, 200, .inl pa))] (fun r W1 => ∃ (f2 : Nat → Int32) (pn2 : Nat → Int32) (wt2 : Nat → Int32) (rg2 : Nat → Int32) (pa2 : Nat → Int32) (rk : Nat), r = nI rk ∧ (okN f2) ∧ (∀ j, j < 64 → ∃ k : Nat, k < 256 ∧ pn2 j = nI k) ∧ (∀ j, j < 16 → ∃ k : Nat, k < 256 ∧ wt2 j = nI k) ∧ (rk < 256) ∧ W1 = [(h0, .inr (1, [.ref hn, .ref h1, .ref h2, .ref h3, .ref h4])), (hn, .inl (cA, 34, .inl f2)), (h1, .inl (cA, 64, .inl pn2)), (h2, .inl (cA, 16, .inl wt2)), (h3, .inl (cA, 900, .inl rg2)), (h4, .inl (cA, 200, .inl pa2))]) := by
  refine mkI (lv0 := [(0, .ref h0)]) (by decide) (Nat.le_of_ble_eq_true rfl) rfl ?_
  intro p e s m below meth c A ls X hr hlocks hnm hE hA hP hD hS hl
  have hx := X.1
  have hb := X.2.1
  refine lv_aload_n hx hb dX1_castDice_0 rfl (lv_at hl 0 rfl) ?_
  refine k_get (C := RX1) (T := TX1) (N := 5) (ci := 1) (v := .ref hn) X hE hP 0 rfl rfl iX1 0 (by decide) w_1 rfl dX1_castDice_1 ?_
  refine lv_bipush (v := 18) hx hb dX1_castDice_4 (by decide) ?_
  refine lv_aload_n hx hb dX1_castDice_6 rfl (lv_at hl 0 rfl) ?_
  refine k_get (C := RX1) (T := TX1) (N := 5) (ci := 1) (v := .ref hn) X hE hP 0 rfl rfl iX1 0 (by decide) w_1 rfl dX1_castDice_7 ?_
  refine lv_bipush (v := 18) hx hb dX1_castDice_10 (by decide) ?_
  refine k_ald (v := f 18) X hE hP 1 rfl 18 rfl (by decide) (by decide) rfl dX1_castDice_12 ?_
  refine lv_ldc (v := 1103515245) hx hb X.2.2.2.1 (X.2.2.2.2 _ w_4) dX1_castDice_13 ?_
  refine lv_imul hx hb dX1_castDice_15 ?_
  refine lv_sipush (v := 12345) hx hb dX1_castDice_16 (by decide) ?_
  refine lv_iadd hx hb dX1_castDice_19 ?_
  refine k_ast X hE hP hD hS 1 rfl 18 rfl (by decide) (by decide) [(h0, .inr (1, [.ref hn, .ref h1, .ref h2, .ref h3, .ref h4])), (hn, .inl (cA, 34, .inl (upd f 18 (((f 18) * 1103515245) + 12345)))), (h1, .inl (cA, 64, .inl pn)), (h2, .inl (cA, 16, .inl wt)), (h3, .inl (cA, 900, .inl rg)), (h4, .inl (cA, 200, .inl pa))] rfl dX1_castDice_20 (fun H locs hP hD hS => ?_)
  obtain ⟨g_1, eg_1⟩ : ∃ z, z = upd f 18 (((f 18) * 1103515245) + 12345) := ⟨_, rfl⟩
  rw [← eg_1] at hP hD
  have hg_1 := okN_upd hf 18 (((f 18) * 1103515245) + 12345) (inR_any rfl)
  rw [← eg_1] at hg_1
  have hP : va_P D classes [(h0, .inr (1, [.ref hn, .ref h1, .ref h2, .ref h3, .ref h4])), (hn, .inl (cA, 34, .inl g_1)), (h1, .inl (cA, 64, .inl pn)), (h2, .inl (cA, 16, .inl wt)), (h3, .inl (cA, 900, .inl rg)), (h4, .inl (cA, 200, .inl pa))] H := hP
  have hD : va_D A [(h0, .inr (1, [.ref hn, .ref h1, .ref h2, .ref h3, .ref h4])), (hn, .inl (cA, 34, .inl g_1)), (h1, .inl (cA, 64, .inl pn)), (h2, .inl (cA, 16, .inl wt)), (h3, .inl (cA, 900, .inl rg)), (h4, .inl (cA, 200, .inl pa))] := hD
  refine lv_aload_n hx hb dX1_castDice_21 rfl (lv_at hl 0 rfl) ?_
  refine k_get (C := RX1) (T := TX1) (N := 5) (ci := 1) (v := .ref hn) X hE hP 0 rfl rfl iX1 0 (by decide) w_1 rfl dX1_castDice_22 ?_
  refine lv_bipush (v := 18) hx hb dX1_castDice_25 (by decide) ?_
  have em_2 : g_1 18 = ((f 18) * 1103515245) + 12345 := by rw [eg_1]; exact pk_us
  refine k_ald (v := ((f 18) * 1103515245) + 12345) X hE hP 1 rfl 18 rfl (by decide) (by decide) em_2 dX1_castDice_27 ?_
  refine lv_bipush (v := 16) hx hb dX1_castDice_28 (by decide) ?_
  refine lv_ishr hx hb dX1_castDice_30 ?_
  refine lv_sipush (v := 255) hx hb dX1_castDice_31 (by decide) ?_
  refine lv_iand hx hb dX1_castDice_34 ?_
  obtain ⟨k_3, hk_3, ek_3⟩ := pk_andE ((((f 18) * 1103515245) + 12345) >>> (16 &&& 31)) (m := 255) 8 (by decide)
  have hk_3 : k_3 < 256 := hk_3
  refine tk (y := nI k_3) ek_3 ?_
  exact endI X hr hlocks hP hD hS dX1_castDice_35 ⟨g_1, pn, wt, rg, pa, k_3, rfl, hg_1, hpn, hwt, (by omega), rfl⟩
set_option maxHeartbeats 4000000 in
set_option maxRecDepth 100000 in
theorem c_s_bellsReady (l : Launch) (D : va_G) (cA cB : ClassId) (h0 : Nat) (hn : Nat) (h1 : Nat) (h2 : Nat) (h3 : Nat) (h4 : Nat) (f : Nat → Int32) (pn : Nat → Int32) (wt : Nat → Int32) (rg : Nat → Int32) (pa : Nat → Int32) (hf : okN f) (hpn : ∀ j, j < 64 → ∃ k : Nat, k < 256 ∧ pn j = nI k) (hwt : ∀ j, j < 16 → ∃ k : Nat, k < 256 ∧ wt j = nI k) : CI l yX1_bellsReady cX1_bellsReady 3 (some .int) 0 0 0 0 D cA cB [.ref h0] [(h0, .inr (1, [.ref hn, .ref h1, .ref h2, .ref h3, .ref h4])), (hn, .inl (cA, 34, .inl f)), (h1, .inl (cA, 64, .inl pn)), (h2, .inl (cA, 16, .inl wt)), (h3, .inl (cA, 900, .inl rg)), (h4, .inl (cA, 200, .inl pa))] (fun r W1 => ∃ (f2 : Nat → Int32) (pn2 : Nat → Int32) (wt2 : Nat → Int32) (rg2 : Nat → Int32) (pa2 : Nat → Int32) (rk : Nat), r = nI rk ∧ (okN f2) ∧ (∀ j, j < 64 → ∃ k : Nat, k < 256 ∧ pn2 j = nI k) ∧ (∀ j, j < 16 → ∃ k : Nat, k < 256 ∧ wt2 j = nI k) ∧ (rk < 256) ∧ W1 = [(h0, .inr (1, [.ref hn, .ref h1, .ref h2, .ref h3, .ref h4])), (hn, .inl (cA, 34, .inl f2)), (h1, .inl (cA, 64, .inl pn2)), (h2, .inl (cA, 16, .inl wt2)), (h3, .inl (cA, 900, .inl rg2)), (h4, .inl (cA, 200, .inl pa2))]) := by
  refine mkI (lv0 := [(0, .ref h0)]) (by decide) (Nat.le_of_ble_eq_true rfl) rfl ?_
  intro p e s m below meth c A ls X hr hlocks hnm hE hA hP hD hS hl
  have hx := X.1
  have hb := X.2.1
  refine lv_iconst (v := 0) hx hb dX1_bellsReady_0 (by decide) ?_
  refine lv_istore_n (lv' := [(1, .int 0), (0, .ref h0)]) hx hb dX1_bellsReady_1 rfl hl (by decide) rfl (fun ls hl => ?_)
  refine lv_iconst (v := 0) hx hb dX1_bellsReady_2 (by decide) ?_
  refine lv_istore_n (lv' := [(2, .int 0), (1, .int 0), (0, .ref h0)]) hx hb dX1_bellsReady_3 rfl hl (by decide) rfl (fun ls hl => ?_)
  have loop_4 : ∀ (n : Nat) (i : Nat) (bb : Nat), (i ≤ 8) → (bb < 256) → 8 < i + n → ∀ (H : Heap) (locs : List Loc), va_P D classes [(h0, .inr (1, [.ref hn, .ref h1, .ref h2, .ref h3, .ref h4])), (hn, .inl (cA, 34, .inl f)), (h1, .inl (cA, 64, .inl pn)), (h2, .inl (cA, 16, .inl wt)), (h3, .inl (cA, 900, .inl rg)), (h4, .inl (cA, 200, .inl pa))] H → va_D A [(h0, .inr (1, [.ref hn, .ref h1, .ref h2, .ref h3, .ref h4])), (hn, .inl (cA, 34, .inl f)), (h1, .inl (cA, 64, .inl pn)), (h2, .inl (cA, 16, .inl wt)), (h3, .inl (cA, 900, .inl rg)), (h4, .inl (cA, 200, .inl pa))] → va_S A s.heap H locs → ∀ ls : Array Slot, lv_has ls 3 [(0, .ref h0), (1, .int (nI bb)), (2, .int (nI i))] → W p l e { frames := 0, cells := 0, slots := 0, locals := 0 } s m (List.toArray [.ref h0]) below meth c H locs 0 0 (MQ below (QI D (fun r W1 => ∃ (f2 : Nat → Int32) (pn2 : Nat → Int32) (wt2 : Nat → Int32) (rg2 : Nat → Int32) (pa2 : Nat → Int32) (rk : Nat), r = nI rk ∧ (okN f2) ∧ (∀ j, j < 64 → ∃ k : Nat, k < 256 ∧ pn2 j = nI k) ∧ (∀ j, j < 16 → ∃ k : Nat, k < 256 ∧ wt2 j = nI k) ∧ (rk < 256) ∧ W1 = [(h0, .inr (1, [.ref hn, .ref h1, .ref h2, .ref h3, .ref h4])), (hn, .inl (cA, 34, .inl f2)), (h1, .inl (cA, 64, .inl pn2)), (h2, .inl (cA, 16, .inl wt2)), (h3, .inl (cA, 900, .inl rg2)), (h4, .inl (cA, 200, .inl pa2))]) A) (List.toArray [.ref h0]) s 0 0 A) (F0 m 4 ls []) := by
    intro n
    induction n with
    | zero => intro i bb hi hbb hfuel; exact absurd hfuel (by omega)
    | succ n ih =>
      intro i bb hi hbb hfuel H locs hP hD hS ls hl
      refine lv_iload_n hx hb dX1_bellsReady_4 rfl (lv_at hl 2 rfl) ?_
      refine lv_bipush (v := 8) hx hb dX1_bellsReady_5 (by decide) ?_
      refine lv_icmp_ge (tgt := 34) hx hb dX1_bellsReady_7 (by decide) (fun c_7_1 => ?_) (fun c_7_1 => ?_)
      · have nc_7_1 : 8 ≤ i := (nI_leI (a := 8) (b := i) (by omega) (by omega)).mp c_7_1
        refine lv_iload_n hx hb dX1_bellsReady_34 rfl (lv_at hl 1 rfl) ?_
        exact endI X hr hlocks hP hD hS dX1_bellsReady_35 ⟨f, pn, wt, rg, pa, bb, rfl, hf, hpn, hwt, (by omega), rfl⟩
      · have nc_7_1 : i < 8 := Nat.not_le.mp (fun q => c_7_1 ((nI_leI (a := 8) (b := i) (by omega) (by omega)).mpr q))
        refine lv_aload_n hx hb dX1_bellsReady_10 rfl (lv_at hl 0 rfl) ?_
        refine k_get (C := RX1) (T := TX1) (N := 5) (ci := 1) (v := .ref hn) X hE hP 0 rfl rfl iX1 0 (by decide) w_1 rfl dX1_bellsReady_11 ?_
        refine lv_bipush (v := 20) hx hb dX1_bellsReady_14 (by decide) ?_
        refine lv_iload_n hx hb dX1_bellsReady_16 rfl (lv_at hl 2 rfl) ?_
        refine lv_iadd hx hb dX1_bellsReady_17 ?_
        refine tk (y := nI (20 + i)) (nI_add 20 i) ?_
        refine k_ald (v := f (20 + i)) X hE hP 1 rfl (20 + i) rfl (by omega) (by decide) rfl dX1_bellsReady_18 ?_
        refine lv_if_ne (tgt := 28) hx hb dX1_bellsReady_19 (by decide) (fun c_19 => ?_) (fun c_19 => ?_)
        · skip
          refine lv_iinc (v := nI (i + 1)) (lv' := [(2, .int (nI (i + 1))), (0, .ref h0), (1, .int (nI bb))]) hx hb dX1_bellsReady_28 hl (k := 2) rfl (nI_1 i) (by decide) rfl (fun ls hl => ?_)
          refine lv_goto (tgt := 4) hx hb dX1_bellsReady_31 (by decide) ?_
          exact ih (i + 1) bb (by omega) (by omega) (by omega) _ _ (hP.sub [0, 1, 2, 3, 4, 5] rfl) (hD.sub [0, 1, 2, 3, 4, 5] (by decide) rfl) hS ls (lv_sub hl [1, 2, 0] rfl)
        · skip
          refine lv_iload_n hx hb dX1_bellsReady_22 rfl (lv_at hl 1 rfl) ?_
          refine lv_iconst (v := 1) hx hb dX1_bellsReady_23 (by decide) ?_
          refine lv_iload_n hx hb dX1_bellsReady_24 rfl (lv_at hl 2 rfl) ?_
          refine lv_ishl hx hb dX1_bellsReady_25 ?_
          obtain ⟨k_2, hk_2, ek_2⟩ := sh1 (k := i) (by omega)
          have hk_2 : k_2 < 256 := hk_2
          refine tk (y := nI k_2) ek_2 ?_
          refine lv_ior hx hb dX1_bellsReady_26 ?_
          obtain ⟨k_3, hk_3, ek_3⟩ := sf_or (a := bb) (b := k_2) 8 256 rfl (by decide) (by omega) (by omega)
          have hk_3 : k_3 < 256 := hk_3
          refine tk (y := nI k_3) ek_3 ?_
          refine lv_istore_n (lv' := [(1, .int (nI k_3)), (0, .ref h0), (2, .int (nI i))]) hx hb dX1_bellsReady_27 rfl hl (by decide) rfl (fun ls hl => ?_)
          refine lv_iinc (v := nI (i + 1)) (lv' := [(2, .int (nI (i + 1))), (1, .int (nI k_3)), (0, .ref h0)]) hx hb dX1_bellsReady_28 hl (k := 2) rfl (nI_1 i) (by decide) rfl (fun ls hl => ?_)
          refine lv_goto (tgt := 4) hx hb dX1_bellsReady_31 (by decide) ?_
          exact ih (i + 1) k_3 (by omega) (by omega) (by omega) _ _ (hP.sub [0, 1, 2, 3, 4, 5] rfl) (hD.sub [0, 1, 2, 3, 4, 5] (by decide) rfl) hS ls (lv_sub hl [2, 1, 0] rfl)
  exact loop_4 (8 + 1) 0 0 (by omega) (by omega) (by omega) _ _ hP hD hS ls (lv_sub hl [2, 1, 0] rfl)
set_option maxHeartbeats 4000000 in
set_option maxRecDepth 100000 in
theorem c_s_strike (l : Launch) (D : va_G) (cA cB : ClassId) (h0 : Nat) (hn : Nat) (h1 : Nat) (h2 : Nat) (h3 : Nat) (h4 : Nat) (f : Nat → Int32) (pn : Nat → Int32) (wt : Nat → Int32) (rg : Nat → Int32) (pa : Nat → Int32) (v : Nat) (w : Nat) (hf : okN f) (hpn : ∀ j, j < 64 → ∃ k : Nat, k < 256 ∧ pn j = nI k) (hwt : ∀ j, j < 16 → ∃ k : Nat, k < 256 ∧ wt j = nI k) (hv : v < 8) (hw : w < 32) : CV l yX1_strike cX1_strike 4 none 0 0 0 0 D cA cB [.ref h0, .int (nI v), .int (nI w)] [(h0, .inr (1, [.ref hn, .ref h1, .ref h2, .ref h3, .ref h4])), (hn, .inl (cA, 34, .inl f)), (h1, .inl (cA, 64, .inl pn)), (h2, .inl (cA, 16, .inl wt)), (h3, .inl (cA, 900, .inl rg)), (h4, .inl (cA, 200, .inl pa))] (fun W1 => ∃ (f2 : Nat → Int32) (pn2 : Nat → Int32) (wt2 : Nat → Int32) (rg2 : Nat → Int32) (pa2 : Nat → Int32), (okN f2) ∧ (∀ j, j < 64 → ∃ k : Nat, k < 256 ∧ pn2 j = nI k) ∧ (∀ j, j < 16 → ∃ k : Nat, k < 256 ∧ wt2 j = nI k) ∧ W1 = [(h0, .inr (1, [.ref hn, .ref h1, .ref h2, .ref h3, .ref h4])), (hn, .inl (cA, 34, .inl f2)), (h1, .inl (cA, 64, .inl pn2)), (h2, .inl (cA, 16, .inl wt2)), (h3, .inl (cA, 900, .inl rg2)), (h4, .inl (cA, 200, .inl pa2))]) := by
  refine mkV (lv0 := [(0, .ref h0), (1, .int (nI v)), (2, .int (nI w))]) (by decide) (Nat.le_of_ble_eq_true rfl) rfl ?_
  intro p e s m below meth c A ls X hr hlocks hnm hE hA hP hD hS hl
  have hx := X.1
  have hb := X.2.1
  refine lv_aload_n hx hb dX1_strike_0 rfl (lv_at hl 0 rfl) ?_
  refine k_get (C := RX1) (T := TX1) (N := 5) (ci := 1) (v := .ref hn) X hE hP 0 rfl rfl iX1 0 (by decide) w_1 rfl dX1_strike_1 ?_
  refine lv_bipush (v := 20) hx hb dX1_strike_4 (by decide) ?_
  refine lv_iload_n hx hb dX1_strike_6 rfl (lv_at hl 1 rfl) ?_
  refine lv_iadd hx hb dX1_strike_7 ?_
  refine tk (y := nI (20 + v)) (nI_add 20 v) ?_
  refine k_ald (v := f (20 + v)) X hE hP 1 rfl (20 + v) rfl (by omega) (by decide) rfl dX1_strike_8 ?_
  refine lv_if_le (tgt := 24) hx hb dX1_strike_9 (by decide) (fun c_9 => ?_) (fun c_9 => ?_)
  · skip
    refine lv_aload_n hx hb dX1_strike_24 rfl (lv_at hl 0 rfl) ?_
    refine k_get (C := RX1) (T := TX1) (N := 5) (ci := 1) (v := .ref hn) X hE hP 0 rfl rfl iX1 0 (by decide) w_1 rfl dX1_strike_25 ?_
    refine lv_bipush (v := 20) hx hb dX1_strike_28 (by decide) ?_
    refine lv_iload_n hx hb dX1_strike_30 rfl (lv_at hl 1 rfl) ?_
    refine lv_iadd hx hb dX1_strike_31 ?_
    refine tk (y := nI (20 + v)) (nI_add 20 v) ?_
    refine lv_bipush (v := 100) hx hb dX1_strike_32 (by decide) ?_
    refine lv_bipush (v := 20) hx hb dX1_strike_34 (by decide) ?_
    refine lv_iload_n hx hb dX1_strike_36 rfl (lv_at hl 2 rfl) ?_
    refine lv_imul hx hb dX1_strike_37 ?_
    refine tk (y := nI (20 * w)) (pk_mul 20 w) ?_
    refine lv_iadd hx hb dX1_strike_38 ?_
    refine tk (y := nI (100 + 20 * w)) (nI_add 100 (20 * w)) ?_
    refine k_ast X hE hP hD hS 1 rfl (20 + v) rfl (by omega) (by decide) [(h0, .inr (1, [.ref hn, .ref h1, .ref h2, .ref h3, .ref h4])), (hn, .inl (cA, 34, .inl (upd f (20 + v) (nI (100 + 20 * w))))), (h1, .inl (cA, 64, .inl pn)), (h2, .inl (cA, 16, .inl wt)), (h3, .inl (cA, 900, .inl rg)), (h4, .inl (cA, 200, .inl pa))] rfl dX1_strike_39 (fun H locs hP hD hS => ?_)
    obtain ⟨g_1, eg_1⟩ : ∃ z, z = upd f (20 + v) (nI (100 + 20 * w)) := ⟨_, rfl⟩
    rw [← eg_1] at hP hD
    have hg_1 := okN_upd hf (20 + v) (nI (100 + 20 * w)) (inR_any (bd_rest (by omega)))
    rw [← eg_1] at hg_1
    have hP : va_P D classes [(h0, .inr (1, [.ref hn, .ref h1, .ref h2, .ref h3, .ref h4])), (hn, .inl (cA, 34, .inl g_1)), (h1, .inl (cA, 64, .inl pn)), (h2, .inl (cA, 16, .inl wt)), (h3, .inl (cA, 900, .inl rg)), (h4, .inl (cA, 200, .inl pa))] H := hP
    have hD : va_D A [(h0, .inr (1, [.ref hn, .ref h1, .ref h2, .ref h3, .ref h4])), (hn, .inl (cA, 34, .inl g_1)), (h1, .inl (cA, 64, .inl pn)), (h2, .inl (cA, 16, .inl wt)), (h3, .inl (cA, 900, .inl rg)), (h4, .inl (cA, 200, .inl pa))] := hD
    refine lv_aload_n hx hb dX1_strike_40 rfl (lv_at hl 0 rfl) ?_
    refine k_get (C := RX1) (T := TX1) (N := 5) (ci := 1) (v := .ref hn) X hE hP 0 rfl rfl iX1 0 (by decide) w_1 rfl dX1_strike_41 ?_
    refine lv_bipush (v := 31) hx hb dX1_strike_44 (by decide) ?_
    obtain ⟨k_2, hk_2, ek_2⟩ := hg_1.at 31 301 (by decide) rfl
    refine k_ald (v := nI k_2) X hE hP 1 rfl 31 rfl (by decide) (by decide) ek_2 dX1_strike_46 ?_
    refine lv_istore_n (lv' := [(3, .int (nI k_2)), (0, .ref h0), (1, .int (nI v)), (2, .int (nI w))]) hx hb dX1_strike_47 rfl hl (by decide) rfl (fun ls hl => ?_)
    refine lv_iload_n hx hb dX1_strike_48 rfl (lv_at hl 0 rfl) ?_
    refine lv_sipush (v := 300) hx hb dX1_strike_49 (by decide) ?_
    refine lv_icmp_lt (tgt := 67) hx hb dX1_strike_52 (by decide) (fun c_52_3 => ?_) (fun c_52_3 => ?_)
    · have nc_52_3 : k_2 < 300 := (nI_ltI (a := k_2) (b := 300) (by omega) (by omega)).mp c_52_3
      refine lv_aload_n hx hb dX1_strike_67 rfl (lv_at hl 1 rfl) ?_
      refine k_get (C := RX1) (T := TX1) (N := 5) (ci := 1) (v := .ref h3) X hE hP 0 rfl rfl iX1 3 (by decide) w_5 rfl dX1_strike_68 ?_
      refine lv_iconst (v := 3) hx hb dX1_strike_71 (by decide) ?_
      refine lv_iload_n hx hb dX1_strike_72 rfl (lv_at hl 0 rfl) ?_
      refine lv_imul hx hb dX1_strike_73 ?_
      refine tk (y := nI (3 * k_2)) (pk_mul 3 k_2) ?_
      refine lv_aload_n hx hb dX1_strike_74 rfl (lv_at hl 1 rfl) ?_
      refine k_get (C := RX1) (T := TX1) (N := 5) (ci := 1) (v := .ref hn) X hE hP 0 rfl rfl iX1 0 (by decide) w_1 rfl dX1_strike_75 ?_
      refine lv_bipush (v := 7) hx hb dX1_strike_78 (by decide) ?_
      refine k_ald (v := g_1 7) X hE hP 1 rfl 7 rfl (by decide) (by decide) rfl dX1_strike_80 ?_
      refine k_ast X hE hP hD hS 4 rfl (3 * k_2) rfl (by omega) (by decide) [(h0, .inr (1, [.ref hn, .ref h1, .ref h2, .ref h3, .ref h4])), (hn, .inl (cA, 34, .inl g_1)), (h1, .inl (cA, 64, .inl pn)), (h2, .inl (cA, 16, .inl wt)), (h3, .inl (cA, 900, .inl (upd rg (3 * k_2) (g_1 7)))), (h4, .inl (cA, 200, .inl pa))] rfl dX1_strike_81 (fun H locs hP hD hS => ?_)
      obtain ⟨g_4, eg_4⟩ : ∃ z, z = upd rg (3 * k_2) (g_1 7) := ⟨_, rfl⟩
      rw [← eg_4] at hP hD
      have hP : va_P D classes [(h0, .inr (1, [.ref hn, .ref h1, .ref h2, .ref h3, .ref h4])), (hn, .inl (cA, 34, .inl g_1)), (h1, .inl (cA, 64, .inl pn)), (h2, .inl (cA, 16, .inl wt)), (h3, .inl (cA, 900, .inl g_4)), (h4, .inl (cA, 200, .inl pa))] H := hP
      have hD : va_D A [(h0, .inr (1, [.ref hn, .ref h1, .ref h2, .ref h3, .ref h4])), (hn, .inl (cA, 34, .inl g_1)), (h1, .inl (cA, 64, .inl pn)), (h2, .inl (cA, 16, .inl wt)), (h3, .inl (cA, 900, .inl g_4)), (h4, .inl (cA, 200, .inl pa))] := hD
      refine lv_aload_n hx hb dX1_strike_82 rfl (lv_at hl 1 rfl) ?_
      refine k_get (C := RX1) (T := TX1) (N := 5) (ci := 1) (v := .ref h3) X hE hP 0 rfl rfl iX1 3 (by decide) w_5 rfl dX1_strike_83 ?_
      refine lv_iconst (v := 3) hx hb dX1_strike_86 (by decide) ?_
      refine lv_iload_n hx hb dX1_strike_87 rfl (lv_at hl 0 rfl) ?_
      refine lv_imul hx hb dX1_strike_88 ?_
      refine tk (y := nI (3 * k_2)) (pk_mul 3 k_2) ?_
      refine lv_iconst (v := 1) hx hb dX1_strike_89 (by decide) ?_
      refine lv_iadd hx hb dX1_strike_90 ?_
      refine tk (y := nI (3 * k_2 + 1)) (nI_add (3 * k_2) 1) ?_
      refine lv_iload_n hx hb dX1_strike_91 rfl (lv_at hl 2 rfl) ?_
      refine k_ast X hE hP hD hS 4 rfl (3 * k_2 + 1) rfl (by omega) (by decide) [(h0, .inr (1, [.ref hn, .ref h1, .ref h2, .ref h3, .ref h4])), (hn, .inl (cA, 34, .inl g_1)), (h1, .inl (cA, 64, .inl pn)), (h2, .inl (cA, 16, .inl wt)), (h3, .inl (cA, 900, .inl (upd g_4 (3 * k_2 + 1) (nI v)))), (h4, .inl (cA, 200, .inl pa))] rfl dX1_strike_92 (fun H locs hP hD hS => ?_)
      obtain ⟨g_5, eg_5⟩ : ∃ z, z = upd g_4 (3 * k_2 + 1) (nI v) := ⟨_, rfl⟩
      rw [← eg_5] at hP hD
      have hP : va_P D classes [(h0, .inr (1, [.ref hn, .ref h1, .ref h2, .ref h3, .ref h4])), (hn, .inl (cA, 34, .inl g_1)), (h1, .inl (cA, 64, .inl pn)), (h2, .inl (cA, 16, .inl wt)), (h3, .inl (cA, 900, .inl g_5)), (h4, .inl (cA, 200, .inl pa))] H := hP
      have hD : va_D A [(h0, .inr (1, [.ref hn, .ref h1, .ref h2, .ref h3, .ref h4])), (hn, .inl (cA, 34, .inl g_1)), (h1, .inl (cA, 64, .inl pn)), (h2, .inl (cA, 16, .inl wt)), (h3, .inl (cA, 900, .inl g_5)), (h4, .inl (cA, 200, .inl pa))] := hD
      refine lv_aload_n hx hb dX1_strike_93 rfl (lv_at hl 1 rfl) ?_
      refine k_get (C := RX1) (T := TX1) (N := 5) (ci := 1) (v := .ref h3) X hE hP 0 rfl rfl iX1 3 (by decide) w_5 rfl dX1_strike_94 ?_
      refine lv_iconst (v := 3) hx hb dX1_strike_97 (by decide) ?_
      refine lv_iload_n hx hb dX1_strike_98 rfl (lv_at hl 0 rfl) ?_
      refine lv_imul hx hb dX1_strike_99 ?_
      refine tk (y := nI (3 * k_2)) (pk_mul 3 k_2) ?_
      refine lv_iconst (v := 2) hx hb dX1_strike_100 (by decide) ?_
      refine lv_iadd hx hb dX1_strike_101 ?_
      refine tk (y := nI (3 * k_2 + 2)) (nI_add (3 * k_2) 2) ?_
      refine lv_iload_n hx hb dX1_strike_102 rfl (lv_at hl 3 rfl) ?_
      refine k_ast X hE hP hD hS 4 rfl (3 * k_2 + 2) rfl (by omega) (by decide) [(h0, .inr (1, [.ref hn, .ref h1, .ref h2, .ref h3, .ref h4])), (hn, .inl (cA, 34, .inl g_1)), (h1, .inl (cA, 64, .inl pn)), (h2, .inl (cA, 16, .inl wt)), (h3, .inl (cA, 900, .inl (upd g_5 (3 * k_2 + 2) (nI w)))), (h4, .inl (cA, 200, .inl pa))] rfl dX1_strike_103 (fun H locs hP hD hS => ?_)
      obtain ⟨g_6, eg_6⟩ : ∃ z, z = upd g_5 (3 * k_2 + 2) (nI w) := ⟨_, rfl⟩
      rw [← eg_6] at hP hD
      have hP : va_P D classes [(h0, .inr (1, [.ref hn, .ref h1, .ref h2, .ref h3, .ref h4])), (hn, .inl (cA, 34, .inl g_1)), (h1, .inl (cA, 64, .inl pn)), (h2, .inl (cA, 16, .inl wt)), (h3, .inl (cA, 900, .inl g_6)), (h4, .inl (cA, 200, .inl pa))] H := hP
      have hD : va_D A [(h0, .inr (1, [.ref hn, .ref h1, .ref h2, .ref h3, .ref h4])), (hn, .inl (cA, 34, .inl g_1)), (h1, .inl (cA, 64, .inl pn)), (h2, .inl (cA, 16, .inl wt)), (h3, .inl (cA, 900, .inl g_6)), (h4, .inl (cA, 200, .inl pa))] := hD
      refine lv_aload_n hx hb dX1_strike_104 rfl (lv_at hl 1 rfl) ?_
      refine k_get (C := RX1) (T := TX1) (N := 5) (ci := 1) (v := .ref hn) X hE hP 0 rfl rfl iX1 0 (by decide) w_1 rfl dX1_strike_105 ?_
      refine lv_bipush (v := 31) hx hb dX1_strike_108 (by decide) ?_
      refine lv_iload_n hx hb dX1_strike_110 rfl (lv_at hl 0 rfl) ?_
      refine lv_iconst (v := 1) hx hb dX1_strike_111 (by decide) ?_
      refine lv_iadd hx hb dX1_strike_112 ?_
      refine tk (y := nI (k_2 + 1)) (nI_add k_2 1) ?_
      refine k_ast X hE hP hD hS 1 rfl 31 rfl (by decide) (by decide) [(h0, .inr (1, [.ref hn, .ref h1, .ref h2, .ref h3, .ref h4])), (hn, .inl (cA, 34, .inl (upd g_1 31 (nI (k_2 + 1))))), (h1, .inl (cA, 64, .inl pn)), (h2, .inl (cA, 16, .inl wt)), (h3, .inl (cA, 900, .inl g_6)), (h4, .inl (cA, 200, .inl pa))] rfl dX1_strike_113 (fun H locs hP hD hS => ?_)
      obtain ⟨g_7, eg_7⟩ : ∃ z, z = upd g_1 31 (nI (k_2 + 1)) := ⟨_, rfl⟩
      rw [← eg_7] at hP hD
      have hg_7 := okN_upd hg_1 31 (nI (k_2 + 1)) (inR_of (k := k_2 + 1) rfl (by omega))
      rw [← eg_7] at hg_7
      have hP : va_P D classes [(h0, .inr (1, [.ref hn, .ref h1, .ref h2, .ref h3, .ref h4])), (hn, .inl (cA, 34, .inl g_7)), (h1, .inl (cA, 64, .inl pn)), (h2, .inl (cA, 16, .inl wt)), (h3, .inl (cA, 900, .inl g_6)), (h4, .inl (cA, 200, .inl pa))] H := hP
      have hD : va_D A [(h0, .inr (1, [.ref hn, .ref h1, .ref h2, .ref h3, .ref h4])), (hn, .inl (cA, 34, .inl g_7)), (h1, .inl (cA, 64, .inl pn)), (h2, .inl (cA, 16, .inl wt)), (h3, .inl (cA, 900, .inl g_6)), (h4, .inl (cA, 200, .inl pa))] := hD
      exact endV X hr hlocks hP hD hS dX1_strike_114 ⟨g_7, pn, wt, g_6, pa, hg_7, hpn, hwt, rfl⟩
    · have nc_52_3 : 300 ≤ k_2 := Nat.not_lt.mp (fun q => c_52_3 ((nI_ltI (a := k_2) (b := 300) (by omega) (by omega)).mpr q))
      refine lv_aload_n hx hb dX1_strike_55 rfl (lv_at hl 1 rfl) ?_
      refine k_get (C := RX1) (T := TX1) (N := 5) (ci := 1) (v := .ref hn) X hE hP 0 rfl rfl iX1 0 (by decide) w_1 rfl dX1_strike_56 ?_
      refine lv_bipush (v := 29) hx hb dX1_strike_59 (by decide) ?_
      refine lv_dup2_11 hx hb dX1_strike_61 rfl rfl ?_
      refine k_ald (v := g_1 29) X hE hP 1 rfl 29 rfl (by decide) (by decide) rfl dX1_strike_62 ?_
      refine lv_iconst (v := 1) hx hb dX1_strike_63 (by decide) ?_
      refine lv_iadd hx hb dX1_strike_64 ?_
      refine k_ast X hE hP hD hS 1 rfl 29 rfl (by decide) (by decide) [(h0, .inr (1, [.ref hn, .ref h1, .ref h2, .ref h3, .ref h4])), (hn, .inl (cA, 34, .inl (upd g_1 29 ((g_1 29) + 1)))), (h1, .inl (cA, 64, .inl pn)), (h2, .inl (cA, 16, .inl wt)), (h3, .inl (cA, 900, .inl rg)), (h4, .inl (cA, 200, .inl pa))] rfl dX1_strike_65 (fun H locs hP hD hS => ?_)
      obtain ⟨g_8, eg_8⟩ : ∃ z, z = upd g_1 29 ((g_1 29) + 1) := ⟨_, rfl⟩
      rw [← eg_8] at hP hD
      have hg_8 := okN_upd hg_1 29 ((g_1 29) + 1) (inR_any rfl)
      rw [← eg_8] at hg_8
      have hP : va_P D classes [(h0, .inr (1, [.ref hn, .ref h1, .ref h2, .ref h3, .ref h4])), (hn, .inl (cA, 34, .inl g_8)), (h1, .inl (cA, 64, .inl pn)), (h2, .inl (cA, 16, .inl wt)), (h3, .inl (cA, 900, .inl rg)), (h4, .inl (cA, 200, .inl pa))] H := hP
      have hD : va_D A [(h0, .inr (1, [.ref hn, .ref h1, .ref h2, .ref h3, .ref h4])), (hn, .inl (cA, 34, .inl g_8)), (h1, .inl (cA, 64, .inl pn)), (h2, .inl (cA, 16, .inl wt)), (h3, .inl (cA, 900, .inl rg)), (h4, .inl (cA, 200, .inl pa))] := hD
      exact endV X hr hlocks hP hD hS dX1_strike_66 ⟨g_8, pn, wt, rg, pa, hg_8, hpn, hwt, rfl⟩
  · skip
    refine lv_aload_n hx hb dX1_strike_12 rfl (lv_at hl 0 rfl) ?_
    refine k_get (C := RX1) (T := TX1) (N := 5) (ci := 1) (v := .ref hn) X hE hP 0 rfl rfl iX1 0 (by decide) w_1 rfl dX1_strike_13 ?_
    refine lv_bipush (v := 28) hx hb dX1_strike_16 (by decide) ?_
    refine lv_dup2_11 hx hb dX1_strike_18 rfl rfl ?_
    refine k_ald (v := f 28) X hE hP 1 rfl 28 rfl (by decide) (by decide) rfl dX1_strike_19 ?_
    refine lv_iconst (v := 1) hx hb dX1_strike_20 (by decide) ?_
    refine lv_iadd hx hb dX1_strike_21 ?_
    refine k_ast X hE hP hD hS 1 rfl 28 rfl (by decide) (by decide) [(h0, .inr (1, [.ref hn, .ref h1, .ref h2, .ref h3, .ref h4])), (hn, .inl (cA, 34, .inl (upd f 28 ((f 28) + 1)))), (h1, .inl (cA, 64, .inl pn)), (h2, .inl (cA, 16, .inl wt)), (h3, .inl (cA, 900, .inl rg)), (h4, .inl (cA, 200, .inl pa))] rfl dX1_strike_22 (fun H locs hP hD hS => ?_)
    obtain ⟨g_9, eg_9⟩ : ∃ z, z = upd f 28 ((f 28) + 1) := ⟨_, rfl⟩
    rw [← eg_9] at hP hD
    have hg_9 := okN_upd hf 28 ((f 28) + 1) (inR_any rfl)
    rw [← eg_9] at hg_9
    have hP : va_P D classes [(h0, .inr (1, [.ref hn, .ref h1, .ref h2, .ref h3, .ref h4])), (hn, .inl (cA, 34, .inl g_9)), (h1, .inl (cA, 64, .inl pn)), (h2, .inl (cA, 16, .inl wt)), (h3, .inl (cA, 900, .inl rg)), (h4, .inl (cA, 200, .inl pa))] H := hP
    have hD : va_D A [(h0, .inr (1, [.ref hn, .ref h1, .ref h2, .ref h3, .ref h4])), (hn, .inl (cA, 34, .inl g_9)), (h1, .inl (cA, 64, .inl pn)), (h2, .inl (cA, 16, .inl wt)), (h3, .inl (cA, 900, .inl rg)), (h4, .inl (cA, 200, .inl pa))] := hD
    exact endV X hr hlocks hP hD hS dX1_strike_23 ⟨g_9, pn, wt, rg, pa, hg_9, hpn, hwt, rfl⟩
set_option maxHeartbeats 4000000 in
set_option maxRecDepth 100000 in
theorem c_s_print (l : Launch) (D : va_G) (cA cB : ClassId) (h0 : Nat) (hn : Nat) (h1 : Nat) (h2 : Nat) (h3 : Nat) (h4 : Nat) (f : Nat → Int32) (pn : Nat → Int32) (wt : Nat → Int32) (rg : Nat → Int32) (pa : Nat → Int32) (v : Nat) (hf : okN f) (hpn : ∀ j, j < 64 → ∃ k : Nat, k < 256 ∧ pn j = nI k) (hwt : ∀ j, j < 16 → ∃ k : Nat, k < 256 ∧ wt j = nI k) (hv : v < 256) : CV l yX1_print cX1_print 3 none 0 0 0 0 D cA cB [.ref h0, .int (nI v)] [(h0, .inr (1, [.ref hn, .ref h1, .ref h2, .ref h3, .ref h4])), (hn, .inl (cA, 34, .inl f)), (h1, .inl (cA, 64, .inl pn)), (h2, .inl (cA, 16, .inl wt)), (h3, .inl (cA, 900, .inl rg)), (h4, .inl (cA, 200, .inl pa))] (fun W1 => ∃ (f2 : Nat → Int32) (pn2 : Nat → Int32) (wt2 : Nat → Int32) (rg2 : Nat → Int32) (pa2 : Nat → Int32), (okN f2) ∧ (∀ j, j < 64 → ∃ k : Nat, k < 256 ∧ pn2 j = nI k) ∧ (∀ j, j < 16 → ∃ k : Nat, k < 256 ∧ wt2 j = nI k) ∧ W1 = [(h0, .inr (1, [.ref hn, .ref h1, .ref h2, .ref h3, .ref h4])), (hn, .inl (cA, 34, .inl f2)), (h1, .inl (cA, 64, .inl pn2)), (h2, .inl (cA, 16, .inl wt2)), (h3, .inl (cA, 900, .inl rg2)), (h4, .inl (cA, 200, .inl pa2))]) := by
  refine mkV (lv0 := [(0, .ref h0), (1, .int (nI v))]) (by decide) (Nat.le_of_ble_eq_true rfl) rfl ?_
  intro p e s m below meth c A ls X hr hlocks hnm hE hA hP hD hS hl
  have hx := X.1
  have hb := X.2.1
  refine lv_aload_n hx hb dX1_print_0 rfl (lv_at hl 0 rfl) ?_
  refine k_get (C := RX1) (T := TX1) (N := 5) (ci := 1) (v := .ref hn) X hE hP 0 rfl rfl iX1 0 (by decide) w_1 rfl dX1_print_1 ?_
  refine lv_bipush (v := 32) hx hb dX1_print_4 (by decide) ?_
  obtain ⟨k_1, hk_1, ek_1⟩ := hf.at 32 201 (by decide) rfl
  refine k_ald (v := nI k_1) X hE hP 1 rfl 32 rfl (by decide) (by decide) ek_1 dX1_print_6 ?_
  refine lv_istore_n (lv' := [(2, .int (nI k_1)), (0, .ref h0), (1, .int (nI v))]) hx hb dX1_print_7 rfl hl (by decide) rfl (fun ls hl => ?_)
  refine lv_iload_n hx hb dX1_print_8 rfl (lv_at hl 0 rfl) ?_
  refine lv_sipush (v := 200) hx hb dX1_print_9 (by decide) ?_
  refine lv_icmp_lt (tgt := 27) hx hb dX1_print_12 (by decide) (fun c_12_2 => ?_) (fun c_12_2 => ?_)
  · have nc_12_2 : k_1 < 200 := (nI_ltI (a := k_1) (b := 200) (by omega) (by omega)).mp c_12_2
    refine lv_aload_n hx hb dX1_print_27 rfl (lv_at hl 1 rfl) ?_
    refine k_get (C := RX1) (T := TX1) (N := 5) (ci := 1) (v := .ref h4) X hE hP 0 rfl rfl iX1 4 (by decide) w_6 rfl dX1_print_28 ?_
    refine lv_iload_n hx hb dX1_print_31 rfl (lv_at hl 0 rfl) ?_
    refine lv_iload_n hx hb dX1_print_32 rfl (lv_at hl 2 rfl) ?_
    refine k_ast X hE hP hD hS 5 rfl k_1 rfl (by omega) (by decide) [(h0, .inr (1, [.ref hn, .ref h1, .ref h2, .ref h3, .ref h4])), (hn, .inl (cA, 34, .inl f)), (h1, .inl (cA, 64, .inl pn)), (h2, .inl (cA, 16, .inl wt)), (h3, .inl (cA, 900, .inl rg)), (h4, .inl (cA, 200, .inl (upd pa k_1 (nI v))))] rfl dX1_print_33 (fun H locs hP hD hS => ?_)
    obtain ⟨g_3, eg_3⟩ : ∃ z, z = upd pa k_1 (nI v) := ⟨_, rfl⟩
    rw [← eg_3] at hP hD
    have hP : va_P D classes [(h0, .inr (1, [.ref hn, .ref h1, .ref h2, .ref h3, .ref h4])), (hn, .inl (cA, 34, .inl f)), (h1, .inl (cA, 64, .inl pn)), (h2, .inl (cA, 16, .inl wt)), (h3, .inl (cA, 900, .inl rg)), (h4, .inl (cA, 200, .inl g_3))] H := hP
    have hD : va_D A [(h0, .inr (1, [.ref hn, .ref h1, .ref h2, .ref h3, .ref h4])), (hn, .inl (cA, 34, .inl f)), (h1, .inl (cA, 64, .inl pn)), (h2, .inl (cA, 16, .inl wt)), (h3, .inl (cA, 900, .inl rg)), (h4, .inl (cA, 200, .inl g_3))] := hD
    refine lv_aload_n hx hb dX1_print_34 rfl (lv_at hl 1 rfl) ?_
    refine k_get (C := RX1) (T := TX1) (N := 5) (ci := 1) (v := .ref hn) X hE hP 0 rfl rfl iX1 0 (by decide) w_1 rfl dX1_print_35 ?_
    refine lv_bipush (v := 32) hx hb dX1_print_38 (by decide) ?_
    refine lv_iload_n hx hb dX1_print_40 rfl (lv_at hl 0 rfl) ?_
    refine lv_iconst (v := 1) hx hb dX1_print_41 (by decide) ?_
    refine lv_iadd hx hb dX1_print_42 ?_
    refine tk (y := nI (k_1 + 1)) (nI_add k_1 1) ?_
    refine k_ast X hE hP hD hS 1 rfl 32 rfl (by decide) (by decide) [(h0, .inr (1, [.ref hn, .ref h1, .ref h2, .ref h3, .ref h4])), (hn, .inl (cA, 34, .inl (upd f 32 (nI (k_1 + 1))))), (h1, .inl (cA, 64, .inl pn)), (h2, .inl (cA, 16, .inl wt)), (h3, .inl (cA, 900, .inl rg)), (h4, .inl (cA, 200, .inl g_3))] rfl dX1_print_43 (fun H locs hP hD hS => ?_)
    obtain ⟨g_4, eg_4⟩ : ∃ z, z = upd f 32 (nI (k_1 + 1)) := ⟨_, rfl⟩
    rw [← eg_4] at hP hD
    have hg_4 := okN_upd hf 32 (nI (k_1 + 1)) (inR_of (k := k_1 + 1) rfl (by omega))
    rw [← eg_4] at hg_4
    have hP : va_P D classes [(h0, .inr (1, [.ref hn, .ref h1, .ref h2, .ref h3, .ref h4])), (hn, .inl (cA, 34, .inl g_4)), (h1, .inl (cA, 64, .inl pn)), (h2, .inl (cA, 16, .inl wt)), (h3, .inl (cA, 900, .inl rg)), (h4, .inl (cA, 200, .inl g_3))] H := hP
    have hD : va_D A [(h0, .inr (1, [.ref hn, .ref h1, .ref h2, .ref h3, .ref h4])), (hn, .inl (cA, 34, .inl g_4)), (h1, .inl (cA, 64, .inl pn)), (h2, .inl (cA, 16, .inl wt)), (h3, .inl (cA, 900, .inl rg)), (h4, .inl (cA, 200, .inl g_3))] := hD
    exact endV X hr hlocks hP hD hS dX1_print_44 ⟨g_4, pn, wt, rg, g_3, hg_4, hpn, hwt, rfl⟩
  · have nc_12_2 : 200 ≤ k_1 := Nat.not_lt.mp (fun q => c_12_2 ((nI_ltI (a := k_1) (b := 200) (by omega) (by omega)).mpr q))
    refine lv_aload_n hx hb dX1_print_15 rfl (lv_at hl 1 rfl) ?_
    refine k_get (C := RX1) (T := TX1) (N := 5) (ci := 1) (v := .ref hn) X hE hP 0 rfl rfl iX1 0 (by decide) w_1 rfl dX1_print_16 ?_
    refine lv_bipush (v := 29) hx hb dX1_print_19 (by decide) ?_
    refine lv_dup2_11 hx hb dX1_print_21 rfl rfl ?_
    refine k_ald (v := f 29) X hE hP 1 rfl 29 rfl (by decide) (by decide) rfl dX1_print_22 ?_
    refine lv_iconst (v := 1) hx hb dX1_print_23 (by decide) ?_
    refine lv_iadd hx hb dX1_print_24 ?_
    refine k_ast X hE hP hD hS 1 rfl 29 rfl (by decide) (by decide) [(h0, .inr (1, [.ref hn, .ref h1, .ref h2, .ref h3, .ref h4])), (hn, .inl (cA, 34, .inl (upd f 29 ((f 29) + 1)))), (h1, .inl (cA, 64, .inl pn)), (h2, .inl (cA, 16, .inl wt)), (h3, .inl (cA, 900, .inl rg)), (h4, .inl (cA, 200, .inl pa))] rfl dX1_print_25 (fun H locs hP hD hS => ?_)
    obtain ⟨g_5, eg_5⟩ : ∃ z, z = upd f 29 ((f 29) + 1) := ⟨_, rfl⟩
    rw [← eg_5] at hP hD
    have hg_5 := okN_upd hf 29 ((f 29) + 1) (inR_any rfl)
    rw [← eg_5] at hg_5
    have hP : va_P D classes [(h0, .inr (1, [.ref hn, .ref h1, .ref h2, .ref h3, .ref h4])), (hn, .inl (cA, 34, .inl g_5)), (h1, .inl (cA, 64, .inl pn)), (h2, .inl (cA, 16, .inl wt)), (h3, .inl (cA, 900, .inl rg)), (h4, .inl (cA, 200, .inl pa))] H := hP
    have hD : va_D A [(h0, .inr (1, [.ref hn, .ref h1, .ref h2, .ref h3, .ref h4])), (hn, .inl (cA, 34, .inl g_5)), (h1, .inl (cA, 64, .inl pn)), (h2, .inl (cA, 16, .inl wt)), (h3, .inl (cA, 900, .inl rg)), (h4, .inl (cA, 200, .inl pa))] := hD
    exact endV X hr hlocks hP hD hS dX1_print_26 ⟨g_5, pn, wt, rg, pa, hg_5, hpn, hwt, rfl⟩
set_option maxHeartbeats 4000000 in
set_option maxRecDepth 100000 in
theorem c_s_readPort (l : Launch) (D : va_G) (cA cB : ClassId) (h0 : Nat) (hn : Nat) (h1 : Nat) (h2 : Nat) (h3 : Nat) (h4 : Nat) (f : Nat → Int32) (pn : Nat → Int32) (wt : Nat → Int32) (rg : Nat → Int32) (pa : Nat → Int32) (o : Nat) (hf : okN f) (hpn : ∀ j, j < 64 → ∃ k : Nat, k < 256 ∧ pn j = nI k) (hwt : ∀ j, j < 16 → ∃ k : Nat, k < 256 ∧ wt j = nI k) (ho : o < 16) : CI l yX1_readPort cX1_readPort 2 (some .int) 1 22 0 0 D cA cB [.ref h0, .int (nI o)] [(h0, .inr (1, [.ref hn, .ref h1, .ref h2, .ref h3, .ref h4])), (hn, .inl (cA, 34, .inl f)), (h1, .inl (cA, 64, .inl pn)), (h2, .inl (cA, 16, .inl wt)), (h3, .inl (cA, 900, .inl rg)), (h4, .inl (cA, 200, .inl pa))] (fun r W1 => ∃ (f2 : Nat → Int32) (pn2 : Nat → Int32) (wt2 : Nat → Int32) (rg2 : Nat → Int32) (pa2 : Nat → Int32) (rk : Nat), r = nI rk ∧ (okN f2) ∧ (∀ j, j < 64 → ∃ k : Nat, k < 256 ∧ pn2 j = nI k) ∧ (∀ j, j < 16 → ∃ k : Nat, k < 256 ∧ wt2 j = nI k) ∧ (rk < 256) ∧ W1 = [(h0, .inr (1, [.ref hn, .ref h1, .ref h2, .ref h3, .ref h4])), (hn, .inl (cA, 34, .inl f2)), (h1, .inl (cA, 64, .inl pn2)), (h2, .inl (cA, 16, .inl wt2)), (h3, .inl (cA, 900, .inl rg2)), (h4, .inl (cA, 200, .inl pa2))]) := by
  refine mkI (lv0 := [(0, .ref h0), (1, .int (nI o))]) (by decide) (Nat.le_of_ble_eq_true rfl) rfl ?_
  intro p e s m below meth c A ls X hr hlocks hnm hE hA hP hD hS hl
  have hx := X.1
  have hb := X.2.1
  refine lv_iload_n hx hb dX1_readPort_0 rfl (lv_at hl 1 rfl) ?_
  by_cases c_1_1 : (nI o) = 0
  · refine lv_tableIn (tgt := 76) (off := 75) hx hb dX1_readPort_1 (by rw [c_1_1]; decide) (by rw [c_1_1]; decide) (by rw [c_1_1]; decide) (by decide) ?_
    refine lv_aload_n hx hb dX1_readPort_76 rfl (lv_at hl 0 rfl) ?_
    refine k_get (C := RX1) (T := TX1) (N := 5) (ci := 1) (v := .ref hn) X hE hP 0 rfl rfl iX1 0 (by decide) w_1 rfl dX1_readPort_77 ?_
    refine lv_bipush (v := 8) hx hb dX1_readPort_80 (by decide) ?_
    obtain ⟨k_2, hk_2, ek_2⟩ := hf.at 8 65536 (by decide) rfl
    refine k_ald (v := nI k_2) X hE hP 1 rfl 8 rfl (by decide) (by decide) ek_2 dX1_readPort_82 ?_
    refine lv_sipush (v := 255) hx hb dX1_readPort_83 (by decide) ?_
    refine lv_iand hx hb dX1_readPort_86 ?_
    obtain ⟨k_3, hk_3, ek_3⟩ := pk_andE (nI k_2) (m := 255) 8 (by decide)
    have hk_3 : k_3 < 256 := hk_3
    refine tk (y := nI k_3) ek_3 ?_
    exact endI X hr hlocks hP hD hS dX1_readPort_87 ⟨f, pn, wt, rg, pa, k_3, rfl, hf, hpn, hwt, (by omega), rfl⟩
  · skip
    by_cases c_1_4 : (nI o) = 1
    · refine lv_tableIn (tgt := 88) (off := 87) hx hb dX1_readPort_1 (by rw [c_1_4]; decide) (by rw [c_1_4]; decide) (by rw [c_1_4]; decide) (by decide) ?_
      refine lv_aload_n hx hb dX1_readPort_88 rfl (lv_at hl 0 rfl) ?_
      refine k_get (C := RX1) (T := TX1) (N := 5) (ci := 1) (v := .ref hn) X hE hP 0 rfl rfl iX1 0 (by decide) w_1 rfl dX1_readPort_89 ?_
      refine lv_bipush (v := 8) hx hb dX1_readPort_92 (by decide) ?_
      obtain ⟨k_5, hk_5, ek_5⟩ := hf.at 8 65536 (by decide) rfl
      refine k_ald (v := nI k_5) X hE hP 1 rfl 8 rfl (by decide) (by decide) ek_5 dX1_readPort_94 ?_
      refine lv_bipush (v := 8) hx hb dX1_readPort_95 (by decide) ?_
      refine lv_ishr hx hb dX1_readPort_97 ?_
      refine tk (y := nI (k_5 / 256)) (pk_shrN (n := k_5) (by omega) _ 8 (by decide)) ?_
      exact endI X hr hlocks hP hD hS dX1_readPort_98 ⟨f, pn, wt, rg, pa, (k_5 / 256), rfl, hf, hpn, hwt, (by omega), rfl⟩
    · skip
      by_cases c_1_6 : (nI o) = 2
      · refine lv_tableIn (tgt := 99) (off := 98) hx hb dX1_readPort_1 (by rw [c_1_6]; decide) (by rw [c_1_6]; decide) (by rw [c_1_6]; decide) (by decide) ?_
        refine lv_aload_n hx hb dX1_readPort_99 rfl (lv_at hl 0 rfl) ?_
        refine k_get (C := RX1) (T := TX1) (N := 5) (ci := 1) (v := .ref hn) X hE hP 0 rfl rfl iX1 0 (by decide) w_1 rfl dX1_readPort_100 ?_
        refine lv_bipush (v := 10) hx hb dX1_readPort_103 (by decide) ?_
        obtain ⟨k_7, hk_7, ek_7⟩ := hf.at 10 2 (by decide) rfl
        refine k_ald (v := nI k_7) X hE hP 1 rfl 10 rfl (by decide) (by decide) ek_7 dX1_readPort_105 ?_
        exact endI X hr hlocks hP hD hS dX1_readPort_106 ⟨f, pn, wt, rg, pa, k_7, rfl, hf, hpn, hwt, (by omega), rfl⟩
      · skip
        by_cases c_1_8 : (nI o) = 3
        · refine lv_tableIn (tgt := 107) (off := 106) hx hb dX1_readPort_1 (by rw [c_1_8]; decide) (by rw [c_1_8]; decide) (by rw [c_1_8]; decide) (by decide) ?_
          refine lv_aload_n hx hb dX1_readPort_107 rfl (lv_at hl 0 rfl) ?_
          refine k_get (C := RX1) (T := TX1) (N := 5) (ci := 1) (v := .ref hn) X hE hP 0 rfl rfl iX1 0 (by decide) w_1 rfl dX1_readPort_108 ?_
          refine lv_bipush (v := 9) hx hb dX1_readPort_111 (by decide) ?_
          obtain ⟨k_9, hk_9, ek_9⟩ := hf.at 9 65536 (by decide) rfl
          refine k_ald (v := nI k_9) X hE hP 1 rfl 9 rfl (by decide) (by decide) ek_9 dX1_readPort_113 ?_
          refine lv_sipush (v := 255) hx hb dX1_readPort_114 (by decide) ?_
          refine lv_iand hx hb dX1_readPort_117 ?_
          obtain ⟨k_10, hk_10, ek_10⟩ := pk_andE (nI k_9) (m := 255) 8 (by decide)
          have hk_10 : k_10 < 256 := hk_10
          refine tk (y := nI k_10) ek_10 ?_
          exact endI X hr hlocks hP hD hS dX1_readPort_118 ⟨f, pn, wt, rg, pa, k_10, rfl, hf, hpn, hwt, (by omega), rfl⟩
        · skip
          by_cases c_1_11 : (nI o) = 4
          · refine lv_tableIn (tgt := 119) (off := 118) hx hb dX1_readPort_1 (by rw [c_1_11]; decide) (by rw [c_1_11]; decide) (by rw [c_1_11]; decide) (by decide) ?_
            refine lv_aload_n hx hb dX1_readPort_119 rfl (lv_at hl 0 rfl) ?_
            refine k_get (C := RX1) (T := TX1) (N := 5) (ci := 1) (v := .ref hn) X hE hP 0 rfl rfl iX1 0 (by decide) w_1 rfl dX1_readPort_120 ?_
            refine lv_bipush (v := 9) hx hb dX1_readPort_123 (by decide) ?_
            obtain ⟨k_12, hk_12, ek_12⟩ := hf.at 9 65536 (by decide) rfl
            refine k_ald (v := nI k_12) X hE hP 1 rfl 9 rfl (by decide) (by decide) ek_12 dX1_readPort_125 ?_
            refine lv_bipush (v := 8) hx hb dX1_readPort_126 (by decide) ?_
            refine lv_ishr hx hb dX1_readPort_128 ?_
            refine tk (y := nI (k_12 / 256)) (pk_shrN (n := k_12) (by omega) _ 8 (by decide)) ?_
            exact endI X hr hlocks hP hD hS dX1_readPort_129 ⟨f, pn, wt, rg, pa, (k_12 / 256), rfl, hf, hpn, hwt, (by omega), rfl⟩
          · skip
            by_cases c_1_13 : (nI o) = 5
            · refine lv_tableIn (tgt := 130) (off := 129) hx hb dX1_readPort_1 (by rw [c_1_13]; decide) (by rw [c_1_13]; decide) (by rw [c_1_13]; decide) (by decide) ?_
              refine lv_aload_n hx hb dX1_readPort_130 rfl (lv_at hl 0 rfl) ?_
              refine kVi (n3 := 0) (As := []) (rest := []) X hl.1 hE hP hD hS hA [(h0, .inr (1, [.ref hn, .ref h1, .ref h2, .ref h3, .ref h4])), (hn, .inl (cA, 34, .inl f)), (h1, .inl (cA, 64, .inl pn)), (h2, .inl (cA, 16, .inl wt)), (h3, .inl (cA, 900, .inl rg)), (h4, .inl (cA, 200, .inl pa))] [] [0, 1, 2, 3, 4, 5] [] rfl rfl rfl (by decide +kernel) (by decide +kernel) (by decide +kernel) (c_s_pinsOfRow l D cA cB h0 hn h1 h2 h3 h4 f pn wt rg pa hf hpn hwt) w_8 w_9 w_7 w_10 w_11 0 (ci := 1) (T := TX1) (N := 5) rfl rfl (by decide +kernel) rfl rfl (Nat.le_of_ble_eq_true rfl) ⟨(Nat.le_of_ble_eq_true rfl), (Nat.le_of_ble_eq_true rfl)⟩ ⟨(Nat.le_of_ble_eq_true rfl), (Nat.le_of_ble_eq_true rfl)⟩ dX1_readPort_131 (fun r W1 H locs hw hP hD hS => ?_)
              obtain ⟨f2_14, pn2_15, wt2_16, rg2_17, pa2_18, rk_19, rfl, hf_20, hf_21, hf_22, hf_23, rfl⟩ := hw
              have hP : va_P D classes [(h0, .inr (1, [.ref hn, .ref h1, .ref h2, .ref h3, .ref h4])), (hn, .inl (cA, 34, .inl f2_14)), (h1, .inl (cA, 64, .inl pn2_15)), (h2, .inl (cA, 16, .inl wt2_16)), (h3, .inl (cA, 900, .inl rg2_17)), (h4, .inl (cA, 200, .inl pa2_18))] H := hP
              have hD : va_D A [(h0, .inr (1, [.ref hn, .ref h1, .ref h2, .ref h3, .ref h4])), (hn, .inl (cA, 34, .inl f2_14)), (h1, .inl (cA, 64, .inl pn2_15)), (h2, .inl (cA, 16, .inl wt2_16)), (h3, .inl (cA, 900, .inl rg2_17)), (h4, .inl (cA, 200, .inl pa2_18))] := hD
              exact endI X hr hlocks hP hD hS dX1_readPort_134 ⟨f2_14, pn2_15, wt2_16, rg2_17, pa2_18, rk_19, rfl, hf_20, hf_21, hf_22, (by omega), rfl⟩
            · skip
              by_cases c_1_24 : (nI o) = 6
              · refine lv_tableIn (tgt := 135) (off := 134) hx hb dX1_readPort_1 (by rw [c_1_24]; decide) (by rw [c_1_24]; decide) (by rw [c_1_24]; decide) (by decide) ?_
                refine lv_aload_n hx hb dX1_readPort_135 rfl (lv_at hl 0 rfl) ?_
                refine k_get (C := RX1) (T := TX1) (N := 5) (ci := 1) (v := .ref hn) X hE hP 0 rfl rfl iX1 0 (by decide) w_1 rfl dX1_readPort_136 ?_
                refine lv_bipush (v := 14) hx hb dX1_readPort_139 (by decide) ?_
                obtain ⟨k_25, hk_25, ek_25⟩ := hf.at 14 64 (by decide) rfl
                refine k_ald (v := nI k_25) X hE hP 1 rfl 14 rfl (by decide) (by decide) ek_25 dX1_readPort_141 ?_
                exact endI X hr hlocks hP hD hS dX1_readPort_142 ⟨f, pn, wt, rg, pa, k_25, rfl, hf, hpn, hwt, (by omega), rfl⟩
              · skip
                by_cases c_1_26 : (nI o) = 7
                · refine lv_tableIn (tgt := 143) (off := 142) hx hb dX1_readPort_1 (by rw [c_1_26]; decide) (by rw [c_1_26]; decide) (by rw [c_1_26]; decide) (by decide) ?_
                  refine lv_aload_n hx hb dX1_readPort_143 rfl (lv_at hl 0 rfl) ?_
                  refine kVi (n3 := 0) (As := []) (rest := []) X hl.1 hE hP hD hS hA [(h0, .inr (1, [.ref hn, .ref h1, .ref h2, .ref h3, .ref h4])), (hn, .inl (cA, 34, .inl f)), (h1, .inl (cA, 64, .inl pn)), (h2, .inl (cA, 16, .inl wt)), (h3, .inl (cA, 900, .inl rg)), (h4, .inl (cA, 200, .inl pa))] [] [0, 1, 2, 3, 4, 5] [] rfl rfl rfl (by decide +kernel) (by decide +kernel) (by decide +kernel) (c_s_bellsReady l D cA cB h0 hn h1 h2 h3 h4 f pn wt rg pa hf hpn hwt) w_13 w_9 w_12 w_14 w_15 0 (ci := 1) (T := TX1) (N := 5) rfl rfl (by decide +kernel) rfl rfl (Nat.le_of_ble_eq_true rfl) ⟨(Nat.le_of_ble_eq_true rfl), (Nat.le_of_ble_eq_true rfl)⟩ ⟨(Nat.le_of_ble_eq_true rfl), (Nat.le_of_ble_eq_true rfl)⟩ dX1_readPort_144 (fun r W1 H locs hw hP hD hS => ?_)
                  obtain ⟨f2_27, pn2_28, wt2_29, rg2_30, pa2_31, rk_32, rfl, hf_33, hf_34, hf_35, hf_36, rfl⟩ := hw
                  have hP : va_P D classes [(h0, .inr (1, [.ref hn, .ref h1, .ref h2, .ref h3, .ref h4])), (hn, .inl (cA, 34, .inl f2_27)), (h1, .inl (cA, 64, .inl pn2_28)), (h2, .inl (cA, 16, .inl wt2_29)), (h3, .inl (cA, 900, .inl rg2_30)), (h4, .inl (cA, 200, .inl pa2_31))] H := hP
                  have hD : va_D A [(h0, .inr (1, [.ref hn, .ref h1, .ref h2, .ref h3, .ref h4])), (hn, .inl (cA, 34, .inl f2_27)), (h1, .inl (cA, 64, .inl pn2_28)), (h2, .inl (cA, 16, .inl wt2_29)), (h3, .inl (cA, 900, .inl rg2_30)), (h4, .inl (cA, 200, .inl pa2_31))] := hD
                  exact endI X hr hlocks hP hD hS dX1_readPort_147 ⟨f2_27, pn2_28, wt2_29, rg2_30, pa2_31, rk_32, rfl, hf_33, hf_34, hf_35, (by omega), rfl⟩
                · skip
                  by_cases c_1_37 : (nI o) = 8
                  · refine lv_tableIn (tgt := 148) (off := 147) hx hb dX1_readPort_1 (by rw [c_1_37]; decide) (by rw [c_1_37]; decide) (by rw [c_1_37]; decide) (by decide) ?_
                    refine lv_aload_n hx hb dX1_readPort_148 rfl (lv_at hl 0 rfl) ?_
                    refine kVi (n3 := 0) (As := []) (rest := []) X hl.1 hE hP hD hS hA [(h0, .inr (1, [.ref hn, .ref h1, .ref h2, .ref h3, .ref h4])), (hn, .inl (cA, 34, .inl f)), (h1, .inl (cA, 64, .inl pn)), (h2, .inl (cA, 16, .inl wt)), (h3, .inl (cA, 900, .inl rg)), (h4, .inl (cA, 200, .inl pa))] [] [0, 1, 2, 3, 4, 5] [] rfl rfl rfl (by decide +kernel) (by decide +kernel) (by decide +kernel) (c_s_takeKey l D cA cB h0 hn h1 h2 h3 h4 f pn wt rg pa hf hpn hwt) w_17 w_9 w_16 w_18 w_19 0 (ci := 1) (T := TX1) (N := 5) rfl rfl (by decide +kernel) rfl rfl (Nat.le_of_ble_eq_true rfl) ⟨(Nat.le_of_ble_eq_true rfl), (Nat.le_of_ble_eq_true rfl)⟩ ⟨(Nat.le_of_ble_eq_true rfl), (Nat.le_of_ble_eq_true rfl)⟩ dX1_readPort_149 (fun r W1 H locs hw hP hD hS => ?_)
                    obtain ⟨f2_38, pn2_39, wt2_40, rg2_41, pa2_42, rk_43, rfl, hf_44, hf_45, hf_46, hf_47, rfl⟩ := hw
                    have hP : va_P D classes [(h0, .inr (1, [.ref hn, .ref h1, .ref h2, .ref h3, .ref h4])), (hn, .inl (cA, 34, .inl f2_38)), (h1, .inl (cA, 64, .inl pn2_39)), (h2, .inl (cA, 16, .inl wt2_40)), (h3, .inl (cA, 900, .inl rg2_41)), (h4, .inl (cA, 200, .inl pa2_42))] H := hP
                    have hD : va_D A [(h0, .inr (1, [.ref hn, .ref h1, .ref h2, .ref h3, .ref h4])), (hn, .inl (cA, 34, .inl f2_38)), (h1, .inl (cA, 64, .inl pn2_39)), (h2, .inl (cA, 16, .inl wt2_40)), (h3, .inl (cA, 900, .inl rg2_41)), (h4, .inl (cA, 200, .inl pa2_42))] := hD
                    exact endI X hr hlocks hP hD hS dX1_readPort_152 ⟨f2_38, pn2_39, wt2_40, rg2_41, pa2_42, rk_43, rfl, hf_44, hf_45, hf_46, (by omega), rfl⟩
                  · skip
                    by_cases c_1_48 : (nI o) = 9
                    · refine lv_tableIn (tgt := 153) (off := 152) hx hb dX1_readPort_1 (by rw [c_1_48]; decide) (by rw [c_1_48]; decide) (by rw [c_1_48]; decide) (by decide) ?_
                      refine lv_aload_n hx hb dX1_readPort_153 rfl (lv_at hl 0 rfl) ?_
                      refine k_get (C := RX1) (T := TX1) (N := 5) (ci := 1) (v := .ref hn) X hE hP 0 rfl rfl iX1 0 (by decide) w_1 rfl dX1_readPort_154 ?_
                      refine lv_bipush (v := 19) hx hb dX1_readPort_157 (by decide) ?_
                      obtain ⟨k_49, hk_49, ek_49⟩ := hf.at 19 17 (by decide) rfl
                      refine k_ald (v := nI k_49) X hE hP 1 rfl 19 rfl (by decide) (by decide) ek_49 dX1_readPort_159 ?_
                      exact endI X hr hlocks hP hD hS dX1_readPort_160 ⟨f, pn, wt, rg, pa, k_49, rfl, hf, hpn, hwt, (by omega), rfl⟩
                    · skip
                      by_cases c_1_50 : (nI o) = 10
                      · refine lv_tableIn (tgt := 161) (off := 160) hx hb dX1_readPort_1 (by rw [c_1_50]; decide) (by rw [c_1_50]; decide) (by rw [c_1_50]; decide) (by decide) ?_
                        refine lv_aload_n hx hb dX1_readPort_161 rfl (lv_at hl 0 rfl) ?_
                        refine k_get (C := RX1) (T := TX1) (N := 5) (ci := 1) (v := .ref hn) X hE hP 0 rfl rfl iX1 0 (by decide) w_1 rfl dX1_readPort_162 ?_
                        refine lv_bipush (v := 32) hx hb dX1_readPort_165 (by decide) ?_
                        obtain ⟨k_51, hk_51, ek_51⟩ := hf.at 32 201 (by decide) rfl
                        refine k_ald (v := nI k_51) X hE hP 1 rfl 32 rfl (by decide) (by decide) ek_51 dX1_readPort_167 ?_
                        refine lv_sipush (v := 255) hx hb dX1_readPort_168 (by decide) ?_
                        refine lv_iand hx hb dX1_readPort_171 ?_
                        obtain ⟨k_52, hk_52, ek_52⟩ := pk_andE (nI k_51) (m := 255) 8 (by decide)
                        have hk_52 : k_52 < 256 := hk_52
                        refine tk (y := nI k_52) ek_52 ?_
                        exact endI X hr hlocks hP hD hS dX1_readPort_172 ⟨f, pn, wt, rg, pa, k_52, rfl, hf, hpn, hwt, (by omega), rfl⟩
                      · skip
                        by_cases c_1_53 : (nI o) = 11
                        · refine lv_tableIn (tgt := 194) (off := 193) hx hb dX1_readPort_1 (by rw [c_1_53]; decide) (by rw [c_1_53]; decide) (by rw [c_1_53]; decide) (by decide) ?_
                          refine lv_iconst (v := 0) hx hb dX1_readPort_194 (by decide) ?_
                          exact endI X hr hlocks hP hD hS dX1_readPort_195 ⟨f, pn, wt, rg, pa, 0, rfl, hf, hpn, hwt, (by omega), rfl⟩
                        · skip
                          by_cases c_1_54 : (nI o) = 12
                          · refine lv_tableIn (tgt := 173) (off := 172) hx hb dX1_readPort_1 (by rw [c_1_54]; decide) (by rw [c_1_54]; decide) (by rw [c_1_54]; decide) (by decide) ?_
                            refine lv_aload_n hx hb dX1_readPort_173 rfl (lv_at hl 0 rfl) ?_
                            refine k_get (C := RX1) (T := TX1) (N := 5) (ci := 1) (v := .ref hn) X hE hP 0 rfl rfl iX1 0 (by decide) w_1 rfl dX1_readPort_174 ?_
                            refine lv_bipush (v := 15) hx hb dX1_readPort_177 (by decide) ?_
                            obtain ⟨k_55, hk_55, ek_55⟩ := hf.at 15 256 (by decide) rfl
                            refine k_ald (v := nI k_55) X hE hP 1 rfl 15 rfl (by decide) (by decide) ek_55 dX1_readPort_179 ?_
                            exact endI X hr hlocks hP hD hS dX1_readPort_180 ⟨f, pn, wt, rg, pa, k_55, rfl, hf, hpn, hwt, (by omega), rfl⟩
                          · skip
                            by_cases c_1_56 : (nI o) = 13
                            · refine lv_tableIn (tgt := 181) (off := 180) hx hb dX1_readPort_1 (by rw [c_1_56]; decide) (by rw [c_1_56]; decide) (by rw [c_1_56]; decide) (by decide) ?_
                              refine lv_aload_n hx hb dX1_readPort_181 rfl (lv_at hl 0 rfl) ?_
                              refine k_get (C := RX1) (T := TX1) (N := 5) (ci := 1) (v := .ref hn) X hE hP 0 rfl rfl iX1 0 (by decide) w_1 rfl dX1_readPort_182 ?_
                              refine lv_bipush (v := 16) hx hb dX1_readPort_185 (by decide) ?_
                              obtain ⟨k_57, hk_57, ek_57⟩ := hf.at 16 256 (by decide) rfl
                              refine k_ald (v := nI k_57) X hE hP 1 rfl 16 rfl (by decide) (by decide) ek_57 dX1_readPort_187 ?_
                              exact endI X hr hlocks hP hD hS dX1_readPort_188 ⟨f, pn, wt, rg, pa, k_57, rfl, hf, hpn, hwt, (by omega), rfl⟩
                            · skip
                              by_cases c_1_58 : (nI o) = 14
                              · refine lv_tableIn (tgt := 189) (off := 188) hx hb dX1_readPort_1 (by rw [c_1_58]; decide) (by rw [c_1_58]; decide) (by rw [c_1_58]; decide) (by decide) ?_
                                refine lv_aload_n hx hb dX1_readPort_189 rfl (lv_at hl 0 rfl) ?_
                                refine kVi (n3 := 0) (As := []) (rest := []) X hl.1 hE hP hD hS hA [(h0, .inr (1, [.ref hn, .ref h1, .ref h2, .ref h3, .ref h4])), (hn, .inl (cA, 34, .inl f)), (h1, .inl (cA, 64, .inl pn)), (h2, .inl (cA, 16, .inl wt)), (h3, .inl (cA, 900, .inl rg)), (h4, .inl (cA, 200, .inl pa))] [] [0, 1, 2, 3, 4, 5] [] rfl rfl rfl (by decide +kernel) (by decide +kernel) (by decide +kernel) (c_s_castDice l D cA cB h0 hn h1 h2 h3 h4 f pn wt rg pa hf hpn hwt) w_21 w_9 w_20 w_22 w_23 0 (ci := 1) (T := TX1) (N := 5) rfl rfl (by decide +kernel) rfl rfl (Nat.le_of_ble_eq_true rfl) ⟨(Nat.le_of_ble_eq_true rfl), (Nat.le_of_ble_eq_true rfl)⟩ ⟨(Nat.le_of_ble_eq_true rfl), (Nat.le_of_ble_eq_true rfl)⟩ dX1_readPort_190 (fun r W1 H locs hw hP hD hS => ?_)
                                obtain ⟨f2_59, pn2_60, wt2_61, rg2_62, pa2_63, rk_64, rfl, hf_65, hf_66, hf_67, hf_68, rfl⟩ := hw
                                have hP : va_P D classes [(h0, .inr (1, [.ref hn, .ref h1, .ref h2, .ref h3, .ref h4])), (hn, .inl (cA, 34, .inl f2_59)), (h1, .inl (cA, 64, .inl pn2_60)), (h2, .inl (cA, 16, .inl wt2_61)), (h3, .inl (cA, 900, .inl rg2_62)), (h4, .inl (cA, 200, .inl pa2_63))] H := hP
                                have hD : va_D A [(h0, .inr (1, [.ref hn, .ref h1, .ref h2, .ref h3, .ref h4])), (hn, .inl (cA, 34, .inl f2_59)), (h1, .inl (cA, 64, .inl pn2_60)), (h2, .inl (cA, 16, .inl wt2_61)), (h3, .inl (cA, 900, .inl rg2_62)), (h4, .inl (cA, 200, .inl pa2_63))] := hD
                                exact endI X hr hlocks hP hD hS dX1_readPort_193 ⟨f2_59, pn2_60, wt2_61, rg2_62, pa2_63, rk_64, rfl, hf_65, hf_66, hf_67, (by omega), rfl⟩
                              · skip
                                refine lv_tableOut (tgt := 194) hx hb dX1_readPort_1 (by have n_0 := lv_neT (k := 0) (a := 0) c_1_1 (by decide); have n_1 := lv_neT (k := 1) (a := 1) c_1_4 (by decide); have n_2 := lv_neT (k := 2) (a := 2) c_1_6 (by decide); have n_3 := lv_neT (k := 3) (a := 3) c_1_8 (by decide); have n_4 := lv_neT (k := 4) (a := 4) c_1_11 (by decide); have n_5 := lv_neT (k := 5) (a := 5) c_1_13 (by decide); have n_6 := lv_neT (k := 6) (a := 6) c_1_24 (by decide); have n_7 := lv_neT (k := 7) (a := 7) c_1_26 (by decide); have n_8 := lv_neT (k := 8) (a := 8) c_1_37 (by decide); have n_9 := lv_neT (k := 9) (a := 9) c_1_48 (by decide); have n_10 := lv_neT (k := 10) (a := 10) c_1_50 (by decide); have n_11 := lv_neT (k := 11) (a := 11) c_1_53 (by decide); have n_12 := lv_neT (k := 12) (a := 12) c_1_54 (by decide); have n_13 := lv_neT (k := 13) (a := 13) c_1_56 (by decide); have n_14 := lv_neT (k := 14) (a := 14) c_1_58 (by decide); omega) (by decide) ?_
                                refine lv_iconst (v := 0) hx hb dX1_readPort_194 (by decide) ?_
                                exact endI X hr hlocks hP hD hS dX1_readPort_195 ⟨f, pn, wt, rg, pa, 0, rfl, hf, hpn, hwt, (by omega), rfl⟩
set_option maxHeartbeats 4000000 in
set_option maxRecDepth 100000 in
theorem c_s_writePort (l : Launch) (D : va_G) (cA cB : ClassId) (h0 : Nat) (hn : Nat) (h1 : Nat) (h2 : Nat) (h3 : Nat) (h4 : Nat) (f : Nat → Int32) (pn : Nat → Int32) (wt : Nat → Int32) (rg : Nat → Int32) (pa : Nat → Int32) (o : Nat) (v : Nat) (hf : okN f) (hpn : ∀ j, j < 64 → ∃ k : Nat, k < 256 ∧ pn j = nI k) (hwt : ∀ j, j < 16 → ∃ k : Nat, k < 256 ∧ wt j = nI k) (ho : o < 16) (hv : v < 256) : CV l yX1_writePort cX1_writePort 3 none 1 23 0 0 D cA cB [.ref h0, .int (nI o), .int (nI v)] [(h0, .inr (1, [.ref hn, .ref h1, .ref h2, .ref h3, .ref h4])), (hn, .inl (cA, 34, .inl f)), (h1, .inl (cA, 64, .inl pn)), (h2, .inl (cA, 16, .inl wt)), (h3, .inl (cA, 900, .inl rg)), (h4, .inl (cA, 200, .inl pa))] (fun W1 => ∃ (f2 : Nat → Int32) (pn2 : Nat → Int32) (wt2 : Nat → Int32) (rg2 : Nat → Int32) (pa2 : Nat → Int32), (okN f2) ∧ (∀ j, j < 64 → ∃ k : Nat, k < 256 ∧ pn2 j = nI k) ∧ (∀ j, j < 16 → ∃ k : Nat, k < 256 ∧ wt2 j = nI k) ∧ W1 = [(h0, .inr (1, [.ref hn, .ref h1, .ref h2, .ref h3, .ref h4])), (hn, .inl (cA, 34, .inl f2)), (h1, .inl (cA, 64, .inl pn2)), (h2, .inl (cA, 16, .inl wt2)), (h3, .inl (cA, 900, .inl rg2)), (h4, .inl (cA, 200, .inl pa2))]) := by
  refine mkV (lv0 := [(0, .ref h0), (1, .int (nI o)), (2, .int (nI v))]) (by decide) (Nat.le_of_ble_eq_true rfl) rfl ?_
  intro p e s m below meth c A ls X hr hlocks hnm hE hA hP hD hS hl
  have hx := X.1
  have hb := X.2.1
  refine lv_iload_n hx hb dX1_writePort_0 rfl (lv_at hl 1 rfl) ?_
  by_cases c_1_1 : (nI o) = 0
  · refine lv_tableIn (tgt := 76) (off := 75) hx hb dX1_writePort_1 (by rw [c_1_1]; decide) (by rw [c_1_1]; decide) (by rw [c_1_1]; decide) (by decide) ?_
    refine lv_aload_n hx hb dX1_writePort_76 rfl (lv_at hl 0 rfl) ?_
    refine k_get (C := RX1) (T := TX1) (N := 5) (ci := 1) (v := .ref hn) X hE hP 0 rfl rfl iX1 0 (by decide) w_1 rfl dX1_writePort_77 ?_
    refine lv_bipush (v := 8) hx hb dX1_writePort_80 (by decide) ?_
    refine lv_aload_n hx hb dX1_writePort_82 rfl (lv_at hl 0 rfl) ?_
    refine k_get (C := RX1) (T := TX1) (N := 5) (ci := 1) (v := .ref hn) X hE hP 0 rfl rfl iX1 0 (by decide) w_1 rfl dX1_writePort_83 ?_
    refine lv_bipush (v := 8) hx hb dX1_writePort_86 (by decide) ?_
    obtain ⟨k_2, hk_2, ek_2⟩ := hf.at 8 65536 (by decide) rfl
    refine k_ald (v := nI k_2) X hE hP 1 rfl 8 rfl (by decide) (by decide) ek_2 dX1_writePort_88 ?_
    refine lv_ldc (v := 65280) hx hb X.2.2.2.1 (X.2.2.2.2 _ w_24) dX1_writePort_89 ?_
    refine lv_iand hx hb dX1_writePort_91 ?_
    obtain ⟨k_3, hk_3, ek_3⟩ := sf_and (a := k_2) (by omega) 65280 (by omega : k_2 < 65536)
    have hk_3 : k_3 < 65536 := hk_3
    refine tk (y := nI k_3) ek_3 ?_
    refine lv_iload_n hx hb dX1_writePort_92 rfl (lv_at hl 2 rfl) ?_
    refine lv_ior hx hb dX1_writePort_93 ?_
    obtain ⟨k_4, hk_4, ek_4⟩ := sf_or (a := k_3) (b := v) 16 65536 rfl (by decide) (by omega) (by omega)
    have hk_4 : k_4 < 65536 := hk_4
    refine tk (y := nI k_4) ek_4 ?_
    refine k_ast X hE hP hD hS 1 rfl 8 rfl (by decide) (by decide) [(h0, .inr (1, [.ref hn, .ref h1, .ref h2, .ref h3, .ref h4])), (hn, .inl (cA, 34, .inl (upd f 8 (nI k_4)))), (h1, .inl (cA, 64, .inl pn)), (h2, .inl (cA, 16, .inl wt)), (h3, .inl (cA, 900, .inl rg)), (h4, .inl (cA, 200, .inl pa))] rfl dX1_writePort_94 (fun H locs hP hD hS => ?_)
    obtain ⟨g_5, eg_5⟩ : ∃ z, z = upd f 8 (nI k_4) := ⟨_, rfl⟩
    rw [← eg_5] at hP hD
    have hg_5 := okN_upd hf 8 (nI k_4) (inR_of (k := k_4) rfl (by omega))
    rw [← eg_5] at hg_5
    have hP : va_P D classes [(h0, .inr (1, [.ref hn, .ref h1, .ref h2, .ref h3, .ref h4])), (hn, .inl (cA, 34, .inl g_5)), (h1, .inl (cA, 64, .inl pn)), (h2, .inl (cA, 16, .inl wt)), (h3, .inl (cA, 900, .inl rg)), (h4, .inl (cA, 200, .inl pa))] H := hP
    have hD : va_D A [(h0, .inr (1, [.ref hn, .ref h1, .ref h2, .ref h3, .ref h4])), (hn, .inl (cA, 34, .inl g_5)), (h1, .inl (cA, 64, .inl pn)), (h2, .inl (cA, 16, .inl wt)), (h3, .inl (cA, 900, .inl rg)), (h4, .inl (cA, 200, .inl pa))] := hD
    refine lv_goto (tgt := 232) hx hb dX1_writePort_95 (by decide) ?_
    exact endV X hr hlocks hP hD hS dX1_writePort_232 ⟨g_5, pn, wt, rg, pa, hg_5, hpn, hwt, rfl⟩
  · skip
    by_cases c_1_6 : (nI o) = 1
    · refine lv_tableIn (tgt := 98) (off := 97) hx hb dX1_writePort_1 (by rw [c_1_6]; decide) (by rw [c_1_6]; decide) (by rw [c_1_6]; decide) (by decide) ?_
      refine lv_aload_n hx hb dX1_writePort_98 rfl (lv_at hl 0 rfl) ?_
      refine k_get (C := RX1) (T := TX1) (N := 5) (ci := 1) (v := .ref hn) X hE hP 0 rfl rfl iX1 0 (by decide) w_1 rfl dX1_writePort_99 ?_
      refine lv_bipush (v := 8) hx hb dX1_writePort_102 (by decide) ?_
      refine lv_aload_n hx hb dX1_writePort_104 rfl (lv_at hl 0 rfl) ?_
      refine k_get (C := RX1) (T := TX1) (N := 5) (ci := 1) (v := .ref hn) X hE hP 0 rfl rfl iX1 0 (by decide) w_1 rfl dX1_writePort_105 ?_
      refine lv_bipush (v := 8) hx hb dX1_writePort_108 (by decide) ?_
      obtain ⟨k_7, hk_7, ek_7⟩ := hf.at 8 65536 (by decide) rfl
      refine k_ald (v := nI k_7) X hE hP 1 rfl 8 rfl (by decide) (by decide) ek_7 dX1_writePort_110 ?_
      refine lv_sipush (v := 255) hx hb dX1_writePort_111 (by decide) ?_
      refine lv_iand hx hb dX1_writePort_114 ?_
      obtain ⟨k_8, hk_8, ek_8⟩ := pk_andE (nI k_7) (m := 255) 8 (by decide)
      have hk_8 : k_8 < 256 := hk_8
      refine tk (y := nI k_8) ek_8 ?_
      refine lv_iload_n hx hb dX1_writePort_115 rfl (lv_at hl 2 rfl) ?_
      refine lv_bipush (v := 8) hx hb dX1_writePort_116 (by decide) ?_
      refine lv_ishl hx hb dX1_writePort_118 ?_
      refine tk (y := nI (v * 256)) (pk_shlN (n := v) _ 8 (by decide) (by omega)) ?_
      refine lv_ior hx hb dX1_writePort_119 ?_
      obtain ⟨k_9, hk_9, ek_9⟩ := sf_or (a := k_8) (b := v * 256) 16 65536 rfl (by decide) (by omega) (by omega)
      have hk_9 : k_9 < 65536 := hk_9
      refine tk (y := nI k_9) ek_9 ?_
      refine k_ast X hE hP hD hS 1 rfl 8 rfl (by decide) (by decide) [(h0, .inr (1, [.ref hn, .ref h1, .ref h2, .ref h3, .ref h4])), (hn, .inl (cA, 34, .inl (upd f 8 (nI k_9)))), (h1, .inl (cA, 64, .inl pn)), (h2, .inl (cA, 16, .inl wt)), (h3, .inl (cA, 900, .inl rg)), (h4, .inl (cA, 200, .inl pa))] rfl dX1_writePort_120 (fun H locs hP hD hS => ?_)
      obtain ⟨g_10, eg_10⟩ : ∃ z, z = upd f 8 (nI k_9) := ⟨_, rfl⟩
      rw [← eg_10] at hP hD
      have hg_10 := okN_upd hf 8 (nI k_9) (inR_of (k := k_9) rfl (by omega))
      rw [← eg_10] at hg_10
      have hP : va_P D classes [(h0, .inr (1, [.ref hn, .ref h1, .ref h2, .ref h3, .ref h4])), (hn, .inl (cA, 34, .inl g_10)), (h1, .inl (cA, 64, .inl pn)), (h2, .inl (cA, 16, .inl wt)), (h3, .inl (cA, 900, .inl rg)), (h4, .inl (cA, 200, .inl pa))] H := hP
      have hD : va_D A [(h0, .inr (1, [.ref hn, .ref h1, .ref h2, .ref h3, .ref h4])), (hn, .inl (cA, 34, .inl g_10)), (h1, .inl (cA, 64, .inl pn)), (h2, .inl (cA, 16, .inl wt)), (h3, .inl (cA, 900, .inl rg)), (h4, .inl (cA, 200, .inl pa))] := hD
      refine lv_goto (tgt := 232) hx hb dX1_writePort_121 (by decide) ?_
      exact endV X hr hlocks hP hD hS dX1_writePort_232 ⟨g_10, pn, wt, rg, pa, hg_10, hpn, hwt, rfl⟩
    · skip
      by_cases c_1_11 : (nI o) = 2
      · refine lv_tableIn (tgt := 124) (off := 123) hx hb dX1_writePort_1 (by rw [c_1_11]; decide) (by rw [c_1_11]; decide) (by rw [c_1_11]; decide) (by decide) ?_
        refine lv_aload_n hx hb dX1_writePort_124 rfl (lv_at hl 0 rfl) ?_
        refine lv_iload_n hx hb dX1_writePort_125 rfl (lv_at hl 2 rfl) ?_
        refine lv_iconst (v := 1) hx hb dX1_writePort_126 (by decide) ?_
        refine lv_iand hx hb dX1_writePort_127 ?_
        obtain ⟨k_12, hk_12, ek_12⟩ := pk_andE (nI v) (m := 1) 1 (by decide)
        have hk_12 : k_12 < 2 := hk_12
        refine tk (y := nI k_12) ek_12 ?_
        refine kVv (n3 := 1) (As := [.int (nI k_12)]) (rest := []) X hl.1 hE hP hD hS hA [(h0, .inr (1, [.ref hn, .ref h1, .ref h2, .ref h3, .ref h4])), (hn, .inl (cA, 34, .inl f)), (h1, .inl (cA, 64, .inl pn)), (h2, .inl (cA, 16, .inl wt)), (h3, .inl (cA, 900, .inl rg)), (h4, .inl (cA, 200, .inl pa))] [] [0, 1, 2, 3, 4, 5] [] rfl rfl rfl (by decide +kernel) (by decide +kernel) (by decide +kernel) (c_s_setClock l D cA cB h0 hn h1 h2 h3 h4 f pn wt rg pa k_12 hf hpn hwt (by first | assumption | decide | rfl | omega)) w_26 w_9 w_25 w_27 w_28 0 (ci := 1) (T := TX1) (N := 5) rfl rfl (by decide +kernel) rfl rfl (Nat.le_of_ble_eq_true rfl) ⟨(Nat.le_of_ble_eq_true rfl), (Nat.le_of_ble_eq_true rfl)⟩ ⟨(Nat.le_of_ble_eq_true rfl), (Nat.le_of_ble_eq_true rfl)⟩ dX1_writePort_128 (fun W1 H locs hw hP hD hS => ?_)
        obtain ⟨f2_13, pn2_14, wt2_15, rg2_16, pa2_17, hf_18, hf_19, hf_20, rfl⟩ := hw
        have hP : va_P D classes [(h0, .inr (1, [.ref hn, .ref h1, .ref h2, .ref h3, .ref h4])), (hn, .inl (cA, 34, .inl f2_13)), (h1, .inl (cA, 64, .inl pn2_14)), (h2, .inl (cA, 16, .inl wt2_15)), (h3, .inl (cA, 900, .inl rg2_16)), (h4, .inl (cA, 200, .inl pa2_17))] H := hP
        have hD : va_D A [(h0, .inr (1, [.ref hn, .ref h1, .ref h2, .ref h3, .ref h4])), (hn, .inl (cA, 34, .inl f2_13)), (h1, .inl (cA, 64, .inl pn2_14)), (h2, .inl (cA, 16, .inl wt2_15)), (h3, .inl (cA, 900, .inl rg2_16)), (h4, .inl (cA, 200, .inl pa2_17))] := hD
        refine lv_goto (tgt := 232) hx hb dX1_writePort_131 (by decide) ?_
        exact endV X hr hlocks hP hD hS dX1_writePort_232 ⟨f2_13, pn2_14, wt2_15, rg2_16, pa2_17, hf_18, hf_19, hf_20, rfl⟩
      · skip
        by_cases c_1_21 : (nI o) = 3
        · refine lv_tableIn (tgt := 232) (off := 231) hx hb dX1_writePort_1 (by rw [c_1_21]; decide) (by rw [c_1_21]; decide) (by rw [c_1_21]; decide) (by decide) ?_
          exact endV X hr hlocks hP hD hS dX1_writePort_232 ⟨f, pn, wt, rg, pa, hf, hpn, hwt, rfl⟩
        · skip
          by_cases c_1_22 : (nI o) = 4
          · refine lv_tableIn (tgt := 232) (off := 231) hx hb dX1_writePort_1 (by rw [c_1_22]; decide) (by rw [c_1_22]; decide) (by rw [c_1_22]; decide) (by decide) ?_
            exact endV X hr hlocks hP hD hS dX1_writePort_232 ⟨f, pn, wt, rg, pa, hf, hpn, hwt, rfl⟩
          · skip
            by_cases c_1_23 : (nI o) = 5
            · refine lv_tableIn (tgt := 134) (off := 133) hx hb dX1_writePort_1 (by rw [c_1_23]; decide) (by rw [c_1_23]; decide) (by rw [c_1_23]; decide) (by decide) ?_
              refine lv_aload_n hx hb dX1_writePort_134 rfl (lv_at hl 0 rfl) ?_
              refine k_get (C := RX1) (T := TX1) (N := 5) (ci := 1) (v := .ref hn) X hE hP 0 rfl rfl iX1 0 (by decide) w_1 rfl dX1_writePort_135 ?_
              refine lv_bipush (v := 11) hx hb dX1_writePort_138 (by decide) ?_
              refine lv_iload_n hx hb dX1_writePort_140 rfl (lv_at hl 2 rfl) ?_
              refine lv_iconst (v := 1) hx hb dX1_writePort_141 (by decide) ?_
              refine lv_iand hx hb dX1_writePort_142 ?_
              obtain ⟨k_24, hk_24, ek_24⟩ := pk_andE (nI v) (m := 1) 1 (by decide)
              have hk_24 : k_24 < 2 := hk_24
              refine tk (y := nI k_24) ek_24 ?_
              refine k_ast X hE hP hD hS 1 rfl 11 rfl (by decide) (by decide) [(h0, .inr (1, [.ref hn, .ref h1, .ref h2, .ref h3, .ref h4])), (hn, .inl (cA, 34, .inl (upd f 11 (nI k_24)))), (h1, .inl (cA, 64, .inl pn)), (h2, .inl (cA, 16, .inl wt)), (h3, .inl (cA, 900, .inl rg)), (h4, .inl (cA, 200, .inl pa))] rfl dX1_writePort_143 (fun H locs hP hD hS => ?_)
              obtain ⟨g_25, eg_25⟩ : ∃ z, z = upd f 11 (nI k_24) := ⟨_, rfl⟩
              rw [← eg_25] at hP hD
              have hg_25 := okN_upd hf 11 (nI k_24) (inR_of (k := k_24) rfl (by omega))
              rw [← eg_25] at hg_25
              have hP : va_P D classes [(h0, .inr (1, [.ref hn, .ref h1, .ref h2, .ref h3, .ref h4])), (hn, .inl (cA, 34, .inl g_25)), (h1, .inl (cA, 64, .inl pn)), (h2, .inl (cA, 16, .inl wt)), (h3, .inl (cA, 900, .inl rg)), (h4, .inl (cA, 200, .inl pa))] H := hP
              have hD : va_D A [(h0, .inr (1, [.ref hn, .ref h1, .ref h2, .ref h3, .ref h4])), (hn, .inl (cA, 34, .inl g_25)), (h1, .inl (cA, 64, .inl pn)), (h2, .inl (cA, 16, .inl wt)), (h3, .inl (cA, 900, .inl rg)), (h4, .inl (cA, 200, .inl pa))] := hD
              refine lv_goto (tgt := 232) hx hb dX1_writePort_144 (by decide) ?_
              exact endV X hr hlocks hP hD hS dX1_writePort_232 ⟨g_25, pn, wt, rg, pa, hg_25, hpn, hwt, rfl⟩
            · skip
              by_cases c_1_26 : (nI o) = 6
              · refine lv_tableIn (tgt := 147) (off := 146) hx hb dX1_writePort_1 (by rw [c_1_26]; decide) (by rw [c_1_26]; decide) (by rw [c_1_26]; decide) (by decide) ?_
                refine lv_aload_n hx hb dX1_writePort_147 rfl (lv_at hl 0 rfl) ?_
                refine k_get (C := RX1) (T := TX1) (N := 5) (ci := 1) (v := .ref hn) X hE hP 0 rfl rfl iX1 0 (by decide) w_1 rfl dX1_writePort_148 ?_
                refine lv_bipush (v := 12) hx hb dX1_writePort_151 (by decide) ?_
                refine lv_iload_n hx hb dX1_writePort_153 rfl (lv_at hl 2 rfl) ?_
                refine k_ast X hE hP hD hS 1 rfl 12 rfl (by decide) (by decide) [(h0, .inr (1, [.ref hn, .ref h1, .ref h2, .ref h3, .ref h4])), (hn, .inl (cA, 34, .inl (upd f 12 (nI v)))), (h1, .inl (cA, 64, .inl pn)), (h2, .inl (cA, 16, .inl wt)), (h3, .inl (cA, 900, .inl rg)), (h4, .inl (cA, 200, .inl pa))] rfl dX1_writePort_154 (fun H locs hP hD hS => ?_)
                obtain ⟨g_27, eg_27⟩ : ∃ z, z = upd f 12 (nI v) := ⟨_, rfl⟩
                rw [← eg_27] at hP hD
                have hg_27 := okN_upd hf 12 (nI v) (inR_of (k := v) rfl (by omega))
                rw [← eg_27] at hg_27
                have hP : va_P D classes [(h0, .inr (1, [.ref hn, .ref h1, .ref h2, .ref h3, .ref h4])), (hn, .inl (cA, 34, .inl g_27)), (h1, .inl (cA, 64, .inl pn)), (h2, .inl (cA, 16, .inl wt)), (h3, .inl (cA, 900, .inl rg)), (h4, .inl (cA, 200, .inl pa))] H := hP
                have hD : va_D A [(h0, .inr (1, [.ref hn, .ref h1, .ref h2, .ref h3, .ref h4])), (hn, .inl (cA, 34, .inl g_27)), (h1, .inl (cA, 64, .inl pn)), (h2, .inl (cA, 16, .inl wt)), (h3, .inl (cA, 900, .inl rg)), (h4, .inl (cA, 200, .inl pa))] := hD
                refine lv_goto (tgt := 232) hx hb dX1_writePort_155 (by decide) ?_
                exact endV X hr hlocks hP hD hS dX1_writePort_232 ⟨g_27, pn, wt, rg, pa, hg_27, hpn, hwt, rfl⟩
              · skip
                by_cases c_1_28 : (nI o) = 7
                · refine lv_tableIn (tgt := 158) (off := 157) hx hb dX1_writePort_1 (by rw [c_1_28]; decide) (by rw [c_1_28]; decide) (by rw [c_1_28]; decide) (by decide) ?_
                  refine lv_aload_n hx hb dX1_writePort_158 rfl (lv_at hl 0 rfl) ?_
                  refine lv_iload_n hx hb dX1_writePort_159 rfl (lv_at hl 2 rfl) ?_
                  refine lv_bipush (v := 7) hx hb dX1_writePort_160 (by decide) ?_
                  refine lv_iand hx hb dX1_writePort_162 ?_
                  obtain ⟨k_29, hk_29, ek_29⟩ := pk_andE (nI v) (m := 7) 3 (by decide)
                  have hk_29 : k_29 < 8 := hk_29
                  refine tk (y := nI k_29) ek_29 ?_
                  refine lv_iload_n hx hb dX1_writePort_163 rfl (lv_at hl 2 rfl) ?_
                  refine lv_iconst (v := 3) hx hb dX1_writePort_164 (by decide) ?_
                  refine lv_ishr hx hb dX1_writePort_165 ?_
                  refine tk (y := nI (v / 8)) (pk_shrN (n := v) (by omega) _ 3 (by decide)) ?_
                  refine kVv (n3 := 2) (As := [.int (nI k_29), .int (nI (v / 8))]) (rest := []) X hl.1 hE hP hD hS hA [(h0, .inr (1, [.ref hn, .ref h1, .ref h2, .ref h3, .ref h4])), (hn, .inl (cA, 34, .inl f)), (h1, .inl (cA, 64, .inl pn)), (h2, .inl (cA, 16, .inl wt)), (h3, .inl (cA, 900, .inl rg)), (h4, .inl (cA, 200, .inl pa))] [] [0, 1, 2, 3, 4, 5] [] rfl rfl rfl (by decide +kernel) (by decide +kernel) (by decide +kernel) (c_s_strike l D cA cB h0 hn h1 h2 h3 h4 f pn wt rg pa k_29 (v / 8) hf hpn hwt (by first | assumption | decide | rfl | omega) (by first | assumption | decide | rfl | omega)) w_30 w_9 w_29 w_31 w_32 0 (ci := 1) (T := TX1) (N := 5) rfl rfl (by decide +kernel) rfl rfl (Nat.le_of_ble_eq_true rfl) ⟨(Nat.le_of_ble_eq_true rfl), (Nat.le_of_ble_eq_true rfl)⟩ ⟨(Nat.le_of_ble_eq_true rfl), (Nat.le_of_ble_eq_true rfl)⟩ dX1_writePort_166 (fun W1 H locs hw hP hD hS => ?_)
                  obtain ⟨f2_30, pn2_31, wt2_32, rg2_33, pa2_34, hf_35, hf_36, hf_37, rfl⟩ := hw
                  have hP : va_P D classes [(h0, .inr (1, [.ref hn, .ref h1, .ref h2, .ref h3, .ref h4])), (hn, .inl (cA, 34, .inl f2_30)), (h1, .inl (cA, 64, .inl pn2_31)), (h2, .inl (cA, 16, .inl wt2_32)), (h3, .inl (cA, 900, .inl rg2_33)), (h4, .inl (cA, 200, .inl pa2_34))] H := hP
                  have hD : va_D A [(h0, .inr (1, [.ref hn, .ref h1, .ref h2, .ref h3, .ref h4])), (hn, .inl (cA, 34, .inl f2_30)), (h1, .inl (cA, 64, .inl pn2_31)), (h2, .inl (cA, 16, .inl wt2_32)), (h3, .inl (cA, 900, .inl rg2_33)), (h4, .inl (cA, 200, .inl pa2_34))] := hD
                  refine lv_goto (tgt := 232) hx hb dX1_writePort_169 (by decide) ?_
                  exact endV X hr hlocks hP hD hS dX1_writePort_232 ⟨f2_30, pn2_31, wt2_32, rg2_33, pa2_34, hf_35, hf_36, hf_37, rfl⟩
                · skip
                  by_cases c_1_38 : (nI o) = 8
                  · refine lv_tableIn (tgt := 232) (off := 231) hx hb dX1_writePort_1 (by rw [c_1_38]; decide) (by rw [c_1_38]; decide) (by rw [c_1_38]; decide) (by decide) ?_
                    exact endV X hr hlocks hP hD hS dX1_writePort_232 ⟨f, pn, wt, rg, pa, hf, hpn, hwt, rfl⟩
                  · skip
                    by_cases c_1_39 : (nI o) = 9
                    · refine lv_tableIn (tgt := 232) (off := 231) hx hb dX1_writePort_1 (by rw [c_1_39]; decide) (by rw [c_1_39]; decide) (by rw [c_1_39]; decide) (by decide) ?_
                      exact endV X hr hlocks hP hD hS dX1_writePort_232 ⟨f, pn, wt, rg, pa, hf, hpn, hwt, rfl⟩
                    · skip
                      by_cases c_1_40 : (nI o) = 10
                      · refine lv_tableIn (tgt := 172) (off := 171) hx hb dX1_writePort_1 (by rw [c_1_40]; decide) (by rw [c_1_40]; decide) (by rw [c_1_40]; decide) (by decide) ?_
                        refine lv_aload_n hx hb dX1_writePort_172 rfl (lv_at hl 0 rfl) ?_
                        refine lv_iload_n hx hb dX1_writePort_173 rfl (lv_at hl 2 rfl) ?_
                        refine kVv (n3 := 1) (As := [.int (nI v)]) (rest := []) X hl.1 hE hP hD hS hA [(h0, .inr (1, [.ref hn, .ref h1, .ref h2, .ref h3, .ref h4])), (hn, .inl (cA, 34, .inl f)), (h1, .inl (cA, 64, .inl pn)), (h2, .inl (cA, 16, .inl wt)), (h3, .inl (cA, 900, .inl rg)), (h4, .inl (cA, 200, .inl pa))] [] [0, 1, 2, 3, 4, 5] [] rfl rfl rfl (by decide +kernel) (by decide +kernel) (by decide +kernel) (c_s_print l D cA cB h0 hn h1 h2 h3 h4 f pn wt rg pa v hf hpn hwt (by first | assumption | decide | rfl | omega)) w_34 w_9 w_33 w_35 w_36 0 (ci := 1) (T := TX1) (N := 5) rfl rfl (by decide +kernel) rfl rfl (Nat.le_of_ble_eq_true rfl) ⟨(Nat.le_of_ble_eq_true rfl), (Nat.le_of_ble_eq_true rfl)⟩ ⟨(Nat.le_of_ble_eq_true rfl), (Nat.le_of_ble_eq_true rfl)⟩ dX1_writePort_174 (fun W1 H locs hw hP hD hS => ?_)
                        obtain ⟨f2_41, pn2_42, wt2_43, rg2_44, pa2_45, hf_46, hf_47, hf_48, rfl⟩ := hw
                        have hP : va_P D classes [(h0, .inr (1, [.ref hn, .ref h1, .ref h2, .ref h3, .ref h4])), (hn, .inl (cA, 34, .inl f2_41)), (h1, .inl (cA, 64, .inl pn2_42)), (h2, .inl (cA, 16, .inl wt2_43)), (h3, .inl (cA, 900, .inl rg2_44)), (h4, .inl (cA, 200, .inl pa2_45))] H := hP
                        have hD : va_D A [(h0, .inr (1, [.ref hn, .ref h1, .ref h2, .ref h3, .ref h4])), (hn, .inl (cA, 34, .inl f2_41)), (h1, .inl (cA, 64, .inl pn2_42)), (h2, .inl (cA, 16, .inl wt2_43)), (h3, .inl (cA, 900, .inl rg2_44)), (h4, .inl (cA, 200, .inl pa2_45))] := hD
                        refine lv_goto (tgt := 232) hx hb dX1_writePort_177 (by decide) ?_
                        exact endV X hr hlocks hP hD hS dX1_writePort_232 ⟨f2_41, pn2_42, wt2_43, rg2_44, pa2_45, hf_46, hf_47, hf_48, rfl⟩
                      · skip
                        by_cases c_1_49 : (nI o) = 11
                        · refine lv_tableIn (tgt := 180) (off := 179) hx hb dX1_writePort_1 (by rw [c_1_49]; decide) (by rw [c_1_49]; decide) (by rw [c_1_49]; decide) (by decide) ?_
                          refine lv_aload_n hx hb dX1_writePort_180 rfl (lv_at hl 0 rfl) ?_
                          refine k_get (C := RX1) (T := TX1) (N := 5) (ci := 1) (v := .ref hn) X hE hP 0 rfl rfl iX1 0 (by decide) w_1 rfl dX1_writePort_181 ?_
                          refine lv_bipush (v := 17) hx hb dX1_writePort_184 (by decide) ?_
                          refine lv_bipush (v := 64) hx hb dX1_writePort_186 (by decide) ?_
                          refine lv_iload_n hx hb dX1_writePort_188 rfl (lv_at hl 2 rfl) ?_
                          refine lv_imul hx hb dX1_writePort_189 ?_
                          refine tk (y := nI (64 * v)) (pk_mul 64 v) ?_
                          refine k_ast X hE hP hD hS 1 rfl 17 rfl (by decide) (by decide) [(h0, .inr (1, [.ref hn, .ref h1, .ref h2, .ref h3, .ref h4])), (hn, .inl (cA, 34, .inl (upd f 17 (nI (64 * v))))), (h1, .inl (cA, 64, .inl pn)), (h2, .inl (cA, 16, .inl wt)), (h3, .inl (cA, 900, .inl rg)), (h4, .inl (cA, 200, .inl pa))] rfl dX1_writePort_190 (fun H locs hP hD hS => ?_)
                          obtain ⟨g_50, eg_50⟩ : ∃ z, z = upd f 17 (nI (64 * v)) := ⟨_, rfl⟩
                          rw [← eg_50] at hP hD
                          have hg_50 := okN_upd hf 17 (nI (64 * v)) (inR_any rfl)
                          rw [← eg_50] at hg_50
                          have hP : va_P D classes [(h0, .inr (1, [.ref hn, .ref h1, .ref h2, .ref h3, .ref h4])), (hn, .inl (cA, 34, .inl g_50)), (h1, .inl (cA, 64, .inl pn)), (h2, .inl (cA, 16, .inl wt)), (h3, .inl (cA, 900, .inl rg)), (h4, .inl (cA, 200, .inl pa))] H := hP
                          have hD : va_D A [(h0, .inr (1, [.ref hn, .ref h1, .ref h2, .ref h3, .ref h4])), (hn, .inl (cA, 34, .inl g_50)), (h1, .inl (cA, 64, .inl pn)), (h2, .inl (cA, 16, .inl wt)), (h3, .inl (cA, 900, .inl rg)), (h4, .inl (cA, 200, .inl pa))] := hD
                          refine lv_goto (tgt := 232) hx hb dX1_writePort_191 (by decide) ?_
                          exact endV X hr hlocks hP hD hS dX1_writePort_232 ⟨g_50, pn, wt, rg, pa, hg_50, hpn, hwt, rfl⟩
                        · skip
                          by_cases c_1_51 : (nI o) = 12
                          · refine lv_tableIn (tgt := 194) (off := 193) hx hb dX1_writePort_1 (by rw [c_1_51]; decide) (by rw [c_1_51]; decide) (by rw [c_1_51]; decide) (by decide) ?_
                            refine lv_aload_n hx hb dX1_writePort_194 rfl (lv_at hl 0 rfl) ?_
                            refine k_get (C := RX1) (T := TX1) (N := 5) (ci := 1) (v := .ref hn) X hE hP 0 rfl rfl iX1 0 (by decide) w_1 rfl dX1_writePort_195 ?_
                            refine lv_bipush (v := 15) hx hb dX1_writePort_198 (by decide) ?_
                            refine lv_dup2_11 hx hb dX1_writePort_200 rfl rfl ?_
                            obtain ⟨k_52, hk_52, ek_52⟩ := hf.at 15 256 (by decide) rfl
                            refine k_ald (v := nI k_52) X hE hP 1 rfl 15 rfl (by decide) (by decide) ek_52 dX1_writePort_201 ?_
                            refine lv_iload_n hx hb dX1_writePort_202 rfl (lv_at hl 2 rfl) ?_
                            refine lv_iconst (v := (-1)) hx hb dX1_writePort_203 (by decide) ?_
                            refine lv_ixor hx hb dX1_writePort_204 ?_
                            refine lv_iand hx hb dX1_writePort_205 ?_
                            obtain ⟨k_53, hk_53, ek_53⟩ := sf_and (a := k_52) (by omega) ((nI v) ^^^ (-1)) (by omega : k_52 < 256)
                            have hk_53 : k_53 < 256 := hk_53
                            refine tk (y := nI k_53) ek_53 ?_
                            refine k_ast X hE hP hD hS 1 rfl 15 rfl (by decide) (by decide) [(h0, .inr (1, [.ref hn, .ref h1, .ref h2, .ref h3, .ref h4])), (hn, .inl (cA, 34, .inl (upd f 15 (nI k_53)))), (h1, .inl (cA, 64, .inl pn)), (h2, .inl (cA, 16, .inl wt)), (h3, .inl (cA, 900, .inl rg)), (h4, .inl (cA, 200, .inl pa))] rfl dX1_writePort_206 (fun H locs hP hD hS => ?_)
                            obtain ⟨g_54, eg_54⟩ : ∃ z, z = upd f 15 (nI k_53) := ⟨_, rfl⟩
                            rw [← eg_54] at hP hD
                            have hg_54 := okN_upd hf 15 (nI k_53) (inR_of (k := k_53) rfl (by omega))
                            rw [← eg_54] at hg_54
                            have hP : va_P D classes [(h0, .inr (1, [.ref hn, .ref h1, .ref h2, .ref h3, .ref h4])), (hn, .inl (cA, 34, .inl g_54)), (h1, .inl (cA, 64, .inl pn)), (h2, .inl (cA, 16, .inl wt)), (h3, .inl (cA, 900, .inl rg)), (h4, .inl (cA, 200, .inl pa))] H := hP
                            have hD : va_D A [(h0, .inr (1, [.ref hn, .ref h1, .ref h2, .ref h3, .ref h4])), (hn, .inl (cA, 34, .inl g_54)), (h1, .inl (cA, 64, .inl pn)), (h2, .inl (cA, 16, .inl wt)), (h3, .inl (cA, 900, .inl rg)), (h4, .inl (cA, 200, .inl pa))] := hD
                            refine lv_goto (tgt := 232) hx hb dX1_writePort_207 (by decide) ?_
                            exact endV X hr hlocks hP hD hS dX1_writePort_232 ⟨g_54, pn, wt, rg, pa, hg_54, hpn, hwt, rfl⟩
                          · skip
                            by_cases c_1_55 : (nI o) = 13
                            · refine lv_tableIn (tgt := 210) (off := 209) hx hb dX1_writePort_1 (by rw [c_1_55]; decide) (by rw [c_1_55]; decide) (by rw [c_1_55]; decide) (by decide) ?_
                              refine lv_aload_n hx hb dX1_writePort_210 rfl (lv_at hl 0 rfl) ?_
                              refine k_get (C := RX1) (T := TX1) (N := 5) (ci := 1) (v := .ref hn) X hE hP 0 rfl rfl iX1 0 (by decide) w_1 rfl dX1_writePort_211 ?_
                              refine lv_bipush (v := 16) hx hb dX1_writePort_214 (by decide) ?_
                              refine lv_iload_n hx hb dX1_writePort_216 rfl (lv_at hl 2 rfl) ?_
                              refine k_ast X hE hP hD hS 1 rfl 16 rfl (by decide) (by decide) [(h0, .inr (1, [.ref hn, .ref h1, .ref h2, .ref h3, .ref h4])), (hn, .inl (cA, 34, .inl (upd f 16 (nI v)))), (h1, .inl (cA, 64, .inl pn)), (h2, .inl (cA, 16, .inl wt)), (h3, .inl (cA, 900, .inl rg)), (h4, .inl (cA, 200, .inl pa))] rfl dX1_writePort_217 (fun H locs hP hD hS => ?_)
                              obtain ⟨g_56, eg_56⟩ : ∃ z, z = upd f 16 (nI v) := ⟨_, rfl⟩
                              rw [← eg_56] at hP hD
                              have hg_56 := okN_upd hf 16 (nI v) (inR_of (k := v) rfl (by omega))
                              rw [← eg_56] at hg_56
                              have hP : va_P D classes [(h0, .inr (1, [.ref hn, .ref h1, .ref h2, .ref h3, .ref h4])), (hn, .inl (cA, 34, .inl g_56)), (h1, .inl (cA, 64, .inl pn)), (h2, .inl (cA, 16, .inl wt)), (h3, .inl (cA, 900, .inl rg)), (h4, .inl (cA, 200, .inl pa))] H := hP
                              have hD : va_D A [(h0, .inr (1, [.ref hn, .ref h1, .ref h2, .ref h3, .ref h4])), (hn, .inl (cA, 34, .inl g_56)), (h1, .inl (cA, 64, .inl pn)), (h2, .inl (cA, 16, .inl wt)), (h3, .inl (cA, 900, .inl rg)), (h4, .inl (cA, 200, .inl pa))] := hD
                              refine lv_goto (tgt := 232) hx hb dX1_writePort_218 (by decide) ?_
                              exact endV X hr hlocks hP hD hS dX1_writePort_232 ⟨g_56, pn, wt, rg, pa, hg_56, hpn, hwt, rfl⟩
                            · skip
                              by_cases c_1_57 : (nI o) = 14
                              · refine lv_tableIn (tgt := 221) (off := 220) hx hb dX1_writePort_1 (by rw [c_1_57]; decide) (by rw [c_1_57]; decide) (by rw [c_1_57]; decide) (by decide) ?_
                                refine lv_aload_n hx hb dX1_writePort_221 rfl (lv_at hl 0 rfl) ?_
                                refine k_get (C := RX1) (T := TX1) (N := 5) (ci := 1) (v := .ref hn) X hE hP 0 rfl rfl iX1 0 (by decide) w_1 rfl dX1_writePort_222 ?_
                                refine lv_bipush (v := 18) hx hb dX1_writePort_225 (by decide) ?_
                                refine lv_iload_n hx hb dX1_writePort_227 rfl (lv_at hl 2 rfl) ?_
                                refine k_ast X hE hP hD hS 1 rfl 18 rfl (by decide) (by decide) [(h0, .inr (1, [.ref hn, .ref h1, .ref h2, .ref h3, .ref h4])), (hn, .inl (cA, 34, .inl (upd f 18 (nI v)))), (h1, .inl (cA, 64, .inl pn)), (h2, .inl (cA, 16, .inl wt)), (h3, .inl (cA, 900, .inl rg)), (h4, .inl (cA, 200, .inl pa))] rfl dX1_writePort_228 (fun H locs hP hD hS => ?_)
                                obtain ⟨g_58, eg_58⟩ : ∃ z, z = upd f 18 (nI v) := ⟨_, rfl⟩
                                rw [← eg_58] at hP hD
                                have hg_58 := okN_upd hf 18 (nI v) (inR_any rfl)
                                rw [← eg_58] at hg_58
                                have hP : va_P D classes [(h0, .inr (1, [.ref hn, .ref h1, .ref h2, .ref h3, .ref h4])), (hn, .inl (cA, 34, .inl g_58)), (h1, .inl (cA, 64, .inl pn)), (h2, .inl (cA, 16, .inl wt)), (h3, .inl (cA, 900, .inl rg)), (h4, .inl (cA, 200, .inl pa))] H := hP
                                have hD : va_D A [(h0, .inr (1, [.ref hn, .ref h1, .ref h2, .ref h3, .ref h4])), (hn, .inl (cA, 34, .inl g_58)), (h1, .inl (cA, 64, .inl pn)), (h2, .inl (cA, 16, .inl wt)), (h3, .inl (cA, 900, .inl rg)), (h4, .inl (cA, 200, .inl pa))] := hD
                                refine lv_goto (tgt := 232) hx hb dX1_writePort_229 (by decide) ?_
                                exact endV X hr hlocks hP hD hS dX1_writePort_232 ⟨g_58, pn, wt, rg, pa, hg_58, hpn, hwt, rfl⟩
                              · skip
                                refine lv_tableOut (tgt := 232) hx hb dX1_writePort_1 (by have n_0 := lv_neT (k := 0) (a := 0) c_1_1 (by decide); have n_1 := lv_neT (k := 1) (a := 1) c_1_6 (by decide); have n_2 := lv_neT (k := 2) (a := 2) c_1_11 (by decide); have n_3 := lv_neT (k := 3) (a := 3) c_1_21 (by decide); have n_4 := lv_neT (k := 4) (a := 4) c_1_22 (by decide); have n_5 := lv_neT (k := 5) (a := 5) c_1_23 (by decide); have n_6 := lv_neT (k := 6) (a := 6) c_1_26 (by decide); have n_7 := lv_neT (k := 7) (a := 7) c_1_28 (by decide); have n_8 := lv_neT (k := 8) (a := 8) c_1_38 (by decide); have n_9 := lv_neT (k := 9) (a := 9) c_1_39 (by decide); have n_10 := lv_neT (k := 10) (a := 10) c_1_40 (by decide); have n_11 := lv_neT (k := 11) (a := 11) c_1_49 (by decide); have n_12 := lv_neT (k := 12) (a := 12) c_1_51 (by decide); have n_13 := lv_neT (k := 13) (a := 13) c_1_55 (by decide); have n_14 := lv_neT (k := 14) (a := 14) c_1_57 (by decide); omega) (by decide) ?_
                                exact endV X hr hlocks hP hD hS dX1_writePort_232 ⟨f, pn, wt, rg, pa, hf, hpn, hwt, rfl⟩
set_option maxHeartbeats 4000000 in
set_option maxRecDepth 100000 in
theorem c_s_passClock (l : Launch) (D : va_G) (cA cB : ClassId) (h0 : Nat) (hn : Nat) (h1 : Nat) (h2 : Nat) (h3 : Nat) (h4 : Nat) (f : Nat → Int32) (pn : Nat → Int32) (wt : Nat → Int32) (rg : Nat → Int32) (pa : Nat → Int32) (n0 : Nat) (hf : okN f) (hpn : ∀ j, j < 64 → ∃ k : Nat, k < 256 ∧ pn j = nI k) (hwt : ∀ j, j < 16 → ∃ k : Nat, k < 256 ∧ wt j = nI k) (hn0 : n0 < 1000) : CV l yX1_passClock cX1_passClock 3 none 0 0 0 0 D cA cB [.ref h0, .int (nI n0)] [(h0, .inr (1, [.ref hn, .ref h1, .ref h2, .ref h3, .ref h4])), (hn, .inl (cA, 34, .inl f)), (h1, .inl (cA, 64, .inl pn)), (h2, .inl (cA, 16, .inl wt)), (h3, .inl (cA, 900, .inl rg)), (h4, .inl (cA, 200, .inl pa))] (fun W1 => ∃ (f2 : Nat → Int32) (pn2 : Nat → Int32) (wt2 : Nat → Int32) (rg2 : Nat → Int32) (pa2 : Nat → Int32), (okN f2) ∧ (∀ j, j < 64 → ∃ k : Nat, k < 256 ∧ pn2 j = nI k) ∧ (∀ j, j < 16 → ∃ k : Nat, k < 256 ∧ wt2 j = nI k) ∧ W1 = [(h0, .inr (1, [.ref hn, .ref h1, .ref h2, .ref h3, .ref h4])), (hn, .inl (cA, 34, .inl f2)), (h1, .inl (cA, 64, .inl pn2)), (h2, .inl (cA, 16, .inl wt2)), (h3, .inl (cA, 900, .inl rg2)), (h4, .inl (cA, 200, .inl pa2))]) := by
  refine mkV (lv0 := [(0, .ref h0), (1, .int (nI n0))]) (by decide) (Nat.le_of_ble_eq_true rfl) rfl ?_
  intro p e s m below meth c A ls X hr hlocks hnm hE hA hP hD hS hl
  have hx := X.1
  have hb := X.2.1
  refine lv_iconst (v := 0) hx hb dX1_passClock_0 (by decide) ?_
  refine lv_istore_n (lv' := [(2, .int 0), (0, .ref h0), (1, .int (nI n0))]) hx hb dX1_passClock_1 rfl hl (by decide) rfl (fun ls hl => ?_)
  have loop_2 : ∀ (n : Nat) (i : Nat) (fv : Nat → Int32), (i ≤ n0) → (okN fv) → n0 < i + n → ∀ (H : Heap) (locs : List Loc), va_P D classes [(h0, .inr (1, [.ref hn, .ref h1, .ref h2, .ref h3, .ref h4])), (hn, .inl (cA, 34, .inl fv)), (h1, .inl (cA, 64, .inl pn)), (h2, .inl (cA, 16, .inl wt)), (h3, .inl (cA, 900, .inl rg)), (h4, .inl (cA, 200, .inl pa))] H → va_D A [(h0, .inr (1, [.ref hn, .ref h1, .ref h2, .ref h3, .ref h4])), (hn, .inl (cA, 34, .inl fv)), (h1, .inl (cA, 64, .inl pn)), (h2, .inl (cA, 16, .inl wt)), (h3, .inl (cA, 900, .inl rg)), (h4, .inl (cA, 200, .inl pa))] → va_S A s.heap H locs → ∀ ls : Array Slot, lv_has ls 3 [(0, .ref h0), (1, .int (nI n0)), (2, .int (nI i))] → W p l e { frames := 0, cells := 0, slots := 0, locals := 0 } s m (List.toArray [.ref h0, .int (nI n0)]) below meth c H locs 0 0 (MQ below (QV D (fun W1 => ∃ (f2 : Nat → Int32) (pn2 : Nat → Int32) (wt2 : Nat → Int32) (rg2 : Nat → Int32) (pa2 : Nat → Int32), (okN f2) ∧ (∀ j, j < 64 → ∃ k : Nat, k < 256 ∧ pn2 j = nI k) ∧ (∀ j, j < 16 → ∃ k : Nat, k < 256 ∧ wt2 j = nI k) ∧ W1 = [(h0, .inr (1, [.ref hn, .ref h1, .ref h2, .ref h3, .ref h4])), (hn, .inl (cA, 34, .inl f2)), (h1, .inl (cA, 64, .inl pn2)), (h2, .inl (cA, 16, .inl wt2)), (h3, .inl (cA, 900, .inl rg2)), (h4, .inl (cA, 200, .inl pa2))]) A) (List.toArray [.ref h0, .int (nI n0)]) s 0 0 A) (F0 m 2 ls []) := by
    intro n
    induction n with
    | zero => intro i fv hi hfv hfuel; exact absurd hfuel (by omega)
    | succ n ih =>
      intro i fv hi hfv hfuel H locs hP hD hS ls hl
      refine lv_iload_n hx hb dX1_passClock_2 rfl (lv_at hl 2 rfl) ?_
      refine lv_iload_n hx hb dX1_passClock_3 rfl (lv_at hl 1 rfl) ?_
      refine lv_icmp_ge (tgt := 62) hx hb dX1_passClock_4 (by decide) (fun c_4_1 => ?_) (fun c_4_1 => ?_)
      · have nc_4_1 : n0 ≤ i := (nI_leI (a := n0) (b := i) (by omega) (by omega)).mp c_4_1
        exact endV X hr hlocks hP hD hS dX1_passClock_62 ⟨fv, pn, wt, rg, pa, hfv, hpn, hwt, rfl⟩
      · have nc_4_1 : i < n0 := Nat.not_le.mp (fun q => c_4_1 ((nI_leI (a := n0) (b := i) (by omega) (by omega)).mpr q))
        refine lv_aload_n hx hb dX1_passClock_7 rfl (lv_at hl 0 rfl) ?_
        refine k_get (C := RX1) (T := TX1) (N := 5) (ci := 1) (v := .ref hn) X hE hP 0 rfl rfl iX1 0 (by decide) w_1 rfl dX1_passClock_8 ?_
        refine lv_bipush (v := 9) hx hb dX1_passClock_11 (by decide) ?_
        obtain ⟨k_2, hk_2, ek_2⟩ := hfv.at 9 65536 (by decide) rfl
        refine k_ald (v := nI k_2) X hE hP 1 rfl 9 rfl (by decide) (by decide) ek_2 dX1_passClock_13 ?_
        refine lv_if_ne (tgt := 45) hx hb dX1_passClock_14 (by decide) (fun c_14_3 => ?_) (fun c_14_3 => ?_)
        · have nc_14_3 : ¬ k_2 = 0 := fun q => c_14_3 ((nI_eq (a := k_2) (b := 0) (by omega) (by omega)).mpr q)
          refine lv_aload_n hx hb dX1_passClock_45 rfl (lv_at hl 0 rfl) ?_
          refine k_get (C := RX1) (T := TX1) (N := 5) (ci := 1) (v := .ref hn) X hE hP 0 rfl rfl iX1 0 (by decide) w_1 rfl dX1_passClock_46 ?_
          refine lv_bipush (v := 9) hx hb dX1_passClock_49 (by decide) ?_
          refine lv_dup2_11 hx hb dX1_passClock_51 rfl rfl ?_
          refine k_ald (v := nI k_2) X hE hP 1 rfl 9 rfl (by decide) (by decide) ek_2 dX1_passClock_52 ?_
          refine lv_iconst (v := 1) hx hb dX1_passClock_53 (by decide) ?_
          refine lv_isub hx hb dX1_passClock_54 ?_
          refine tk (y := nI (k_2 - 1)) (pk_sub (a := k_2) (b := 1) (by omega)) ?_
          refine k_ast X hE hP hD hS 1 rfl 9 rfl (by decide) (by decide) [(h0, .inr (1, [.ref hn, .ref h1, .ref h2, .ref h3, .ref h4])), (hn, .inl (cA, 34, .inl (upd fv 9 (nI (k_2 - 1))))), (h1, .inl (cA, 64, .inl pn)), (h2, .inl (cA, 16, .inl wt)), (h3, .inl (cA, 900, .inl rg)), (h4, .inl (cA, 200, .inl pa))] rfl dX1_passClock_55 (fun H locs hP hD hS => ?_)
          obtain ⟨g_4, eg_4⟩ : ∃ z, z = upd fv 9 (nI (k_2 - 1)) := ⟨_, rfl⟩
          rw [← eg_4] at hP hD
          have hg_4 := okN_upd hfv 9 (nI (k_2 - 1)) (inR_of (k := k_2 - 1) rfl (by omega))
          rw [← eg_4] at hg_4
          have hP : va_P D classes [(h0, .inr (1, [.ref hn, .ref h1, .ref h2, .ref h3, .ref h4])), (hn, .inl (cA, 34, .inl g_4)), (h1, .inl (cA, 64, .inl pn)), (h2, .inl (cA, 16, .inl wt)), (h3, .inl (cA, 900, .inl rg)), (h4, .inl (cA, 200, .inl pa))] H := hP
          have hD : va_D A [(h0, .inr (1, [.ref hn, .ref h1, .ref h2, .ref h3, .ref h4])), (hn, .inl (cA, 34, .inl g_4)), (h1, .inl (cA, 64, .inl pn)), (h2, .inl (cA, 16, .inl wt)), (h3, .inl (cA, 900, .inl rg)), (h4, .inl (cA, 200, .inl pa))] := hD
          refine lv_iinc (v := nI (i + 1)) (lv' := [(2, .int (nI (i + 1))), (0, .ref h0), (1, .int (nI n0))]) hx hb dX1_passClock_56 hl (k := 2) rfl (nI_1 i) (by decide) rfl (fun ls hl => ?_)
          refine lv_goto (tgt := 2) hx hb dX1_passClock_59 (by decide) ?_
          exact ih (i + 1) g_4 (by omega) hg_4 (by omega) _ _ (hP.sub [0, 1, 2, 3, 4, 5] rfl) (hD.sub [0, 1, 2, 3, 4, 5] (by decide) rfl) hS ls (lv_sub hl [1, 2, 0] rfl)
        · have nc_14_3 : k_2 = 0 := (nI_eq (a := k_2) (b := 0) (by omega) (by omega)).mp c_14_3
          refine lv_aload_n hx hb dX1_passClock_17 rfl (lv_at hl 0 rfl) ?_
          refine k_get (C := RX1) (T := TX1) (N := 5) (ci := 1) (v := .ref hn) X hE hP 0 rfl rfl iX1 0 (by decide) w_1 rfl dX1_passClock_18 ?_
          refine lv_bipush (v := 9) hx hb dX1_passClock_21 (by decide) ?_
          refine lv_aload_n hx hb dX1_passClock_23 rfl (lv_at hl 0 rfl) ?_
          refine k_get (C := RX1) (T := TX1) (N := 5) (ci := 1) (v := .ref hn) X hE hP 0 rfl rfl iX1 0 (by decide) w_1 rfl dX1_passClock_24 ?_
          refine lv_bipush (v := 8) hx hb dX1_passClock_27 (by decide) ?_
          obtain ⟨k_5, hk_5, ek_5⟩ := hfv.at 8 65536 (by decide) rfl
          refine k_ald (v := nI k_5) X hE hP 1 rfl 8 rfl (by decide) (by decide) ek_5 dX1_passClock_29 ?_
          refine k_ast X hE hP hD hS 1 rfl 9 rfl (by decide) (by decide) [(h0, .inr (1, [.ref hn, .ref h1, .ref h2, .ref h3, .ref h4])), (hn, .inl (cA, 34, .inl (upd fv 9 (nI k_5)))), (h1, .inl (cA, 64, .inl pn)), (h2, .inl (cA, 16, .inl wt)), (h3, .inl (cA, 900, .inl rg)), (h4, .inl (cA, 200, .inl pa))] rfl dX1_passClock_30 (fun H locs hP hD hS => ?_)
          obtain ⟨g_6, eg_6⟩ : ∃ z, z = upd fv 9 (nI k_5) := ⟨_, rfl⟩
          rw [← eg_6] at hP hD
          have hg_6 := okN_upd hfv 9 (nI k_5) (inR_of (k := k_5) rfl (by omega))
          rw [← eg_6] at hg_6
          have hP : va_P D classes [(h0, .inr (1, [.ref hn, .ref h1, .ref h2, .ref h3, .ref h4])), (hn, .inl (cA, 34, .inl g_6)), (h1, .inl (cA, 64, .inl pn)), (h2, .inl (cA, 16, .inl wt)), (h3, .inl (cA, 900, .inl rg)), (h4, .inl (cA, 200, .inl pa))] H := hP
          have hD : va_D A [(h0, .inr (1, [.ref hn, .ref h1, .ref h2, .ref h3, .ref h4])), (hn, .inl (cA, 34, .inl g_6)), (h1, .inl (cA, 64, .inl pn)), (h2, .inl (cA, 16, .inl wt)), (h3, .inl (cA, 900, .inl rg)), (h4, .inl (cA, 200, .inl pa))] := hD
          refine lv_aload_n hx hb dX1_passClock_31 rfl (lv_at hl 0 rfl) ?_
          refine k_get (C := RX1) (T := TX1) (N := 5) (ci := 1) (v := .ref hn) X hE hP 0 rfl rfl iX1 0 (by decide) w_1 rfl dX1_passClock_32 ?_
          refine lv_bipush (v := 15) hx hb dX1_passClock_35 (by decide) ?_
          refine lv_dup2_11 hx hb dX1_passClock_37 rfl rfl ?_
          obtain ⟨k_7, hk_7, ek_7⟩ := hg_6.at 15 256 (by decide) rfl
          refine k_ald (v := nI k_7) X hE hP 1 rfl 15 rfl (by decide) (by decide) ek_7 dX1_passClock_38 ?_
          refine lv_iconst (v := 1) hx hb dX1_passClock_39 (by decide) ?_
          refine lv_ior hx hb dX1_passClock_40 ?_
          obtain ⟨k_8, hk_8, ek_8⟩ := sf_or (a := k_7) (b := 1) 8 256 rfl (by decide) (by omega) (by omega)
          have hk_8 : k_8 < 256 := hk_8
          refine tk (y := nI k_8) ek_8 ?_
          refine k_ast X hE hP hD hS 1 rfl 15 rfl (by decide) (by decide) [(h0, .inr (1, [.ref hn, .ref h1, .ref h2, .ref h3, .ref h4])), (hn, .inl (cA, 34, .inl (upd g_6 15 (nI k_8)))), (h1, .inl (cA, 64, .inl pn)), (h2, .inl (cA, 16, .inl wt)), (h3, .inl (cA, 900, .inl rg)), (h4, .inl (cA, 200, .inl pa))] rfl dX1_passClock_41 (fun H locs hP hD hS => ?_)
          obtain ⟨g_9, eg_9⟩ : ∃ z, z = upd g_6 15 (nI k_8) := ⟨_, rfl⟩
          rw [← eg_9] at hP hD
          have hg_9 := okN_upd hg_6 15 (nI k_8) (inR_of (k := k_8) rfl (by omega))
          rw [← eg_9] at hg_9
          have hP : va_P D classes [(h0, .inr (1, [.ref hn, .ref h1, .ref h2, .ref h3, .ref h4])), (hn, .inl (cA, 34, .inl g_9)), (h1, .inl (cA, 64, .inl pn)), (h2, .inl (cA, 16, .inl wt)), (h3, .inl (cA, 900, .inl rg)), (h4, .inl (cA, 200, .inl pa))] H := hP
          have hD : va_D A [(h0, .inr (1, [.ref hn, .ref h1, .ref h2, .ref h3, .ref h4])), (hn, .inl (cA, 34, .inl g_9)), (h1, .inl (cA, 64, .inl pn)), (h2, .inl (cA, 16, .inl wt)), (h3, .inl (cA, 900, .inl rg)), (h4, .inl (cA, 200, .inl pa))] := hD
          refine lv_goto (tgt := 56) hx hb dX1_passClock_42 (by decide) ?_
          refine lv_iinc (v := nI (i + 1)) (lv' := [(2, .int (nI (i + 1))), (0, .ref h0), (1, .int (nI n0))]) hx hb dX1_passClock_56 hl (k := 2) rfl (nI_1 i) (by decide) rfl (fun ls hl => ?_)
          refine lv_goto (tgt := 2) hx hb dX1_passClock_59 (by decide) ?_
          exact ih (i + 1) g_9 (by omega) hg_9 (by omega) _ _ (hP.sub [0, 1, 2, 3, 4, 5] rfl) (hD.sub [0, 1, 2, 3, 4, 5] (by decide) rfl) hS ls (lv_sub hl [1, 2, 0] rfl)
  exact loop_2 (n0 + 1) 0 f (by omega) hf (by omega) _ _ hP hD hS ls (lv_sub hl [1, 2, 0] rfl)
set_option maxHeartbeats 4000000 in
set_option maxRecDepth 100000 in
theorem c_s_passDrum (l : Launch) (D : va_G) (cA cB : ClassId) (h0 : Nat) (hn : Nat) (h1 : Nat) (h2 : Nat) (h3 : Nat) (h4 : Nat) (f : Nat → Int32) (pn : Nat → Int32) (wt : Nat → Int32) (rg : Nat → Int32) (pa : Nat → Int32) (n0 : Nat) (hf : okN f) (hpn : ∀ j, j < 64 → ∃ k : Nat, k < 256 ∧ pn j = nI k) (hwt : ∀ j, j < 16 → ∃ k : Nat, k < 256 ∧ wt j = nI k) (hn0 : n0 < 1000) : CV l yX1_passDrum cX1_passDrum 4 none 1 20 0 0 D cA cB [.ref h0, .int (nI n0)] [(h0, .inr (1, [.ref hn, .ref h1, .ref h2, .ref h3, .ref h4])), (hn, .inl (cA, 34, .inl f)), (h1, .inl (cA, 64, .inl pn)), (h2, .inl (cA, 16, .inl wt)), (h3, .inl (cA, 900, .inl rg)), (h4, .inl (cA, 200, .inl pa))] (fun W1 => ∃ (f2 : Nat → Int32) (pn2 : Nat → Int32) (wt2 : Nat → Int32) (rg2 : Nat → Int32) (pa2 : Nat → Int32), (okN f2) ∧ (∀ j, j < 64 → ∃ k : Nat, k < 256 ∧ pn2 j = nI k) ∧ (∀ j, j < 16 → ∃ k : Nat, k < 256 ∧ wt2 j = nI k) ∧ W1 = [(h0, .inr (1, [.ref hn, .ref h1, .ref h2, .ref h3, .ref h4])), (hn, .inl (cA, 34, .inl f2)), (h1, .inl (cA, 64, .inl pn2)), (h2, .inl (cA, 16, .inl wt2)), (h3, .inl (cA, 900, .inl rg2)), (h4, .inl (cA, 200, .inl pa2))]) := by
  refine mkV (lv0 := [(0, .ref h0), (1, .int (nI n0))]) (by decide) (Nat.le_of_ble_eq_true rfl) rfl ?_
  intro p e s m below meth c A ls X hr hlocks hnm hE hA hP hD hS hl
  have hx := X.1
  have hb := X.2.1
  refine lv_bipush (v := 8) hx hb dX1_passDrum_0 (by decide) ?_
  refine lv_aload_n hx hb dX1_passDrum_2 rfl (lv_at hl 0 rfl) ?_
  refine k_get (C := RX1) (T := TX1) (N := 5) (ci := 1) (v := .ref hn) X hE hP 0 rfl rfl iX1 0 (by decide) w_1 rfl dX1_passDrum_3 ?_
  refine lv_bipush (v := 12) hx hb dX1_passDrum_6 (by decide) ?_
  obtain ⟨k_1, hk_1, ek_1⟩ := hf.at 12 256 (by decide) rfl
  refine k_ald (v := nI k_1) X hE hP 1 rfl 12 rfl (by decide) (by decide) ek_1 dX1_passDrum_8 ?_
  refine lv_iconst (v := 1) hx hb dX1_passDrum_9 (by decide) ?_
  refine lv_iadd hx hb dX1_passDrum_10 ?_
  refine tk (y := nI (k_1 + 1)) (nI_add k_1 1) ?_
  refine lv_imul hx hb dX1_passDrum_11 ?_
  refine tk (y := nI (8 * (k_1 + 1))) (pk_mul 8 (k_1 + 1)) ?_
  refine lv_istore_n (lv' := [(2, .int (nI (8 * (k_1 + 1)))), (0, .ref h0), (1, .int (nI n0))]) hx hb dX1_passDrum_12 rfl hl (by decide) rfl (fun ls hl => ?_)
  refine lv_iconst (v := 0) hx hb dX1_passDrum_13 (by decide) ?_
  refine lv_istore_n (lv' := [(3, .int 0), (2, .int (nI (8 * (k_1 + 1)))), (0, .ref h0), (1, .int (nI n0))]) hx hb dX1_passDrum_14 rfl hl (by decide) rfl (fun ls hl => ?_)
  have loop_15 : ∀ (n : Nat) (i : Nat) (fv : Nat → Int32) (pv : Nat → Int32) (wv : Nat → Int32) (rv : Nat → Int32) (av : Nat → Int32), (i ≤ n0) → (okN fv) → (∀ j, j < 64 → ∃ k : Nat, k < 256 ∧ pv j = nI k) → (∀ j, j < 16 → ∃ k : Nat, k < 256 ∧ wv j = nI k) → n0 < i + n → ∀ (H : Heap) (locs : List Loc), va_P D classes [(h0, .inr (1, [.ref hn, .ref h1, .ref h2, .ref h3, .ref h4])), (hn, .inl (cA, 34, .inl fv)), (h1, .inl (cA, 64, .inl pv)), (h2, .inl (cA, 16, .inl wv)), (h3, .inl (cA, 900, .inl rv)), (h4, .inl (cA, 200, .inl av))] H → va_D A [(h0, .inr (1, [.ref hn, .ref h1, .ref h2, .ref h3, .ref h4])), (hn, .inl (cA, 34, .inl fv)), (h1, .inl (cA, 64, .inl pv)), (h2, .inl (cA, 16, .inl wv)), (h3, .inl (cA, 900, .inl rv)), (h4, .inl (cA, 200, .inl av))] → va_S A s.heap H locs → ∀ ls : Array Slot, lv_has ls 4 [(0, .ref h0), (1, .int (nI n0)), (2, .int (nI (8 * (k_1 + 1)))), (3, .int (nI i))] → W p l e { frames := 1, cells := 0, slots := 0, locals := 20 } s m (List.toArray [.ref h0, .int (nI n0)]) below meth c H locs 0 0 (MQ below (QV D (fun W1 => ∃ (f2 : Nat → Int32) (pn2 : Nat → Int32) (wt2 : Nat → Int32) (rg2 : Nat → Int32) (pa2 : Nat → Int32), (okN f2) ∧ (∀ j, j < 64 → ∃ k : Nat, k < 256 ∧ pn2 j = nI k) ∧ (∀ j, j < 16 → ∃ k : Nat, k < 256 ∧ wt2 j = nI k) ∧ W1 = [(h0, .inr (1, [.ref hn, .ref h1, .ref h2, .ref h3, .ref h4])), (hn, .inl (cA, 34, .inl f2)), (h1, .inl (cA, 64, .inl pn2)), (h2, .inl (cA, 16, .inl wt2)), (h3, .inl (cA, 900, .inl rg2)), (h4, .inl (cA, 200, .inl pa2))]) A) (List.toArray [.ref h0, .int (nI n0)]) s 0 0 A) (F0 m 15 ls []) := by
    intro n
    induction n with
    | zero => intro i fv pv wv rv av hi hfv hpv hwv hfuel; exact absurd hfuel (by omega)
    | succ n ih =>
      intro i fv pv wv rv av hi hfv hpv hwv hfuel H locs hP hD hS ls hl
      refine lv_iload_n hx hb dX1_passDrum_15 rfl (lv_at hl 3 rfl) ?_
      refine lv_iload_n hx hb dX1_passDrum_16 rfl (lv_at hl 1 rfl) ?_
      refine lv_icmp_ge (tgt := 93) hx hb dX1_passDrum_17 (by decide) (fun c_17_2 => ?_) (fun c_17_2 => ?_)
      · have nc_17_2 : n0 ≤ i := (nI_leI (a := n0) (b := i) (by omega) (by omega)).mp c_17_2
        exact endV X hr hlocks hP hD hS dX1_passDrum_93 ⟨fv, pv, wv, rv, av, hfv, hpv, hwv, rfl⟩
      · have nc_17_2 : i < n0 := Nat.not_le.mp (fun q => c_17_2 ((nI_leI (a := n0) (b := i) (by omega) (by omega)).mpr q))
        refine lv_aload_n hx hb dX1_passDrum_20 rfl (lv_at hl 0 rfl) ?_
        refine k_get (C := RX1) (T := TX1) (N := 5) (ci := 1) (v := .ref hn) X hE hP 0 rfl rfl iX1 0 (by decide) w_1 rfl dX1_passDrum_21 ?_
        refine lv_bipush (v := 13) hx hb dX1_passDrum_24 (by decide) ?_
        refine lv_dup2_11 hx hb dX1_passDrum_26 rfl rfl ?_
        refine k_ald (v := fv 13) X hE hP 1 rfl 13 rfl (by decide) (by decide) rfl dX1_passDrum_27 ?_
        refine lv_iconst (v := 1) hx hb dX1_passDrum_28 (by decide) ?_
        refine lv_iadd hx hb dX1_passDrum_29 ?_
        refine k_ast X hE hP hD hS 1 rfl 13 rfl (by decide) (by decide) [(h0, .inr (1, [.ref hn, .ref h1, .ref h2, .ref h3, .ref h4])), (hn, .inl (cA, 34, .inl (upd fv 13 ((fv 13) + 1)))), (h1, .inl (cA, 64, .inl pv)), (h2, .inl (cA, 16, .inl wv)), (h3, .inl (cA, 900, .inl rv)), (h4, .inl (cA, 200, .inl av))] rfl dX1_passDrum_30 (fun H locs hP hD hS => ?_)
        obtain ⟨g_3, eg_3⟩ : ∃ z, z = upd fv 13 ((fv 13) + 1) := ⟨_, rfl⟩
        rw [← eg_3] at hP hD
        have hg_3 := okN_upd hfv 13 ((fv 13) + 1) (inR_any rfl)
        rw [← eg_3] at hg_3
        have hP : va_P D classes [(h0, .inr (1, [.ref hn, .ref h1, .ref h2, .ref h3, .ref h4])), (hn, .inl (cA, 34, .inl g_3)), (h1, .inl (cA, 64, .inl pv)), (h2, .inl (cA, 16, .inl wv)), (h3, .inl (cA, 900, .inl rv)), (h4, .inl (cA, 200, .inl av))] H := hP
        have hD : va_D A [(h0, .inr (1, [.ref hn, .ref h1, .ref h2, .ref h3, .ref h4])), (hn, .inl (cA, 34, .inl g_3)), (h1, .inl (cA, 64, .inl pv)), (h2, .inl (cA, 16, .inl wv)), (h3, .inl (cA, 900, .inl rv)), (h4, .inl (cA, 200, .inl av))] := hD
        refine lv_aload_n hx hb dX1_passDrum_31 rfl (lv_at hl 0 rfl) ?_
        refine k_get (C := RX1) (T := TX1) (N := 5) (ci := 1) (v := .ref hn) X hE hP 0 rfl rfl iX1 0 (by decide) w_1 rfl dX1_passDrum_32 ?_
        refine lv_bipush (v := 13) hx hb dX1_passDrum_35 (by decide) ?_
        have em_4 : g_3 13 = (fv 13) + 1 := by rw [eg_3]; exact pk_us
        refine k_ald (v := (fv 13) + 1) X hE hP 1 rfl 13 rfl (by decide) (by decide) em_4 dX1_passDrum_37 ?_
        refine lv_iload_n hx hb dX1_passDrum_38 rfl (lv_at hl 2 rfl) ?_
        refine lv_icmp_lt (tgt := 87) hx hb dX1_passDrum_39 (by decide) (fun c_39 => ?_) (fun c_39 => ?_)
        · skip
          refine lv_iinc (v := nI (i + 1)) (lv' := [(3, .int (nI (i + 1))), (0, .ref h0), (1, .int (nI n0)), (2, .int (nI (8 * (k_1 + 1))))]) hx hb dX1_passDrum_87 hl (k := 3) rfl (nI_1 i) (by decide) rfl (fun ls hl => ?_)
          refine lv_goto (tgt := 15) hx hb dX1_passDrum_90 (by decide) ?_
          exact ih (i + 1) g_3 pv wv rv av (by omega) hg_3 hpv hwv (by omega) _ _ (hP.sub [0, 1, 2, 3, 4, 5] rfl) (hD.sub [0, 1, 2, 3, 4, 5] (by decide) rfl) hS ls (lv_sub hl [1, 2, 3, 0] rfl)
        · skip
          refine lv_aload_n hx hb dX1_passDrum_42 rfl (lv_at hl 0 rfl) ?_
          refine k_get (C := RX1) (T := TX1) (N := 5) (ci := 1) (v := .ref hn) X hE hP 0 rfl rfl iX1 0 (by decide) w_1 rfl dX1_passDrum_43 ?_
          refine lv_bipush (v := 13) hx hb dX1_passDrum_46 (by decide) ?_
          refine lv_iconst (v := 0) hx hb dX1_passDrum_48 (by decide) ?_
          refine k_ast X hE hP hD hS 1 rfl 13 rfl (by decide) (by decide) [(h0, .inr (1, [.ref hn, .ref h1, .ref h2, .ref h3, .ref h4])), (hn, .inl (cA, 34, .inl (upd g_3 13 0))), (h1, .inl (cA, 64, .inl pv)), (h2, .inl (cA, 16, .inl wv)), (h3, .inl (cA, 900, .inl rv)), (h4, .inl (cA, 200, .inl av))] rfl dX1_passDrum_49 (fun H locs hP hD hS => ?_)
          obtain ⟨g_5, eg_5⟩ : ∃ z, z = upd g_3 13 0 := ⟨_, rfl⟩
          rw [← eg_5] at hP hD
          have hg_5 := okN_upd hg_3 13 0 (inR_any rfl)
          rw [← eg_5] at hg_5
          have hP : va_P D classes [(h0, .inr (1, [.ref hn, .ref h1, .ref h2, .ref h3, .ref h4])), (hn, .inl (cA, 34, .inl g_5)), (h1, .inl (cA, 64, .inl pv)), (h2, .inl (cA, 16, .inl wv)), (h3, .inl (cA, 900, .inl rv)), (h4, .inl (cA, 200, .inl av))] H := hP
          have hD : va_D A [(h0, .inr (1, [.ref hn, .ref h1, .ref h2, .ref h3, .ref h4])), (hn, .inl (cA, 34, .inl g_5)), (h1, .inl (cA, 64, .inl pv)), (h2, .inl (cA, 16, .inl wv)), (h3, .inl (cA, 900, .inl rv)), (h4, .inl (cA, 200, .inl av))] := hD
          refine lv_aload_n hx hb dX1_passDrum_50 rfl (lv_at hl 0 rfl) ?_
          refine k_get (C := RX1) (T := TX1) (N := 5) (ci := 1) (v := .ref hn) X hE hP 0 rfl rfl iX1 0 (by decide) w_1 rfl dX1_passDrum_51 ?_
          refine lv_bipush (v := 14) hx hb dX1_passDrum_54 (by decide) ?_
          refine lv_aload_n hx hb dX1_passDrum_56 rfl (lv_at hl 0 rfl) ?_
          refine k_get (C := RX1) (T := TX1) (N := 5) (ci := 1) (v := .ref hn) X hE hP 0 rfl rfl iX1 0 (by decide) w_1 rfl dX1_passDrum_57 ?_
          refine lv_bipush (v := 14) hx hb dX1_passDrum_60 (by decide) ?_
          obtain ⟨k_6, hk_6, ek_6⟩ := hg_5.at 14 64 (by decide) rfl
          refine k_ald (v := nI k_6) X hE hP 1 rfl 14 rfl (by decide) (by decide) ek_6 dX1_passDrum_62 ?_
          refine lv_iconst (v := 1) hx hb dX1_passDrum_63 (by decide) ?_
          refine lv_iadd hx hb dX1_passDrum_64 ?_
          refine tk (y := nI (k_6 + 1)) (nI_add k_6 1) ?_
          refine lv_bipush (v := 64) hx hb dX1_passDrum_65 (by decide) ?_
          refine lv_irem hx hb dX1_passDrum_67 (by decide) ?_
          refine tk (y := nI ((k_6 + 1) % 64)) (pk_rem (a := k_6 + 1) (d := 64) (by omega) (by decide) (by decide)) ?_
          refine k_ast X hE hP hD hS 1 rfl 14 rfl (by decide) (by decide) [(h0, .inr (1, [.ref hn, .ref h1, .ref h2, .ref h3, .ref h4])), (hn, .inl (cA, 34, .inl (upd g_5 14 (nI ((k_6 + 1) % 64))))), (h1, .inl (cA, 64, .inl pv)), (h2, .inl (cA, 16, .inl wv)), (h3, .inl (cA, 900, .inl rv)), (h4, .inl (cA, 200, .inl av))] rfl dX1_passDrum_68 (fun H locs hP hD hS => ?_)
          obtain ⟨g_7, eg_7⟩ : ∃ z, z = upd g_5 14 (nI ((k_6 + 1) % 64)) := ⟨_, rfl⟩
          rw [← eg_7] at hP hD
          have hg_7 := okN_upd hg_5 14 (nI ((k_6 + 1) % 64)) (inR_of (k := (k_6 + 1) % 64) rfl (by omega))
          rw [← eg_7] at hg_7
          have hP : va_P D classes [(h0, .inr (1, [.ref hn, .ref h1, .ref h2, .ref h3, .ref h4])), (hn, .inl (cA, 34, .inl g_7)), (h1, .inl (cA, 64, .inl pv)), (h2, .inl (cA, 16, .inl wv)), (h3, .inl (cA, 900, .inl rv)), (h4, .inl (cA, 200, .inl av))] H := hP
          have hD : va_D A [(h0, .inr (1, [.ref hn, .ref h1, .ref h2, .ref h3, .ref h4])), (hn, .inl (cA, 34, .inl g_7)), (h1, .inl (cA, 64, .inl pv)), (h2, .inl (cA, 16, .inl wv)), (h3, .inl (cA, 900, .inl rv)), (h4, .inl (cA, 200, .inl av))] := hD
          refine lv_aload_n hx hb dX1_passDrum_69 rfl (lv_at hl 0 rfl) ?_
          refine kVi (n3 := 0) (As := []) (rest := []) X hl.1 hE hP hD hS hA [(h0, .inr (1, [.ref hn, .ref h1, .ref h2, .ref h3, .ref h4])), (hn, .inl (cA, 34, .inl g_7)), (h1, .inl (cA, 64, .inl pv)), (h2, .inl (cA, 16, .inl wv)), (h3, .inl (cA, 900, .inl rv)), (h4, .inl (cA, 200, .inl av))] [] [0, 1, 2, 3, 4, 5] [] rfl rfl rfl (by decide +kernel) (by decide +kernel) (by decide +kernel) (c_s_pinsOfRow l D cA cB h0 hn h1 h2 h3 h4 g_7 pv wv rv av hg_7 hpv hwv) w_8 w_9 w_7 w_10 w_11 0 (ci := 1) (T := TX1) (N := 5) rfl rfl (by decide +kernel) rfl rfl (Nat.le_of_ble_eq_true rfl) ⟨(Nat.le_of_ble_eq_true rfl), (Nat.le_of_ble_eq_true rfl)⟩ ⟨(Nat.le_of_ble_eq_true rfl), (Nat.le_of_ble_eq_true rfl)⟩ dX1_passDrum_70 (fun r W1 H locs hw hP hD hS => ?_)
          obtain ⟨f2_8, pn2_9, wt2_10, rg2_11, pa2_12, rk_13, rfl, hf_14, hf_15, hf_16, hf_17, rfl⟩ := hw
          have hP : va_P D classes [(h0, .inr (1, [.ref hn, .ref h1, .ref h2, .ref h3, .ref h4])), (hn, .inl (cA, 34, .inl f2_8)), (h1, .inl (cA, 64, .inl pn2_9)), (h2, .inl (cA, 16, .inl wt2_10)), (h3, .inl (cA, 900, .inl rg2_11)), (h4, .inl (cA, 200, .inl pa2_12))] H := hP
          have hD : va_D A [(h0, .inr (1, [.ref hn, .ref h1, .ref h2, .ref h3, .ref h4])), (hn, .inl (cA, 34, .inl f2_8)), (h1, .inl (cA, 64, .inl pn2_9)), (h2, .inl (cA, 16, .inl wt2_10)), (h3, .inl (cA, 900, .inl rg2_11)), (h4, .inl (cA, 200, .inl pa2_12))] := hD
          refine lv_if_eq (tgt := 87) hx hb dX1_passDrum_73 (by decide) (fun c_73_18 => ?_) (fun c_73_18 => ?_)
          · have nc_73_18 : rk_13 = 0 := (nI_eq (a := rk_13) (b := 0) (by omega) (by omega)).mp c_73_18
            refine lv_iinc (v := nI (i + 1)) (lv' := [(3, .int (nI (i + 1))), (0, .ref h0), (1, .int (nI n0)), (2, .int (nI (8 * (k_1 + 1))))]) hx hb dX1_passDrum_87 hl (k := 3) rfl (nI_1 i) (by decide) rfl (fun ls hl => ?_)
            refine lv_goto (tgt := 15) hx hb dX1_passDrum_90 (by decide) ?_
            exact ih (i + 1) f2_8 pn2_9 wt2_10 rg2_11 pa2_12 (by omega) hf_14 hf_15 hf_16 (by omega) _ _ (hP.sub [0, 1, 2, 3, 4, 5] rfl) (hD.sub [0, 1, 2, 3, 4, 5] (by decide) rfl) hS ls (lv_sub hl [1, 2, 3, 0] rfl)
          · have nc_73_18 : ¬ rk_13 = 0 := fun q => c_73_18 ((nI_eq (a := rk_13) (b := 0) (by omega) (by omega)).mpr q)
            refine lv_aload_n hx hb dX1_passDrum_76 rfl (lv_at hl 0 rfl) ?_
            refine k_get (C := RX1) (T := TX1) (N := 5) (ci := 1) (v := .ref hn) X hE hP 0 rfl rfl iX1 0 (by decide) w_1 rfl dX1_passDrum_77 ?_
            refine lv_bipush (v := 15) hx hb dX1_passDrum_80 (by decide) ?_
            refine lv_dup2_11 hx hb dX1_passDrum_82 rfl rfl ?_
            obtain ⟨k_19, hk_19, ek_19⟩ := hf_14.at 15 256 (by decide) rfl
            refine k_ald (v := nI k_19) X hE hP 1 rfl 15 rfl (by decide) (by decide) ek_19 dX1_passDrum_83 ?_
            refine lv_iconst (v := 2) hx hb dX1_passDrum_84 (by decide) ?_
            refine lv_ior hx hb dX1_passDrum_85 ?_
            obtain ⟨k_20, hk_20, ek_20⟩ := sf_or (a := k_19) (b := 2) 8 256 rfl (by decide) (by omega) (by omega)
            have hk_20 : k_20 < 256 := hk_20
            refine tk (y := nI k_20) ek_20 ?_
            refine k_ast X hE hP hD hS 1 rfl 15 rfl (by decide) (by decide) [(h0, .inr (1, [.ref hn, .ref h1, .ref h2, .ref h3, .ref h4])), (hn, .inl (cA, 34, .inl (upd f2_8 15 (nI k_20)))), (h1, .inl (cA, 64, .inl pn2_9)), (h2, .inl (cA, 16, .inl wt2_10)), (h3, .inl (cA, 900, .inl rg2_11)), (h4, .inl (cA, 200, .inl pa2_12))] rfl dX1_passDrum_86 (fun H locs hP hD hS => ?_)
            obtain ⟨g_21, eg_21⟩ : ∃ z, z = upd f2_8 15 (nI k_20) := ⟨_, rfl⟩
            rw [← eg_21] at hP hD
            have hg_21 := okN_upd hf_14 15 (nI k_20) (inR_of (k := k_20) rfl (by omega))
            rw [← eg_21] at hg_21
            have hP : va_P D classes [(h0, .inr (1, [.ref hn, .ref h1, .ref h2, .ref h3, .ref h4])), (hn, .inl (cA, 34, .inl g_21)), (h1, .inl (cA, 64, .inl pn2_9)), (h2, .inl (cA, 16, .inl wt2_10)), (h3, .inl (cA, 900, .inl rg2_11)), (h4, .inl (cA, 200, .inl pa2_12))] H := hP
            have hD : va_D A [(h0, .inr (1, [.ref hn, .ref h1, .ref h2, .ref h3, .ref h4])), (hn, .inl (cA, 34, .inl g_21)), (h1, .inl (cA, 64, .inl pn2_9)), (h2, .inl (cA, 16, .inl wt2_10)), (h3, .inl (cA, 900, .inl rg2_11)), (h4, .inl (cA, 200, .inl pa2_12))] := hD
            refine lv_iinc (v := nI (i + 1)) (lv' := [(3, .int (nI (i + 1))), (0, .ref h0), (1, .int (nI n0)), (2, .int (nI (8 * (k_1 + 1))))]) hx hb dX1_passDrum_87 hl (k := 3) rfl (nI_1 i) (by decide) rfl (fun ls hl => ?_)
            refine lv_goto (tgt := 15) hx hb dX1_passDrum_90 (by decide) ?_
            exact ih (i + 1) g_21 pn2_9 wt2_10 rg2_11 pa2_12 (by omega) hg_21 hf_15 hf_16 (by omega) _ _ (hP.sub [0, 1, 2, 3, 4, 5] rfl) (hD.sub [0, 1, 2, 3, 4, 5] (by decide) rfl) hS ls (lv_sub hl [1, 2, 3, 0] rfl)
  exact loop_15 (n0 + 1) 0 f pn wt rg pa (by omega) hf hpn hwt (by omega) _ _ hP hD hS ls (lv_sub hl [2, 3, 1, 0] rfl)
set_option maxHeartbeats 4000000 in
set_option maxRecDepth 100000 in
theorem c_s_passBells (l : Launch) (D : va_G) (cA cB : ClassId) (h0 : Nat) (hn : Nat) (h1 : Nat) (h2 : Nat) (h3 : Nat) (h4 : Nat) (f : Nat → Int32) (pn : Nat → Int32) (wt : Nat → Int32) (rg : Nat → Int32) (pa : Nat → Int32) (n0 : Nat) (hf : okN f) (hpn : ∀ j, j < 64 → ∃ k : Nat, k < 256 ∧ pn j = nI k) (hwt : ∀ j, j < 16 → ∃ k : Nat, k < 256 ∧ wt j = nI k) (hn0 : n0 < 1000) : CV l yX1_passBells cX1_passBells 3 none 0 0 0 0 D cA cB [.ref h0, .int (nI n0)] [(h0, .inr (1, [.ref hn, .ref h1, .ref h2, .ref h3, .ref h4])), (hn, .inl (cA, 34, .inl f)), (h1, .inl (cA, 64, .inl pn)), (h2, .inl (cA, 16, .inl wt)), (h3, .inl (cA, 900, .inl rg)), (h4, .inl (cA, 200, .inl pa))] (fun W1 => ∃ (f2 : Nat → Int32) (pn2 : Nat → Int32) (wt2 : Nat → Int32) (rg2 : Nat → Int32) (pa2 : Nat → Int32), (okN f2) ∧ (∀ j, j < 64 → ∃ k : Nat, k < 256 ∧ pn2 j = nI k) ∧ (∀ j, j < 16 → ∃ k : Nat, k < 256 ∧ wt2 j = nI k) ∧ W1 = [(h0, .inr (1, [.ref hn, .ref h1, .ref h2, .ref h3, .ref h4])), (hn, .inl (cA, 34, .inl f2)), (h1, .inl (cA, 64, .inl pn2)), (h2, .inl (cA, 16, .inl wt2)), (h3, .inl (cA, 900, .inl rg2)), (h4, .inl (cA, 200, .inl pa2))]) := by
  refine mkV (lv0 := [(0, .ref h0), (1, .int (nI n0))]) (by decide) (Nat.le_of_ble_eq_true rfl) rfl ?_
  intro p e s m below meth c A ls X hr hlocks hnm hE hA hP hD hS hl
  have hx := X.1
  have hb := X.2.1
  refine lv_bipush (v := 20) hx hb dX1_passBells_0 (by decide) ?_
  refine lv_istore_n (lv' := [(2, .int 20), (0, .ref h0), (1, .int (nI n0))]) hx hb dX1_passBells_2 rfl hl (by decide) rfl (fun ls hl => ?_)
  have loop_3 : ∀ (n : Nat) (i : Nat) (fv : Nat → Int32), (i ≤ 28) → (okN fv) → (20 ≤ i) → 28 < i + n → ∀ (H : Heap) (locs : List Loc), va_P D classes [(h0, .inr (1, [.ref hn, .ref h1, .ref h2, .ref h3, .ref h4])), (hn, .inl (cA, 34, .inl fv)), (h1, .inl (cA, 64, .inl pn)), (h2, .inl (cA, 16, .inl wt)), (h3, .inl (cA, 900, .inl rg)), (h4, .inl (cA, 200, .inl pa))] H → va_D A [(h0, .inr (1, [.ref hn, .ref h1, .ref h2, .ref h3, .ref h4])), (hn, .inl (cA, 34, .inl fv)), (h1, .inl (cA, 64, .inl pn)), (h2, .inl (cA, 16, .inl wt)), (h3, .inl (cA, 900, .inl rg)), (h4, .inl (cA, 200, .inl pa))] → va_S A s.heap H locs → ∀ ls : Array Slot, lv_has ls 3 [(0, .ref h0), (1, .int (nI n0)), (2, .int (nI i))] → W p l e { frames := 0, cells := 0, slots := 0, locals := 0 } s m (List.toArray [.ref h0, .int (nI n0)]) below meth c H locs 0 0 (MQ below (QV D (fun W1 => ∃ (f2 : Nat → Int32) (pn2 : Nat → Int32) (wt2 : Nat → Int32) (rg2 : Nat → Int32) (pa2 : Nat → Int32), (okN f2) ∧ (∀ j, j < 64 → ∃ k : Nat, k < 256 ∧ pn2 j = nI k) ∧ (∀ j, j < 16 → ∃ k : Nat, k < 256 ∧ wt2 j = nI k) ∧ W1 = [(h0, .inr (1, [.ref hn, .ref h1, .ref h2, .ref h3, .ref h4])), (hn, .inl (cA, 34, .inl f2)), (h1, .inl (cA, 64, .inl pn2)), (h2, .inl (cA, 16, .inl wt2)), (h3, .inl (cA, 900, .inl rg2)), (h4, .inl (cA, 200, .inl pa2))]) A) (List.toArray [.ref h0, .int (nI n0)]) s 0 0 A) (F0 m 3 ls []) := by
    intro n
    induction n with
    | zero => intro i fv hi hfv hq0 hfuel; exact absurd hfuel (by omega)
    | succ n ih =>
      intro i fv hi hfv hq0 hfuel H locs hP hD hS ls hl
      refine lv_iload_n hx hb dX1_passBells_3 rfl (lv_at hl 2 rfl) ?_
      refine lv_bipush (v := 28) hx hb dX1_passBells_4 (by decide) ?_
      refine lv_icmp_ge (tgt := 65) hx hb dX1_passBells_6 (by decide) (fun c_6_1 => ?_) (fun c_6_1 => ?_)
      · have nc_6_1 : 28 ≤ i := (nI_leI (a := 28) (b := i) (by omega) (by omega)).mp c_6_1
        exact endV X hr hlocks hP hD hS dX1_passBells_65 ⟨fv, pn, wt, rg, pa, hfv, hpn, hwt, rfl⟩
      · have nc_6_1 : i < 28 := Nat.not_le.mp (fun q => c_6_1 ((nI_leI (a := 28) (b := i) (by omega) (by omega)).mpr q))
        refine lv_aload_n hx hb dX1_passBells_9 rfl (lv_at hl 0 rfl) ?_
        refine k_get (C := RX1) (T := TX1) (N := 5) (ci := 1) (v := .ref hn) X hE hP 0 rfl rfl iX1 0 (by decide) w_1 rfl dX1_passBells_10 ?_
        refine lv_iload_n hx hb dX1_passBells_13 rfl (lv_at hl 2 rfl) ?_
        refine k_ald (v := fv i) X hE hP 1 rfl i rfl (by omega) (by decide) rfl dX1_passBells_14 ?_
        refine lv_iload_n hx hb dX1_passBells_15 rfl (lv_at hl 1 rfl) ?_
        refine lv_icmp_le (tgt := 32) hx hb dX1_passBells_16 (by decide) (fun c_16 => ?_) (fun c_16 => ?_)
        · skip
          refine lv_aload_n hx hb dX1_passBells_32 rfl (lv_at hl 0 rfl) ?_
          refine k_get (C := RX1) (T := TX1) (N := 5) (ci := 1) (v := .ref hn) X hE hP 0 rfl rfl iX1 0 (by decide) w_1 rfl dX1_passBells_33 ?_
          refine lv_iload_n hx hb dX1_passBells_36 rfl (lv_at hl 2 rfl) ?_
          refine k_ald (v := fv i) X hE hP 1 rfl i rfl (by omega) (by decide) rfl dX1_passBells_37 ?_
          refine lv_if_le (tgt := 59) hx hb dX1_passBells_38 (by decide) (fun c_38 => ?_) (fun c_38 => ?_)
          · skip
            refine lv_iinc (v := nI (i + 1)) (lv' := [(2, .int (nI (i + 1))), (0, .ref h0), (1, .int (nI n0))]) hx hb dX1_passBells_59 hl (k := 2) rfl (nI_1 i) (by decide) rfl (fun ls hl => ?_)
            refine lv_goto (tgt := 3) hx hb dX1_passBells_62 (by decide) ?_
            exact ih (i + 1) fv (by omega) hfv (by omega) (by omega) _ _ (hP.sub [0, 1, 2, 3, 4, 5] rfl) (hD.sub [0, 1, 2, 3, 4, 5] (by decide) rfl) hS ls (lv_sub hl [1, 2, 0] rfl)
          · skip
            refine lv_aload_n hx hb dX1_passBells_41 rfl (lv_at hl 0 rfl) ?_
            refine k_get (C := RX1) (T := TX1) (N := 5) (ci := 1) (v := .ref hn) X hE hP 0 rfl rfl iX1 0 (by decide) w_1 rfl dX1_passBells_42 ?_
            refine lv_iload_n hx hb dX1_passBells_45 rfl (lv_at hl 2 rfl) ?_
            refine lv_iconst (v := 0) hx hb dX1_passBells_46 (by decide) ?_
            refine k_ast X hE hP hD hS 1 rfl i rfl (by omega) (by decide) [(h0, .inr (1, [.ref hn, .ref h1, .ref h2, .ref h3, .ref h4])), (hn, .inl (cA, 34, .inl (upd fv i 0))), (h1, .inl (cA, 64, .inl pn)), (h2, .inl (cA, 16, .inl wt)), (h3, .inl (cA, 900, .inl rg)), (h4, .inl (cA, 200, .inl pa))] rfl dX1_passBells_47 (fun H locs hP hD hS => ?_)
            obtain ⟨g_2, eg_2⟩ : ∃ z, z = upd fv i 0 := ⟨_, rfl⟩
            rw [← eg_2] at hP hD
            have hg_2 := okN_upd hfv i 0 (inR_any (bd_rest2 (by omega) (by omega)))
            rw [← eg_2] at hg_2
            have hP : va_P D classes [(h0, .inr (1, [.ref hn, .ref h1, .ref h2, .ref h3, .ref h4])), (hn, .inl (cA, 34, .inl g_2)), (h1, .inl (cA, 64, .inl pn)), (h2, .inl (cA, 16, .inl wt)), (h3, .inl (cA, 900, .inl rg)), (h4, .inl (cA, 200, .inl pa))] H := hP
            have hD : va_D A [(h0, .inr (1, [.ref hn, .ref h1, .ref h2, .ref h3, .ref h4])), (hn, .inl (cA, 34, .inl g_2)), (h1, .inl (cA, 64, .inl pn)), (h2, .inl (cA, 16, .inl wt)), (h3, .inl (cA, 900, .inl rg)), (h4, .inl (cA, 200, .inl pa))] := hD
            refine lv_aload_n hx hb dX1_passBells_48 rfl (lv_at hl 0 rfl) ?_
            refine k_get (C := RX1) (T := TX1) (N := 5) (ci := 1) (v := .ref hn) X hE hP 0 rfl rfl iX1 0 (by decide) w_1 rfl dX1_passBells_49 ?_
            refine lv_bipush (v := 15) hx hb dX1_passBells_52 (by decide) ?_
            refine lv_dup2_11 hx hb dX1_passBells_54 rfl rfl ?_
            obtain ⟨k_3, hk_3, ek_3⟩ := hg_2.at 15 256 (by decide) rfl
            refine k_ald (v := nI k_3) X hE hP 1 rfl 15 rfl (by decide) (by decide) ek_3 dX1_passBells_55 ?_
            refine lv_iconst (v := 4) hx hb dX1_passBells_56 (by decide) ?_
            refine lv_ior hx hb dX1_passBells_57 ?_
            obtain ⟨k_4, hk_4, ek_4⟩ := sf_or (a := k_3) (b := 4) 8 256 rfl (by decide) (by omega) (by omega)
            have hk_4 : k_4 < 256 := hk_4
            refine tk (y := nI k_4) ek_4 ?_
            refine k_ast X hE hP hD hS 1 rfl 15 rfl (by decide) (by decide) [(h0, .inr (1, [.ref hn, .ref h1, .ref h2, .ref h3, .ref h4])), (hn, .inl (cA, 34, .inl (upd g_2 15 (nI k_4)))), (h1, .inl (cA, 64, .inl pn)), (h2, .inl (cA, 16, .inl wt)), (h3, .inl (cA, 900, .inl rg)), (h4, .inl (cA, 200, .inl pa))] rfl dX1_passBells_58 (fun H locs hP hD hS => ?_)
            obtain ⟨g_5, eg_5⟩ : ∃ z, z = upd g_2 15 (nI k_4) := ⟨_, rfl⟩
            rw [← eg_5] at hP hD
            have hg_5 := okN_upd hg_2 15 (nI k_4) (inR_of (k := k_4) rfl (by omega))
            rw [← eg_5] at hg_5
            have hP : va_P D classes [(h0, .inr (1, [.ref hn, .ref h1, .ref h2, .ref h3, .ref h4])), (hn, .inl (cA, 34, .inl g_5)), (h1, .inl (cA, 64, .inl pn)), (h2, .inl (cA, 16, .inl wt)), (h3, .inl (cA, 900, .inl rg)), (h4, .inl (cA, 200, .inl pa))] H := hP
            have hD : va_D A [(h0, .inr (1, [.ref hn, .ref h1, .ref h2, .ref h3, .ref h4])), (hn, .inl (cA, 34, .inl g_5)), (h1, .inl (cA, 64, .inl pn)), (h2, .inl (cA, 16, .inl wt)), (h3, .inl (cA, 900, .inl rg)), (h4, .inl (cA, 200, .inl pa))] := hD
            refine lv_iinc (v := nI (i + 1)) (lv' := [(2, .int (nI (i + 1))), (0, .ref h0), (1, .int (nI n0))]) hx hb dX1_passBells_59 hl (k := 2) rfl (nI_1 i) (by decide) rfl (fun ls hl => ?_)
            refine lv_goto (tgt := 3) hx hb dX1_passBells_62 (by decide) ?_
            exact ih (i + 1) g_5 (by omega) hg_5 (by omega) (by omega) _ _ (hP.sub [0, 1, 2, 3, 4, 5] rfl) (hD.sub [0, 1, 2, 3, 4, 5] (by decide) rfl) hS ls (lv_sub hl [1, 2, 0] rfl)
        · skip
          refine lv_aload_n hx hb dX1_passBells_19 rfl (lv_at hl 0 rfl) ?_
          refine k_get (C := RX1) (T := TX1) (N := 5) (ci := 1) (v := .ref hn) X hE hP 0 rfl rfl iX1 0 (by decide) w_1 rfl dX1_passBells_20 ?_
          refine lv_iload_n hx hb dX1_passBells_23 rfl (lv_at hl 2 rfl) ?_
          refine lv_dup2_11 hx hb dX1_passBells_24 rfl rfl ?_
          refine k_ald (v := fv i) X hE hP 1 rfl i rfl (by omega) (by decide) rfl dX1_passBells_25 ?_
          refine lv_iload_n hx hb dX1_passBells_26 rfl (lv_at hl 1 rfl) ?_
          refine lv_isub hx hb dX1_passBells_27 ?_
          refine k_ast X hE hP hD hS 1 rfl i rfl (by omega) (by decide) [(h0, .inr (1, [.ref hn, .ref h1, .ref h2, .ref h3, .ref h4])), (hn, .inl (cA, 34, .inl (upd fv i ((fv i) - (nI n0))))), (h1, .inl (cA, 64, .inl pn)), (h2, .inl (cA, 16, .inl wt)), (h3, .inl (cA, 900, .inl rg)), (h4, .inl (cA, 200, .inl pa))] rfl dX1_passBells_28 (fun H locs hP hD hS => ?_)
          obtain ⟨g_6, eg_6⟩ : ∃ z, z = upd fv i ((fv i) - (nI n0)) := ⟨_, rfl⟩
          rw [← eg_6] at hP hD
          have hg_6 := okN_upd hfv i ((fv i) - (nI n0)) (inR_any (bd_rest2 (by omega) (by omega)))
          rw [← eg_6] at hg_6
          have hP : va_P D classes [(h0, .inr (1, [.ref hn, .ref h1, .ref h2, .ref h3, .ref h4])), (hn, .inl (cA, 34, .inl g_6)), (h1, .inl (cA, 64, .inl pn)), (h2, .inl (cA, 16, .inl wt)), (h3, .inl (cA, 900, .inl rg)), (h4, .inl (cA, 200, .inl pa))] H := hP
          have hD : va_D A [(h0, .inr (1, [.ref hn, .ref h1, .ref h2, .ref h3, .ref h4])), (hn, .inl (cA, 34, .inl g_6)), (h1, .inl (cA, 64, .inl pn)), (h2, .inl (cA, 16, .inl wt)), (h3, .inl (cA, 900, .inl rg)), (h4, .inl (cA, 200, .inl pa))] := hD
          refine lv_goto (tgt := 59) hx hb dX1_passBells_29 (by decide) ?_
          refine lv_iinc (v := nI (i + 1)) (lv' := [(2, .int (nI (i + 1))), (0, .ref h0), (1, .int (nI n0))]) hx hb dX1_passBells_59 hl (k := 2) rfl (nI_1 i) (by decide) rfl (fun ls hl => ?_)
          refine lv_goto (tgt := 3) hx hb dX1_passBells_62 (by decide) ?_
          exact ih (i + 1) g_6 (by omega) hg_6 (by omega) (by omega) _ _ (hP.sub [0, 1, 2, 3, 4, 5] rfl) (hD.sub [0, 1, 2, 3, 4, 5] (by decide) rfl) hS ls (lv_sub hl [1, 2, 0] rfl)
  exact loop_3 (28 + 1) 20 f (by omega) hf (by omega) (by omega) _ _ hP hD hS ls (lv_sub hl [1, 2, 0] rfl)
set_option maxHeartbeats 4000000 in
set_option maxRecDepth 100000 in
theorem c_s_pass (l : Launch) (D : va_G) (cA cB : ClassId) (h0 : Nat) (hn : Nat) (h1 : Nat) (h2 : Nat) (h3 : Nat) (h4 : Nat) (f : Nat → Int32) (pn : Nat → Int32) (wt : Nat → Int32) (rg : Nat → Int32) (pa : Nat → Int32) (n0 : Nat) (hf : okN f) (hpn : ∀ j, j < 64 → ∃ k : Nat, k < 256 ∧ pn j = nI k) (hwt : ∀ j, j < 16 → ∃ k : Nat, k < 256 ∧ wt j = nI k) (hn0 : n0 < 1000) : CI l yX1_pass cX1_pass 3 (some .boolean) 2 43 0 0 D cA cB [.ref h0, .int (nI n0)] [(h0, .inr (1, [.ref hn, .ref h1, .ref h2, .ref h3, .ref h4])), (hn, .inl (cA, 34, .inl f)), (h1, .inl (cA, 64, .inl pn)), (h2, .inl (cA, 16, .inl wt)), (h3, .inl (cA, 900, .inl rg)), (h4, .inl (cA, 200, .inl pa))] (fun r W1 => ∃ (f2 : Nat → Int32) (pn2 : Nat → Int32) (wt2 : Nat → Int32) (rg2 : Nat → Int32) (pa2 : Nat → Int32) (rk : Nat), r = nI rk ∧ (okN f2) ∧ (∀ j, j < 64 → ∃ k : Nat, k < 256 ∧ pn2 j = nI k) ∧ (∀ j, j < 16 → ∃ k : Nat, k < 256 ∧ wt2 j = nI k) ∧ (rk < 2) ∧ W1 = [(h0, .inr (1, [.ref hn, .ref h1, .ref h2, .ref h3, .ref h4])), (hn, .inl (cA, 34, .inl f2)), (h1, .inl (cA, 64, .inl pn2)), (h2, .inl (cA, 16, .inl wt2)), (h3, .inl (cA, 900, .inl rg2)), (h4, .inl (cA, 200, .inl pa2))]) := by
  refine mkI (lv0 := [(0, .ref h0), (1, .int (nI n0))]) (by decide) (Nat.le_of_ble_eq_true rfl) rfl ?_
  intro p e s m below meth c A ls X hr hlocks hnm hE hA hP hD hS hl
  have hx := X.1
  have hb := X.2.1
  refine lv_aload_n hx hb dX1_pass_0 rfl (lv_at hl 0 rfl) ?_
  refine k_get (C := RX1) (T := TX1) (N := 5) (ci := 1) (v := .ref hn) X hE hP 0 rfl rfl iX1 0 (by decide) w_1 rfl dX1_pass_1 ?_
  refine lv_bipush (v := 7) hx hb dX1_pass_4 (by decide) ?_
  refine lv_dup2_11 hx hb dX1_pass_6 rfl rfl ?_
  refine k_ald (v := f 7) X hE hP 1 rfl 7 rfl (by decide) (by decide) rfl dX1_pass_7 ?_
  refine lv_iload_n hx hb dX1_pass_8 rfl (lv_at hl 1 rfl) ?_
  refine lv_iadd hx hb dX1_pass_9 ?_
  refine k_ast X hE hP hD hS 1 rfl 7 rfl (by decide) (by decide) [(h0, .inr (1, [.ref hn, .ref h1, .ref h2, .ref h3, .ref h4])), (hn, .inl (cA, 34, .inl (upd f 7 ((f 7) + (nI n0))))), (h1, .inl (cA, 64, .inl pn)), (h2, .inl (cA, 16, .inl wt)), (h3, .inl (cA, 900, .inl rg)), (h4, .inl (cA, 200, .inl pa))] rfl dX1_pass_10 (fun H locs hP hD hS => ?_)
  obtain ⟨g_1, eg_1⟩ : ∃ z, z = upd f 7 ((f 7) + (nI n0)) := ⟨_, rfl⟩
  rw [← eg_1] at hP hD
  have hg_1 := okN_upd hf 7 ((f 7) + (nI n0)) (inR_any rfl)
  rw [← eg_1] at hg_1
  have hP : va_P D classes [(h0, .inr (1, [.ref hn, .ref h1, .ref h2, .ref h3, .ref h4])), (hn, .inl (cA, 34, .inl g_1)), (h1, .inl (cA, 64, .inl pn)), (h2, .inl (cA, 16, .inl wt)), (h3, .inl (cA, 900, .inl rg)), (h4, .inl (cA, 200, .inl pa))] H := hP
  have hD : va_D A [(h0, .inr (1, [.ref hn, .ref h1, .ref h2, .ref h3, .ref h4])), (hn, .inl (cA, 34, .inl g_1)), (h1, .inl (cA, 64, .inl pn)), (h2, .inl (cA, 16, .inl wt)), (h3, .inl (cA, 900, .inl rg)), (h4, .inl (cA, 200, .inl pa))] := hD
  refine lv_aload_n hx hb dX1_pass_11 rfl (lv_at hl 0 rfl) ?_
  refine k_get (C := RX1) (T := TX1) (N := 5) (ci := 1) (v := .ref hn) X hE hP 0 rfl rfl iX1 0 (by decide) w_1 rfl dX1_pass_12 ?_
  refine lv_bipush (v := 10) hx hb dX1_pass_15 (by decide) ?_
  obtain ⟨k_2, hk_2, ek_2⟩ := hg_1.at 10 2 (by decide) rfl
  refine k_ald (v := nI k_2) X hE hP 1 rfl 10 rfl (by decide) (by decide) ek_2 dX1_pass_17 ?_
  refine lv_if_eq (tgt := 26) hx hb dX1_pass_18 (by decide) (fun c_18_3 => ?_) (fun c_18_3 => ?_)
  · have nc_18_3 : k_2 = 0 := (nI_eq (a := k_2) (b := 0) (by omega) (by omega)).mp c_18_3
    refine lv_aload_n hx hb dX1_pass_26 rfl (lv_at hl 0 rfl) ?_
    refine k_get (C := RX1) (T := TX1) (N := 5) (ci := 1) (v := .ref hn) X hE hP 0 rfl rfl iX1 0 (by decide) w_1 rfl dX1_pass_27 ?_
    refine lv_bipush (v := 11) hx hb dX1_pass_30 (by decide) ?_
    obtain ⟨k_4, hk_4, ek_4⟩ := hg_1.at 11 2 (by decide) rfl
    refine k_ald (v := nI k_4) X hE hP 1 rfl 11 rfl (by decide) (by decide) ek_4 dX1_pass_32 ?_
    refine lv_if_eq (tgt := 41) hx hb dX1_pass_33 (by decide) (fun c_33_5 => ?_) (fun c_33_5 => ?_)
    · have nc_33_5 : k_4 = 0 := (nI_eq (a := k_4) (b := 0) (by omega) (by omega)).mp c_33_5
      refine lv_aload_n hx hb dX1_pass_41 rfl (lv_at hl 0 rfl) ?_
      refine lv_iload_n hx hb dX1_pass_42 rfl (lv_at hl 1 rfl) ?_
      refine kVv (n3 := 1) (As := [.int (nI n0)]) (rest := []) X hl.1 hE hP hD hS hA [(h0, .inr (1, [.ref hn, .ref h1, .ref h2, .ref h3, .ref h4])), (hn, .inl (cA, 34, .inl g_1)), (h1, .inl (cA, 64, .inl pn)), (h2, .inl (cA, 16, .inl wt)), (h3, .inl (cA, 900, .inl rg)), (h4, .inl (cA, 200, .inl pa))] [] [0, 1, 2, 3, 4, 5] [] rfl rfl rfl (by decide +kernel) (by decide +kernel) (by decide +kernel) (c_s_passBells l D cA cB h0 hn h1 h2 h3 h4 g_1 pn wt rg pa n0 hg_1 hpn hwt (by first | assumption | decide | rfl | omega)) w_38 w_9 w_37 w_39 w_40 0 (ci := 1) (T := TX1) (N := 5) rfl rfl (by decide +kernel) rfl rfl (Nat.le_of_ble_eq_true rfl) ⟨(Nat.le_of_ble_eq_true rfl), (Nat.le_of_ble_eq_true rfl)⟩ ⟨(Nat.le_of_ble_eq_true rfl), (Nat.le_of_ble_eq_true rfl)⟩ dX1_pass_43 (fun W1 H locs hw hP hD hS => ?_)
      obtain ⟨f2_6, pn2_7, wt2_8, rg2_9, pa2_10, hf_11, hf_12, hf_13, rfl⟩ := hw
      have hP : va_P D classes [(h0, .inr (1, [.ref hn, .ref h1, .ref h2, .ref h3, .ref h4])), (hn, .inl (cA, 34, .inl f2_6)), (h1, .inl (cA, 64, .inl pn2_7)), (h2, .inl (cA, 16, .inl wt2_8)), (h3, .inl (cA, 900, .inl rg2_9)), (h4, .inl (cA, 200, .inl pa2_10))] H := hP
      have hD : va_D A [(h0, .inr (1, [.ref hn, .ref h1, .ref h2, .ref h3, .ref h4])), (hn, .inl (cA, 34, .inl f2_6)), (h1, .inl (cA, 64, .inl pn2_7)), (h2, .inl (cA, 16, .inl wt2_8)), (h3, .inl (cA, 900, .inl rg2_9)), (h4, .inl (cA, 200, .inl pa2_10))] := hD
      refine lv_aload_n hx hb dX1_pass_46 rfl (lv_at hl 0 rfl) ?_
      refine k_get (C := RX1) (T := TX1) (N := 5) (ci := 1) (v := .ref hn) X hE hP 0 rfl rfl iX1 0 (by decide) w_1 rfl dX1_pass_47 ?_
      refine lv_bipush (v := 17) hx hb dX1_pass_50 (by decide) ?_
      refine k_ald (v := f2_6 17) X hE hP 1 rfl 17 rfl (by decide) (by decide) rfl dX1_pass_52 ?_
      refine lv_if_le (tgt := 71) hx hb dX1_pass_53 (by decide) (fun c_53 => ?_) (fun c_53 => ?_)
      · skip
        refine lv_iconst (v := 0) hx hb dX1_pass_71 (by decide) ?_
        refine lv_istore_n (lv' := [(2, .int 0), (0, .ref h0), (1, .int (nI n0))]) hx hb dX1_pass_72 rfl hl (by decide) rfl (fun ls hl => ?_)
        refine lv_aload_n hx hb dX1_pass_73 rfl (lv_at hl 1 rfl) ?_
        refine k_get (C := RX1) (T := TX1) (N := 5) (ci := 1) (v := .ref hn) X hE hP 0 rfl rfl iX1 0 (by decide) w_1 rfl dX1_pass_74 ?_
        refine lv_bipush (v := 17) hx hb dX1_pass_77 (by decide) ?_
        refine lv_iconst (v := 0) hx hb dX1_pass_79 (by decide) ?_
        refine lv_aload_n hx hb dX1_pass_80 rfl (lv_at hl 1 rfl) ?_
        refine k_get (C := RX1) (T := TX1) (N := 5) (ci := 1) (v := .ref hn) X hE hP 0 rfl rfl iX1 0 (by decide) w_1 rfl dX1_pass_81 ?_
        refine lv_bipush (v := 17) hx hb dX1_pass_84 (by decide) ?_
        refine k_ald (v := f2_6 17) X hE hP 1 rfl 17 rfl (by decide) (by decide) rfl dX1_pass_86 ?_
        refine lv_iload_n hx hb dX1_pass_87 rfl (lv_at hl 2 rfl) ?_
        refine lv_isub hx hb dX1_pass_88 ?_
        refine va_mmax hx hb (X.2.2.1.trans hl.1.symm) X.2.2.2.1 (X.2.2.2.2 _ w_41) (X.2.2.2.2 _ w_42) (X.2.2.2.2 _ w_43) (X.2.2.2.2 _ w_44) (Nat.le_of_ble_eq_true rfl) (Nat.le_of_ble_eq_true rfl) (Nat.le_of_ble_eq_true rfl) (Nat.le_of_ble_eq_true rfl) dX1_pass_89 ?_
        refine k_ast X hE hP hD hS 1 rfl 17 rfl (by decide) (by decide) [(h0, .inr (1, [.ref hn, .ref h1, .ref h2, .ref h3, .ref h4])), (hn, .inl (cA, 34, .inl (upd f2_6 17 (if 0 < (f2_6 17) - (nI n0) then (f2_6 17) - (nI n0) else 0)))), (h1, .inl (cA, 64, .inl pn2_7)), (h2, .inl (cA, 16, .inl wt2_8)), (h3, .inl (cA, 900, .inl rg2_9)), (h4, .inl (cA, 200, .inl pa2_10))] rfl dX1_pass_92 (fun H locs hP hD hS => ?_)
        obtain ⟨g_14, eg_14⟩ : ∃ z, z = upd f2_6 17 (if 0 < (f2_6 17) - (nI n0) then (f2_6 17) - (nI n0) else 0) := ⟨_, rfl⟩
        rw [← eg_14] at hP hD
        have hg_14 := okN_upd hf_11 17 (if 0 < (f2_6 17) - (nI n0) then (f2_6 17) - (nI n0) else 0) (inR_any rfl)
        rw [← eg_14] at hg_14
        have hP : va_P D classes [(h0, .inr (1, [.ref hn, .ref h1, .ref h2, .ref h3, .ref h4])), (hn, .inl (cA, 34, .inl g_14)), (h1, .inl (cA, 64, .inl pn2_7)), (h2, .inl (cA, 16, .inl wt2_8)), (h3, .inl (cA, 900, .inl rg2_9)), (h4, .inl (cA, 200, .inl pa2_10))] H := hP
        have hD : va_D A [(h0, .inr (1, [.ref hn, .ref h1, .ref h2, .ref h3, .ref h4])), (hn, .inl (cA, 34, .inl g_14)), (h1, .inl (cA, 64, .inl pn2_7)), (h2, .inl (cA, 16, .inl wt2_8)), (h3, .inl (cA, 900, .inl rg2_9)), (h4, .inl (cA, 200, .inl pa2_10))] := hD
        refine lv_iload_n hx hb dX1_pass_93 rfl (lv_at hl 0 rfl) ?_
        exact endZ X hr rfl hlocks hP hD hS dX1_pass_94 ⟨g_14, pn2_7, wt2_8, rg2_9, pa2_10, 0, rfl, hg_14, hf_12, hf_13, (by omega), rfl⟩
      · skip
        refine lv_aload_n hx hb dX1_pass_56 rfl (lv_at hl 0 rfl) ?_
        refine k_get (C := RX1) (T := TX1) (N := 5) (ci := 1) (v := .ref hn) X hE hP 0 rfl rfl iX1 0 (by decide) w_1 rfl dX1_pass_57 ?_
        refine lv_bipush (v := 17) hx hb dX1_pass_60 (by decide) ?_
        refine k_ald (v := f2_6 17) X hE hP 1 rfl 17 rfl (by decide) (by decide) rfl dX1_pass_62 ?_
        refine lv_iload_n hx hb dX1_pass_63 rfl (lv_at hl 1 rfl) ?_
        refine lv_icmp_gt (tgt := 71) hx hb dX1_pass_64 (by decide) (fun c_64 => ?_) (fun c_64 => ?_)
        · skip
          refine lv_iconst (v := 0) hx hb dX1_pass_71 (by decide) ?_
          refine lv_istore_n (lv' := [(2, .int 0), (0, .ref h0), (1, .int (nI n0))]) hx hb dX1_pass_72 rfl hl (by decide) rfl (fun ls hl => ?_)
          refine lv_aload_n hx hb dX1_pass_73 rfl (lv_at hl 1 rfl) ?_
          refine k_get (C := RX1) (T := TX1) (N := 5) (ci := 1) (v := .ref hn) X hE hP 0 rfl rfl iX1 0 (by decide) w_1 rfl dX1_pass_74 ?_
          refine lv_bipush (v := 17) hx hb dX1_pass_77 (by decide) ?_
          refine lv_iconst (v := 0) hx hb dX1_pass_79 (by decide) ?_
          refine lv_aload_n hx hb dX1_pass_80 rfl (lv_at hl 1 rfl) ?_
          refine k_get (C := RX1) (T := TX1) (N := 5) (ci := 1) (v := .ref hn) X hE hP 0 rfl rfl iX1 0 (by decide) w_1 rfl dX1_pass_81 ?_
          refine lv_bipush (v := 17) hx hb dX1_pass_84 (by decide) ?_
          refine k_ald (v := f2_6 17) X hE hP 1 rfl 17 rfl (by decide) (by decide) rfl dX1_pass_86 ?_
          refine lv_iload_n hx hb dX1_pass_87 rfl (lv_at hl 2 rfl) ?_
          refine lv_isub hx hb dX1_pass_88 ?_
          refine va_mmax hx hb (X.2.2.1.trans hl.1.symm) X.2.2.2.1 (X.2.2.2.2 _ w_41) (X.2.2.2.2 _ w_42) (X.2.2.2.2 _ w_43) (X.2.2.2.2 _ w_44) (Nat.le_of_ble_eq_true rfl) (Nat.le_of_ble_eq_true rfl) (Nat.le_of_ble_eq_true rfl) (Nat.le_of_ble_eq_true rfl) dX1_pass_89 ?_
          refine k_ast X hE hP hD hS 1 rfl 17 rfl (by decide) (by decide) [(h0, .inr (1, [.ref hn, .ref h1, .ref h2, .ref h3, .ref h4])), (hn, .inl (cA, 34, .inl (upd f2_6 17 (if 0 < (f2_6 17) - (nI n0) then (f2_6 17) - (nI n0) else 0)))), (h1, .inl (cA, 64, .inl pn2_7)), (h2, .inl (cA, 16, .inl wt2_8)), (h3, .inl (cA, 900, .inl rg2_9)), (h4, .inl (cA, 200, .inl pa2_10))] rfl dX1_pass_92 (fun H locs hP hD hS => ?_)
          obtain ⟨g_15, eg_15⟩ : ∃ z, z = upd f2_6 17 (if 0 < (f2_6 17) - (nI n0) then (f2_6 17) - (nI n0) else 0) := ⟨_, rfl⟩
          rw [← eg_15] at hP hD
          have hg_15 := okN_upd hf_11 17 (if 0 < (f2_6 17) - (nI n0) then (f2_6 17) - (nI n0) else 0) (inR_any rfl)
          rw [← eg_15] at hg_15
          have hP : va_P D classes [(h0, .inr (1, [.ref hn, .ref h1, .ref h2, .ref h3, .ref h4])), (hn, .inl (cA, 34, .inl g_15)), (h1, .inl (cA, 64, .inl pn2_7)), (h2, .inl (cA, 16, .inl wt2_8)), (h3, .inl (cA, 900, .inl rg2_9)), (h4, .inl (cA, 200, .inl pa2_10))] H := hP
          have hD : va_D A [(h0, .inr (1, [.ref hn, .ref h1, .ref h2, .ref h3, .ref h4])), (hn, .inl (cA, 34, .inl g_15)), (h1, .inl (cA, 64, .inl pn2_7)), (h2, .inl (cA, 16, .inl wt2_8)), (h3, .inl (cA, 900, .inl rg2_9)), (h4, .inl (cA, 200, .inl pa2_10))] := hD
          refine lv_iload_n hx hb dX1_pass_93 rfl (lv_at hl 0 rfl) ?_
          exact endZ X hr rfl hlocks hP hD hS dX1_pass_94 ⟨g_15, pn2_7, wt2_8, rg2_9, pa2_10, 0, rfl, hg_15, hf_12, hf_13, (by omega), rfl⟩
        · skip
          refine lv_iconst (v := 1) hx hb dX1_pass_67 (by decide) ?_
          refine lv_goto (tgt := 72) hx hb dX1_pass_68 (by decide) ?_
          refine lv_istore_n (lv' := [(2, .int 1), (0, .ref h0), (1, .int (nI n0))]) hx hb dX1_pass_72 rfl hl (by decide) rfl (fun ls hl => ?_)
          refine lv_aload_n hx hb dX1_pass_73 rfl (lv_at hl 1 rfl) ?_
          refine k_get (C := RX1) (T := TX1) (N := 5) (ci := 1) (v := .ref hn) X hE hP 0 rfl rfl iX1 0 (by decide) w_1 rfl dX1_pass_74 ?_
          refine lv_bipush (v := 17) hx hb dX1_pass_77 (by decide) ?_
          refine lv_iconst (v := 0) hx hb dX1_pass_79 (by decide) ?_
          refine lv_aload_n hx hb dX1_pass_80 rfl (lv_at hl 1 rfl) ?_
          refine k_get (C := RX1) (T := TX1) (N := 5) (ci := 1) (v := .ref hn) X hE hP 0 rfl rfl iX1 0 (by decide) w_1 rfl dX1_pass_81 ?_
          refine lv_bipush (v := 17) hx hb dX1_pass_84 (by decide) ?_
          refine k_ald (v := f2_6 17) X hE hP 1 rfl 17 rfl (by decide) (by decide) rfl dX1_pass_86 ?_
          refine lv_iload_n hx hb dX1_pass_87 rfl (lv_at hl 2 rfl) ?_
          refine lv_isub hx hb dX1_pass_88 ?_
          refine va_mmax hx hb (X.2.2.1.trans hl.1.symm) X.2.2.2.1 (X.2.2.2.2 _ w_41) (X.2.2.2.2 _ w_42) (X.2.2.2.2 _ w_43) (X.2.2.2.2 _ w_44) (Nat.le_of_ble_eq_true rfl) (Nat.le_of_ble_eq_true rfl) (Nat.le_of_ble_eq_true rfl) (Nat.le_of_ble_eq_true rfl) dX1_pass_89 ?_
          refine k_ast X hE hP hD hS 1 rfl 17 rfl (by decide) (by decide) [(h0, .inr (1, [.ref hn, .ref h1, .ref h2, .ref h3, .ref h4])), (hn, .inl (cA, 34, .inl (upd f2_6 17 (if 0 < (f2_6 17) - (nI n0) then (f2_6 17) - (nI n0) else 0)))), (h1, .inl (cA, 64, .inl pn2_7)), (h2, .inl (cA, 16, .inl wt2_8)), (h3, .inl (cA, 900, .inl rg2_9)), (h4, .inl (cA, 200, .inl pa2_10))] rfl dX1_pass_92 (fun H locs hP hD hS => ?_)
          obtain ⟨g_16, eg_16⟩ : ∃ z, z = upd f2_6 17 (if 0 < (f2_6 17) - (nI n0) then (f2_6 17) - (nI n0) else 0) := ⟨_, rfl⟩
          rw [← eg_16] at hP hD
          have hg_16 := okN_upd hf_11 17 (if 0 < (f2_6 17) - (nI n0) then (f2_6 17) - (nI n0) else 0) (inR_any rfl)
          rw [← eg_16] at hg_16
          have hP : va_P D classes [(h0, .inr (1, [.ref hn, .ref h1, .ref h2, .ref h3, .ref h4])), (hn, .inl (cA, 34, .inl g_16)), (h1, .inl (cA, 64, .inl pn2_7)), (h2, .inl (cA, 16, .inl wt2_8)), (h3, .inl (cA, 900, .inl rg2_9)), (h4, .inl (cA, 200, .inl pa2_10))] H := hP
          have hD : va_D A [(h0, .inr (1, [.ref hn, .ref h1, .ref h2, .ref h3, .ref h4])), (hn, .inl (cA, 34, .inl g_16)), (h1, .inl (cA, 64, .inl pn2_7)), (h2, .inl (cA, 16, .inl wt2_8)), (h3, .inl (cA, 900, .inl rg2_9)), (h4, .inl (cA, 200, .inl pa2_10))] := hD
          refine lv_iload_n hx hb dX1_pass_93 rfl (lv_at hl 0 rfl) ?_
          exact endZ X hr rfl hlocks hP hD hS dX1_pass_94 ⟨g_16, pn2_7, wt2_8, rg2_9, pa2_10, 1, rfl, hg_16, hf_12, hf_13, (by omega), rfl⟩
    · have nc_33_5 : ¬ k_4 = 0 := fun q => c_33_5 ((nI_eq (a := k_4) (b := 0) (by omega) (by omega)).mpr q)
      refine lv_aload_n hx hb dX1_pass_36 rfl (lv_at hl 0 rfl) ?_
      refine lv_iload_n hx hb dX1_pass_37 rfl (lv_at hl 1 rfl) ?_
      refine kVv (n3 := 1) (As := [.int (nI n0)]) (rest := []) X hl.1 hE hP hD hS hA [(h0, .inr (1, [.ref hn, .ref h1, .ref h2, .ref h3, .ref h4])), (hn, .inl (cA, 34, .inl g_1)), (h1, .inl (cA, 64, .inl pn)), (h2, .inl (cA, 16, .inl wt)), (h3, .inl (cA, 900, .inl rg)), (h4, .inl (cA, 200, .inl pa))] [] [0, 1, 2, 3, 4, 5] [] rfl rfl rfl (by decide +kernel) (by decide +kernel) (by decide +kernel) (c_s_passDrum l D cA cB h0 hn h1 h2 h3 h4 g_1 pn wt rg pa n0 hg_1 hpn hwt (by first | assumption | decide | rfl | omega)) w_46 w_9 w_45 w_47 w_48 0 (ci := 1) (T := TX1) (N := 5) rfl rfl (by decide +kernel) rfl rfl (Nat.le_of_ble_eq_true rfl) ⟨(Nat.le_of_ble_eq_true rfl), (Nat.le_of_ble_eq_true rfl)⟩ ⟨(Nat.le_of_ble_eq_true rfl), (Nat.le_of_ble_eq_true rfl)⟩ dX1_pass_38 (fun W1 H locs hw hP hD hS => ?_)
      obtain ⟨f2_17, pn2_18, wt2_19, rg2_20, pa2_21, hf_22, hf_23, hf_24, rfl⟩ := hw
      have hP : va_P D classes [(h0, .inr (1, [.ref hn, .ref h1, .ref h2, .ref h3, .ref h4])), (hn, .inl (cA, 34, .inl f2_17)), (h1, .inl (cA, 64, .inl pn2_18)), (h2, .inl (cA, 16, .inl wt2_19)), (h3, .inl (cA, 900, .inl rg2_20)), (h4, .inl (cA, 200, .inl pa2_21))] H := hP
      have hD : va_D A [(h0, .inr (1, [.ref hn, .ref h1, .ref h2, .ref h3, .ref h4])), (hn, .inl (cA, 34, .inl f2_17)), (h1, .inl (cA, 64, .inl pn2_18)), (h2, .inl (cA, 16, .inl wt2_19)), (h3, .inl (cA, 900, .inl rg2_20)), (h4, .inl (cA, 200, .inl pa2_21))] := hD
      refine lv_aload_n hx hb dX1_pass_41 rfl (lv_at hl 0 rfl) ?_
      refine lv_iload_n hx hb dX1_pass_42 rfl (lv_at hl 1 rfl) ?_
      refine kVv (n3 := 1) (As := [.int (nI n0)]) (rest := []) X hl.1 hE hP hD hS hA [(h0, .inr (1, [.ref hn, .ref h1, .ref h2, .ref h3, .ref h4])), (hn, .inl (cA, 34, .inl f2_17)), (h1, .inl (cA, 64, .inl pn2_18)), (h2, .inl (cA, 16, .inl wt2_19)), (h3, .inl (cA, 900, .inl rg2_20)), (h4, .inl (cA, 200, .inl pa2_21))] [] [0, 1, 2, 3, 4, 5] [] rfl rfl rfl (by decide +kernel) (by decide +kernel) (by decide +kernel) (c_s_passBells l D cA cB h0 hn h1 h2 h3 h4 f2_17 pn2_18 wt2_19 rg2_20 pa2_21 n0 hf_22 hf_23 hf_24 (by first | assumption | decide | rfl | omega)) w_38 w_9 w_37 w_39 w_40 0 (ci := 1) (T := TX1) (N := 5) rfl rfl (by decide +kernel) rfl rfl (Nat.le_of_ble_eq_true rfl) ⟨(Nat.le_of_ble_eq_true rfl), (Nat.le_of_ble_eq_true rfl)⟩ ⟨(Nat.le_of_ble_eq_true rfl), (Nat.le_of_ble_eq_true rfl)⟩ dX1_pass_43 (fun W1 H locs hw hP hD hS => ?_)
      obtain ⟨f2_25, pn2_26, wt2_27, rg2_28, pa2_29, hf_30, hf_31, hf_32, rfl⟩ := hw
      have hP : va_P D classes [(h0, .inr (1, [.ref hn, .ref h1, .ref h2, .ref h3, .ref h4])), (hn, .inl (cA, 34, .inl f2_25)), (h1, .inl (cA, 64, .inl pn2_26)), (h2, .inl (cA, 16, .inl wt2_27)), (h3, .inl (cA, 900, .inl rg2_28)), (h4, .inl (cA, 200, .inl pa2_29))] H := hP
      have hD : va_D A [(h0, .inr (1, [.ref hn, .ref h1, .ref h2, .ref h3, .ref h4])), (hn, .inl (cA, 34, .inl f2_25)), (h1, .inl (cA, 64, .inl pn2_26)), (h2, .inl (cA, 16, .inl wt2_27)), (h3, .inl (cA, 900, .inl rg2_28)), (h4, .inl (cA, 200, .inl pa2_29))] := hD
      refine lv_aload_n hx hb dX1_pass_46 rfl (lv_at hl 0 rfl) ?_
      refine k_get (C := RX1) (T := TX1) (N := 5) (ci := 1) (v := .ref hn) X hE hP 0 rfl rfl iX1 0 (by decide) w_1 rfl dX1_pass_47 ?_
      refine lv_bipush (v := 17) hx hb dX1_pass_50 (by decide) ?_
      refine k_ald (v := f2_25 17) X hE hP 1 rfl 17 rfl (by decide) (by decide) rfl dX1_pass_52 ?_
      refine lv_if_le (tgt := 71) hx hb dX1_pass_53 (by decide) (fun c_53 => ?_) (fun c_53 => ?_)
      · skip
        refine lv_iconst (v := 0) hx hb dX1_pass_71 (by decide) ?_
        refine lv_istore_n (lv' := [(2, .int 0), (0, .ref h0), (1, .int (nI n0))]) hx hb dX1_pass_72 rfl hl (by decide) rfl (fun ls hl => ?_)
        refine lv_aload_n hx hb dX1_pass_73 rfl (lv_at hl 1 rfl) ?_
        refine k_get (C := RX1) (T := TX1) (N := 5) (ci := 1) (v := .ref hn) X hE hP 0 rfl rfl iX1 0 (by decide) w_1 rfl dX1_pass_74 ?_
        refine lv_bipush (v := 17) hx hb dX1_pass_77 (by decide) ?_
        refine lv_iconst (v := 0) hx hb dX1_pass_79 (by decide) ?_
        refine lv_aload_n hx hb dX1_pass_80 rfl (lv_at hl 1 rfl) ?_
        refine k_get (C := RX1) (T := TX1) (N := 5) (ci := 1) (v := .ref hn) X hE hP 0 rfl rfl iX1 0 (by decide) w_1 rfl dX1_pass_81 ?_
        refine lv_bipush (v := 17) hx hb dX1_pass_84 (by decide) ?_
        refine k_ald (v := f2_25 17) X hE hP 1 rfl 17 rfl (by decide) (by decide) rfl dX1_pass_86 ?_
        refine lv_iload_n hx hb dX1_pass_87 rfl (lv_at hl 2 rfl) ?_
        refine lv_isub hx hb dX1_pass_88 ?_
        refine va_mmax hx hb (X.2.2.1.trans hl.1.symm) X.2.2.2.1 (X.2.2.2.2 _ w_41) (X.2.2.2.2 _ w_42) (X.2.2.2.2 _ w_43) (X.2.2.2.2 _ w_44) (Nat.le_of_ble_eq_true rfl) (Nat.le_of_ble_eq_true rfl) (Nat.le_of_ble_eq_true rfl) (Nat.le_of_ble_eq_true rfl) dX1_pass_89 ?_
        refine k_ast X hE hP hD hS 1 rfl 17 rfl (by decide) (by decide) [(h0, .inr (1, [.ref hn, .ref h1, .ref h2, .ref h3, .ref h4])), (hn, .inl (cA, 34, .inl (upd f2_25 17 (if 0 < (f2_25 17) - (nI n0) then (f2_25 17) - (nI n0) else 0)))), (h1, .inl (cA, 64, .inl pn2_26)), (h2, .inl (cA, 16, .inl wt2_27)), (h3, .inl (cA, 900, .inl rg2_28)), (h4, .inl (cA, 200, .inl pa2_29))] rfl dX1_pass_92 (fun H locs hP hD hS => ?_)
        obtain ⟨g_33, eg_33⟩ : ∃ z, z = upd f2_25 17 (if 0 < (f2_25 17) - (nI n0) then (f2_25 17) - (nI n0) else 0) := ⟨_, rfl⟩
        rw [← eg_33] at hP hD
        have hg_33 := okN_upd hf_30 17 (if 0 < (f2_25 17) - (nI n0) then (f2_25 17) - (nI n0) else 0) (inR_any rfl)
        rw [← eg_33] at hg_33
        have hP : va_P D classes [(h0, .inr (1, [.ref hn, .ref h1, .ref h2, .ref h3, .ref h4])), (hn, .inl (cA, 34, .inl g_33)), (h1, .inl (cA, 64, .inl pn2_26)), (h2, .inl (cA, 16, .inl wt2_27)), (h3, .inl (cA, 900, .inl rg2_28)), (h4, .inl (cA, 200, .inl pa2_29))] H := hP
        have hD : va_D A [(h0, .inr (1, [.ref hn, .ref h1, .ref h2, .ref h3, .ref h4])), (hn, .inl (cA, 34, .inl g_33)), (h1, .inl (cA, 64, .inl pn2_26)), (h2, .inl (cA, 16, .inl wt2_27)), (h3, .inl (cA, 900, .inl rg2_28)), (h4, .inl (cA, 200, .inl pa2_29))] := hD
        refine lv_iload_n hx hb dX1_pass_93 rfl (lv_at hl 0 rfl) ?_
        exact endZ X hr rfl hlocks hP hD hS dX1_pass_94 ⟨g_33, pn2_26, wt2_27, rg2_28, pa2_29, 0, rfl, hg_33, hf_31, hf_32, (by omega), rfl⟩
      · skip
        refine lv_aload_n hx hb dX1_pass_56 rfl (lv_at hl 0 rfl) ?_
        refine k_get (C := RX1) (T := TX1) (N := 5) (ci := 1) (v := .ref hn) X hE hP 0 rfl rfl iX1 0 (by decide) w_1 rfl dX1_pass_57 ?_
        refine lv_bipush (v := 17) hx hb dX1_pass_60 (by decide) ?_
        refine k_ald (v := f2_25 17) X hE hP 1 rfl 17 rfl (by decide) (by decide) rfl dX1_pass_62 ?_
        refine lv_iload_n hx hb dX1_pass_63 rfl (lv_at hl 1 rfl) ?_
        refine lv_icmp_gt (tgt := 71) hx hb dX1_pass_64 (by decide) (fun c_64 => ?_) (fun c_64 => ?_)
        · skip
          refine lv_iconst (v := 0) hx hb dX1_pass_71 (by decide) ?_
          refine lv_istore_n (lv' := [(2, .int 0), (0, .ref h0), (1, .int (nI n0))]) hx hb dX1_pass_72 rfl hl (by decide) rfl (fun ls hl => ?_)
          refine lv_aload_n hx hb dX1_pass_73 rfl (lv_at hl 1 rfl) ?_
          refine k_get (C := RX1) (T := TX1) (N := 5) (ci := 1) (v := .ref hn) X hE hP 0 rfl rfl iX1 0 (by decide) w_1 rfl dX1_pass_74 ?_
          refine lv_bipush (v := 17) hx hb dX1_pass_77 (by decide) ?_
          refine lv_iconst (v := 0) hx hb dX1_pass_79 (by decide) ?_
          refine lv_aload_n hx hb dX1_pass_80 rfl (lv_at hl 1 rfl) ?_
          refine k_get (C := RX1) (T := TX1) (N := 5) (ci := 1) (v := .ref hn) X hE hP 0 rfl rfl iX1 0 (by decide) w_1 rfl dX1_pass_81 ?_
          refine lv_bipush (v := 17) hx hb dX1_pass_84 (by decide) ?_
          refine k_ald (v := f2_25 17) X hE hP 1 rfl 17 rfl (by decide) (by decide) rfl dX1_pass_86 ?_
          refine lv_iload_n hx hb dX1_pass_87 rfl (lv_at hl 2 rfl) ?_
          refine lv_isub hx hb dX1_pass_88 ?_
          refine va_mmax hx hb (X.2.2.1.trans hl.1.symm) X.2.2.2.1 (X.2.2.2.2 _ w_41) (X.2.2.2.2 _ w_42) (X.2.2.2.2 _ w_43) (X.2.2.2.2 _ w_44) (Nat.le_of_ble_eq_true rfl) (Nat.le_of_ble_eq_true rfl) (Nat.le_of_ble_eq_true rfl) (Nat.le_of_ble_eq_true rfl) dX1_pass_89 ?_
          refine k_ast X hE hP hD hS 1 rfl 17 rfl (by decide) (by decide) [(h0, .inr (1, [.ref hn, .ref h1, .ref h2, .ref h3, .ref h4])), (hn, .inl (cA, 34, .inl (upd f2_25 17 (if 0 < (f2_25 17) - (nI n0) then (f2_25 17) - (nI n0) else 0)))), (h1, .inl (cA, 64, .inl pn2_26)), (h2, .inl (cA, 16, .inl wt2_27)), (h3, .inl (cA, 900, .inl rg2_28)), (h4, .inl (cA, 200, .inl pa2_29))] rfl dX1_pass_92 (fun H locs hP hD hS => ?_)
          obtain ⟨g_34, eg_34⟩ : ∃ z, z = upd f2_25 17 (if 0 < (f2_25 17) - (nI n0) then (f2_25 17) - (nI n0) else 0) := ⟨_, rfl⟩
          rw [← eg_34] at hP hD
          have hg_34 := okN_upd hf_30 17 (if 0 < (f2_25 17) - (nI n0) then (f2_25 17) - (nI n0) else 0) (inR_any rfl)
          rw [← eg_34] at hg_34
          have hP : va_P D classes [(h0, .inr (1, [.ref hn, .ref h1, .ref h2, .ref h3, .ref h4])), (hn, .inl (cA, 34, .inl g_34)), (h1, .inl (cA, 64, .inl pn2_26)), (h2, .inl (cA, 16, .inl wt2_27)), (h3, .inl (cA, 900, .inl rg2_28)), (h4, .inl (cA, 200, .inl pa2_29))] H := hP
          have hD : va_D A [(h0, .inr (1, [.ref hn, .ref h1, .ref h2, .ref h3, .ref h4])), (hn, .inl (cA, 34, .inl g_34)), (h1, .inl (cA, 64, .inl pn2_26)), (h2, .inl (cA, 16, .inl wt2_27)), (h3, .inl (cA, 900, .inl rg2_28)), (h4, .inl (cA, 200, .inl pa2_29))] := hD
          refine lv_iload_n hx hb dX1_pass_93 rfl (lv_at hl 0 rfl) ?_
          exact endZ X hr rfl hlocks hP hD hS dX1_pass_94 ⟨g_34, pn2_26, wt2_27, rg2_28, pa2_29, 0, rfl, hg_34, hf_31, hf_32, (by omega), rfl⟩
        · skip
          refine lv_iconst (v := 1) hx hb dX1_pass_67 (by decide) ?_
          refine lv_goto (tgt := 72) hx hb dX1_pass_68 (by decide) ?_
          refine lv_istore_n (lv' := [(2, .int 1), (0, .ref h0), (1, .int (nI n0))]) hx hb dX1_pass_72 rfl hl (by decide) rfl (fun ls hl => ?_)
          refine lv_aload_n hx hb dX1_pass_73 rfl (lv_at hl 1 rfl) ?_
          refine k_get (C := RX1) (T := TX1) (N := 5) (ci := 1) (v := .ref hn) X hE hP 0 rfl rfl iX1 0 (by decide) w_1 rfl dX1_pass_74 ?_
          refine lv_bipush (v := 17) hx hb dX1_pass_77 (by decide) ?_
          refine lv_iconst (v := 0) hx hb dX1_pass_79 (by decide) ?_
          refine lv_aload_n hx hb dX1_pass_80 rfl (lv_at hl 1 rfl) ?_
          refine k_get (C := RX1) (T := TX1) (N := 5) (ci := 1) (v := .ref hn) X hE hP 0 rfl rfl iX1 0 (by decide) w_1 rfl dX1_pass_81 ?_
          refine lv_bipush (v := 17) hx hb dX1_pass_84 (by decide) ?_
          refine k_ald (v := f2_25 17) X hE hP 1 rfl 17 rfl (by decide) (by decide) rfl dX1_pass_86 ?_
          refine lv_iload_n hx hb dX1_pass_87 rfl (lv_at hl 2 rfl) ?_
          refine lv_isub hx hb dX1_pass_88 ?_
          refine va_mmax hx hb (X.2.2.1.trans hl.1.symm) X.2.2.2.1 (X.2.2.2.2 _ w_41) (X.2.2.2.2 _ w_42) (X.2.2.2.2 _ w_43) (X.2.2.2.2 _ w_44) (Nat.le_of_ble_eq_true rfl) (Nat.le_of_ble_eq_true rfl) (Nat.le_of_ble_eq_true rfl) (Nat.le_of_ble_eq_true rfl) dX1_pass_89 ?_
          refine k_ast X hE hP hD hS 1 rfl 17 rfl (by decide) (by decide) [(h0, .inr (1, [.ref hn, .ref h1, .ref h2, .ref h3, .ref h4])), (hn, .inl (cA, 34, .inl (upd f2_25 17 (if 0 < (f2_25 17) - (nI n0) then (f2_25 17) - (nI n0) else 0)))), (h1, .inl (cA, 64, .inl pn2_26)), (h2, .inl (cA, 16, .inl wt2_27)), (h3, .inl (cA, 900, .inl rg2_28)), (h4, .inl (cA, 200, .inl pa2_29))] rfl dX1_pass_92 (fun H locs hP hD hS => ?_)
          obtain ⟨g_35, eg_35⟩ : ∃ z, z = upd f2_25 17 (if 0 < (f2_25 17) - (nI n0) then (f2_25 17) - (nI n0) else 0) := ⟨_, rfl⟩
          rw [← eg_35] at hP hD
          have hg_35 := okN_upd hf_30 17 (if 0 < (f2_25 17) - (nI n0) then (f2_25 17) - (nI n0) else 0) (inR_any rfl)
          rw [← eg_35] at hg_35
          have hP : va_P D classes [(h0, .inr (1, [.ref hn, .ref h1, .ref h2, .ref h3, .ref h4])), (hn, .inl (cA, 34, .inl g_35)), (h1, .inl (cA, 64, .inl pn2_26)), (h2, .inl (cA, 16, .inl wt2_27)), (h3, .inl (cA, 900, .inl rg2_28)), (h4, .inl (cA, 200, .inl pa2_29))] H := hP
          have hD : va_D A [(h0, .inr (1, [.ref hn, .ref h1, .ref h2, .ref h3, .ref h4])), (hn, .inl (cA, 34, .inl g_35)), (h1, .inl (cA, 64, .inl pn2_26)), (h2, .inl (cA, 16, .inl wt2_27)), (h3, .inl (cA, 900, .inl rg2_28)), (h4, .inl (cA, 200, .inl pa2_29))] := hD
          refine lv_iload_n hx hb dX1_pass_93 rfl (lv_at hl 0 rfl) ?_
          exact endZ X hr rfl hlocks hP hD hS dX1_pass_94 ⟨g_35, pn2_26, wt2_27, rg2_28, pa2_29, 1, rfl, hg_35, hf_31, hf_32, (by omega), rfl⟩
  · have nc_18_3 : ¬ k_2 = 0 := fun q => c_18_3 ((nI_eq (a := k_2) (b := 0) (by omega) (by omega)).mpr q)
    refine lv_aload_n hx hb dX1_pass_21 rfl (lv_at hl 0 rfl) ?_
    refine lv_iload_n hx hb dX1_pass_22 rfl (lv_at hl 1 rfl) ?_
    refine kVv (n3 := 1) (As := [.int (nI n0)]) (rest := []) X hl.1 hE hP hD hS hA [(h0, .inr (1, [.ref hn, .ref h1, .ref h2, .ref h3, .ref h4])), (hn, .inl (cA, 34, .inl g_1)), (h1, .inl (cA, 64, .inl pn)), (h2, .inl (cA, 16, .inl wt)), (h3, .inl (cA, 900, .inl rg)), (h4, .inl (cA, 200, .inl pa))] [] [0, 1, 2, 3, 4, 5] [] rfl rfl rfl (by decide +kernel) (by decide +kernel) (by decide +kernel) (c_s_passClock l D cA cB h0 hn h1 h2 h3 h4 g_1 pn wt rg pa n0 hg_1 hpn hwt (by first | assumption | decide | rfl | omega)) w_50 w_9 w_49 w_51 w_52 0 (ci := 1) (T := TX1) (N := 5) rfl rfl (by decide +kernel) rfl rfl (Nat.le_of_ble_eq_true rfl) ⟨(Nat.le_of_ble_eq_true rfl), (Nat.le_of_ble_eq_true rfl)⟩ ⟨(Nat.le_of_ble_eq_true rfl), (Nat.le_of_ble_eq_true rfl)⟩ dX1_pass_23 (fun W1 H locs hw hP hD hS => ?_)
    obtain ⟨f2_36, pn2_37, wt2_38, rg2_39, pa2_40, hf_41, hf_42, hf_43, rfl⟩ := hw
    have hP : va_P D classes [(h0, .inr (1, [.ref hn, .ref h1, .ref h2, .ref h3, .ref h4])), (hn, .inl (cA, 34, .inl f2_36)), (h1, .inl (cA, 64, .inl pn2_37)), (h2, .inl (cA, 16, .inl wt2_38)), (h3, .inl (cA, 900, .inl rg2_39)), (h4, .inl (cA, 200, .inl pa2_40))] H := hP
    have hD : va_D A [(h0, .inr (1, [.ref hn, .ref h1, .ref h2, .ref h3, .ref h4])), (hn, .inl (cA, 34, .inl f2_36)), (h1, .inl (cA, 64, .inl pn2_37)), (h2, .inl (cA, 16, .inl wt2_38)), (h3, .inl (cA, 900, .inl rg2_39)), (h4, .inl (cA, 200, .inl pa2_40))] := hD
    refine lv_aload_n hx hb dX1_pass_26 rfl (lv_at hl 0 rfl) ?_
    refine k_get (C := RX1) (T := TX1) (N := 5) (ci := 1) (v := .ref hn) X hE hP 0 rfl rfl iX1 0 (by decide) w_1 rfl dX1_pass_27 ?_
    refine lv_bipush (v := 11) hx hb dX1_pass_30 (by decide) ?_
    obtain ⟨k_44, hk_44, ek_44⟩ := hf_41.at 11 2 (by decide) rfl
    refine k_ald (v := nI k_44) X hE hP 1 rfl 11 rfl (by decide) (by decide) ek_44 dX1_pass_32 ?_
    refine lv_if_eq (tgt := 41) hx hb dX1_pass_33 (by decide) (fun c_33_45 => ?_) (fun c_33_45 => ?_)
    · have nc_33_45 : k_44 = 0 := (nI_eq (a := k_44) (b := 0) (by omega) (by omega)).mp c_33_45
      refine lv_aload_n hx hb dX1_pass_41 rfl (lv_at hl 0 rfl) ?_
      refine lv_iload_n hx hb dX1_pass_42 rfl (lv_at hl 1 rfl) ?_
      refine kVv (n3 := 1) (As := [.int (nI n0)]) (rest := []) X hl.1 hE hP hD hS hA [(h0, .inr (1, [.ref hn, .ref h1, .ref h2, .ref h3, .ref h4])), (hn, .inl (cA, 34, .inl f2_36)), (h1, .inl (cA, 64, .inl pn2_37)), (h2, .inl (cA, 16, .inl wt2_38)), (h3, .inl (cA, 900, .inl rg2_39)), (h4, .inl (cA, 200, .inl pa2_40))] [] [0, 1, 2, 3, 4, 5] [] rfl rfl rfl (by decide +kernel) (by decide +kernel) (by decide +kernel) (c_s_passBells l D cA cB h0 hn h1 h2 h3 h4 f2_36 pn2_37 wt2_38 rg2_39 pa2_40 n0 hf_41 hf_42 hf_43 (by first | assumption | decide | rfl | omega)) w_38 w_9 w_37 w_39 w_40 0 (ci := 1) (T := TX1) (N := 5) rfl rfl (by decide +kernel) rfl rfl (Nat.le_of_ble_eq_true rfl) ⟨(Nat.le_of_ble_eq_true rfl), (Nat.le_of_ble_eq_true rfl)⟩ ⟨(Nat.le_of_ble_eq_true rfl), (Nat.le_of_ble_eq_true rfl)⟩ dX1_pass_43 (fun W1 H locs hw hP hD hS => ?_)
      obtain ⟨f2_46, pn2_47, wt2_48, rg2_49, pa2_50, hf_51, hf_52, hf_53, rfl⟩ := hw
      have hP : va_P D classes [(h0, .inr (1, [.ref hn, .ref h1, .ref h2, .ref h3, .ref h4])), (hn, .inl (cA, 34, .inl f2_46)), (h1, .inl (cA, 64, .inl pn2_47)), (h2, .inl (cA, 16, .inl wt2_48)), (h3, .inl (cA, 900, .inl rg2_49)), (h4, .inl (cA, 200, .inl pa2_50))] H := hP
      have hD : va_D A [(h0, .inr (1, [.ref hn, .ref h1, .ref h2, .ref h3, .ref h4])), (hn, .inl (cA, 34, .inl f2_46)), (h1, .inl (cA, 64, .inl pn2_47)), (h2, .inl (cA, 16, .inl wt2_48)), (h3, .inl (cA, 900, .inl rg2_49)), (h4, .inl (cA, 200, .inl pa2_50))] := hD
      refine lv_aload_n hx hb dX1_pass_46 rfl (lv_at hl 0 rfl) ?_
      refine k_get (C := RX1) (T := TX1) (N := 5) (ci := 1) (v := .ref hn) X hE hP 0 rfl rfl iX1 0 (by decide) w_1 rfl dX1_pass_47 ?_
      refine lv_bipush (v := 17) hx hb dX1_pass_50 (by decide) ?_
      refine k_ald (v := f2_46 17) X hE hP 1 rfl 17 rfl (by decide) (by decide) rfl dX1_pass_52 ?_
      refine lv_if_le (tgt := 71) hx hb dX1_pass_53 (by decide) (fun c_53 => ?_) (fun c_53 => ?_)
      · skip
        refine lv_iconst (v := 0) hx hb dX1_pass_71 (by decide) ?_
        refine lv_istore_n (lv' := [(2, .int 0), (0, .ref h0), (1, .int (nI n0))]) hx hb dX1_pass_72 rfl hl (by decide) rfl (fun ls hl => ?_)
        refine lv_aload_n hx hb dX1_pass_73 rfl (lv_at hl 1 rfl) ?_
        refine k_get (C := RX1) (T := TX1) (N := 5) (ci := 1) (v := .ref hn) X hE hP 0 rfl rfl iX1 0 (by decide) w_1 rfl dX1_pass_74 ?_
        refine lv_bipush (v := 17) hx hb dX1_pass_77 (by decide) ?_
        refine lv_iconst (v := 0) hx hb dX1_pass_79 (by decide) ?_
        refine lv_aload_n hx hb dX1_pass_80 rfl (lv_at hl 1 rfl) ?_
        refine k_get (C := RX1) (T := TX1) (N := 5) (ci := 1) (v := .ref hn) X hE hP 0 rfl rfl iX1 0 (by decide) w_1 rfl dX1_pass_81 ?_
        refine lv_bipush (v := 17) hx hb dX1_pass_84 (by decide) ?_
        refine k_ald (v := f2_46 17) X hE hP 1 rfl 17 rfl (by decide) (by decide) rfl dX1_pass_86 ?_
        refine lv_iload_n hx hb dX1_pass_87 rfl (lv_at hl 2 rfl) ?_
        refine lv_isub hx hb dX1_pass_88 ?_
        refine va_mmax hx hb (X.2.2.1.trans hl.1.symm) X.2.2.2.1 (X.2.2.2.2 _ w_41) (X.2.2.2.2 _ w_42) (X.2.2.2.2 _ w_43) (X.2.2.2.2 _ w_44) (Nat.le_of_ble_eq_true rfl) (Nat.le_of_ble_eq_true rfl) (Nat.le_of_ble_eq_true rfl) (Nat.le_of_ble_eq_true rfl) dX1_pass_89 ?_
        refine k_ast X hE hP hD hS 1 rfl 17 rfl (by decide) (by decide) [(h0, .inr (1, [.ref hn, .ref h1, .ref h2, .ref h3, .ref h4])), (hn, .inl (cA, 34, .inl (upd f2_46 17 (if 0 < (f2_46 17) - (nI n0) then (f2_46 17) - (nI n0) else 0)))), (h1, .inl (cA, 64, .inl pn2_47)), (h2, .inl (cA, 16, .inl wt2_48)), (h3, .inl (cA, 900, .inl rg2_49)), (h4, .inl (cA, 200, .inl pa2_50))] rfl dX1_pass_92 (fun H locs hP hD hS => ?_)
        obtain ⟨g_54, eg_54⟩ : ∃ z, z = upd f2_46 17 (if 0 < (f2_46 17) - (nI n0) then (f2_46 17) - (nI n0) else 0) := ⟨_, rfl⟩
        rw [← eg_54] at hP hD
        have hg_54 := okN_upd hf_51 17 (if 0 < (f2_46 17) - (nI n0) then (f2_46 17) - (nI n0) else 0) (inR_any rfl)
        rw [← eg_54] at hg_54
        have hP : va_P D classes [(h0, .inr (1, [.ref hn, .ref h1, .ref h2, .ref h3, .ref h4])), (hn, .inl (cA, 34, .inl g_54)), (h1, .inl (cA, 64, .inl pn2_47)), (h2, .inl (cA, 16, .inl wt2_48)), (h3, .inl (cA, 900, .inl rg2_49)), (h4, .inl (cA, 200, .inl pa2_50))] H := hP
        have hD : va_D A [(h0, .inr (1, [.ref hn, .ref h1, .ref h2, .ref h3, .ref h4])), (hn, .inl (cA, 34, .inl g_54)), (h1, .inl (cA, 64, .inl pn2_47)), (h2, .inl (cA, 16, .inl wt2_48)), (h3, .inl (cA, 900, .inl rg2_49)), (h4, .inl (cA, 200, .inl pa2_50))] := hD
        refine lv_iload_n hx hb dX1_pass_93 rfl (lv_at hl 0 rfl) ?_
        exact endZ X hr rfl hlocks hP hD hS dX1_pass_94 ⟨g_54, pn2_47, wt2_48, rg2_49, pa2_50, 0, rfl, hg_54, hf_52, hf_53, (by omega), rfl⟩
      · skip
        refine lv_aload_n hx hb dX1_pass_56 rfl (lv_at hl 0 rfl) ?_
        refine k_get (C := RX1) (T := TX1) (N := 5) (ci := 1) (v := .ref hn) X hE hP 0 rfl rfl iX1 0 (by decide) w_1 rfl dX1_pass_57 ?_
        refine lv_bipush (v := 17) hx hb dX1_pass_60 (by decide) ?_
        refine k_ald (v := f2_46 17) X hE hP 1 rfl 17 rfl (by decide) (by decide) rfl dX1_pass_62 ?_
        refine lv_iload_n hx hb dX1_pass_63 rfl (lv_at hl 1 rfl) ?_
        refine lv_icmp_gt (tgt := 71) hx hb dX1_pass_64 (by decide) (fun c_64 => ?_) (fun c_64 => ?_)
        · skip
          refine lv_iconst (v := 0) hx hb dX1_pass_71 (by decide) ?_
          refine lv_istore_n (lv' := [(2, .int 0), (0, .ref h0), (1, .int (nI n0))]) hx hb dX1_pass_72 rfl hl (by decide) rfl (fun ls hl => ?_)
          refine lv_aload_n hx hb dX1_pass_73 rfl (lv_at hl 1 rfl) ?_
          refine k_get (C := RX1) (T := TX1) (N := 5) (ci := 1) (v := .ref hn) X hE hP 0 rfl rfl iX1 0 (by decide) w_1 rfl dX1_pass_74 ?_
          refine lv_bipush (v := 17) hx hb dX1_pass_77 (by decide) ?_
          refine lv_iconst (v := 0) hx hb dX1_pass_79 (by decide) ?_
          refine lv_aload_n hx hb dX1_pass_80 rfl (lv_at hl 1 rfl) ?_
          refine k_get (C := RX1) (T := TX1) (N := 5) (ci := 1) (v := .ref hn) X hE hP 0 rfl rfl iX1 0 (by decide) w_1 rfl dX1_pass_81 ?_
          refine lv_bipush (v := 17) hx hb dX1_pass_84 (by decide) ?_
          refine k_ald (v := f2_46 17) X hE hP 1 rfl 17 rfl (by decide) (by decide) rfl dX1_pass_86 ?_
          refine lv_iload_n hx hb dX1_pass_87 rfl (lv_at hl 2 rfl) ?_
          refine lv_isub hx hb dX1_pass_88 ?_
          refine va_mmax hx hb (X.2.2.1.trans hl.1.symm) X.2.2.2.1 (X.2.2.2.2 _ w_41) (X.2.2.2.2 _ w_42) (X.2.2.2.2 _ w_43) (X.2.2.2.2 _ w_44) (Nat.le_of_ble_eq_true rfl) (Nat.le_of_ble_eq_true rfl) (Nat.le_of_ble_eq_true rfl) (Nat.le_of_ble_eq_true rfl) dX1_pass_89 ?_
          refine k_ast X hE hP hD hS 1 rfl 17 rfl (by decide) (by decide) [(h0, .inr (1, [.ref hn, .ref h1, .ref h2, .ref h3, .ref h4])), (hn, .inl (cA, 34, .inl (upd f2_46 17 (if 0 < (f2_46 17) - (nI n0) then (f2_46 17) - (nI n0) else 0)))), (h1, .inl (cA, 64, .inl pn2_47)), (h2, .inl (cA, 16, .inl wt2_48)), (h3, .inl (cA, 900, .inl rg2_49)), (h4, .inl (cA, 200, .inl pa2_50))] rfl dX1_pass_92 (fun H locs hP hD hS => ?_)
          obtain ⟨g_55, eg_55⟩ : ∃ z, z = upd f2_46 17 (if 0 < (f2_46 17) - (nI n0) then (f2_46 17) - (nI n0) else 0) := ⟨_, rfl⟩
          rw [← eg_55] at hP hD
          have hg_55 := okN_upd hf_51 17 (if 0 < (f2_46 17) - (nI n0) then (f2_46 17) - (nI n0) else 0) (inR_any rfl)
          rw [← eg_55] at hg_55
          have hP : va_P D classes [(h0, .inr (1, [.ref hn, .ref h1, .ref h2, .ref h3, .ref h4])), (hn, .inl (cA, 34, .inl g_55)), (h1, .inl (cA, 64, .inl pn2_47)), (h2, .inl (cA, 16, .inl wt2_48)), (h3, .inl (cA, 900, .inl rg2_49)), (h4, .inl (cA, 200, .inl pa2_50))] H := hP
          have hD : va_D A [(h0, .inr (1, [.ref hn, .ref h1, .ref h2, .ref h3, .ref h4])), (hn, .inl (cA, 34, .inl g_55)), (h1, .inl (cA, 64, .inl pn2_47)), (h2, .inl (cA, 16, .inl wt2_48)), (h3, .inl (cA, 900, .inl rg2_49)), (h4, .inl (cA, 200, .inl pa2_50))] := hD
          refine lv_iload_n hx hb dX1_pass_93 rfl (lv_at hl 0 rfl) ?_
          exact endZ X hr rfl hlocks hP hD hS dX1_pass_94 ⟨g_55, pn2_47, wt2_48, rg2_49, pa2_50, 0, rfl, hg_55, hf_52, hf_53, (by omega), rfl⟩
        · skip
          refine lv_iconst (v := 1) hx hb dX1_pass_67 (by decide) ?_
          refine lv_goto (tgt := 72) hx hb dX1_pass_68 (by decide) ?_
          refine lv_istore_n (lv' := [(2, .int 1), (0, .ref h0), (1, .int (nI n0))]) hx hb dX1_pass_72 rfl hl (by decide) rfl (fun ls hl => ?_)
          refine lv_aload_n hx hb dX1_pass_73 rfl (lv_at hl 1 rfl) ?_
          refine k_get (C := RX1) (T := TX1) (N := 5) (ci := 1) (v := .ref hn) X hE hP 0 rfl rfl iX1 0 (by decide) w_1 rfl dX1_pass_74 ?_
          refine lv_bipush (v := 17) hx hb dX1_pass_77 (by decide) ?_
          refine lv_iconst (v := 0) hx hb dX1_pass_79 (by decide) ?_
          refine lv_aload_n hx hb dX1_pass_80 rfl (lv_at hl 1 rfl) ?_
          refine k_get (C := RX1) (T := TX1) (N := 5) (ci := 1) (v := .ref hn) X hE hP 0 rfl rfl iX1 0 (by decide) w_1 rfl dX1_pass_81 ?_
          refine lv_bipush (v := 17) hx hb dX1_pass_84 (by decide) ?_
          refine k_ald (v := f2_46 17) X hE hP 1 rfl 17 rfl (by decide) (by decide) rfl dX1_pass_86 ?_
          refine lv_iload_n hx hb dX1_pass_87 rfl (lv_at hl 2 rfl) ?_
          refine lv_isub hx hb dX1_pass_88 ?_
          refine va_mmax hx hb (X.2.2.1.trans hl.1.symm) X.2.2.2.1 (X.2.2.2.2 _ w_41) (X.2.2.2.2 _ w_42) (X.2.2.2.2 _ w_43) (X.2.2.2.2 _ w_44) (Nat.le_of_ble_eq_true rfl) (Nat.le_of_ble_eq_true rfl) (Nat.le_of_ble_eq_true rfl) (Nat.le_of_ble_eq_true rfl) dX1_pass_89 ?_
          refine k_ast X hE hP hD hS 1 rfl 17 rfl (by decide) (by decide) [(h0, .inr (1, [.ref hn, .ref h1, .ref h2, .ref h3, .ref h4])), (hn, .inl (cA, 34, .inl (upd f2_46 17 (if 0 < (f2_46 17) - (nI n0) then (f2_46 17) - (nI n0) else 0)))), (h1, .inl (cA, 64, .inl pn2_47)), (h2, .inl (cA, 16, .inl wt2_48)), (h3, .inl (cA, 900, .inl rg2_49)), (h4, .inl (cA, 200, .inl pa2_50))] rfl dX1_pass_92 (fun H locs hP hD hS => ?_)
          obtain ⟨g_56, eg_56⟩ : ∃ z, z = upd f2_46 17 (if 0 < (f2_46 17) - (nI n0) then (f2_46 17) - (nI n0) else 0) := ⟨_, rfl⟩
          rw [← eg_56] at hP hD
          have hg_56 := okN_upd hf_51 17 (if 0 < (f2_46 17) - (nI n0) then (f2_46 17) - (nI n0) else 0) (inR_any rfl)
          rw [← eg_56] at hg_56
          have hP : va_P D classes [(h0, .inr (1, [.ref hn, .ref h1, .ref h2, .ref h3, .ref h4])), (hn, .inl (cA, 34, .inl g_56)), (h1, .inl (cA, 64, .inl pn2_47)), (h2, .inl (cA, 16, .inl wt2_48)), (h3, .inl (cA, 900, .inl rg2_49)), (h4, .inl (cA, 200, .inl pa2_50))] H := hP
          have hD : va_D A [(h0, .inr (1, [.ref hn, .ref h1, .ref h2, .ref h3, .ref h4])), (hn, .inl (cA, 34, .inl g_56)), (h1, .inl (cA, 64, .inl pn2_47)), (h2, .inl (cA, 16, .inl wt2_48)), (h3, .inl (cA, 900, .inl rg2_49)), (h4, .inl (cA, 200, .inl pa2_50))] := hD
          refine lv_iload_n hx hb dX1_pass_93 rfl (lv_at hl 0 rfl) ?_
          exact endZ X hr rfl hlocks hP hD hS dX1_pass_94 ⟨g_56, pn2_47, wt2_48, rg2_49, pa2_50, 1, rfl, hg_56, hf_52, hf_53, (by omega), rfl⟩
    · have nc_33_45 : ¬ k_44 = 0 := fun q => c_33_45 ((nI_eq (a := k_44) (b := 0) (by omega) (by omega)).mpr q)
      refine lv_aload_n hx hb dX1_pass_36 rfl (lv_at hl 0 rfl) ?_
      refine lv_iload_n hx hb dX1_pass_37 rfl (lv_at hl 1 rfl) ?_
      refine kVv (n3 := 1) (As := [.int (nI n0)]) (rest := []) X hl.1 hE hP hD hS hA [(h0, .inr (1, [.ref hn, .ref h1, .ref h2, .ref h3, .ref h4])), (hn, .inl (cA, 34, .inl f2_36)), (h1, .inl (cA, 64, .inl pn2_37)), (h2, .inl (cA, 16, .inl wt2_38)), (h3, .inl (cA, 900, .inl rg2_39)), (h4, .inl (cA, 200, .inl pa2_40))] [] [0, 1, 2, 3, 4, 5] [] rfl rfl rfl (by decide +kernel) (by decide +kernel) (by decide +kernel) (c_s_passDrum l D cA cB h0 hn h1 h2 h3 h4 f2_36 pn2_37 wt2_38 rg2_39 pa2_40 n0 hf_41 hf_42 hf_43 (by first | assumption | decide | rfl | omega)) w_46 w_9 w_45 w_47 w_48 0 (ci := 1) (T := TX1) (N := 5) rfl rfl (by decide +kernel) rfl rfl (Nat.le_of_ble_eq_true rfl) ⟨(Nat.le_of_ble_eq_true rfl), (Nat.le_of_ble_eq_true rfl)⟩ ⟨(Nat.le_of_ble_eq_true rfl), (Nat.le_of_ble_eq_true rfl)⟩ dX1_pass_38 (fun W1 H locs hw hP hD hS => ?_)
      obtain ⟨f2_57, pn2_58, wt2_59, rg2_60, pa2_61, hf_62, hf_63, hf_64, rfl⟩ := hw
      have hP : va_P D classes [(h0, .inr (1, [.ref hn, .ref h1, .ref h2, .ref h3, .ref h4])), (hn, .inl (cA, 34, .inl f2_57)), (h1, .inl (cA, 64, .inl pn2_58)), (h2, .inl (cA, 16, .inl wt2_59)), (h3, .inl (cA, 900, .inl rg2_60)), (h4, .inl (cA, 200, .inl pa2_61))] H := hP
      have hD : va_D A [(h0, .inr (1, [.ref hn, .ref h1, .ref h2, .ref h3, .ref h4])), (hn, .inl (cA, 34, .inl f2_57)), (h1, .inl (cA, 64, .inl pn2_58)), (h2, .inl (cA, 16, .inl wt2_59)), (h3, .inl (cA, 900, .inl rg2_60)), (h4, .inl (cA, 200, .inl pa2_61))] := hD
      refine lv_aload_n hx hb dX1_pass_41 rfl (lv_at hl 0 rfl) ?_
      refine lv_iload_n hx hb dX1_pass_42 rfl (lv_at hl 1 rfl) ?_
      refine kVv (n3 := 1) (As := [.int (nI n0)]) (rest := []) X hl.1 hE hP hD hS hA [(h0, .inr (1, [.ref hn, .ref h1, .ref h2, .ref h3, .ref h4])), (hn, .inl (cA, 34, .inl f2_57)), (h1, .inl (cA, 64, .inl pn2_58)), (h2, .inl (cA, 16, .inl wt2_59)), (h3, .inl (cA, 900, .inl rg2_60)), (h4, .inl (cA, 200, .inl pa2_61))] [] [0, 1, 2, 3, 4, 5] [] rfl rfl rfl (by decide +kernel) (by decide +kernel) (by decide +kernel) (c_s_passBells l D cA cB h0 hn h1 h2 h3 h4 f2_57 pn2_58 wt2_59 rg2_60 pa2_61 n0 hf_62 hf_63 hf_64 (by first | assumption | decide | rfl | omega)) w_38 w_9 w_37 w_39 w_40 0 (ci := 1) (T := TX1) (N := 5) rfl rfl (by decide +kernel) rfl rfl (Nat.le_of_ble_eq_true rfl) ⟨(Nat.le_of_ble_eq_true rfl), (Nat.le_of_ble_eq_true rfl)⟩ ⟨(Nat.le_of_ble_eq_true rfl), (Nat.le_of_ble_eq_true rfl)⟩ dX1_pass_43 (fun W1 H locs hw hP hD hS => ?_)
      obtain ⟨f2_65, pn2_66, wt2_67, rg2_68, pa2_69, hf_70, hf_71, hf_72, rfl⟩ := hw
      have hP : va_P D classes [(h0, .inr (1, [.ref hn, .ref h1, .ref h2, .ref h3, .ref h4])), (hn, .inl (cA, 34, .inl f2_65)), (h1, .inl (cA, 64, .inl pn2_66)), (h2, .inl (cA, 16, .inl wt2_67)), (h3, .inl (cA, 900, .inl rg2_68)), (h4, .inl (cA, 200, .inl pa2_69))] H := hP
      have hD : va_D A [(h0, .inr (1, [.ref hn, .ref h1, .ref h2, .ref h3, .ref h4])), (hn, .inl (cA, 34, .inl f2_65)), (h1, .inl (cA, 64, .inl pn2_66)), (h2, .inl (cA, 16, .inl wt2_67)), (h3, .inl (cA, 900, .inl rg2_68)), (h4, .inl (cA, 200, .inl pa2_69))] := hD
      refine lv_aload_n hx hb dX1_pass_46 rfl (lv_at hl 0 rfl) ?_
      refine k_get (C := RX1) (T := TX1) (N := 5) (ci := 1) (v := .ref hn) X hE hP 0 rfl rfl iX1 0 (by decide) w_1 rfl dX1_pass_47 ?_
      refine lv_bipush (v := 17) hx hb dX1_pass_50 (by decide) ?_
      refine k_ald (v := f2_65 17) X hE hP 1 rfl 17 rfl (by decide) (by decide) rfl dX1_pass_52 ?_
      refine lv_if_le (tgt := 71) hx hb dX1_pass_53 (by decide) (fun c_53 => ?_) (fun c_53 => ?_)
      · skip
        refine lv_iconst (v := 0) hx hb dX1_pass_71 (by decide) ?_
        refine lv_istore_n (lv' := [(2, .int 0), (0, .ref h0), (1, .int (nI n0))]) hx hb dX1_pass_72 rfl hl (by decide) rfl (fun ls hl => ?_)
        refine lv_aload_n hx hb dX1_pass_73 rfl (lv_at hl 1 rfl) ?_
        refine k_get (C := RX1) (T := TX1) (N := 5) (ci := 1) (v := .ref hn) X hE hP 0 rfl rfl iX1 0 (by decide) w_1 rfl dX1_pass_74 ?_
        refine lv_bipush (v := 17) hx hb dX1_pass_77 (by decide) ?_
        refine lv_iconst (v := 0) hx hb dX1_pass_79 (by decide) ?_
        refine lv_aload_n hx hb dX1_pass_80 rfl (lv_at hl 1 rfl) ?_
        refine k_get (C := RX1) (T := TX1) (N := 5) (ci := 1) (v := .ref hn) X hE hP 0 rfl rfl iX1 0 (by decide) w_1 rfl dX1_pass_81 ?_
        refine lv_bipush (v := 17) hx hb dX1_pass_84 (by decide) ?_
        refine k_ald (v := f2_65 17) X hE hP 1 rfl 17 rfl (by decide) (by decide) rfl dX1_pass_86 ?_
        refine lv_iload_n hx hb dX1_pass_87 rfl (lv_at hl 2 rfl) ?_
        refine lv_isub hx hb dX1_pass_88 ?_
        refine va_mmax hx hb (X.2.2.1.trans hl.1.symm) X.2.2.2.1 (X.2.2.2.2 _ w_41) (X.2.2.2.2 _ w_42) (X.2.2.2.2 _ w_43) (X.2.2.2.2 _ w_44) (Nat.le_of_ble_eq_true rfl) (Nat.le_of_ble_eq_true rfl) (Nat.le_of_ble_eq_true rfl) (Nat.le_of_ble_eq_true rfl) dX1_pass_89 ?_
        refine k_ast X hE hP hD hS 1 rfl 17 rfl (by decide) (by decide) [(h0, .inr (1, [.ref hn, .ref h1, .ref h2, .ref h3, .ref h4])), (hn, .inl (cA, 34, .inl (upd f2_65 17 (if 0 < (f2_65 17) - (nI n0) then (f2_65 17) - (nI n0) else 0)))), (h1, .inl (cA, 64, .inl pn2_66)), (h2, .inl (cA, 16, .inl wt2_67)), (h3, .inl (cA, 900, .inl rg2_68)), (h4, .inl (cA, 200, .inl pa2_69))] rfl dX1_pass_92 (fun H locs hP hD hS => ?_)
        obtain ⟨g_73, eg_73⟩ : ∃ z, z = upd f2_65 17 (if 0 < (f2_65 17) - (nI n0) then (f2_65 17) - (nI n0) else 0) := ⟨_, rfl⟩
        rw [← eg_73] at hP hD
        have hg_73 := okN_upd hf_70 17 (if 0 < (f2_65 17) - (nI n0) then (f2_65 17) - (nI n0) else 0) (inR_any rfl)
        rw [← eg_73] at hg_73
        have hP : va_P D classes [(h0, .inr (1, [.ref hn, .ref h1, .ref h2, .ref h3, .ref h4])), (hn, .inl (cA, 34, .inl g_73)), (h1, .inl (cA, 64, .inl pn2_66)), (h2, .inl (cA, 16, .inl wt2_67)), (h3, .inl (cA, 900, .inl rg2_68)), (h4, .inl (cA, 200, .inl pa2_69))] H := hP
        have hD : va_D A [(h0, .inr (1, [.ref hn, .ref h1, .ref h2, .ref h3, .ref h4])), (hn, .inl (cA, 34, .inl g_73)), (h1, .inl (cA, 64, .inl pn2_66)), (h2, .inl (cA, 16, .inl wt2_67)), (h3, .inl (cA, 900, .inl rg2_68)), (h4, .inl (cA, 200, .inl pa2_69))] := hD
        refine lv_iload_n hx hb dX1_pass_93 rfl (lv_at hl 0 rfl) ?_
        exact endZ X hr rfl hlocks hP hD hS dX1_pass_94 ⟨g_73, pn2_66, wt2_67, rg2_68, pa2_69, 0, rfl, hg_73, hf_71, hf_72, (by omega), rfl⟩
      · skip
        refine lv_aload_n hx hb dX1_pass_56 rfl (lv_at hl 0 rfl) ?_
        refine k_get (C := RX1) (T := TX1) (N := 5) (ci := 1) (v := .ref hn) X hE hP 0 rfl rfl iX1 0 (by decide) w_1 rfl dX1_pass_57 ?_
        refine lv_bipush (v := 17) hx hb dX1_pass_60 (by decide) ?_
        refine k_ald (v := f2_65 17) X hE hP 1 rfl 17 rfl (by decide) (by decide) rfl dX1_pass_62 ?_
        refine lv_iload_n hx hb dX1_pass_63 rfl (lv_at hl 1 rfl) ?_
        refine lv_icmp_gt (tgt := 71) hx hb dX1_pass_64 (by decide) (fun c_64 => ?_) (fun c_64 => ?_)
        · skip
          refine lv_iconst (v := 0) hx hb dX1_pass_71 (by decide) ?_
          refine lv_istore_n (lv' := [(2, .int 0), (0, .ref h0), (1, .int (nI n0))]) hx hb dX1_pass_72 rfl hl (by decide) rfl (fun ls hl => ?_)
          refine lv_aload_n hx hb dX1_pass_73 rfl (lv_at hl 1 rfl) ?_
          refine k_get (C := RX1) (T := TX1) (N := 5) (ci := 1) (v := .ref hn) X hE hP 0 rfl rfl iX1 0 (by decide) w_1 rfl dX1_pass_74 ?_
          refine lv_bipush (v := 17) hx hb dX1_pass_77 (by decide) ?_
          refine lv_iconst (v := 0) hx hb dX1_pass_79 (by decide) ?_
          refine lv_aload_n hx hb dX1_pass_80 rfl (lv_at hl 1 rfl) ?_
          refine k_get (C := RX1) (T := TX1) (N := 5) (ci := 1) (v := .ref hn) X hE hP 0 rfl rfl iX1 0 (by decide) w_1 rfl dX1_pass_81 ?_
          refine lv_bipush (v := 17) hx hb dX1_pass_84 (by decide) ?_
          refine k_ald (v := f2_65 17) X hE hP 1 rfl 17 rfl (by decide) (by decide) rfl dX1_pass_86 ?_
          refine lv_iload_n hx hb dX1_pass_87 rfl (lv_at hl 2 rfl) ?_
          refine lv_isub hx hb dX1_pass_88 ?_
          refine va_mmax hx hb (X.2.2.1.trans hl.1.symm) X.2.2.2.1 (X.2.2.2.2 _ w_41) (X.2.2.2.2 _ w_42) (X.2.2.2.2 _ w_43) (X.2.2.2.2 _ w_44) (Nat.le_of_ble_eq_true rfl) (Nat.le_of_ble_eq_true rfl) (Nat.le_of_ble_eq_true rfl) (Nat.le_of_ble_eq_true rfl) dX1_pass_89 ?_
          refine k_ast X hE hP hD hS 1 rfl 17 rfl (by decide) (by decide) [(h0, .inr (1, [.ref hn, .ref h1, .ref h2, .ref h3, .ref h4])), (hn, .inl (cA, 34, .inl (upd f2_65 17 (if 0 < (f2_65 17) - (nI n0) then (f2_65 17) - (nI n0) else 0)))), (h1, .inl (cA, 64, .inl pn2_66)), (h2, .inl (cA, 16, .inl wt2_67)), (h3, .inl (cA, 900, .inl rg2_68)), (h4, .inl (cA, 200, .inl pa2_69))] rfl dX1_pass_92 (fun H locs hP hD hS => ?_)
          obtain ⟨g_74, eg_74⟩ : ∃ z, z = upd f2_65 17 (if 0 < (f2_65 17) - (nI n0) then (f2_65 17) - (nI n0) else 0) := ⟨_, rfl⟩
          rw [← eg_74] at hP hD
          have hg_74 := okN_upd hf_70 17 (if 0 < (f2_65 17) - (nI n0) then (f2_65 17) - (nI n0) else 0) (inR_any rfl)
          rw [← eg_74] at hg_74
          have hP : va_P D classes [(h0, .inr (1, [.ref hn, .ref h1, .ref h2, .ref h3, .ref h4])), (hn, .inl (cA, 34, .inl g_74)), (h1, .inl (cA, 64, .inl pn2_66)), (h2, .inl (cA, 16, .inl wt2_67)), (h3, .inl (cA, 900, .inl rg2_68)), (h4, .inl (cA, 200, .inl pa2_69))] H := hP
          have hD : va_D A [(h0, .inr (1, [.ref hn, .ref h1, .ref h2, .ref h3, .ref h4])), (hn, .inl (cA, 34, .inl g_74)), (h1, .inl (cA, 64, .inl pn2_66)), (h2, .inl (cA, 16, .inl wt2_67)), (h3, .inl (cA, 900, .inl rg2_68)), (h4, .inl (cA, 200, .inl pa2_69))] := hD
          refine lv_iload_n hx hb dX1_pass_93 rfl (lv_at hl 0 rfl) ?_
          exact endZ X hr rfl hlocks hP hD hS dX1_pass_94 ⟨g_74, pn2_66, wt2_67, rg2_68, pa2_69, 0, rfl, hg_74, hf_71, hf_72, (by omega), rfl⟩
        · skip
          refine lv_iconst (v := 1) hx hb dX1_pass_67 (by decide) ?_
          refine lv_goto (tgt := 72) hx hb dX1_pass_68 (by decide) ?_
          refine lv_istore_n (lv' := [(2, .int 1), (0, .ref h0), (1, .int (nI n0))]) hx hb dX1_pass_72 rfl hl (by decide) rfl (fun ls hl => ?_)
          refine lv_aload_n hx hb dX1_pass_73 rfl (lv_at hl 1 rfl) ?_
          refine k_get (C := RX1) (T := TX1) (N := 5) (ci := 1) (v := .ref hn) X hE hP 0 rfl rfl iX1 0 (by decide) w_1 rfl dX1_pass_74 ?_
          refine lv_bipush (v := 17) hx hb dX1_pass_77 (by decide) ?_
          refine lv_iconst (v := 0) hx hb dX1_pass_79 (by decide) ?_
          refine lv_aload_n hx hb dX1_pass_80 rfl (lv_at hl 1 rfl) ?_
          refine k_get (C := RX1) (T := TX1) (N := 5) (ci := 1) (v := .ref hn) X hE hP 0 rfl rfl iX1 0 (by decide) w_1 rfl dX1_pass_81 ?_
          refine lv_bipush (v := 17) hx hb dX1_pass_84 (by decide) ?_
          refine k_ald (v := f2_65 17) X hE hP 1 rfl 17 rfl (by decide) (by decide) rfl dX1_pass_86 ?_
          refine lv_iload_n hx hb dX1_pass_87 rfl (lv_at hl 2 rfl) ?_
          refine lv_isub hx hb dX1_pass_88 ?_
          refine va_mmax hx hb (X.2.2.1.trans hl.1.symm) X.2.2.2.1 (X.2.2.2.2 _ w_41) (X.2.2.2.2 _ w_42) (X.2.2.2.2 _ w_43) (X.2.2.2.2 _ w_44) (Nat.le_of_ble_eq_true rfl) (Nat.le_of_ble_eq_true rfl) (Nat.le_of_ble_eq_true rfl) (Nat.le_of_ble_eq_true rfl) dX1_pass_89 ?_
          refine k_ast X hE hP hD hS 1 rfl 17 rfl (by decide) (by decide) [(h0, .inr (1, [.ref hn, .ref h1, .ref h2, .ref h3, .ref h4])), (hn, .inl (cA, 34, .inl (upd f2_65 17 (if 0 < (f2_65 17) - (nI n0) then (f2_65 17) - (nI n0) else 0)))), (h1, .inl (cA, 64, .inl pn2_66)), (h2, .inl (cA, 16, .inl wt2_67)), (h3, .inl (cA, 900, .inl rg2_68)), (h4, .inl (cA, 200, .inl pa2_69))] rfl dX1_pass_92 (fun H locs hP hD hS => ?_)
          obtain ⟨g_75, eg_75⟩ : ∃ z, z = upd f2_65 17 (if 0 < (f2_65 17) - (nI n0) then (f2_65 17) - (nI n0) else 0) := ⟨_, rfl⟩
          rw [← eg_75] at hP hD
          have hg_75 := okN_upd hf_70 17 (if 0 < (f2_65 17) - (nI n0) then (f2_65 17) - (nI n0) else 0) (inR_any rfl)
          rw [← eg_75] at hg_75
          have hP : va_P D classes [(h0, .inr (1, [.ref hn, .ref h1, .ref h2, .ref h3, .ref h4])), (hn, .inl (cA, 34, .inl g_75)), (h1, .inl (cA, 64, .inl pn2_66)), (h2, .inl (cA, 16, .inl wt2_67)), (h3, .inl (cA, 900, .inl rg2_68)), (h4, .inl (cA, 200, .inl pa2_69))] H := hP
          have hD : va_D A [(h0, .inr (1, [.ref hn, .ref h1, .ref h2, .ref h3, .ref h4])), (hn, .inl (cA, 34, .inl g_75)), (h1, .inl (cA, 64, .inl pn2_66)), (h2, .inl (cA, 16, .inl wt2_67)), (h3, .inl (cA, 900, .inl rg2_68)), (h4, .inl (cA, 200, .inl pa2_69))] := hD
          refine lv_iload_n hx hb dX1_pass_93 rfl (lv_at hl 0 rfl) ?_
          exact endZ X hr rfl hlocks hP hD hS dX1_pass_94 ⟨g_75, pn2_66, wt2_67, rg2_68, pa2_69, 1, rfl, hg_75, hf_71, hf_72, (by omega), rfl⟩
