abbrev cX8_isAddress : ByteArray := prog_1_method_23_code
def yX8_isAddress : MethodName := ⟨RX8, "isAddress", "(I)Z"⟩
abbrev cX8_isByte : ByteArray := prog_1_method_24_code
def yX8_isByte : MethodName := ⟨RX8, "isByte", "(I)Z"⟩
abbrev cX8_peek : ByteArray := prog_1_method_8_code
def yX8_peek : MethodName := ⟨RX8, "peek", "(I)I"⟩
abbrev cX8_poke : ByteArray := prog_1_method_9_code
def yX8_poke : MethodName := ⟨RX8, "poke", "(II)Z"⟩
abbrev cX8_drum : ByteArray := prog_1_method_11_code
def yX8_drum : MethodName := ⟨RX8, "drum", "(II)Z"⟩
abbrev cX8_register : ByteArray := prog_1_method_15_code
def yX8_register : MethodName := ⟨RX8, "register", "(I)I"⟩
abbrev cX8_end : ByteArray := prog_1_method_3_code
def yX8_end : MethodName := ⟨RX8, "end", "(I)I"⟩
abbrev cX1_addKey : ByteArray := prog_3_method_4_code
def yX1_addKey : MethodName := ⟨RX1, "addKey", "(I)V"⟩
abbrev cX8_key : ByteArray := prog_1_method_10_code
def yX8_key : MethodName := ⟨RX8, "key", "(I)I"⟩
abbrev cX6_find : ByteArray := prog_8_method_4_code
def yX6_find : MethodName := ⟨RX6, "find", "(I)I"⟩
abbrev cX6_set : ByteArray := prog_8_method_2_code
def yX6_set : MethodName := ⟨RX6, "set", "(I)I"⟩
abbrev cX6_lift : ByteArray := prog_8_method_3_code
def yX6_lift : MethodName := ⟨RX6, "lift", "(I)I"⟩
abbrev cX8_stop : ByteArray := prog_1_method_12_code
def yX8_stop : MethodName := ⟨RX8, "stop", "(IZ)I"⟩
abbrev cX8_fault : ByteArray := prog_1_method_5_code
def yX8_fault : MethodName := ⟨RX8, "fault", "(I)I"⟩
abbrev cX2_tell : ByteArray := prog_4_method_5_code
def yX2_tell : MethodName := ⟨RX2, "tell", "(II)I"⟩
abbrev cX8_name : ByteArray := prog_1_method_6_code
def yX8_name : MethodName := ⟨RX8, "name", "(II)I"⟩
abbrev cX8_about : ByteArray := prog_1_method_17_code
def yX8_about : MethodName := ⟨RX8, "about", "(I)I"⟩
abbrev cX8_codes : ByteArray := prog_1_method_18_code
def yX8_codes : MethodName := ⟨RX8, "codes", "(I)I"⟩
abbrev cX8_ring : ByteArray := prog_1_method_19_code
def yX8_ring : MethodName := ⟨RX8, "ring", "(II)I"⟩
abbrev cX8_strip : ByteArray := prog_1_method_20_code
def yX8_strip : MethodName := ⟨RX8, "strip", "(I)I"⟩
abbrev cX8_out : ByteArray := prog_1_method_22_code
def yX8_out : MethodName := ⟨RX8, "out", "(I)I"⟩
abbrev cX8_back : ByteArray := prog_1_method_14_code
def yX8_back : MethodName := ⟨RX8, "back", "(I)I"⟩
abbrev cX7_hasRoom : ByteArray := prog_9_method_2_code
def yX7_hasRoom : MethodName := ⟨RX7, "hasRoom", "(I)Z"⟩
abbrev cX7_add : ByteArray := prog_9_method_3_code
def yX7_add : MethodName := ⟨RX7, "add", "(I)V"⟩
abbrev cX8_feed : ByteArray := prog_1_method_2_code
def yX8_feed : MethodName := ⟨RX8, "feed", "(IIIII)I"⟩
abbrev cX1_pinsOfRow : ByteArray := prog_3_method_3_code
def yX1_pinsOfRow : MethodName := ⟨RX1, "pinsOfRow", "()I"⟩
abbrev cX1_keyAt : ByteArray := prog_3_method_5_code
def yX1_keyAt : MethodName := ⟨RX1, "keyAt", "(I)I"⟩
abbrev cX8_device : ByteArray := prog_1_method_16_code
def yX8_device : MethodName := ⟨RX8, "device", "(I)I"⟩
abbrev cX8_restart : ByteArray := prog_1_method_7_code
def yX8_restart : MethodName := ⟨RX8, "restart", "()V"⟩
set_option maxRecDepth 100000 in
theorem w_114 : (Cond.methodLink "BelfryBox" 115 yX8_isAddress : Cond) ∈ gw := List.mem_filter.mpr ⟨List.mem_append_right _ (tb3 (List.mem_of_getElem? (i := 129) rfl)), rfl⟩
set_option maxRecDepth 100000 in
theorem w_115 : (Cond.code yX8_isAddress prog_1_method_23_code 1 (Option.some Jvm.ClassFile.FieldType.boolean) : Cond) ∈ gw := List.mem_filter.mpr ⟨List.mem_append_right _ (tb3 (List.mem_of_getElem? (i := 131) rfl)), rfl⟩
set_option maxRecDepth 100000 in
theorem w_116 : (Cond.initialized "BelfryBox" : Cond) ∈ gw := List.mem_filter.mpr ⟨List.mem_append_right _ (tb1 (List.mem_of_getElem? (i := 1) rfl)), rfl⟩
set_option maxRecDepth 100000 in
theorem w_117 : (Cond.static yX8_isAddress : Cond) ∈ gw := List.mem_filter.mpr ⟨List.mem_append_right _ (tb3 (List.mem_of_getElem? (i := 130) rfl)), rfl⟩
set_option maxRecDepth 100000 in
theorem w_118 : (Cond.methodLink "BelfryBox" 118 yX8_isByte : Cond) ∈ gw := List.mem_filter.mpr ⟨List.mem_append_right _ (tb3 (List.mem_of_getElem? (i := 136) rfl)), rfl⟩
set_option maxRecDepth 100000 in
theorem w_119 : (Cond.code yX8_isByte prog_1_method_24_code 1 (Option.some Jvm.ClassFile.FieldType.boolean) : Cond) ∈ gw := List.mem_filter.mpr ⟨List.mem_append_right _ (tb3 (List.mem_of_getElem? (i := 138) rfl)), rfl⟩
set_option maxRecDepth 100000 in
theorem w_120 : (Cond.static yX8_isByte : Cond) ∈ gw := List.mem_filter.mpr ⟨List.mem_append_right _ (tb3 (List.mem_of_getElem? (i := 137) rfl)), rfl⟩
set_option maxRecDepth 100000 in
theorem w_121 : (Cond.methodLink "BelfryBox" 121 yX3_forget : Cond) ∈ gw := List.mem_filter.mpr ⟨List.mem_append_right _ (tb3 (List.mem_of_getElem? (i := 139) rfl)), rfl⟩
set_option maxRecDepth 100000 in
theorem w_122 : (Cond.methodLink "BelfryBox" 124 yX1_addKey : Cond) ∈ gw := List.mem_filter.mpr ⟨List.mem_append_right _ (tb3 (List.mem_of_getElem? (i := 144) rfl)), rfl⟩
set_option maxRecDepth 100000 in
theorem w_123 : (Cond.code yX1_addKey prog_3_method_4_code 2 (Option.none : Option Jvm.ClassFile.FieldType) : Cond) ∈ gw := List.mem_filter.mpr ⟨List.mem_append_right _ (tb3 (List.mem_of_getElem? (i := 147) rfl)), rfl⟩
set_option maxRecDepth 100000 in
theorem w_124 : (Cond.instanceMethod yX1_addKey : Cond) ∈ gw := List.mem_filter.mpr ⟨List.mem_append_right _ (tb3 (List.mem_of_getElem? (i := 145) rfl)), rfl⟩
set_option maxRecDepth 100000 in
theorem w_125 : (Cond.selects "BelfryBox$Devices" yX1_addKey yX1_addKey : Cond) ∈ gw := List.mem_filter.mpr ⟨List.mem_append_right _ (tb3 (List.mem_of_getElem? (i := 146) rfl)), rfl⟩
set_option maxRecDepth 100000 in
theorem w_126 : (Cond.fieldLink "BelfryBox$Stops" 19 "BelfryBox$Stops" "count" "I" : Cond) ∈ gw := List.mem_filter.mpr ⟨List.mem_append_right _ (tb1 (List.mem_of_getElem? (i := 108) rfl)), rfl⟩
set_option maxRecDepth 100000 in
theorem w_127 : (Cond.methodLink "BelfryBox$Stops" 15 yX6_find : Cond) ∈ gw := List.mem_filter.mpr ⟨List.mem_append_right _ (tb3 (List.mem_of_getElem? (i := 160) rfl)), rfl⟩
set_option maxRecDepth 100000 in
theorem w_128 : (Cond.code yX6_find prog_8_method_4_code 3 (Option.some Jvm.ClassFile.FieldType.int) : Cond) ∈ gw := List.mem_filter.mpr ⟨List.mem_append_right _ (tb3 (List.mem_of_getElem? (i := 163) rfl)), rfl⟩
set_option maxRecDepth 100000 in
theorem w_129 : (Cond.instanceMethod yX6_find : Cond) ∈ gw := List.mem_filter.mpr ⟨List.mem_append_right _ (tb3 (List.mem_of_getElem? (i := 161) rfl)), rfl⟩
set_option maxRecDepth 100000 in
theorem w_130 : (Cond.selects "BelfryBox$Stops" yX6_find yX6_find : Cond) ∈ gw := List.mem_filter.mpr ⟨List.mem_append_right _ (tb3 (List.mem_of_getElem? (i := 162) rfl)), rfl⟩
set_option maxRecDepth 100000 in
theorem w_131 : (Cond.methodLink "BelfryBox" 134 yX6_lift : Cond) ∈ gw := List.mem_filter.mpr ⟨List.mem_append_right _ (tb3 (List.mem_of_getElem? (i := 164) rfl)), rfl⟩
set_option maxRecDepth 100000 in
theorem w_132 : (Cond.code yX6_lift prog_8_method_3_code 3 (Option.some Jvm.ClassFile.FieldType.int) : Cond) ∈ gw := List.mem_filter.mpr ⟨List.mem_append_right _ (tb3 (List.mem_of_getElem? (i := 167) rfl)), rfl⟩
set_option maxRecDepth 100000 in
theorem w_133 : (Cond.instanceMethod yX6_lift : Cond) ∈ gw := List.mem_filter.mpr ⟨List.mem_append_right _ (tb3 (List.mem_of_getElem? (i := 165) rfl)), rfl⟩
set_option maxRecDepth 100000 in
theorem w_134 : (Cond.selects "BelfryBox$Stops" yX6_lift yX6_lift : Cond) ∈ gw := List.mem_filter.mpr ⟨List.mem_append_right _ (tb3 (List.mem_of_getElem? (i := 166) rfl)), rfl⟩
set_option maxRecDepth 100000 in
theorem w_135 : (Cond.methodLink "BelfryBox" 130 yX6_set : Cond) ∈ gw := List.mem_filter.mpr ⟨List.mem_append_right _ (tb3 (List.mem_of_getElem? (i := 156) rfl)), rfl⟩
set_option maxRecDepth 100000 in
theorem w_136 : (Cond.code yX6_set prog_8_method_2_code 2 (Option.some Jvm.ClassFile.FieldType.int) : Cond) ∈ gw := List.mem_filter.mpr ⟨List.mem_append_right _ (tb3 (List.mem_of_getElem? (i := 159) rfl)), rfl⟩
set_option maxRecDepth 100000 in
theorem w_137 : (Cond.instanceMethod yX6_set : Cond) ∈ gw := List.mem_filter.mpr ⟨List.mem_append_right _ (tb3 (List.mem_of_getElem? (i := 157) rfl)), rfl⟩
set_option maxRecDepth 100000 in
theorem w_138 : (Cond.selects "BelfryBox$Stops" yX6_set yX6_set : Cond) ∈ gw := List.mem_filter.mpr ⟨List.mem_append_right _ (tb3 (List.mem_of_getElem? (i := 158) rfl)), rfl⟩
set_option maxRecDepth 100000 in
theorem w_139 : (Cond.fieldLink "BelfryBox$Names" 24 "BelfryBox$Names" "count" "I" : Cond) ∈ gw := List.mem_filter.mpr ⟨List.mem_append_right _ (tb1 (List.mem_of_getElem? (i := 175) rfl)), rfl⟩
set_option maxRecDepth 100000 in
theorem w_140 : (Cond.methodLink "BelfryBox" 109 yX2_tell : Cond) ∈ gw := List.mem_filter.mpr ⟨List.mem_append_right _ (tb3 (List.mem_of_getElem? (i := 120) rfl)), rfl⟩
set_option maxRecDepth 100000 in
theorem w_141 : (Cond.code yX2_tell prog_4_method_5_code 3 (Option.some Jvm.ClassFile.FieldType.int) : Cond) ∈ gw := List.mem_filter.mpr ⟨List.mem_append_right _ (tb3 (List.mem_of_getElem? (i := 48) rfl)), rfl⟩
set_option maxRecDepth 100000 in
theorem w_142 : (Cond.instanceMethod yX2_tell : Cond) ∈ gw := List.mem_filter.mpr ⟨List.mem_append_right _ (tb3 (List.mem_of_getElem? (i := 46) rfl)), rfl⟩
set_option maxRecDepth 100000 in
theorem w_143 : (Cond.selects "BelfryBox$Names" yX2_tell yX2_tell : Cond) ∈ gw := List.mem_filter.mpr ⟨List.mem_append_right _ (tb3 (List.mem_of_getElem? (i := 47) rfl)), rfl⟩
set_option maxRecDepth 100000 in
theorem w_144 : (Cond.fieldLink "BelfryBox$Tape" 15 "BelfryBox$Tape" "length" "I" : Cond) ∈ gw := List.mem_filter.mpr ⟨List.mem_append_right _ (tb1 (List.mem_of_getElem? (i := 123) rfl)), rfl⟩
set_option maxRecDepth 100000 in
theorem w_145 : (Cond.methodLink "BelfryBox" 74 yX7_hasRoom : Cond) ∈ gw := List.mem_filter.mpr ⟨List.mem_append_right _ (tb2 (List.mem_of_getElem? (i := 78) rfl)), rfl⟩
set_option maxRecDepth 100000 in
theorem w_146 : (Cond.code yX7_hasRoom prog_9_method_2_code 2 (Option.some Jvm.ClassFile.FieldType.boolean) : Cond) ∈ gw := List.mem_filter.mpr ⟨List.mem_append_right _ (tb2 (List.mem_of_getElem? (i := 81) rfl)), rfl⟩
set_option maxRecDepth 100000 in
theorem w_147 : (Cond.instanceMethod yX7_hasRoom : Cond) ∈ gw := List.mem_filter.mpr ⟨List.mem_append_right _ (tb2 (List.mem_of_getElem? (i := 79) rfl)), rfl⟩
set_option maxRecDepth 100000 in
theorem w_148 : (Cond.selects "BelfryBox$Tape" yX7_hasRoom yX7_hasRoom : Cond) ∈ gw := List.mem_filter.mpr ⟨List.mem_append_right _ (tb2 (List.mem_of_getElem? (i := 80) rfl)), rfl⟩
set_option maxRecDepth 100000 in
theorem w_149 : (Cond.methodLink "BelfryBox" 78 yX7_add : Cond) ∈ gw := List.mem_filter.mpr ⟨List.mem_append_right _ (tb2 (List.mem_of_getElem? (i := 82) rfl)), rfl⟩
set_option maxRecDepth 100000 in
theorem w_150 : (Cond.code yX7_add prog_9_method_3_code 3 (Option.none : Option Jvm.ClassFile.FieldType) : Cond) ∈ gw := List.mem_filter.mpr ⟨List.mem_append_right _ (tb2 (List.mem_of_getElem? (i := 85) rfl)), rfl⟩
set_option maxRecDepth 100000 in
theorem w_151 : (Cond.instanceMethod yX7_add : Cond) ∈ gw := List.mem_filter.mpr ⟨List.mem_append_right _ (tb2 (List.mem_of_getElem? (i := 83) rfl)), rfl⟩
set_option maxRecDepth 100000 in
theorem w_152 : (Cond.selects "BelfryBox$Tape" yX7_add yX7_add : Cond) ∈ gw := List.mem_filter.mpr ⟨List.mem_append_right _ (tb2 (List.mem_of_getElem? (i := 84) rfl)), rfl⟩
set_option maxRecDepth 100000 in
theorem w_153 : (Cond.methodLink "BelfryBox" 155 yX1_keyAt : Cond) ∈ gw := List.mem_filter.mpr ⟨List.mem_append_right _ (tb4 (List.mem_of_getElem? (i := 213) rfl)), rfl⟩
set_option maxRecDepth 100000 in
theorem w_154 : (Cond.code yX1_keyAt prog_3_method_5_code 2 (Option.some Jvm.ClassFile.FieldType.int) : Cond) ∈ gw := List.mem_filter.mpr ⟨List.mem_append_right _ (tb4 (List.mem_of_getElem? (i := 216) rfl)), rfl⟩
set_option maxRecDepth 100000 in
theorem w_155 : (Cond.instanceMethod yX1_keyAt : Cond) ∈ gw := List.mem_filter.mpr ⟨List.mem_append_right _ (tb4 (List.mem_of_getElem? (i := 214) rfl)), rfl⟩
set_option maxRecDepth 100000 in
theorem w_156 : (Cond.selects "BelfryBox$Devices" yX1_keyAt yX1_keyAt : Cond) ∈ gw := List.mem_filter.mpr ⟨List.mem_append_right _ (tb4 (List.mem_of_getElem? (i := 215) rfl)), rfl⟩
set_option maxRecDepth 100000 in
theorem w_157 : (Cond.methodLink "BelfryBox" 151 yX1_pinsOfRow : Cond) ∈ gw := List.mem_filter.mpr ⟨List.mem_append_right _ (tb4 (List.mem_of_getElem? (i := 212) rfl)), rfl⟩
set_option maxRecDepth 100000 in
theorem w_158 : (Cond.code yX1_pinsOfRow prog_3_method_3_code 1 (Option.some Jvm.ClassFile.FieldType.int) : Cond) ∈ gw := List.mem_filter.mpr ⟨List.mem_append_right _ (tb4 (List.mem_of_getElem? (i := 88) rfl)), rfl⟩
set_option maxRecDepth 100000 in
theorem w_159 : (Cond.instanceMethod yX1_pinsOfRow : Cond) ∈ gw := List.mem_filter.mpr ⟨List.mem_append_right _ (tb4 (List.mem_of_getElem? (i := 86) rfl)), rfl⟩
set_option maxRecDepth 100000 in
theorem w_160 : (Cond.selects "BelfryBox$Devices" yX1_pinsOfRow yX1_pinsOfRow : Cond) ∈ gw := List.mem_filter.mpr ⟨List.mem_append_right _ (tb4 (List.mem_of_getElem? (i := 87) rfl)), rfl⟩
theorem nw_0 : (Cond.fieldLinkNest "BelfryBox" 127 "BelfryBox$Devices" "pins" "[I" "BelfryBox" : Cond) ∈ nests := List.mem_of_getElem? (i := 0) rfl
theorem nw_12 : (Cond.fieldLinkNest "BelfryBox" 82 "BelfryBox$Tape" "length" "I" "BelfryBox" : Cond) ∈ nests := List.mem_of_getElem? (i := 12) rfl
theorem nw_25 : (Cond.fieldLinkNest "BelfryBox" 99 "BelfryBox$Assembler" "faultKind" "I" "BelfryBox" : Cond) ∈ nests := List.mem_of_getElem? (i := 25) rfl
theorem nw_26 : (Cond.fieldLinkNest "BelfryBox" 102 "BelfryBox$Assembler" "faultPlace" "I" "BelfryBox" : Cond) ∈ nests := List.mem_of_getElem? (i := 26) rfl
theorem nw_24 : (Cond.fieldLinkNest "BelfryBox" 105 "BelfryBox$Assembler" "settled" "LBelfryBox$Names;" "BelfryBox" : Cond) ∈ nests := List.mem_of_getElem? (i := 24) rfl
theorem nw_6 : (Cond.fieldLinkNest "BelfryBox" 158 "BelfryBox$Processor" "why" "I" "BelfryBox" : Cond) ∈ nests := List.mem_of_getElem? (i := 6) rfl
theorem nw_7 : (Cond.fieldLinkNest "BelfryBox" 161 "BelfryBox$Processor" "done" "I" "BelfryBox" : Cond) ∈ nests := List.mem_of_getElem? (i := 7) rfl
theorem nw_4 : (Cond.fieldLinkNest "BelfryBox" 141 "BelfryBox$Past" "kept" "I" "BelfryBox" : Cond) ∈ nests := List.mem_of_getElem? (i := 4) rfl
theorem nw_23 : (Cond.fieldLinkNest "BelfryBox" 164 "BelfryBox$Names" "count" "I" "BelfryBox" : Cond) ∈ nests := List.mem_of_getElem? (i := 23) rfl
theorem nw_9 : (Cond.fieldLinkNest "BelfryBox" 167 "BelfryBox$Stops" "count" "I" "BelfryBox" : Cond) ∈ nests := List.mem_of_getElem? (i := 9) rfl
theorem nw_5 : (Cond.fieldLinkNest "BelfryBox" 144 "BelfryBox$Processor" "counts" "[I" "BelfryBox" : Cond) ∈ nests := List.mem_of_getElem? (i := 5) rfl
theorem nw_30 : (Cond.fieldLinkNest "BelfryBox" 177 "BelfryBox$Reader" "length" "I" "BelfryBox" : Cond) ∈ nests := List.mem_of_getElem? (i := 30) rfl
theorem dX8_isAddress_0 : decode cX8_isAddress 0 = .ok (.iload_n 0, 1) := by decide +kernel
theorem dX8_isAddress_1 : decode cX8_isAddress 1 = .ok (.ifCond .lt 14, 3) := by decide +kernel
theorem dX8_isAddress_15 : decode cX8_isAddress 15 = .ok (.iconst 0, 1) := by decide +kernel
theorem dX8_isAddress_16 : decode cX8_isAddress 16 = .ok (.ireturn, 1) := by decide +kernel
theorem dX8_isAddress_4 : decode cX8_isAddress 4 = .ok (.iload_n 0, 1) := by decide +kernel
theorem dX8_isAddress_5 : decode cX8_isAddress 5 = .ok (.sipush 4096, 3) := by decide +kernel
theorem dX8_isAddress_8 : decode cX8_isAddress 8 = .ok (.if_icmp .ge 7, 3) := by decide +kernel
theorem dX8_isAddress_11 : decode cX8_isAddress 11 = .ok (.iconst 1, 1) := by decide +kernel
theorem dX8_isAddress_12 : decode cX8_isAddress 12 = .ok (.goto 4, 3) := by decide +kernel
theorem dX8_isByte_0 : decode cX8_isByte 0 = .ok (.iload_n 0, 1) := by decide +kernel
theorem dX8_isByte_1 : decode cX8_isByte 1 = .ok (.ifCond .lt 14, 3) := by decide +kernel
theorem dX8_isByte_15 : decode cX8_isByte 15 = .ok (.iconst 0, 1) := by decide +kernel
theorem dX8_isByte_16 : decode cX8_isByte 16 = .ok (.ireturn, 1) := by decide +kernel
theorem dX8_isByte_4 : decode cX8_isByte 4 = .ok (.iload_n 0, 1) := by decide +kernel
theorem dX8_isByte_5 : decode cX8_isByte 5 = .ok (.sipush 255, 3) := by decide +kernel
theorem dX8_isByte_8 : decode cX8_isByte 8 = .ok (.if_icmp .gt 7, 3) := by decide +kernel
theorem dX8_isByte_11 : decode cX8_isByte 11 = .ok (.iconst 1, 1) := by decide +kernel
theorem dX8_isByte_12 : decode cX8_isByte 12 = .ok (.goto 4, 3) := by decide +kernel
theorem dX8_peek_0 : decode cX8_peek 0 = .ok (.iload_n 1, 1) := by decide +kernel
theorem dX8_peek_1 : decode cX8_peek 1 = .ok (.invokestatic 115, 3) := by decide +kernel
theorem dX8_peek_4 : decode cX8_peek 4 = .ok (.ifCond .eq 12, 3) := by decide +kernel
theorem dX8_peek_16 : decode cX8_peek 16 = .ok (.iconst (-1), 1) := by decide +kernel
theorem dX8_peek_17 : decode cX8_peek 17 = .ok (.ireturn, 1) := by decide +kernel
theorem dX8_peek_7 : decode cX8_peek 7 = .ok (.aload_n 0, 1) := by decide +kernel
theorem dX8_peek_8 : decode cX8_peek 8 = .ok (.getfield 13, 3) := by decide +kernel
theorem dX8_peek_11 : decode cX8_peek 11 = .ok (.iload_n 1, 1) := by decide +kernel
theorem dX8_peek_12 : decode cX8_peek 12 = .ok (.iaload, 1) := by decide +kernel
theorem dX8_peek_13 : decode cX8_peek 13 = .ok (.goto 4, 3) := by decide +kernel
theorem dX8_poke_0 : decode cX8_poke 0 = .ok (.iload_n 1, 1) := by decide +kernel
theorem dX8_poke_1 : decode cX8_poke 1 = .ok (.ifCond .lt 17, 3) := by decide +kernel
theorem dX8_poke_18 : decode cX8_poke 18 = .ok (.iconst 0, 1) := by decide +kernel
theorem dX8_poke_19 : decode cX8_poke 19 = .ok (.ireturn, 1) := by decide +kernel
theorem dX8_poke_4 : decode cX8_poke 4 = .ok (.iload_n 1, 1) := by decide +kernel
theorem dX8_poke_5 : decode cX8_poke 5 = .ok (.sipush 4080, 3) := by decide +kernel
theorem dX8_poke_8 : decode cX8_poke 8 = .ok (.if_icmp .ge 10, 3) := by decide +kernel
theorem dX8_poke_11 : decode cX8_poke 11 = .ok (.iload_n 2, 1) := by decide +kernel
theorem dX8_poke_12 : decode cX8_poke 12 = .ok (.invokestatic 118, 3) := by decide +kernel
theorem dX8_poke_15 : decode cX8_poke 15 = .ok (.ifCond .ne 5, 3) := by decide +kernel
theorem dX8_poke_20 : decode cX8_poke 20 = .ok (.aload_n 0, 1) := by decide +kernel
theorem dX8_poke_21 : decode cX8_poke 21 = .ok (.getfield 13, 3) := by decide +kernel
theorem dX8_poke_24 : decode cX8_poke 24 = .ok (.iload_n 1, 1) := by decide +kernel
theorem dX8_poke_25 : decode cX8_poke 25 = .ok (.iload_n 2, 1) := by decide +kernel
theorem dX8_poke_26 : decode cX8_poke 26 = .ok (.iastore, 1) := by decide +kernel
theorem dX8_poke_27 : decode cX8_poke 27 = .ok (.aload_n 0, 1) := by decide +kernel
theorem dX8_poke_28 : decode cX8_poke 28 = .ok (.getfield 28, 3) := by decide +kernel
theorem dX8_poke_31 : decode cX8_poke 31 = .ok (.invokevirtual 121, 3) := by decide +kernel
theorem dX8_poke_34 : decode cX8_poke 34 = .ok (.iconst 1, 1) := by decide +kernel
theorem dX8_poke_35 : decode cX8_poke 35 = .ok (.ireturn, 1) := by decide +kernel
theorem dX8_drum_0 : decode cX8_drum 0 = .ok (.iload_n 1, 1) := by decide +kernel
theorem dX8_drum_1 : decode cX8_drum 1 = .ok (.ifCond .lt 16, 3) := by decide +kernel
theorem dX8_drum_17 : decode cX8_drum 17 = .ok (.iconst 0, 1) := by decide +kernel
theorem dX8_drum_18 : decode cX8_drum 18 = .ok (.ireturn, 1) := by decide +kernel
theorem dX8_drum_4 : decode cX8_drum 4 = .ok (.iload_n 1, 1) := by decide +kernel
theorem dX8_drum_5 : decode cX8_drum 5 = .ok (.bipush 64, 2) := by decide +kernel
theorem dX8_drum_7 : decode cX8_drum 7 = .ok (.if_icmp .ge 10, 3) := by decide +kernel
theorem dX8_drum_10 : decode cX8_drum 10 = .ok (.iload_n 2, 1) := by decide +kernel
theorem dX8_drum_11 : decode cX8_drum 11 = .ok (.invokestatic 118, 3) := by decide +kernel
theorem dX8_drum_14 : decode cX8_drum 14 = .ok (.ifCond .ne 5, 3) := by decide +kernel
theorem dX8_drum_19 : decode cX8_drum 19 = .ok (.aload_n 0, 1) := by decide +kernel
theorem dX8_drum_20 : decode cX8_drum 20 = .ok (.getfield 21, 3) := by decide +kernel
theorem dX8_drum_23 : decode cX8_drum 23 = .ok (.getfield 127, 3) := by decide +kernel
theorem dX8_drum_26 : decode cX8_drum 26 = .ok (.iload_n 1, 1) := by decide +kernel
theorem dX8_drum_27 : decode cX8_drum 27 = .ok (.iload_n 2, 1) := by decide +kernel
theorem dX8_drum_28 : decode cX8_drum 28 = .ok (.iastore, 1) := by decide +kernel
theorem dX8_drum_29 : decode cX8_drum 29 = .ok (.aload_n 0, 1) := by decide +kernel
theorem dX8_drum_30 : decode cX8_drum 30 = .ok (.getfield 28, 3) := by decide +kernel
theorem dX8_drum_33 : decode cX8_drum 33 = .ok (.invokevirtual 121, 3) := by decide +kernel
theorem dX8_drum_36 : decode cX8_drum 36 = .ok (.iconst 1, 1) := by decide +kernel
theorem dX8_drum_37 : decode cX8_drum 37 = .ok (.ireturn, 1) := by decide +kernel
theorem dX8_register_0 : decode cX8_register 0 = .ok (.iload_n 1, 1) := by decide +kernel
theorem dX8_register_1 : decode cX8_register 1 = .ok (.ifCond .lt 18, 3) := by decide +kernel
theorem dX8_register_19 : decode cX8_register 19 = .ok (.iconst 0, 1) := by decide +kernel
theorem dX8_register_20 : decode cX8_register 20 = .ok (.ireturn, 1) := by decide +kernel
theorem dX8_register_4 : decode cX8_register 4 = .ok (.iload_n 1, 1) := by decide +kernel
theorem dX8_register_5 : decode cX8_register 5 = .ok (.bipush 7, 2) := by decide +kernel
theorem dX8_register_7 : decode cX8_register 7 = .ok (.if_icmp .gt 12, 3) := by decide +kernel
theorem dX8_register_10 : decode cX8_register 10 = .ok (.aload_n 0, 1) := by decide +kernel
theorem dX8_register_11 : decode cX8_register 11 = .ok (.getfield 9, 3) := by decide +kernel
theorem dX8_register_14 : decode cX8_register 14 = .ok (.iload_n 1, 1) := by decide +kernel
theorem dX8_register_15 : decode cX8_register 15 = .ok (.iaload, 1) := by decide +kernel
theorem dX8_register_16 : decode cX8_register 16 = .ok (.goto 4, 3) := by decide +kernel
theorem dX8_end_0 : decode cX8_end 0 = .ok (.iload_n 1, 1) := by decide +kernel
theorem dX8_end_1 : decode cX8_end 1 = .ok (.ifCond .lt 14, 3) := by decide +kernel
theorem dX8_end_15 : decode cX8_end 15 = .ok (.iconst (-1), 1) := by decide +kernel
theorem dX8_end_16 : decode cX8_end 16 = .ok (.ireturn, 1) := by decide +kernel
theorem dX8_end_4 : decode cX8_end 4 = .ok (.iload_n 1, 1) := by decide +kernel
theorem dX8_end_5 : decode cX8_end 5 = .ok (.aload_n 0, 1) := by decide +kernel
theorem dX8_end_6 : decode cX8_end 6 = .ok (.getfield 51, 3) := by decide +kernel
theorem dX8_end_9 : decode cX8_end 9 = .ok (.getfield 82, 3) := by decide +kernel
theorem dX8_end_12 : decode cX8_end 12 = .ok (.if_icmp .le 5, 3) := by decide +kernel
theorem dX8_end_17 : decode cX8_end 17 = .ok (.aload_n 0, 1) := by decide +kernel
theorem dX8_end_18 : decode cX8_end 18 = .ok (.getfield 51, 3) := by decide +kernel
theorem dX8_end_21 : decode cX8_end 21 = .ok (.iload_n 1, 1) := by decide +kernel
theorem dX8_end_22 : decode cX8_end 22 = .ok (.putfield 82, 3) := by decide +kernel
theorem dX8_end_25 : decode cX8_end 25 = .ok (.iload_n 1, 1) := by decide +kernel
theorem dX8_end_26 : decode cX8_end 26 = .ok (.ireturn, 1) := by decide +kernel
theorem dX1_addKey_0 : decode cX1_addKey 0 = .ok (.aload_n 0, 1) := by decide +kernel
theorem dX1_addKey_1 : decode cX1_addKey 1 = .ok (.getfield 15, 3) := by decide +kernel
theorem dX1_addKey_4 : decode cX1_addKey 4 = .ok (.aload_n 0, 1) := by decide +kernel
theorem dX1_addKey_5 : decode cX1_addKey 5 = .ok (.getfield 24, 3) := by decide +kernel
theorem dX1_addKey_8 : decode cX1_addKey 8 = .ok (.bipush 33, 2) := by decide +kernel
theorem dX1_addKey_10 : decode cX1_addKey 10 = .ok (.iaload, 1) := by decide +kernel
theorem dX1_addKey_11 : decode cX1_addKey 11 = .ok (.aload_n 0, 1) := by decide +kernel
theorem dX1_addKey_12 : decode cX1_addKey 12 = .ok (.getfield 24, 3) := by decide +kernel
theorem dX1_addKey_15 : decode cX1_addKey 15 = .ok (.bipush 19, 2) := by decide +kernel
theorem dX1_addKey_17 : decode cX1_addKey 17 = .ok (.iaload, 1) := by decide +kernel
theorem dX1_addKey_18 : decode cX1_addKey 18 = .ok (.iadd, 1) := by decide +kernel
theorem dX1_addKey_19 : decode cX1_addKey 19 = .ok (.bipush 16, 2) := by decide +kernel
theorem dX1_addKey_21 : decode cX1_addKey 21 = .ok (.irem, 1) := by decide +kernel
theorem dX1_addKey_22 : decode cX1_addKey 22 = .ok (.iload_n 1, 1) := by decide +kernel
theorem dX1_addKey_23 : decode cX1_addKey 23 = .ok (.iastore, 1) := by decide +kernel
theorem dX1_addKey_24 : decode cX1_addKey 24 = .ok (.aload_n 0, 1) := by decide +kernel
theorem dX1_addKey_25 : decode cX1_addKey 25 = .ok (.getfield 24, 3) := by decide +kernel
theorem dX1_addKey_28 : decode cX1_addKey 28 = .ok (.bipush 19, 2) := by decide +kernel
theorem dX1_addKey_30 : decode cX1_addKey 30 = .ok (.dup2, 1) := by decide +kernel
theorem dX1_addKey_31 : decode cX1_addKey 31 = .ok (.iaload, 1) := by decide +kernel
theorem dX1_addKey_32 : decode cX1_addKey 32 = .ok (.iconst 1, 1) := by decide +kernel
theorem dX1_addKey_33 : decode cX1_addKey 33 = .ok (.iadd, 1) := by decide +kernel
theorem dX1_addKey_34 : decode cX1_addKey 34 = .ok (.iastore, 1) := by decide +kernel
theorem dX1_addKey_35 : decode cX1_addKey 35 = .ok (.aload_n 0, 1) := by decide +kernel
theorem dX1_addKey_36 : decode cX1_addKey 36 = .ok (.getfield 24, 3) := by decide +kernel
theorem dX1_addKey_39 : decode cX1_addKey 39 = .ok (.bipush 15, 2) := by decide +kernel
theorem dX1_addKey_41 : decode cX1_addKey 41 = .ok (.dup2, 1) := by decide +kernel
theorem dX1_addKey_42 : decode cX1_addKey 42 = .ok (.iaload, 1) := by decide +kernel
theorem dX1_addKey_43 : decode cX1_addKey 43 = .ok (.bipush 8, 2) := by decide +kernel
theorem dX1_addKey_45 : decode cX1_addKey 45 = .ok (.ior, 1) := by decide +kernel
theorem dX1_addKey_46 : decode cX1_addKey 46 = .ok (.iastore, 1) := by decide +kernel
theorem dX1_addKey_47 : decode cX1_addKey 47 = .ok (.return_, 1) := by decide +kernel
theorem dX8_key_0 : decode cX8_key 0 = .ok (.iload_n 1, 1) := by decide +kernel
theorem dX8_key_1 : decode cX8_key 1 = .ok (.invokestatic 118, 3) := by decide +kernel
theorem dX8_key_4 : decode cX8_key 4 = .ok (.ifCond .eq 15, 3) := by decide +kernel
theorem dX8_key_19 : decode cX8_key 19 = .ok (.iconst (-1), 1) := by decide +kernel
theorem dX8_key_20 : decode cX8_key 20 = .ok (.ireturn, 1) := by decide +kernel
theorem dX8_key_7 : decode cX8_key 7 = .ok (.aload_n 0, 1) := by decide +kernel
theorem dX8_key_8 : decode cX8_key 8 = .ok (.getfield 9, 3) := by decide +kernel
theorem dX8_key_11 : decode cX8_key 11 = .ok (.bipush 19, 2) := by decide +kernel
theorem dX8_key_13 : decode cX8_key 13 = .ok (.iaload, 1) := by decide +kernel
theorem dX8_key_14 : decode cX8_key 14 = .ok (.bipush 16, 2) := by decide +kernel
theorem dX8_key_16 : decode cX8_key 16 = .ok (.if_icmp .lt 5, 3) := by decide +kernel
theorem dX8_key_21 : decode cX8_key 21 = .ok (.aload_n 0, 1) := by decide +kernel
theorem dX8_key_22 : decode cX8_key 22 = .ok (.getfield 21, 3) := by decide +kernel
theorem dX8_key_25 : decode cX8_key 25 = .ok (.iload_n 1, 1) := by decide +kernel
theorem dX8_key_26 : decode cX8_key 26 = .ok (.invokevirtual 124, 3) := by decide +kernel
theorem dX8_key_29 : decode cX8_key 29 = .ok (.aload_n 0, 1) := by decide +kernel
theorem dX8_key_30 : decode cX8_key 30 = .ok (.getfield 28, 3) := by decide +kernel
theorem dX8_key_33 : decode cX8_key 33 = .ok (.invokevirtual 121, 3) := by decide +kernel
theorem dX8_key_36 : decode cX8_key 36 = .ok (.aload_n 0, 1) := by decide +kernel
theorem dX8_key_37 : decode cX8_key 37 = .ok (.getfield 9, 3) := by decide +kernel
theorem dX8_key_40 : decode cX8_key 40 = .ok (.bipush 19, 2) := by decide +kernel
theorem dX8_key_42 : decode cX8_key 42 = .ok (.iaload, 1) := by decide +kernel
theorem dX8_key_43 : decode cX8_key 43 = .ok (.ireturn, 1) := by decide +kernel
theorem dX6_find_0 : decode cX6_find 0 = .ok (.iconst 0, 1) := by decide +kernel
theorem dX6_find_1 : decode cX6_find 1 = .ok (.istore_n 2, 1) := by decide +kernel
theorem dX6_find_2 : decode cX6_find 2 = .ok (.iload_n 2, 1) := by decide +kernel
theorem dX6_find_3 : decode cX6_find 3 = .ok (.aload_n 0, 1) := by decide +kernel
theorem dX6_find_4 : decode cX6_find 4 = .ok (.getfield 19, 3) := by decide +kernel
theorem dX6_find_7 : decode cX6_find 7 = .ok (.if_icmp .ge 21, 3) := by decide +kernel
theorem dX6_find_28 : decode cX6_find 28 = .ok (.iconst (-1), 1) := by decide +kernel
theorem dX6_find_29 : decode cX6_find 29 = .ok (.ireturn, 1) := by decide +kernel
theorem dX6_set_0 : decode cX6_set 0 = .ok (.aload_n 0, 1) := by decide +kernel
theorem dX6_set_1 : decode cX6_set 1 = .ok (.iload_n 1, 1) := by decide +kernel
theorem dX6_set_2 : decode cX6_set 2 = .ok (.invokevirtual 15, 3) := by decide +kernel
theorem dX6_set_5 : decode cX6_set 5 = .ok (.iconst (-1), 1) := by decide +kernel
theorem dX6_set_6 : decode cX6_set 6 = .ok (.if_icmp .eq 8, 3) := by decide +kernel
theorem dX6_set_14 : decode cX6_set 14 = .ok (.aload_n 0, 1) := by decide +kernel
theorem dX6_set_15 : decode cX6_set 15 = .ok (.getfield 19, 3) := by decide +kernel
theorem dX6_set_18 : decode cX6_set 18 = .ok (.bipush 16, 2) := by decide +kernel
theorem dX6_set_20 : decode cX6_set 20 = .ok (.if_icmp .lt 5, 3) := by decide +kernel
theorem dX6_set_25 : decode cX6_set 25 = .ok (.aload_n 0, 1) := by decide +kernel
theorem dX6_set_26 : decode cX6_set 26 = .ok (.getfield 11, 3) := by decide +kernel
theorem dX6_set_29 : decode cX6_set 29 = .ok (.aload_n 0, 1) := by decide +kernel
theorem dX6_set_30 : decode cX6_set 30 = .ok (.getfield 19, 3) := by decide +kernel
theorem dX6_set_33 : decode cX6_set 33 = .ok (.iload_n 1, 1) := by decide +kernel
theorem dX6_set_34 : decode cX6_set 34 = .ok (.iastore, 1) := by decide +kernel
theorem dX6_set_35 : decode cX6_set 35 = .ok (.aload_n 0, 1) := by decide +kernel
theorem dX6_set_36 : decode cX6_set 36 = .ok (.dup, 1) := by decide +kernel
theorem dX6_set_37 : decode cX6_set 37 = .ok (.getfield 19, 3) := by decide +kernel
theorem dX6_set_40 : decode cX6_set 40 = .ok (.iconst 1, 1) := by decide +kernel
theorem dX6_set_41 : decode cX6_set 41 = .ok (.iadd, 1) := by decide +kernel
theorem dX6_set_42 : decode cX6_set 42 = .ok (.putfield 19, 3) := by decide +kernel
theorem dX6_set_45 : decode cX6_set 45 = .ok (.aload_n 0, 1) := by decide +kernel
theorem dX6_set_46 : decode cX6_set 46 = .ok (.getfield 19, 3) := by decide +kernel
theorem dX6_set_49 : decode cX6_set 49 = .ok (.ireturn, 1) := by decide +kernel
theorem dX6_lift_0 : decode cX6_lift 0 = .ok (.aload_n 0, 1) := by decide +kernel
theorem dX6_lift_1 : decode cX6_lift 1 = .ok (.iload_n 1, 1) := by decide +kernel
theorem dX6_lift_2 : decode cX6_lift 2 = .ok (.invokevirtual 15, 3) := by decide +kernel
theorem dX6_lift_5 : decode cX6_lift 5 = .ok (.istore_n 2, 1) := by decide +kernel
theorem dX6_lift_6 : decode cX6_lift 6 = .ok (.iload_n 2, 1) := by decide +kernel
theorem dX6_lift_7 : decode cX6_lift 7 = .ok (.iconst (-1), 1) := by decide +kernel
theorem dX6_lift_8 : decode cX6_lift 8 = .ok (.if_icmp .eq 28, 3) := by decide +kernel
theorem dX6_lift_36 : decode cX6_lift 36 = .ok (.aload_n 0, 1) := by decide +kernel
theorem dX6_lift_37 : decode cX6_lift 37 = .ok (.getfield 19, 3) := by decide +kernel
theorem dX6_lift_40 : decode cX6_lift 40 = .ok (.ireturn, 1) := by decide +kernel
theorem dX8_stop_0 : decode cX8_stop 0 = .ok (.iload_n 1, 1) := by decide +kernel
theorem dX8_stop_1 : decode cX8_stop 1 = .ok (.invokestatic 115, 3) := by decide +kernel
theorem dX8_stop_4 : decode cX8_stop 4 = .ok (.ifCond .ne 5, 3) := by decide +kernel
theorem dX8_stop_9 : decode cX8_stop 9 = .ok (.iload_n 2, 1) := by decide +kernel
theorem dX8_stop_10 : decode cX8_stop 10 = .ok (.ifCond .eq 14, 3) := by decide +kernel
theorem dX8_stop_24 : decode cX8_stop 24 = .ok (.aload_n 0, 1) := by decide +kernel
theorem dX8_stop_25 : decode cX8_stop 25 = .ok (.getfield 44, 3) := by decide +kernel
theorem dX8_stop_28 : decode cX8_stop 28 = .ok (.iload_n 1, 1) := by decide +kernel
theorem dX8_stop_29 : decode cX8_stop 29 = .ok (.invokevirtual 134, 3) := by decide +kernel
theorem dX8_stop_32 : decode cX8_stop 32 = .ok (.ireturn, 1) := by decide +kernel
theorem dX8_stop_13 : decode cX8_stop 13 = .ok (.aload_n 0, 1) := by decide +kernel
theorem dX8_stop_14 : decode cX8_stop 14 = .ok (.getfield 44, 3) := by decide +kernel
theorem dX8_stop_17 : decode cX8_stop 17 = .ok (.iload_n 1, 1) := by decide +kernel
theorem dX8_stop_18 : decode cX8_stop 18 = .ok (.invokevirtual 130, 3) := by decide +kernel
theorem dX8_stop_21 : decode cX8_stop 21 = .ok (.goto 11, 3) := by decide +kernel
theorem dX8_stop_7 : decode cX8_stop 7 = .ok (.iconst (-1), 1) := by decide +kernel
theorem dX8_stop_8 : decode cX8_stop 8 = .ok (.ireturn, 1) := by decide +kernel
theorem dX8_fault_0 : decode cX8_fault 0 = .ok (.iload_n 1, 1) := by decide +kernel
theorem dX8_fault_1 : decode cX8_fault 1 = .ok (.lookupswitch 43 #[(0, 27), (1, 35)], 27) := by decide +kernel
theorem dX8_fault_28 : decode cX8_fault 28 = .ok (.aload_n 0, 1) := by decide +kernel
theorem dX8_fault_29 : decode cX8_fault 29 = .ok (.getfield 60, 3) := by decide +kernel
theorem dX8_fault_32 : decode cX8_fault 32 = .ok (.getfield 99, 3) := by decide +kernel
theorem dX8_fault_35 : decode cX8_fault 35 = .ok (.ireturn, 1) := by decide +kernel
theorem dX8_fault_36 : decode cX8_fault 36 = .ok (.aload_n 0, 1) := by decide +kernel
theorem dX8_fault_37 : decode cX8_fault 37 = .ok (.getfield 60, 3) := by decide +kernel
theorem dX8_fault_40 : decode cX8_fault 40 = .ok (.getfield 102, 3) := by decide +kernel
theorem dX8_fault_43 : decode cX8_fault 43 = .ok (.ireturn, 1) := by decide +kernel
theorem dX8_fault_44 : decode cX8_fault 44 = .ok (.iconst (-1), 1) := by decide +kernel
theorem dX8_fault_45 : decode cX8_fault 45 = .ok (.ireturn, 1) := by decide +kernel
theorem dX2_tell_0 : decode cX2_tell 0 = .ok (.iload_n 1, 1) := by decide +kernel
theorem dX2_tell_1 : decode cX2_tell 1 = .ok (.ifCond .lt 11, 3) := by decide +kernel
theorem dX2_tell_12 : decode cX2_tell 12 = .ok (.iconst 0, 1) := by decide +kernel
theorem dX2_tell_13 : decode cX2_tell 13 = .ok (.ireturn, 1) := by decide +kernel
theorem dX2_tell_4 : decode cX2_tell 4 = .ok (.iload_n 1, 1) := by decide +kernel
theorem dX2_tell_5 : decode cX2_tell 5 = .ok (.aload_n 0, 1) := by decide +kernel
theorem dX2_tell_6 : decode cX2_tell 6 = .ok (.getfield 24, 3) := by decide +kernel
theorem dX2_tell_9 : decode cX2_tell 9 = .ok (.if_icmp .lt 5, 3) := by decide +kernel
theorem dX8_name_0 : decode cX8_name 0 = .ok (.aload_n 0, 1) := by decide +kernel
theorem dX8_name_1 : decode cX8_name 1 = .ok (.getfield 60, 3) := by decide +kernel
theorem dX8_name_4 : decode cX8_name 4 = .ok (.getfield 105, 3) := by decide +kernel
theorem dX8_name_7 : decode cX8_name 7 = .ok (.iload_n 1, 1) := by decide +kernel
theorem dX8_name_8 : decode cX8_name 8 = .ok (.iload_n 2, 1) := by decide +kernel
theorem dX8_name_9 : decode cX8_name 9 = .ok (.invokevirtual 109, 3) := by decide +kernel
theorem dX8_name_12 : decode cX8_name 12 = .ok (.ireturn, 1) := by decide +kernel
theorem dX8_about_0 : decode cX8_about 0 = .ok (.iload_n 1, 1) := by decide +kernel
theorem dX8_about_1 : decode cX8_about 1 = .ok (.iconst 3, 1) := by decide +kernel
theorem dX8_about_2 : decode cX8_about 2 = .ok (.if_icmp .lt 21, 3) := by decide +kernel
theorem dX8_about_23 : decode cX8_about 23 = .ok (.iload_n 1, 1) := by decide +kernel
theorem dX8_about_24 : decode cX8_about 24 = .ok (.tableswitch 111 0 10 #[60, 68, 76, 111, 111, 111, 111, 111, 84, 95, 103], 60) := by decide +kernel
theorem dX8_about_84 : decode cX8_about 84 = .ok (.aload_n 0, 1) := by decide +kernel
theorem dX8_about_85 : decode cX8_about 85 = .ok (.getfield 37, 3) := by decide +kernel
theorem dX8_about_88 : decode cX8_about 88 = .ok (.getfield 158, 3) := by decide +kernel
theorem dX8_about_91 : decode cX8_about 91 = .ok (.ireturn, 1) := by decide +kernel
theorem dX8_about_92 : decode cX8_about 92 = .ok (.aload_n 0, 1) := by decide +kernel
theorem dX8_about_93 : decode cX8_about 93 = .ok (.getfield 37, 3) := by decide +kernel
theorem dX8_about_96 : decode cX8_about 96 = .ok (.getfield 161, 3) := by decide +kernel
theorem dX8_about_99 : decode cX8_about 99 = .ok (.ireturn, 1) := by decide +kernel
theorem dX8_about_100 : decode cX8_about 100 = .ok (.aload_n 0, 1) := by decide +kernel
theorem dX8_about_101 : decode cX8_about 101 = .ok (.getfield 28, 3) := by decide +kernel
theorem dX8_about_104 : decode cX8_about 104 = .ok (.getfield 141, 3) := by decide +kernel
theorem dX8_about_107 : decode cX8_about 107 = .ok (.ireturn, 1) := by decide +kernel
theorem dX8_about_135 : decode cX8_about 135 = .ok (.iconst 0, 1) := by decide +kernel
theorem dX8_about_136 : decode cX8_about 136 = .ok (.ireturn, 1) := by decide +kernel
theorem dX8_about_108 : decode cX8_about 108 = .ok (.aload_n 0, 1) := by decide +kernel
theorem dX8_about_109 : decode cX8_about 109 = .ok (.getfield 60, 3) := by decide +kernel
theorem dX8_about_112 : decode cX8_about 112 = .ok (.getfield 105, 3) := by decide +kernel
theorem dX8_about_115 : decode cX8_about 115 = .ok (.getfield 164, 3) := by decide +kernel
theorem dX8_about_118 : decode cX8_about 118 = .ok (.ireturn, 1) := by decide +kernel
theorem dX8_about_119 : decode cX8_about 119 = .ok (.aload_n 0, 1) := by decide +kernel
theorem dX8_about_120 : decode cX8_about 120 = .ok (.getfield 44, 3) := by decide +kernel
theorem dX8_about_123 : decode cX8_about 123 = .ok (.getfield 167, 3) := by decide +kernel
theorem dX8_about_126 : decode cX8_about 126 = .ok (.ireturn, 1) := by decide +kernel
theorem dX8_about_127 : decode cX8_about 127 = .ok (.aload_n 0, 1) := by decide +kernel
theorem dX8_about_128 : decode cX8_about 128 = .ok (.getfield 51, 3) := by decide +kernel
theorem dX8_about_131 : decode cX8_about 131 = .ok (.getfield 82, 3) := by decide +kernel
theorem dX8_about_134 : decode cX8_about 134 = .ok (.ireturn, 1) := by decide +kernel
theorem dX8_about_5 : decode cX8_about 5 = .ok (.iload_n 1, 1) := by decide +kernel
theorem dX8_about_6 : decode cX8_about 6 = .ok (.bipush 7, 2) := by decide +kernel
theorem dX8_about_8 : decode cX8_about 8 = .ok (.if_icmp .gt 15, 3) := by decide +kernel
theorem dX8_about_11 : decode cX8_about 11 = .ok (.aload_n 0, 1) := by decide +kernel
theorem dX8_about_12 : decode cX8_about 12 = .ok (.getfield 9, 3) := by decide +kernel
theorem dX8_about_15 : decode cX8_about 15 = .ok (.bipush 28, 2) := by decide +kernel
theorem dX8_about_17 : decode cX8_about 17 = .ok (.iload_n 1, 1) := by decide +kernel
theorem dX8_about_18 : decode cX8_about 18 = .ok (.iadd, 1) := by decide +kernel
theorem dX8_about_19 : decode cX8_about 19 = .ok (.iconst 3, 1) := by decide +kernel
theorem dX8_about_20 : decode cX8_about 20 = .ok (.isub, 1) := by decide +kernel
theorem dX8_about_21 : decode cX8_about 21 = .ok (.iaload, 1) := by decide +kernel
theorem dX8_about_22 : decode cX8_about 22 = .ok (.ireturn, 1) := by decide +kernel
theorem dX8_codes_0 : decode cX8_codes 0 = .ok (.iload_n 1, 1) := by decide +kernel
theorem dX8_codes_1 : decode cX8_codes 1 = .ok (.ifCond .lt 22, 3) := by decide +kernel
theorem dX8_codes_23 : decode cX8_codes 23 = .ok (.iconst 0, 1) := by decide +kernel
theorem dX8_codes_24 : decode cX8_codes 24 = .ok (.ireturn, 1) := by decide +kernel
theorem dX8_codes_4 : decode cX8_codes 4 = .ok (.iload_n 1, 1) := by decide +kernel
theorem dX8_codes_5 : decode cX8_codes 5 = .ok (.sipush 256, 3) := by decide +kernel
theorem dX8_codes_8 : decode cX8_codes 8 = .ok (.if_icmp .gt 15, 3) := by decide +kernel
theorem dX8_codes_11 : decode cX8_codes 11 = .ok (.aload_n 0, 1) := by decide +kernel
theorem dX8_codes_12 : decode cX8_codes 12 = .ok (.getfield 37, 3) := by decide +kernel
theorem dX8_codes_15 : decode cX8_codes 15 = .ok (.getfield 144, 3) := by decide +kernel
theorem dX8_codes_18 : decode cX8_codes 18 = .ok (.iload_n 1, 1) := by decide +kernel
theorem dX8_codes_19 : decode cX8_codes 19 = .ok (.iaload, 1) := by decide +kernel
theorem dX8_codes_20 : decode cX8_codes 20 = .ok (.goto 4, 3) := by decide +kernel
theorem dX8_ring_0 : decode cX8_ring 0 = .ok (.iload_n 1, 1) := by decide +kernel
theorem dX8_ring_1 : decode cX8_ring 1 = .ok (.ifCond .lt 23, 3) := by decide +kernel
theorem dX8_ring_24 : decode cX8_ring 24 = .ok (.iconst (-1), 1) := by decide +kernel
theorem dX8_ring_25 : decode cX8_ring 25 = .ok (.ireturn, 1) := by decide +kernel
theorem dX8_ring_4 : decode cX8_ring 4 = .ok (.iload_n 1, 1) := by decide +kernel
theorem dX8_ring_5 : decode cX8_ring 5 = .ok (.aload_n 0, 1) := by decide +kernel
theorem dX8_ring_6 : decode cX8_ring 6 = .ok (.getfield 9, 3) := by decide +kernel
theorem dX8_ring_9 : decode cX8_ring 9 = .ok (.bipush 31, 2) := by decide +kernel
theorem dX8_ring_11 : decode cX8_ring 11 = .ok (.iaload, 1) := by decide +kernel
theorem dX8_ring_12 : decode cX8_ring 12 = .ok (.if_icmp .ge 12, 3) := by decide +kernel
theorem dX8_strip_0 : decode cX8_strip 0 = .ok (.iload_n 1, 1) := by decide +kernel
theorem dX8_strip_1 : decode cX8_strip 1 = .ok (.ifCond .lt 26, 3) := by decide +kernel
theorem dX8_strip_27 : decode cX8_strip 27 = .ok (.iconst (-1), 1) := by decide +kernel
theorem dX8_strip_28 : decode cX8_strip 28 = .ok (.ireturn, 1) := by decide +kernel
theorem dX8_strip_4 : decode cX8_strip 4 = .ok (.iload_n 1, 1) := by decide +kernel
theorem dX8_strip_5 : decode cX8_strip 5 = .ok (.aload_n 0, 1) := by decide +kernel
theorem dX8_strip_6 : decode cX8_strip 6 = .ok (.getfield 9, 3) := by decide +kernel
theorem dX8_strip_9 : decode cX8_strip 9 = .ok (.bipush 32, 2) := by decide +kernel
theorem dX8_strip_11 : decode cX8_strip 11 = .ok (.iaload, 1) := by decide +kernel
theorem dX8_strip_12 : decode cX8_strip 12 = .ok (.if_icmp .ge 15, 3) := by decide +kernel
theorem dX8_out_0 : decode cX8_out 0 = .ok (.iload_n 1, 1) := by decide +kernel
theorem dX8_out_1 : decode cX8_out 1 = .ok (.ifCond .lt 26, 3) := by decide +kernel
theorem dX8_out_27 : decode cX8_out 27 = .ok (.iconst (-1), 1) := by decide +kernel
theorem dX8_out_28 : decode cX8_out 28 = .ok (.ireturn, 1) := by decide +kernel
theorem dX8_out_4 : decode cX8_out 4 = .ok (.iload_n 1, 1) := by decide +kernel
theorem dX8_out_5 : decode cX8_out 5 = .ok (.aload_n 0, 1) := by decide +kernel
theorem dX8_out_6 : decode cX8_out 6 = .ok (.getfield 67, 3) := by decide +kernel
theorem dX8_out_9 : decode cX8_out 9 = .ok (.getfield 177, 3) := by decide +kernel
theorem dX8_out_12 : decode cX8_out 12 = .ok (.if_icmp .ge 15, 3) := by decide +kernel
theorem dX8_back_0 : decode cX8_back 0 = .ok (.iload_n 1, 1) := by decide +kernel
theorem dX8_back_1 : decode cX8_back 1 = .ok (.iconst 1, 1) := by decide +kernel
theorem dX8_back_2 : decode cX8_back 2 = .ok (.if_icmp .lt 14, 3) := by decide +kernel
theorem dX8_back_16 : decode cX8_back 16 = .ok (.iconst (-1), 1) := by decide +kernel
theorem dX8_back_17 : decode cX8_back 17 = .ok (.ireturn, 1) := by decide +kernel
theorem dX8_back_5 : decode cX8_back 5 = .ok (.iload_n 1, 1) := by decide +kernel
theorem dX8_back_6 : decode cX8_back 6 = .ok (.aload_n 0, 1) := by decide +kernel
theorem dX8_back_7 : decode cX8_back 7 = .ok (.getfield 28, 3) := by decide +kernel
theorem dX8_back_10 : decode cX8_back 10 = .ok (.getfield 141, 3) := by decide +kernel
theorem dX8_back_13 : decode cX8_back 13 = .ok (.if_icmp .le 5, 3) := by decide +kernel
theorem dX7_hasRoom_0 : decode cX7_hasRoom 0 = .ok (.aload_n 0, 1) := by decide +kernel
theorem dX7_hasRoom_1 : decode cX7_hasRoom 1 = .ok (.getfield 15, 3) := by decide +kernel
theorem dX7_hasRoom_4 : decode cX7_hasRoom 4 = .ok (.iload_n 1, 1) := by decide +kernel
theorem dX7_hasRoom_5 : decode cX7_hasRoom 5 = .ok (.iadd, 1) := by decide +kernel
theorem dX7_hasRoom_6 : decode cX7_hasRoom 6 = .ok (.sipush 6000, 3) := by decide +kernel
theorem dX7_hasRoom_9 : decode cX7_hasRoom 9 = .ok (.if_icmp .gt 7, 3) := by decide +kernel
theorem dX7_hasRoom_12 : decode cX7_hasRoom 12 = .ok (.iconst 1, 1) := by decide +kernel
theorem dX7_hasRoom_13 : decode cX7_hasRoom 13 = .ok (.goto 4, 3) := by decide +kernel
theorem dX7_hasRoom_17 : decode cX7_hasRoom 17 = .ok (.ireturn, 1) := by decide +kernel
theorem dX7_add_0 : decode cX7_add 0 = .ok (.bipush 24, 2) := by decide +kernel
theorem dX7_add_2 : decode cX7_add 2 = .ok (.istore_n 2, 1) := by decide +kernel
theorem dX7_add_3 : decode cX7_add 3 = .ok (.iload_n 2, 1) := by decide +kernel
theorem dX7_add_4 : decode cX7_add 4 = .ok (.ifCond .lt 45, 3) := by decide +kernel
theorem dX7_add_7 : decode cX7_add 7 = .ok (.aload_n 0, 1) := by decide +kernel
theorem dX7_add_8 : decode cX7_add 8 = .ok (.getfield 15, 3) := by decide +kernel
theorem dX7_add_11 : decode cX7_add 11 = .ok (.sipush 6000, 3) := by decide +kernel
theorem dX7_add_14 : decode cX7_add 14 = .ok (.if_icmp .ge 35, 3) := by decide +kernel
theorem dX7_add_17 : decode cX7_add 17 = .ok (.aload_n 0, 1) := by decide +kernel
theorem dX7_add_18 : decode cX7_add 18 = .ok (.getfield 11, 3) := by decide +kernel
theorem dX7_add_21 : decode cX7_add 21 = .ok (.aload_n 0, 1) := by decide +kernel
theorem dX7_add_22 : decode cX7_add 22 = .ok (.getfield 15, 3) := by decide +kernel
theorem dX7_add_25 : decode cX7_add 25 = .ok (.iload_n 1, 1) := by decide +kernel
theorem dX7_add_26 : decode cX7_add 26 = .ok (.iload_n 2, 1) := by decide +kernel
theorem dX7_add_27 : decode cX7_add 27 = .ok (.ishr, 1) := by decide +kernel
theorem dX7_add_28 : decode cX7_add 28 = .ok (.sipush 255, 3) := by decide +kernel
theorem dX7_add_31 : decode cX7_add 31 = .ok (.iand, 1) := by decide +kernel
theorem dX7_add_32 : decode cX7_add 32 = .ok (.iastore, 1) := by decide +kernel
theorem dX7_add_33 : decode cX7_add 33 = .ok (.aload_n 0, 1) := by decide +kernel
theorem dX7_add_34 : decode cX7_add 34 = .ok (.dup, 1) := by decide +kernel
theorem dX7_add_35 : decode cX7_add 35 = .ok (.getfield 15, 3) := by decide +kernel
theorem dX7_add_38 : decode cX7_add 38 = .ok (.iconst 1, 1) := by decide +kernel
theorem dX7_add_39 : decode cX7_add 39 = .ok (.iadd, 1) := by decide +kernel
theorem dX7_add_40 : decode cX7_add 40 = .ok (.putfield 15, 3) := by decide +kernel
theorem dX7_add_43 : decode cX7_add 43 = .ok (.iinc 2 (-8), 3) := by decide +kernel
theorem dX7_add_46 : decode cX7_add 46 = .ok (.goto (-43), 3) := by decide +kernel
theorem dX7_add_49 : decode cX7_add 49 = .ok (.return_, 1) := by decide +kernel
theorem dX8_feed_0 : decode cX8_feed 0 = .ok (.aload_n 0, 1) := by decide +kernel
theorem dX8_feed_1 : decode cX8_feed 1 = .ok (.getfield 51, 3) := by decide +kernel
theorem dX8_feed_4 : decode cX8_feed 4 = .ok (.bipush 20, 2) := by decide +kernel
theorem dX8_feed_6 : decode cX8_feed 6 = .ok (.invokevirtual 74, 3) := by decide +kernel
theorem dX8_feed_9 : decode cX8_feed 9 = .ok (.ifCond .ne 5, 3) := by decide +kernel
theorem dX8_feed_14 : decode cX8_feed 14 = .ok (.aload_n 0, 1) := by decide +kernel
theorem dX8_feed_15 : decode cX8_feed 15 = .ok (.getfield 51, 3) := by decide +kernel
theorem dX8_feed_18 : decode cX8_feed 18 = .ok (.iload_n 1, 1) := by decide +kernel
theorem dX8_feed_19 : decode cX8_feed 19 = .ok (.invokevirtual 78, 3) := by decide +kernel
theorem dX8_feed_22 : decode cX8_feed 22 = .ok (.aload_n 0, 1) := by decide +kernel
theorem dX8_feed_23 : decode cX8_feed 23 = .ok (.getfield 51, 3) := by decide +kernel
theorem dX8_feed_26 : decode cX8_feed 26 = .ok (.iload_n 2, 1) := by decide +kernel
theorem dX8_feed_27 : decode cX8_feed 27 = .ok (.invokevirtual 78, 3) := by decide +kernel
theorem dX8_feed_30 : decode cX8_feed 30 = .ok (.aload_n 0, 1) := by decide +kernel
theorem dX8_feed_31 : decode cX8_feed 31 = .ok (.getfield 51, 3) := by decide +kernel
theorem dX8_feed_34 : decode cX8_feed 34 = .ok (.iload_n 3, 1) := by decide +kernel
theorem dX8_feed_35 : decode cX8_feed 35 = .ok (.invokevirtual 78, 3) := by decide +kernel
theorem dX8_feed_38 : decode cX8_feed 38 = .ok (.aload_n 0, 1) := by decide +kernel
theorem dX8_feed_39 : decode cX8_feed 39 = .ok (.getfield 51, 3) := by decide +kernel
theorem dX8_feed_42 : decode cX8_feed 42 = .ok (.iload 4, 2) := by decide +kernel
theorem dX8_feed_44 : decode cX8_feed 44 = .ok (.invokevirtual 78, 3) := by decide +kernel
theorem dX8_feed_47 : decode cX8_feed 47 = .ok (.aload_n 0, 1) := by decide +kernel
theorem dX8_feed_48 : decode cX8_feed 48 = .ok (.getfield 51, 3) := by decide +kernel
theorem dX8_feed_51 : decode cX8_feed 51 = .ok (.iload 5, 2) := by decide +kernel
theorem dX8_feed_53 : decode cX8_feed 53 = .ok (.invokevirtual 78, 3) := by decide +kernel
theorem dX8_feed_56 : decode cX8_feed 56 = .ok (.aload_n 0, 1) := by decide +kernel
theorem dX8_feed_57 : decode cX8_feed 57 = .ok (.getfield 51, 3) := by decide +kernel
theorem dX8_feed_60 : decode cX8_feed 60 = .ok (.getfield 82, 3) := by decide +kernel
theorem dX8_feed_63 : decode cX8_feed 63 = .ok (.ireturn, 1) := by decide +kernel
theorem dX1_pinsOfRow_0 : decode cX1_pinsOfRow 0 = .ok (.aload_n 0, 1) := by decide +kernel
theorem dX1_pinsOfRow_1 : decode cX1_pinsOfRow 1 = .ok (.getfield 9, 3) := by decide +kernel
theorem dX1_pinsOfRow_4 : decode cX1_pinsOfRow 4 = .ok (.aload_n 0, 1) := by decide +kernel
theorem dX1_pinsOfRow_5 : decode cX1_pinsOfRow 5 = .ok (.getfield 24, 3) := by decide +kernel
theorem dX1_pinsOfRow_8 : decode cX1_pinsOfRow 8 = .ok (.bipush 14, 2) := by decide +kernel
theorem dX1_pinsOfRow_10 : decode cX1_pinsOfRow 10 = .ok (.iaload, 1) := by decide +kernel
theorem dX1_pinsOfRow_11 : decode cX1_pinsOfRow 11 = .ok (.bipush 64, 2) := by decide +kernel
theorem dX1_pinsOfRow_13 : decode cX1_pinsOfRow 13 = .ok (.irem, 1) := by decide +kernel
theorem dX1_pinsOfRow_14 : decode cX1_pinsOfRow 14 = .ok (.iaload, 1) := by decide +kernel
theorem dX1_pinsOfRow_15 : decode cX1_pinsOfRow 15 = .ok (.ireturn, 1) := by decide +kernel
theorem dX1_keyAt_0 : decode cX1_keyAt 0 = .ok (.iload_n 1, 1) := by decide +kernel
theorem dX1_keyAt_1 : decode cX1_keyAt 1 = .ok (.aload_n 0, 1) := by decide +kernel
theorem dX1_keyAt_2 : decode cX1_keyAt 2 = .ok (.getfield 24, 3) := by decide +kernel
theorem dX1_keyAt_5 : decode cX1_keyAt 5 = .ok (.bipush 19, 2) := by decide +kernel
theorem dX1_keyAt_7 : decode cX1_keyAt 7 = .ok (.iaload, 1) := by decide +kernel
theorem dX1_keyAt_8 : decode cX1_keyAt 8 = .ok (.if_icmp .ge 23, 3) := by decide +kernel
theorem dX1_keyAt_31 : decode cX1_keyAt 31 = .ok (.iconst 0, 1) := by decide +kernel
theorem dX1_keyAt_32 : decode cX1_keyAt 32 = .ok (.ireturn, 1) := by decide +kernel
theorem dX8_device_0 : decode cX8_device 0 = .ok (.iload_n 1, 1) := by decide +kernel
theorem dX8_device_1 : decode cX8_device 1 = .ok (.ifCond .lt 19, 3) := by decide +kernel
theorem dX8_device_20 : decode cX8_device 20 = .ok (.iload_n 1, 1) := by decide +kernel
theorem dX8_device_21 : decode cX8_device 21 = .ok (.bipush 20, 2) := by decide +kernel
theorem dX8_device_23 : decode cX8_device 23 = .ok (.if_icmp .ne 11, 3) := by decide +kernel
theorem dX8_device_34 : decode cX8_device 34 = .ok (.iload_n 1, 1) := by decide +kernel
theorem dX8_device_35 : decode cX8_device 35 = .ok (.bipush 21, 2) := by decide +kernel
theorem dX8_device_37 : decode cX8_device 37 = .ok (.if_icmp .lt 23, 3) := by decide +kernel
theorem dX8_device_60 : decode cX8_device 60 = .ok (.iconst 0, 1) := by decide +kernel
theorem dX8_device_61 : decode cX8_device 61 = .ok (.ireturn, 1) := by decide +kernel
theorem dX8_device_40 : decode cX8_device 40 = .ok (.iload_n 1, 1) := by decide +kernel
theorem dX8_device_41 : decode cX8_device 41 = .ok (.bipush 37, 2) := by decide +kernel
theorem dX8_device_43 : decode cX8_device 43 = .ok (.if_icmp .ge 17, 3) := by decide +kernel
theorem dX8_device_46 : decode cX8_device 46 = .ok (.aload_n 0, 1) := by decide +kernel
theorem dX8_device_47 : decode cX8_device 47 = .ok (.getfield 21, 3) := by decide +kernel
theorem dX8_device_50 : decode cX8_device 50 = .ok (.iload_n 1, 1) := by decide +kernel
theorem dX8_device_51 : decode cX8_device 51 = .ok (.bipush 21, 2) := by decide +kernel
theorem dX8_device_53 : decode cX8_device 53 = .ok (.isub, 1) := by decide +kernel
theorem dX8_device_54 : decode cX8_device 54 = .ok (.invokevirtual 155, 3) := by decide +kernel
theorem dX8_device_57 : decode cX8_device 57 = .ok (.goto 4, 3) := by decide +kernel
theorem dX8_device_26 : decode cX8_device 26 = .ok (.aload_n 0, 1) := by decide +kernel
theorem dX8_device_27 : decode cX8_device 27 = .ok (.getfield 21, 3) := by decide +kernel
theorem dX8_device_30 : decode cX8_device 30 = .ok (.invokevirtual 151, 3) := by decide +kernel
theorem dX8_device_33 : decode cX8_device 33 = .ok (.ireturn, 1) := by decide +kernel
theorem dX8_device_4 : decode cX8_device 4 = .ok (.iload_n 1, 1) := by decide +kernel
theorem dX8_device_5 : decode cX8_device 5 = .ok (.bipush 20, 2) := by decide +kernel
theorem dX8_device_7 : decode cX8_device 7 = .ok (.if_icmp .ge 13, 3) := by decide +kernel
theorem dX8_device_10 : decode cX8_device 10 = .ok (.aload_n 0, 1) := by decide +kernel
theorem dX8_device_11 : decode cX8_device 11 = .ok (.getfield 9, 3) := by decide +kernel
theorem dX8_device_14 : decode cX8_device 14 = .ok (.bipush 8, 2) := by decide +kernel
theorem dX8_device_16 : decode cX8_device 16 = .ok (.iload_n 1, 1) := by decide +kernel
theorem dX8_device_17 : decode cX8_device 17 = .ok (.iadd, 1) := by decide +kernel
theorem dX8_device_18 : decode cX8_device 18 = .ok (.iaload, 1) := by decide +kernel
theorem dX8_device_19 : decode cX8_device 19 = .ok (.ireturn, 1) := by decide +kernel
theorem dX8_restart_0 : decode cX8_restart 0 = .ok (.aload_n 0, 1) := by decide +kernel
theorem dX8_restart_1 : decode cX8_restart 1 = .ok (.getfield 37, 3) := by decide +kernel
theorem dX8_restart_4 : decode cX8_restart 4 = .ok (.invokevirtual 71, 3) := by decide +kernel
theorem dX8_restart_7 : decode cX8_restart 7 = .ok (.return_, 1) := by decide +kernel
/-! what the calls answer on a fresh object, in the class's own cases -/
def isA (a : Int32) : Int32 := if a < 0 then 0 else if 4096 ≤ a then 0 else 1
def isB (v : Int32) : Int32 := if v < 0 then 0 else if 255 < v then 0 else 1
theorem idx_of {x : Int32} {n : Nat} (hn : n < 2 ^ 31) (h0 : ¬ x < 0) (h : ¬ nI n ≤ x) : ∃ j : Nat, j < n ∧ x = nI j := by
  rcases pk_ix x hn with q | q | q
  · exact absurd q h0
  · exact absurd q h
  · exact q
theorem idx_le {x : Int32} {n : Nat} (hn : n < 2 ^ 30) (h0 : ¬ x < 0) (h : ¬ nI n < x) : ∃ j : Nat, j ≤ n ∧ x = nI j := by
  obtain ⟨j, hj, rfl⟩ := nI_of h0
  refine ⟨j, ?_, rfl⟩
  rcases Nat.lt_or_ge n j with q | q
  · exact absurd (nI_lt q hj) h
  · exact q
theorem isA_idx {a : Int32} (h : ¬ isA a = 0) : ∃ j : Nat, j < 4096 ∧ a = nI j := by
  unfold isA at h
  by_cases h0 : a < 0
  · rw [if_pos h0] at h; exact absurd rfl h
  · rw [if_neg h0] at h
    by_cases h1 : (4096 : Int32) ≤ a
    · rw [if_pos h1] at h; exact absurd rfl h
    · exact idx_of (n := 4096) (by decide) h0 h1
def fr_at (j : Nat) : Int32 := if j = 3 then 255 else if j = 5 then 4 else if j = 18 then 1 else 0
def sp_peek (a : Int32) : Int32 := if isA a = 0 then -1 else 0
def sp_poke (a v : Int32) : Int32 := if a < 0 then 0 else if 4080 ≤ a then 0 else if isB v = 0 then 0 else 1
def sp_drum (a v : Int32) : Int32 := if a < 0 then 0 else if 64 ≤ a then 0 else if isB v = 0 then 0 else 1
def sp_register (a : Int32) : Int32 := if a < 0 then 0 else if 7 < a then 0 else if a = 3 then 255 else if a = 5 then 4 else 0
theorem sp_reg_at : ∀ j, j ≤ 7 → fr_at j = if nI j = 3 then 255 else if nI j = 5 then 4 else (0 : Int32) := by decide
def sp_end (a : Int32) : Int32 := if a < 0 then -1 else if a ≤ 0 then a else -1
def sp_key (v : Int32) : Int32 := if isB v = 0 then -1 else 1
def sp_stop (a o : Int32) : Int32 := if isA a = 0 then -1 else if o = 0 then 0 else 1
theorem idx_37 {a : Int32} (h1 : ¬ a < 3) (h2 : ¬ 7 < a) : ∃ j : Nat, 3 ≤ j ∧ j ≤ 7 ∧ a = nI j := by
  have h0 : ¬ a < 0 := fun q => h1 (Int32.lt_trans q (by decide))
  obtain ⟨j, hj, rfl⟩ := idx_le (n := 7) (by decide) h0 h2
  refine ⟨j, ?_, hj, rfl⟩
  rcases Nat.lt_or_ge j 3 with q | q
  · exact absurd (nI_lt q (by decide)) h1
  · exact q
theorem idx_25 {a : Int32} {j : Nat} (h : a = nI j) : 28 + a - 3 = nI (25 + j) := by
  subst h
  show nI 28 + nI j - nI 3 = _
  rw [nI_add, pk_sub (by omega)]
  congr 1
  omega
theorem fr_hi {j : Nat} (h : 19 ≤ j) : (if j = 3 then 255 else if j = 5 then 4 else if j = 18 then 1 else (0 : Int32)) = 0 := by
  rw [if_neg (by omega), if_neg (by omega), if_neg (by omega)]
theorem not_le0 {a : Int32} (h : ¬ a < 1) : ¬ a ≤ 0 := fun q => h (Int32.lt_of_le_of_lt q (by decide))
def sp_device (a : Int32) : Int32 := if a < 0 then 0 else if 20 ≤ a then 0 else if a = 10 then 1 else 0
theorem sp_dev_at : ∀ j, j < 20 → fr_at (8 + j) = if nI j = 10 then 1 else (0 : Int32) := by decide
theorem idx_21 {a : Int32} (h : ¬ a < 21) : 0 ≤ a - 21 := by
  have h0 : ¬ a < 0 := fun q => h (Int32.lt_trans q (by decide))
  obtain ⟨j, hj, rfl⟩ := nI_of h0
  have h2 : 21 ≤ j := by
    rcases Nat.lt_or_ge j 21 with q | q
    · exact absurd (nI_lt q (by decide)) h
    · exact q
  show 0 ≤ nI j - nI 21
  rw [pk_sub h2]
  exact nI_pos' (by omega)
set_option maxHeartbeats 4000000 in
set_option maxRecDepth 100000 in
theorem c_isAddress (l : Launch) (D : va_G) (cA cB : ClassId) (a : Int32)  : CI l yX8_isAddress cX8_isAddress 1 (some .boolean) 0 0 0 0 D cA cB [.int a] [] (fun r W1 => r = (isA a) ∧ W1 = []) := by
  refine mkI (lv0 := [(0, .int a)]) (by decide) (Nat.le_of_ble_eq_true rfl) rfl ?_
  intro p e s m below meth c A ls X hr hlocks hnm hE hA hP hD hS hl
  have hx := X.1
  have hb := X.2.1
  refine lv_iload_n hx hb dX8_isAddress_0 rfl (lv_at hl 0 rfl) ?_
  refine lv_if_lt (tgt := 15) hx hb dX8_isAddress_1 (by decide) (fun c_1 => ?_) (fun c_1 => ?_)
  · skip
    refine lv_iconst (v := 0) hx hb dX8_isAddress_15 (by decide) ?_
    exact endZ X hr rfl hlocks hP hD hS dX8_isAddress_16 ⟨(by unfold isA; rw [if_pos c_1]), rfl⟩
  · skip
    refine lv_iload_n hx hb dX8_isAddress_4 rfl (lv_at hl 0 rfl) ?_
    refine lv_sipush (v := 4096) hx hb dX8_isAddress_5 (by decide) ?_
    refine lv_icmp_ge (tgt := 15) hx hb dX8_isAddress_8 (by decide) (fun c_8 => ?_) (fun c_8 => ?_)
    · skip
      refine lv_iconst (v := 0) hx hb dX8_isAddress_15 (by decide) ?_
      exact endZ X hr rfl hlocks hP hD hS dX8_isAddress_16 ⟨(by unfold isA; rw [if_neg c_1, if_pos c_8]), rfl⟩
    · skip
      refine lv_iconst (v := 1) hx hb dX8_isAddress_11 (by decide) ?_
      refine lv_goto (tgt := 16) hx hb dX8_isAddress_12 (by decide) ?_
      exact endZ X hr rfl hlocks hP hD hS dX8_isAddress_16 ⟨(by unfold isA; rw [if_neg c_1, if_neg c_8]), rfl⟩
set_option maxHeartbeats 4000000 in
set_option maxRecDepth 100000 in
theorem c_isByte (l : Launch) (D : va_G) (cA cB : ClassId) (v : Int32)  : CI l yX8_isByte cX8_isByte 1 (some .boolean) 0 0 0 0 D cA cB [.int v] [] (fun r W1 => r = (isB v) ∧ W1 = []) := by
  refine mkI (lv0 := [(0, .int v)]) (by decide) (Nat.le_of_ble_eq_true rfl) rfl ?_
  intro p e s m below meth c A ls X hr hlocks hnm hE hA hP hD hS hl
  have hx := X.1
  have hb := X.2.1
  refine lv_iload_n hx hb dX8_isByte_0 rfl (lv_at hl 0 rfl) ?_
  refine lv_if_lt (tgt := 15) hx hb dX8_isByte_1 (by decide) (fun c_1 => ?_) (fun c_1 => ?_)
  · skip
    refine lv_iconst (v := 0) hx hb dX8_isByte_15 (by decide) ?_
    exact endZ X hr rfl hlocks hP hD hS dX8_isByte_16 ⟨(by unfold isB; rw [if_pos c_1]), rfl⟩
  · skip
    refine lv_iload_n hx hb dX8_isByte_4 rfl (lv_at hl 0 rfl) ?_
    refine lv_sipush (v := 255) hx hb dX8_isByte_5 (by decide) ?_
    refine lv_icmp_gt (tgt := 15) hx hb dX8_isByte_8 (by decide) (fun c_8 => ?_) (fun c_8 => ?_)
    · skip
      refine lv_iconst (v := 0) hx hb dX8_isByte_15 (by decide) ?_
      exact endZ X hr rfl hlocks hP hD hS dX8_isByte_16 ⟨(by unfold isB; rw [if_neg c_1, if_pos c_8]), rfl⟩
    · skip
      refine lv_iconst (v := 1) hx hb dX8_isByte_11 (by decide) ?_
      refine lv_goto (tgt := 16) hx hb dX8_isByte_12 (by decide) ?_
      exact endZ X hr rfl hlocks hP hD hS dX8_isByte_16 ⟨(by unfold isB; rw [if_neg c_1, if_neg c_8]), rfl⟩
set_option maxHeartbeats 4000000 in
set_option maxRecDepth 100000 in
theorem c_peek (l : Launch) (D : va_G) (cA cB : ClassId) (h0 : Nat) (qn : Nat) (qs : Nat) (qd : Nat) (qp : Nat) (qr : Nat) (qt : Nat) (qa : Nat) (qm : Nat) (qe : Nat) (a : Int32)  : CI l yX8_peek cX8_peek 2 (some .int) 1 20 0 0 D cA cB [.ref h0, .int a] [(h0, .inr (8, [.ref qn, .ref qs, .ref qd, .ref qp, .ref qr, .ref qt, .ref qa, .ref qm, .ref qe])), (qs, .inl (cA, 4096, .inl (fun _ => 0)))] (fun r W1 => r = (sp_peek a)) := by
  refine mkI (lv0 := [(0, .ref h0), (1, .int a)]) (by decide) (Nat.le_of_ble_eq_true rfl) rfl ?_
  intro p e s m below meth c A ls X hr hlocks hnm hE hA hP hD hS hl
  have hx := X.1
  have hb := X.2.1
  refine lv_iload_n hx hb dX8_peek_0 rfl (lv_at hl 1 rfl) ?_
  refine kSi (n3 := 1) (As := [.int a]) (rest := []) X hl.1 hE hP hD hS hA [] [(h0, .inr (8, [.ref qn, .ref qs, .ref qd, .ref qp, .ref qr, .ref qt, .ref qa, .ref qm, .ref qe])), (qs, .inl (cA, 4096, .inl (fun _ => 0)))] [] [0, 1] rfl rfl rfl (by decide) (by decide) (by decide) (c_isAddress l D cA cB a ) w_115 w_116 w_114 w_117 (by decide +kernel) rfl rfl (Nat.le_of_ble_eq_true rfl) ⟨(Nat.le_of_ble_eq_true rfl), (Nat.le_of_ble_eq_true rfl)⟩ ⟨(Nat.le_of_ble_eq_true rfl), (Nat.le_of_ble_eq_true rfl)⟩ dX8_peek_1 (fun r W1 H locs hw hP hD hS => ?_)
  obtain ⟨rfl, rfl⟩ := hw
  have hP : va_P D classes [(h0, .inr (8, [.ref qn, .ref qs, .ref qd, .ref qp, .ref qr, .ref qt, .ref qa, .ref qm, .ref qe])), (qs, .inl (cA, 4096, .inl (fun _ => 0)))] H := hP
  have hD : va_D A [(h0, .inr (8, [.ref qn, .ref qs, .ref qd, .ref qp, .ref qr, .ref qt, .ref qa, .ref qm, .ref qe])), (qs, .inl (cA, 4096, .inl (fun _ => 0)))] := hD
  refine lv_if_eq (tgt := 16) hx hb dX8_peek_4 (by decide) (fun c_4 => ?_) (fun c_4 => ?_)
  · skip
    refine lv_iconst (v := (-1)) hx hb dX8_peek_16 (by decide) ?_
    exact endI X hr hlocks hP hD hS dX8_peek_17 (by unfold sp_peek; rw [if_pos c_4])
  · skip
    obtain ⟨j, hj, ej⟩ := isA_idx c_4
    refine lv_aload_n hx hb dX8_peek_7 rfl (lv_at hl 0 rfl) ?_
    refine k_get (C := RX8) (T := TX8) (N := 9) (ci := 8) (v := .ref qs) X hE hP 0 rfl rfl iX8 1 (by decide) w_66 rfl dX8_peek_8 ?_
    refine lv_iload_n hx hb dX8_peek_11 rfl (lv_at hl 1 rfl) ?_
    refine k_ald (v := 0) X hE hP 1 rfl j ej hj (by decide) rfl dX8_peek_12 ?_
    refine lv_goto (tgt := 17) hx hb dX8_peek_13 (by decide) ?_
    exact endI X hr hlocks hP hD hS dX8_peek_17 (by unfold sp_peek; rw [if_neg c_4])
set_option maxHeartbeats 4000000 in
set_option maxRecDepth 100000 in
theorem c_poke (l : Launch) (D : va_G) (cA cB : ClassId) (h0 : Nat) (qn : Nat) (qs : Nat) (qd : Nat) (qp : Nat) (qr : Nat) (qt : Nat) (qa : Nat) (qm : Nat) (qe : Nat) (qpe : Nat) (a : Int32) (v : Int32)  : CI l yX8_poke cX8_poke 3 (some .boolean) 1 20 0 0 D cA cB [.ref h0, .int a, .int v] [(h0, .inr (8, [.ref qn, .ref qs, .ref qd, .ref qp, .ref qr, .ref qt, .ref qa, .ref qm, .ref qe])), (qs, .inl (cA, 4096, .inl (fun _ => 0))), (qp, .inr (3, [.ref qpe, .int 0, .int 0]))] (fun r W1 => r = (sp_poke a v)) := by
  refine mkI (lv0 := [(0, .ref h0), (1, .int a), (2, .int v)]) (by decide) (Nat.le_of_ble_eq_true rfl) rfl ?_
  intro p e s m below meth c A ls X hr hlocks hnm hE hA hP hD hS hl
  have hx := X.1
  have hb := X.2.1
  refine lv_iload_n hx hb dX8_poke_0 rfl (lv_at hl 1 rfl) ?_
  refine lv_if_lt (tgt := 18) hx hb dX8_poke_1 (by decide) (fun c_1 => ?_) (fun c_1 => ?_)
  · skip
    refine lv_iconst (v := 0) hx hb dX8_poke_18 (by decide) ?_
    exact endZ X hr rfl hlocks hP hD hS dX8_poke_19 (by unfold sp_poke; rw [if_pos c_1])
  · skip
    refine lv_iload_n hx hb dX8_poke_4 rfl (lv_at hl 1 rfl) ?_
    refine lv_sipush (v := 4080) hx hb dX8_poke_5 (by decide) ?_
    refine lv_icmp_ge (tgt := 18) hx hb dX8_poke_8 (by decide) (fun c_8 => ?_) (fun c_8 => ?_)
    · skip
      refine lv_iconst (v := 0) hx hb dX8_poke_18 (by decide) ?_
      exact endZ X hr rfl hlocks hP hD hS dX8_poke_19 (by unfold sp_poke; rw [if_neg c_1, if_pos c_8])
    · skip
      refine lv_iload_n hx hb dX8_poke_11 rfl (lv_at hl 2 rfl) ?_
      refine kSi (n3 := 1) (As := [.int v]) (rest := []) X hl.1 hE hP hD hS hA [] [(h0, .inr (8, [.ref qn, .ref qs, .ref qd, .ref qp, .ref qr, .ref qt, .ref qa, .ref qm, .ref qe])), (qs, .inl (cA, 4096, .inl (fun _ => 0))), (qp, .inr (3, [.ref qpe, .int 0, .int 0]))] [] [0, 1, 2] rfl rfl rfl (by decide) (by decide) (by decide) (c_isByte l D cA cB v ) w_119 w_116 w_118 w_120 (by decide +kernel) rfl rfl (Nat.le_of_ble_eq_true rfl) ⟨(Nat.le_of_ble_eq_true rfl), (Nat.le_of_ble_eq_true rfl)⟩ ⟨(Nat.le_of_ble_eq_true rfl), (Nat.le_of_ble_eq_true rfl)⟩ dX8_poke_12 (fun r W1 H locs hw hP hD hS => ?_)
      obtain ⟨rfl, rfl⟩ := hw
      have hP : va_P D classes [(h0, .inr (8, [.ref qn, .ref qs, .ref qd, .ref qp, .ref qr, .ref qt, .ref qa, .ref qm, .ref qe])), (qs, .inl (cA, 4096, .inl (fun _ => 0))), (qp, .inr (3, [.ref qpe, .int 0, .int 0]))] H := hP
      have hD : va_D A [(h0, .inr (8, [.ref qn, .ref qs, .ref qd, .ref qp, .ref qr, .ref qt, .ref qa, .ref qm, .ref qe])), (qs, .inl (cA, 4096, .inl (fun _ => 0))), (qp, .inr (3, [.ref qpe, .int 0, .int 0]))] := hD
      refine lv_if_ne (tgt := 20) hx hb dX8_poke_15 (by decide) (fun c_15 => ?_) (fun c_15 => ?_)
      · skip
        obtain ⟨j, hj, ej⟩ := idx_of (n := 4080) (by decide) c_1 c_8
        have hj : j < 4096 := by omega
        refine lv_aload_n hx hb dX8_poke_20 rfl (lv_at hl 0 rfl) ?_
        refine k_get (C := RX8) (T := TX8) (N := 9) (ci := 8) (v := .ref qs) X hE hP 0 rfl rfl iX8 1 (by decide) w_66 rfl dX8_poke_21 ?_
        refine lv_iload_n hx hb dX8_poke_24 rfl (lv_at hl 1 rfl) ?_
        refine lv_iload_n hx hb dX8_poke_25 rfl (lv_at hl 2 rfl) ?_
        refine k_ast X hE hP hD hS 1 rfl j ej hj (by decide) [(h0, .inr (8, [.ref qn, .ref qs, .ref qd, .ref qp, .ref qr, .ref qt, .ref qa, .ref qm, .ref qe])), (qs, .inl (cA, 4096, .inl (upd (fun _ => 0) j v))), (qp, .inr (3, [.ref qpe, .int 0, .int 0]))] rfl dX8_poke_26 (fun H locs hP hD hS => ?_)
        refine lv_aload_n hx hb dX8_poke_27 rfl (lv_at hl 0 rfl) ?_
        refine k_get (C := RX8) (T := TX8) (N := 9) (ci := 8) (v := .ref qp) X hE hP 0 rfl rfl iX8 3 (by decide) w_78 rfl dX8_poke_28 ?_
        refine kVv (n3 := 0) (As := []) (rest := []) X hl.1 hE hP hD hS hA [(qp, .inr (3, [.ref qpe, .int 0, .int 0]))] [(h0, .inr (8, [.ref qn, .ref qs, .ref qd, .ref qp, .ref qr, .ref qt, .ref qa, .ref qm, .ref qe])), (qs, .inl (cA, 4096, .inl (upd (fun _ => 0) j v)))] [2] [0, 1] rfl rfl rfl (by decide) (by decide) (by decide) (c_Past_forget l D cA cB qp qpe 0 0 ) w_60 w_61 w_121 w_62 w_63 0 (ci := 3) (T := TX3) (N := 3) rfl rfl (by decide +kernel) rfl rfl (Nat.le_of_ble_eq_true rfl) ⟨(Nat.le_of_ble_eq_true rfl), (Nat.le_of_ble_eq_true rfl)⟩ ⟨(Nat.le_of_ble_eq_true rfl), (Nat.le_of_ble_eq_true rfl)⟩ dX8_poke_31 (fun W1 H locs hw hP hD hS => ?_)
        obtain rfl := hw
        have hP : va_P D classes [(h0, .inr (8, [.ref qn, .ref qs, .ref qd, .ref qp, .ref qr, .ref qt, .ref qa, .ref qm, .ref qe])), (qs, .inl (cA, 4096, .inl (upd (fun _ => 0) j v))), (qp, .inr (3, [.ref qpe, .int 0, .int 0]))] H := hP
        have hD : va_D A [(h0, .inr (8, [.ref qn, .ref qs, .ref qd, .ref qp, .ref qr, .ref qt, .ref qa, .ref qm, .ref qe])), (qs, .inl (cA, 4096, .inl (upd (fun _ => 0) j v))), (qp, .inr (3, [.ref qpe, .int 0, .int 0]))] := hD
        refine lv_iconst (v := 1) hx hb dX8_poke_34 (by decide) ?_
        exact endZ X hr rfl hlocks hP hD hS dX8_poke_35 (by unfold sp_poke; rw [if_neg c_1, if_neg c_8, if_neg c_15])
      · skip
        refine lv_iconst (v := 0) hx hb dX8_poke_18 (by decide) ?_
        exact endZ X hr rfl hlocks hP hD hS dX8_poke_19 (by unfold sp_poke; rw [if_neg c_1, if_neg c_8, if_pos c_15])
set_option maxHeartbeats 4000000 in
set_option maxRecDepth 100000 in
theorem c_drum (l : Launch) (D : va_G) (cA cB : ClassId) (h0 : Nat) (qn : Nat) (qs : Nat) (qd : Nat) (qp : Nat) (qr : Nat) (qt : Nat) (qa : Nat) (qm : Nat) (qe : Nat) (qd1 : Nat) (qd2 : Nat) (qd3 : Nat) (qd4 : Nat) (qpe : Nat) (a : Int32) (v : Int32)  : CI l yX8_drum cX8_drum 3 (some .boolean) 1 20 0 0 D cA cB [.ref h0, .int a, .int v] [(h0, .inr (8, [.ref qn, .ref qs, .ref qd, .ref qp, .ref qr, .ref qt, .ref qa, .ref qm, .ref qe])), (qd, .inr (1, [.ref qn, .ref qd1, .ref qd2, .ref qd3, .ref qd4])), (qd1, .inl (cA, 64, .inl (fun _ => 0))), (qp, .inr (3, [.ref qpe, .int 0, .int 0]))] (fun r W1 => r = (sp_drum a v)) := by
  refine mkI (lv0 := [(0, .ref h0), (1, .int a), (2, .int v)]) (by decide) (Nat.le_of_ble_eq_true rfl) rfl ?_
  intro p e s m below meth c A ls X hr hlocks hnm hE hA hP hD hS hl
  have hx := X.1
  have hb := X.2.1
  refine lv_iload_n hx hb dX8_drum_0 rfl (lv_at hl 1 rfl) ?_
  refine lv_if_lt (tgt := 17) hx hb dX8_drum_1 (by decide) (fun c_1 => ?_) (fun c_1 => ?_)
  · skip
    refine lv_iconst (v := 0) hx hb dX8_drum_17 (by decide) ?_
    exact endZ X hr rfl hlocks hP hD hS dX8_drum_18 (by unfold sp_drum; rw [if_pos c_1])
  · skip
    refine lv_iload_n hx hb dX8_drum_4 rfl (lv_at hl 1 rfl) ?_
    refine lv_bipush (v := 64) hx hb dX8_drum_5 (by decide) ?_
    refine lv_icmp_ge (tgt := 17) hx hb dX8_drum_7 (by decide) (fun c_7 => ?_) (fun c_7 => ?_)
    · skip
      refine lv_iconst (v := 0) hx hb dX8_drum_17 (by decide) ?_
      exact endZ X hr rfl hlocks hP hD hS dX8_drum_18 (by unfold sp_drum; rw [if_neg c_1, if_pos c_7])
    · skip
      refine lv_iload_n hx hb dX8_drum_10 rfl (lv_at hl 2 rfl) ?_
      refine kSi (n3 := 1) (As := [.int v]) (rest := []) X hl.1 hE hP hD hS hA [] [(h0, .inr (8, [.ref qn, .ref qs, .ref qd, .ref qp, .ref qr, .ref qt, .ref qa, .ref qm, .ref qe])), (qd, .inr (1, [.ref qn, .ref qd1, .ref qd2, .ref qd3, .ref qd4])), (qd1, .inl (cA, 64, .inl (fun _ => 0))), (qp, .inr (3, [.ref qpe, .int 0, .int 0]))] [] [0, 1, 2, 3] rfl rfl rfl (by decide) (by decide) (by decide) (c_isByte l D cA cB v ) w_119 w_116 w_118 w_120 (by decide +kernel) rfl rfl (Nat.le_of_ble_eq_true rfl) ⟨(Nat.le_of_ble_eq_true rfl), (Nat.le_of_ble_eq_true rfl)⟩ ⟨(Nat.le_of_ble_eq_true rfl), (Nat.le_of_ble_eq_true rfl)⟩ dX8_drum_11 (fun r W1 H locs hw hP hD hS => ?_)
      obtain ⟨rfl, rfl⟩ := hw
      have hP : va_P D classes [(h0, .inr (8, [.ref qn, .ref qs, .ref qd, .ref qp, .ref qr, .ref qt, .ref qa, .ref qm, .ref qe])), (qd, .inr (1, [.ref qn, .ref qd1, .ref qd2, .ref qd3, .ref qd4])), (qd1, .inl (cA, 64, .inl (fun _ => 0))), (qp, .inr (3, [.ref qpe, .int 0, .int 0]))] H := hP
      have hD : va_D A [(h0, .inr (8, [.ref qn, .ref qs, .ref qd, .ref qp, .ref qr, .ref qt, .ref qa, .ref qm, .ref qe])), (qd, .inr (1, [.ref qn, .ref qd1, .ref qd2, .ref qd3, .ref qd4])), (qd1, .inl (cA, 64, .inl (fun _ => 0))), (qp, .inr (3, [.ref qpe, .int 0, .int 0]))] := hD
      refine lv_if_ne (tgt := 19) hx hb dX8_drum_14 (by decide) (fun c_14 => ?_) (fun c_14 => ?_)
      · skip
        obtain ⟨j, hj, ej⟩ := idx_of (n := 64) (by decide) c_1 c_7
        refine lv_aload_n hx hb dX8_drum_19 rfl (lv_at hl 0 rfl) ?_
        refine k_get (C := RX8) (T := TX8) (N := 9) (ci := 8) (v := .ref qd) X hE hP 0 rfl rfl iX8 2 (by decide) w_73 rfl dX8_drum_20 ?_
        refine k_getN (C := RX1) (T := TX1) (N := 5) (ci := 1) (v := .ref qd1) X hE hP 1 rfl rfl iX1 1 (by decide) nw_0 rfl dX8_drum_23 ?_
        refine lv_iload_n hx hb dX8_drum_26 rfl (lv_at hl 1 rfl) ?_
        refine lv_iload_n hx hb dX8_drum_27 rfl (lv_at hl 2 rfl) ?_
        refine k_ast X hE hP hD hS 2 rfl j ej hj (by decide) [(h0, .inr (8, [.ref qn, .ref qs, .ref qd, .ref qp, .ref qr, .ref qt, .ref qa, .ref qm, .ref qe])), (qd, .inr (1, [.ref qn, .ref qd1, .ref qd2, .ref qd3, .ref qd4])), (qd1, .inl (cA, 64, .inl (upd (fun _ => 0) j v))), (qp, .inr (3, [.ref qpe, .int 0, .int 0]))] rfl dX8_drum_28 (fun H locs hP hD hS => ?_)
        refine lv_aload_n hx hb dX8_drum_29 rfl (lv_at hl 0 rfl) ?_
        refine k_get (C := RX8) (T := TX8) (N := 9) (ci := 8) (v := .ref qp) X hE hP 0 rfl rfl iX8 3 (by decide) w_78 rfl dX8_drum_30 ?_
        refine kVv (n3 := 0) (As := []) (rest := []) X hl.1 hE hP hD hS hA [(qp, .inr (3, [.ref qpe, .int 0, .int 0]))] [(h0, .inr (8, [.ref qn, .ref qs, .ref qd, .ref qp, .ref qr, .ref qt, .ref qa, .ref qm, .ref qe])), (qd, .inr (1, [.ref qn, .ref qd1, .ref qd2, .ref qd3, .ref qd4])), (qd1, .inl (cA, 64, .inl (upd (fun _ => 0) j v)))] [3] [0, 1, 2] rfl rfl rfl (by decide) (by decide) (by decide) (c_Past_forget l D cA cB qp qpe 0 0 ) w_60 w_61 w_121 w_62 w_63 0 (ci := 3) (T := TX3) (N := 3) rfl rfl (by decide +kernel) rfl rfl (Nat.le_of_ble_eq_true rfl) ⟨(Nat.le_of_ble_eq_true rfl), (Nat.le_of_ble_eq_true rfl)⟩ ⟨(Nat.le_of_ble_eq_true rfl), (Nat.le_of_ble_eq_true rfl)⟩ dX8_drum_33 (fun W1 H locs hw hP hD hS => ?_)
        obtain rfl := hw
        have hP : va_P D classes [(h0, .inr (8, [.ref qn, .ref qs, .ref qd, .ref qp, .ref qr, .ref qt, .ref qa, .ref qm, .ref qe])), (qd, .inr (1, [.ref qn, .ref qd1, .ref qd2, .ref qd3, .ref qd4])), (qd1, .inl (cA, 64, .inl (upd (fun _ => 0) j v))), (qp, .inr (3, [.ref qpe, .int 0, .int 0]))] H := hP
        have hD : va_D A [(h0, .inr (8, [.ref qn, .ref qs, .ref qd, .ref qp, .ref qr, .ref qt, .ref qa, .ref qm, .ref qe])), (qd, .inr (1, [.ref qn, .ref qd1, .ref qd2, .ref qd3, .ref qd4])), (qd1, .inl (cA, 64, .inl (upd (fun _ => 0) j v))), (qp, .inr (3, [.ref qpe, .int 0, .int 0]))] := hD
        refine lv_iconst (v := 1) hx hb dX8_drum_36 (by decide) ?_
        exact endZ X hr rfl hlocks hP hD hS dX8_drum_37 (by unfold sp_drum; rw [if_neg c_1, if_neg c_7, if_neg c_14])
      · skip
        refine lv_iconst (v := 0) hx hb dX8_drum_17 (by decide) ?_
        exact endZ X hr rfl hlocks hP hD hS dX8_drum_18 (by unfold sp_drum; rw [if_neg c_1, if_neg c_7, if_pos c_14])
set_option maxHeartbeats 4000000 in
set_option maxRecDepth 100000 in
theorem c_register (l : Launch) (D : va_G) (cA cB : ClassId) (h0 : Nat) (qn : Nat) (qs : Nat) (qd : Nat) (qp : Nat) (qr : Nat) (qt : Nat) (qa : Nat) (qm : Nat) (qe : Nat) (f : Nat → Int32) (a : Int32) (hfr : frn f) : CI l yX8_register cX8_register 2 (some .int) 0 0 0 0 D cA cB [.ref h0, .int a] [(h0, .inr (8, [.ref qn, .ref qs, .ref qd, .ref qp, .ref qr, .ref qt, .ref qa, .ref qm, .ref qe])), (qn, .inl (cA, 34, .inl f))] (fun r W1 => r = (sp_register a)) := by
  refine mkI (lv0 := [(0, .ref h0), (1, .int a)]) (by decide) (Nat.le_of_ble_eq_true rfl) rfl ?_
  intro p e s m below meth c A ls X hr hlocks hnm hE hA hP hD hS hl
  have hx := X.1
  have hb := X.2.1
  refine lv_iload_n hx hb dX8_register_0 rfl (lv_at hl 1 rfl) ?_
  refine lv_if_lt (tgt := 19) hx hb dX8_register_1 (by decide) (fun c_1 => ?_) (fun c_1 => ?_)
  · skip
    refine lv_iconst (v := 0) hx hb dX8_register_19 (by decide) ?_
    exact endI X hr hlocks hP hD hS dX8_register_20 (by unfold sp_register; rw [if_pos c_1])
  · skip
    refine lv_iload_n hx hb dX8_register_4 rfl (lv_at hl 1 rfl) ?_
    refine lv_bipush (v := 7) hx hb dX8_register_5 (by decide) ?_
    refine lv_icmp_gt (tgt := 19) hx hb dX8_register_7 (by decide) (fun c_7 => ?_) (fun c_7 => ?_)
    · skip
      refine lv_iconst (v := 0) hx hb dX8_register_19 (by decide) ?_
      exact endI X hr hlocks hP hD hS dX8_register_20 (by unfold sp_register; rw [if_neg c_1, if_pos c_7])
    · skip
      obtain ⟨j, hj, ej⟩ := idx_le (n := 7) (by decide) c_1 c_7
      refine lv_aload_n hx hb dX8_register_10 rfl (lv_at hl 0 rfl) ?_
      refine k_get (C := RX8) (T := TX8) (N := 9) (ci := 8) (v := .ref qn) X hE hP 0 rfl rfl iX8 0 (by decide) w_65 rfl dX8_register_11 ?_
      refine lv_iload_n hx hb dX8_register_14 rfl (lv_at hl 1 rfl) ?_
      refine k_ald (v := (fr_at j)) X hE hP 1 rfl j ej (by omega) (by decide) ((hfr j (by omega)).trans rfl) dX8_register_15 ?_
      refine lv_goto (tgt := 20) hx hb dX8_register_16 (by decide) ?_
      exact endI X hr hlocks hP hD hS dX8_register_20 (by unfold sp_register; rw [if_neg c_1, if_neg c_7, ej]; exact sp_reg_at j hj)
set_option maxHeartbeats 4000000 in
set_option maxRecDepth 100000 in
theorem c_endc (l : Launch) (D : va_G) (cA cB : ClassId) (h0 : Nat) (qn : Nat) (qs : Nat) (qd : Nat) (qp : Nat) (qr : Nat) (qt : Nat) (qa : Nat) (qm : Nat) (qe : Nat) (qab : Nat) (a : Int32)  : CI l yX8_end cX8_end 2 (some .int) 0 0 0 0 D cA cB [.ref h0, .int a] [(h0, .inr (8, [.ref qn, .ref qs, .ref qd, .ref qp, .ref qr, .ref qt, .ref qa, .ref qm, .ref qe])), (qa, .inr (7, [.ref qab, .int 0, .int 0, .int 0, .int 0, .int 0, .int 0, .int 0, .int 0]))] (fun r W1 => r = (sp_end a)) := by
  refine mkI (lv0 := [(0, .ref h0), (1, .int a)]) (by decide) (Nat.le_of_ble_eq_true rfl) rfl ?_
  intro p e s m below meth c A ls X hr hlocks hnm hE hA hP hD hS hl
  have hx := X.1
  have hb := X.2.1
  refine lv_iload_n hx hb dX8_end_0 rfl (lv_at hl 1 rfl) ?_
  refine lv_if_lt (tgt := 15) hx hb dX8_end_1 (by decide) (fun c_1 => ?_) (fun c_1 => ?_)
  · skip
    refine lv_iconst (v := (-1)) hx hb dX8_end_15 (by decide) ?_
    exact endI X hr hlocks hP hD hS dX8_end_16 (by unfold sp_end; rw [if_pos c_1])
  · skip
    refine lv_iload_n hx hb dX8_end_4 rfl (lv_at hl 1 rfl) ?_
    refine lv_aload_n hx hb dX8_end_5 rfl (lv_at hl 0 rfl) ?_
    refine k_get (C := RX8) (T := TX8) (N := 9) (ci := 8) (v := .ref qa) X hE hP 0 rfl rfl iX8 6 (by decide) w_96 rfl dX8_end_6 ?_
    refine k_getN (C := RX7) (T := TX7) (N := 9) (ci := 7) (v := .int 0) X hE hP 1 rfl rfl iX7 1 (by decide) nw_12 rfl dX8_end_9 ?_
    refine lv_icmp_le (tgt := 17) hx hb dX8_end_12 (by decide) (fun c_12 => ?_) (fun c_12 => ?_)
    · skip
      refine lv_aload_n hx hb dX8_end_17 rfl (lv_at hl 0 rfl) ?_
      refine k_get (C := RX8) (T := TX8) (N := 9) (ci := 8) (v := .ref qa) X hE hP 0 rfl rfl iX8 6 (by decide) w_96 rfl dX8_end_18 ?_
      refine lv_iload_n hx hb dX8_end_21 rfl (lv_at hl 1 rfl) ?_
      refine k_putN (C := RX7) (T := TX7) (N := 9) (ci := 7) (v := .int a) (ty := .int) X hE hP hD hS 1 rfl rfl iX7 tyX7 tyX7_ok nmX7 1 (by decide) nw_12 rfl (by decide +kernel) rfl rfl (Nat.le_of_ble_eq_true rfl) [(h0, .inr (8, [.ref qn, .ref qs, .ref qd, .ref qp, .ref qr, .ref qt, .ref qa, .ref qm, .ref qe])), (qa, .inr (7, [.ref qab, .int a, .int 0, .int 0, .int 0, .int 0, .int 0, .int 0, .int 0]))] rfl dX8_end_22 (fun H locs hP hD hS => ?_)
      refine lv_iload_n hx hb dX8_end_25 rfl (lv_at hl 1 rfl) ?_
      exact endI X hr hlocks hP hD hS dX8_end_26 (by unfold sp_end; rw [if_neg c_1, if_pos c_12])
    · skip
      refine lv_iconst (v := (-1)) hx hb dX8_end_15 (by decide) ?_
      exact endI X hr hlocks hP hD hS dX8_end_16 (by unfold sp_end; rw [if_neg c_1, if_neg c_12])
set_option maxHeartbeats 4000000 in
set_option maxRecDepth 100000 in
theorem c_addKey (l : Launch) (D : va_G) (cA cB : ClassId) (h0 : Nat) (hn : Nat) (h1 : Nat) (h2 : Nat) (h3 : Nat) (h4 : Nat) (f : Nat → Int32) (g : Nat → Int32) (v : Int32) (k33 : f 33 = 0) (k19 : f 19 = 0) (k15 : f 15 = 0) : CV l yX1_addKey cX1_addKey 2 none 0 0 0 0 D cA cB [.ref h0, .int v] [(h0, .inr (1, [.ref hn, .ref h1, .ref h2, .ref h3, .ref h4])), (hn, .inl (cA, 34, .inl f)), (h2, .inl (cA, 16, .inl g))] (fun W1 => W1 = [(h0, .inr (1, [.ref hn, .ref h1, .ref h2, .ref h3, .ref h4])), (hn, .inl (cA, 34, .inl (upd (upd f 19 1) 15 8))), (h2, .inl (cA, 16, .inl (upd g 0 v)))]) := by
  refine mkV (lv0 := [(0, .ref h0), (1, .int v)]) (by decide) (Nat.le_of_ble_eq_true rfl) rfl ?_
  intro p e s m below meth c A ls X hr hlocks hnm hE hA hP hD hS hl
  have hx := X.1
  have hb := X.2.1
  refine lv_aload_n hx hb dX1_addKey_0 rfl (lv_at hl 0 rfl) ?_
  refine k_get (C := RX1) (T := TX1) (N := 5) (ci := 1) (v := .ref h2) X hE hP 0 rfl rfl iX1 2 (by decide) w_19 rfl dX1_addKey_1 ?_
  refine lv_aload_n hx hb dX1_addKey_4 rfl (lv_at hl 0 rfl) ?_
  refine k_get (C := RX1) (T := TX1) (N := 5) (ci := 1) (v := .ref hn) X hE hP 0 rfl rfl iX1 0 (by decide) w_22 rfl dX1_addKey_5 ?_
  refine lv_bipush (v := 33) hx hb dX1_addKey_8 (by decide) ?_
  refine k_ald (v := 0) X hE hP 1 rfl 33 rfl (by decide) (by decide) k33 dX1_addKey_10 ?_
  refine lv_aload_n hx hb dX1_addKey_11 rfl (lv_at hl 0 rfl) ?_
  refine k_get (C := RX1) (T := TX1) (N := 5) (ci := 1) (v := .ref hn) X hE hP 0 rfl rfl iX1 0 (by decide) w_22 rfl dX1_addKey_12 ?_
  refine lv_bipush (v := 19) hx hb dX1_addKey_15 (by decide) ?_
  refine k_ald (v := 0) X hE hP 1 rfl 19 rfl (by decide) (by decide) k19 dX1_addKey_17 ?_
  refine lv_iadd hx hb dX1_addKey_18 ?_
  refine tk (y := 0) (by decide) ?_
  refine lv_bipush (v := 16) hx hb dX1_addKey_19 (by decide) ?_
  refine lv_irem hx hb dX1_addKey_21 (by decide) ?_
  refine tk (y := 0) (by decide) ?_
  refine lv_iload_n hx hb dX1_addKey_22 rfl (lv_at hl 1 rfl) ?_
  refine k_ast X hE hP hD hS 2 rfl 0 rfl (by decide) (by decide) [(h0, .inr (1, [.ref hn, .ref h1, .ref h2, .ref h3, .ref h4])), (hn, .inl (cA, 34, .inl f)), (h2, .inl (cA, 16, .inl (upd g 0 v)))] rfl dX1_addKey_23 (fun H locs hP hD hS => ?_)
  refine lv_aload_n hx hb dX1_addKey_24 rfl (lv_at hl 0 rfl) ?_
  refine k_get (C := RX1) (T := TX1) (N := 5) (ci := 1) (v := .ref hn) X hE hP 0 rfl rfl iX1 0 (by decide) w_22 rfl dX1_addKey_25 ?_
  refine lv_bipush (v := 19) hx hb dX1_addKey_28 (by decide) ?_
  refine lv_dup2_11 hx hb dX1_addKey_30 rfl rfl ?_
  refine k_ald (v := 0) X hE hP 1 rfl 19 rfl (by decide) (by decide) k19 dX1_addKey_31 ?_
  refine lv_iconst (v := 1) hx hb dX1_addKey_32 (by decide) ?_
  refine lv_iadd hx hb dX1_addKey_33 ?_
  refine tk (y := 1) (by decide) ?_
  refine k_ast X hE hP hD hS 1 rfl 19 rfl (by decide) (by decide) [(h0, .inr (1, [.ref hn, .ref h1, .ref h2, .ref h3, .ref h4])), (hn, .inl (cA, 34, .inl (upd f 19 1))), (h2, .inl (cA, 16, .inl (upd g 0 v)))] rfl dX1_addKey_34 (fun H locs hP hD hS => ?_)
  refine lv_aload_n hx hb dX1_addKey_35 rfl (lv_at hl 0 rfl) ?_
  refine k_get (C := RX1) (T := TX1) (N := 5) (ci := 1) (v := .ref hn) X hE hP 0 rfl rfl iX1 0 (by decide) w_22 rfl dX1_addKey_36 ?_
  refine lv_bipush (v := 15) hx hb dX1_addKey_39 (by decide) ?_
  refine lv_dup2_11 hx hb dX1_addKey_41 rfl rfl ?_
  refine k_ald (v := 0) X hE hP 1 rfl 15 rfl (by decide) (by decide) k15 dX1_addKey_42 ?_
  refine lv_bipush (v := 8) hx hb dX1_addKey_43 (by decide) ?_
  refine lv_ior hx hb dX1_addKey_45 ?_
  refine tk (y := 8) (by decide) ?_
  refine k_ast X hE hP hD hS 1 rfl 15 rfl (by decide) (by decide) [(h0, .inr (1, [.ref hn, .ref h1, .ref h2, .ref h3, .ref h4])), (hn, .inl (cA, 34, .inl (upd (upd f 19 1) 15 8))), (h2, .inl (cA, 16, .inl (upd g 0 v)))] rfl dX1_addKey_46 (fun H locs hP hD hS => ?_)
  exact endV X hr hlocks hP hD hS dX1_addKey_47 rfl
set_option maxHeartbeats 4000000 in
set_option maxRecDepth 100000 in
theorem c_key (l : Launch) (D : va_G) (cA cB : ClassId) (h0 : Nat) (qn : Nat) (qs : Nat) (qd : Nat) (qp : Nat) (qr : Nat) (qt : Nat) (qa : Nat) (qm : Nat) (qe : Nat) (f : Nat → Int32) (qd1 : Nat) (qd2 : Nat) (qd3 : Nat) (qd4 : Nat) (qpe : Nat) (v : Int32) (hfr : frn f) : CI l yX8_key cX8_key 2 (some .int) 1 21 0 0 D cA cB [.ref h0, .int v] [(h0, .inr (8, [.ref qn, .ref qs, .ref qd, .ref qp, .ref qr, .ref qt, .ref qa, .ref qm, .ref qe])), (qn, .inl (cA, 34, .inl f)), (qd, .inr (1, [.ref qn, .ref qd1, .ref qd2, .ref qd3, .ref qd4])), (qd2, .inl (cA, 16, .inl (fun _ => 0))), (qp, .inr (3, [.ref qpe, .int 0, .int 0]))] (fun r W1 => r = (sp_key v)) := by
  refine mkI (lv0 := [(0, .ref h0), (1, .int v)]) (by decide) (Nat.le_of_ble_eq_true rfl) rfl ?_
  intro p e s m below meth c A ls X hr hlocks hnm hE hA hP hD hS hl
  have hx := X.1
  have hb := X.2.1
  refine lv_iload_n hx hb dX8_key_0 rfl (lv_at hl 1 rfl) ?_
  refine kSi (n3 := 1) (As := [.int v]) (rest := []) X hl.1 hE hP hD hS hA [] [(h0, .inr (8, [.ref qn, .ref qs, .ref qd, .ref qp, .ref qr, .ref qt, .ref qa, .ref qm, .ref qe])), (qn, .inl (cA, 34, .inl f)), (qd, .inr (1, [.ref qn, .ref qd1, .ref qd2, .ref qd3, .ref qd4])), (qd2, .inl (cA, 16, .inl (fun _ => 0))), (qp, .inr (3, [.ref qpe, .int 0, .int 0]))] [] [0, 1, 2, 3, 4] rfl rfl rfl (by decide) (by decide) (by decide) (c_isByte l D cA cB v ) w_119 w_116 w_118 w_120 (by decide +kernel) rfl rfl (Nat.le_of_ble_eq_true rfl) ⟨(Nat.le_of_ble_eq_true rfl), (Nat.le_of_ble_eq_true rfl)⟩ ⟨(Nat.le_of_ble_eq_true rfl), (Nat.le_of_ble_eq_true rfl)⟩ dX8_key_1 (fun r W1 H locs hw hP hD hS => ?_)
  obtain ⟨rfl, rfl⟩ := hw
  have hP : va_P D classes [(h0, .inr (8, [.ref qn, .ref qs, .ref qd, .ref qp, .ref qr, .ref qt, .ref qa, .ref qm, .ref qe])), (qn, .inl (cA, 34, .inl f)), (qd, .inr (1, [.ref qn, .ref qd1, .ref qd2, .ref qd3, .ref qd4])), (qd2, .inl (cA, 16, .inl (fun _ => 0))), (qp, .inr (3, [.ref qpe, .int 0, .int 0]))] H := hP
  have hD : va_D A [(h0, .inr (8, [.ref qn, .ref qs, .ref qd, .ref qp, .ref qr, .ref qt, .ref qa, .ref qm, .ref qe])), (qn, .inl (cA, 34, .inl f)), (qd, .inr (1, [.ref qn, .ref qd1, .ref qd2, .ref qd3, .ref qd4])), (qd2, .inl (cA, 16, .inl (fun _ => 0))), (qp, .inr (3, [.ref qpe, .int 0, .int 0]))] := hD
  refine lv_if_eq (tgt := 19) hx hb dX8_key_4 (by decide) (fun c_4 => ?_) (fun c_4 => ?_)
  · skip
    refine lv_iconst (v := (-1)) hx hb dX8_key_19 (by decide) ?_
    exact endI X hr hlocks hP hD hS dX8_key_20 (by unfold sp_key; rw [if_pos c_4])
  · skip
    refine lv_aload_n hx hb dX8_key_7 rfl (lv_at hl 0 rfl) ?_
    refine k_get (C := RX8) (T := TX8) (N := 9) (ci := 8) (v := .ref qn) X hE hP 0 rfl rfl iX8 0 (by decide) w_65 rfl dX8_key_8 ?_
    refine lv_bipush (v := 19) hx hb dX8_key_11 (by decide) ?_
    refine k_ald (v := 0) X hE hP 1 rfl 19 rfl (by decide) (by decide) (hfr 19 (by decide)) dX8_key_13 ?_
    refine lv_bipush (v := 16) hx hb dX8_key_14 (by decide) ?_
    refine lv_icmp_lt (tgt := 21) hx hb dX8_key_16 (by decide) (fun c_16 => ?_) (fun c_16 => absurd (by decide) c_16)
    refine lv_aload_n hx hb dX8_key_21 rfl (lv_at hl 0 rfl) ?_
    refine k_get (C := RX8) (T := TX8) (N := 9) (ci := 8) (v := .ref qd) X hE hP 0 rfl rfl iX8 2 (by decide) w_73 rfl dX8_key_22 ?_
    refine lv_iload_n hx hb dX8_key_25 rfl (lv_at hl 1 rfl) ?_
    refine kVv (n3 := 1) (As := [.int v]) (rest := []) X hl.1 hE hP hD hS hA [(qd, .inr (1, [.ref qn, .ref qd1, .ref qd2, .ref qd3, .ref qd4])), (qn, .inl (cA, 34, .inl f)), (qd2, .inl (cA, 16, .inl (fun _ => 0)))] [(h0, .inr (8, [.ref qn, .ref qs, .ref qd, .ref qp, .ref qr, .ref qt, .ref qa, .ref qm, .ref qe])), (qp, .inr (3, [.ref qpe, .int 0, .int 0]))] [2, 1, 3] [0, 4] rfl rfl rfl (by decide) (by decide) (by decide) (c_addKey l D cA cB qd qn qd1 qd2 qd3 qd4 f (fun _ => 0) v (hfr 33 (by decide)) (hfr 19 (by decide)) (hfr 15 (by decide))) w_123 w_69 w_122 w_124 w_125 0 (ci := 1) (T := TX1) (N := 5) rfl rfl (by decide +kernel) rfl rfl (Nat.le_of_ble_eq_true rfl) ⟨(Nat.le_of_ble_eq_true rfl), (Nat.le_of_ble_eq_true rfl)⟩ ⟨(Nat.le_of_ble_eq_true rfl), (Nat.le_of_ble_eq_true rfl)⟩ dX8_key_26 (fun W1 H locs hw hP hD hS => ?_)
    obtain rfl := hw
    have hP : va_P D classes [(h0, .inr (8, [.ref qn, .ref qs, .ref qd, .ref qp, .ref qr, .ref qt, .ref qa, .ref qm, .ref qe])), (qp, .inr (3, [.ref qpe, .int 0, .int 0])), (qd, .inr (1, [.ref qn, .ref qd1, .ref qd2, .ref qd3, .ref qd4])), (qn, .inl (cA, 34, .inl (upd (upd f 19 1) 15 8))), (qd2, .inl (cA, 16, .inl (upd (fun _ => 0) 0 v)))] H := hP
    have hD : va_D A [(h0, .inr (8, [.ref qn, .ref qs, .ref qd, .ref qp, .ref qr, .ref qt, .ref qa, .ref qm, .ref qe])), (qp, .inr (3, [.ref qpe, .int 0, .int 0])), (qd, .inr (1, [.ref qn, .ref qd1, .ref qd2, .ref qd3, .ref qd4])), (qn, .inl (cA, 34, .inl (upd (upd f 19 1) 15 8))), (qd2, .inl (cA, 16, .inl (upd (fun _ => 0) 0 v)))] := hD
    refine lv_aload_n hx hb dX8_key_29 rfl (lv_at hl 0 rfl) ?_
    refine k_get (C := RX8) (T := TX8) (N := 9) (ci := 8) (v := .ref qp) X hE hP 0 rfl rfl iX8 3 (by decide) w_78 rfl dX8_key_30 ?_
    refine kVv (n3 := 0) (As := []) (rest := []) X hl.1 hE hP hD hS hA [(qp, .inr (3, [.ref qpe, .int 0, .int 0]))] [(h0, .inr (8, [.ref qn, .ref qs, .ref qd, .ref qp, .ref qr, .ref qt, .ref qa, .ref qm, .ref qe])), (qd, .inr (1, [.ref qn, .ref qd1, .ref qd2, .ref qd3, .ref qd4])), (qn, .inl (cA, 34, .inl (upd (upd f 19 1) 15 8))), (qd2, .inl (cA, 16, .inl (upd (fun _ => 0) 0 v)))] [1] [0, 2, 3, 4] rfl rfl rfl (by decide) (by decide) (by decide) (c_Past_forget l D cA cB qp qpe 0 0 ) w_60 w_61 w_121 w_62 w_63 0 (ci := 3) (T := TX3) (N := 3) rfl rfl (by decide +kernel) rfl rfl (Nat.le_of_ble_eq_true rfl) ⟨(Nat.le_of_ble_eq_true rfl), (Nat.le_of_ble_eq_true rfl)⟩ ⟨(Nat.le_of_ble_eq_true rfl), (Nat.le_of_ble_eq_true rfl)⟩ dX8_key_33 (fun W1 H locs hw hP hD hS => ?_)
    obtain rfl := hw
    have hP : va_P D classes [(h0, .inr (8, [.ref qn, .ref qs, .ref qd, .ref qp, .ref qr, .ref qt, .ref qa, .ref qm, .ref qe])), (qd, .inr (1, [.ref qn, .ref qd1, .ref qd2, .ref qd3, .ref qd4])), (qn, .inl (cA, 34, .inl (upd (upd f 19 1) 15 8))), (qd2, .inl (cA, 16, .inl (upd (fun _ => 0) 0 v))), (qp, .inr (3, [.ref qpe, .int 0, .int 0]))] H := hP
    have hD : va_D A [(h0, .inr (8, [.ref qn, .ref qs, .ref qd, .ref qp, .ref qr, .ref qt, .ref qa, .ref qm, .ref qe])), (qd, .inr (1, [.ref qn, .ref qd1, .ref qd2, .ref qd3, .ref qd4])), (qn, .inl (cA, 34, .inl (upd (upd f 19 1) 15 8))), (qd2, .inl (cA, 16, .inl (upd (fun _ => 0) 0 v))), (qp, .inr (3, [.ref qpe, .int 0, .int 0]))] := hD
    refine lv_aload_n hx hb dX8_key_36 rfl (lv_at hl 0 rfl) ?_
    refine k_get (C := RX8) (T := TX8) (N := 9) (ci := 8) (v := .ref qn) X hE hP 0 rfl rfl iX8 0 (by decide) w_65 rfl dX8_key_37 ?_
    refine lv_bipush (v := 19) hx hb dX8_key_40 (by decide) ?_
    refine k_ald (v := 1) X hE hP 2 rfl 19 rfl (by decide) (by decide) rfl dX8_key_42 ?_
    exact endI X hr hlocks hP hD hS dX8_key_43 (by unfold sp_key; rw [if_neg c_4])
set_option maxHeartbeats 4000000 in
set_option maxRecDepth 100000 in
theorem c_Stops_find0 (l : Launch) (D : va_G) (cA cB : ClassId) (h0 : Nat) (hp : Nat) (f : Nat → Int32) (a : Int32)  : CI l yX6_find cX6_find 3 (some .int) 0 0 0 0 D cA cB [.ref h0, .int a] [(h0, .inr (6, [.ref hp, .int 0])), (hp, .inl (cA, 16, .inl f))] (fun r W1 => r = (-1) ∧ W1 = [(h0, .inr (6, [.ref hp, .int 0])), (hp, .inl (cA, 16, .inl f))]) := by
  refine mkI (lv0 := [(0, .ref h0), (1, .int a)]) (by decide) (Nat.le_of_ble_eq_true rfl) rfl ?_
  intro p e s m below meth c A ls X hr hlocks hnm hE hA hP hD hS hl
  have hx := X.1
  have hb := X.2.1
  refine lv_iconst (v := 0) hx hb dX6_find_0 (by decide) ?_
  refine lv_istore_n (lv' := [(2, .int 0), (0, .ref h0), (1, .int a)]) hx hb dX6_find_1 rfl hl (by decide) rfl (fun ls hl => ?_)
  refine lv_iload_n hx hb dX6_find_2 rfl (lv_at hl 0 rfl) ?_
  refine lv_aload_n hx hb dX6_find_3 rfl (lv_at hl 1 rfl) ?_
  refine k_get (C := RX6) (T := TX6) (N := 2) (ci := 6) (v := .int 0) X hE hP 0 rfl rfl iX6 1 (by decide) w_126 rfl dX6_find_4 ?_
  refine lv_icmp_ge (tgt := 28) hx hb dX6_find_7 (by decide) (fun c_7 => ?_) (fun c_7 => absurd (by decide) c_7)
  refine lv_iconst (v := (-1)) hx hb dX6_find_28 (by decide) ?_
  exact endI X hr hlocks hP hD hS dX6_find_29 ⟨rfl, rfl⟩
set_option maxHeartbeats 4000000 in
set_option maxRecDepth 100000 in
theorem c_Stops_set0 (l : Launch) (D : va_G) (cA cB : ClassId) (h0 : Nat) (hp : Nat) (f : Nat → Int32) (a : Int32)  : CI l yX6_set cX6_set 2 (some .int) 1 22 0 0 D cA cB [.ref h0, .int a] [(h0, .inr (6, [.ref hp, .int 0])), (hp, .inl (cA, 16, .inl f))] (fun r W1 => r = 1 ∧ W1 = [(h0, .inr (6, [.ref hp, .int 1])), (hp, .inl (cA, 16, .inl (upd f 0 a)))]) := by
  refine mkI (lv0 := [(0, .ref h0), (1, .int a)]) (by decide) (Nat.le_of_ble_eq_true rfl) rfl ?_
  intro p e s m below meth c A ls X hr hlocks hnm hE hA hP hD hS hl
  have hx := X.1
  have hb := X.2.1
  refine lv_aload_n hx hb dX6_set_0 rfl (lv_at hl 0 rfl) ?_
  refine lv_iload_n hx hb dX6_set_1 rfl (lv_at hl 1 rfl) ?_
  refine kVi (n3 := 1) (As := [.int a]) (rest := []) X hl.1 hE hP hD hS hA [(h0, .inr (6, [.ref hp, .int 0])), (hp, .inl (cA, 16, .inl f))] [] [0, 1] [] rfl rfl rfl (by decide) (by decide) (by decide) (c_Stops_find0 l D cA cB h0 hp f a ) w_128 w_87 w_127 w_129 w_130 0 (ci := 6) (T := TX6) (N := 2) rfl rfl (by decide +kernel) rfl rfl (Nat.le_of_ble_eq_true rfl) ⟨(Nat.le_of_ble_eq_true rfl), (Nat.le_of_ble_eq_true rfl)⟩ ⟨(Nat.le_of_ble_eq_true rfl), (Nat.le_of_ble_eq_true rfl)⟩ dX6_set_2 (fun r W1 H locs hw hP hD hS => ?_)
  obtain ⟨rfl, rfl⟩ := hw
  have hP : va_P D classes [(h0, .inr (6, [.ref hp, .int 0])), (hp, .inl (cA, 16, .inl f))] H := hP
  have hD : va_D A [(h0, .inr (6, [.ref hp, .int 0])), (hp, .inl (cA, 16, .inl f))] := hD
  refine lv_iconst (v := (-1)) hx hb dX6_set_5 (by decide) ?_
  refine lv_icmp_eq (tgt := 14) hx hb dX6_set_6 (by decide) (fun c_6 => ?_) (fun c_6 => absurd (by decide) c_6)
  refine lv_aload_n hx hb dX6_set_14 rfl (lv_at hl 0 rfl) ?_
  refine k_get (C := RX6) (T := TX6) (N := 2) (ci := 6) (v := .int 0) X hE hP 0 rfl rfl iX6 1 (by decide) w_126 rfl dX6_set_15 ?_
  refine lv_bipush (v := 16) hx hb dX6_set_18 (by decide) ?_
  refine lv_icmp_lt (tgt := 25) hx hb dX6_set_20 (by decide) (fun c_20 => ?_) (fun c_20 => absurd (by decide) c_20)
  refine lv_aload_n hx hb dX6_set_25 rfl (lv_at hl 0 rfl) ?_
  refine k_get (C := RX6) (T := TX6) (N := 2) (ci := 6) (v := .ref hp) X hE hP 0 rfl rfl iX6 0 (by decide) w_5 rfl dX6_set_26 ?_
  refine lv_aload_n hx hb dX6_set_29 rfl (lv_at hl 0 rfl) ?_
  refine k_get (C := RX6) (T := TX6) (N := 2) (ci := 6) (v := .int 0) X hE hP 0 rfl rfl iX6 1 (by decide) w_126 rfl dX6_set_30 ?_
  refine lv_iload_n hx hb dX6_set_33 rfl (lv_at hl 1 rfl) ?_
  refine k_ast X hE hP hD hS 1 rfl 0 rfl (by decide) (by decide) [(h0, .inr (6, [.ref hp, .int 0])), (hp, .inl (cA, 16, .inl (upd f 0 a)))] rfl dX6_set_34 (fun H locs hP hD hS => ?_)
  refine lv_aload_n hx hb dX6_set_35 rfl (lv_at hl 0 rfl) ?_
  refine lv_dup hx hb dX6_set_36 rfl ?_
  refine k_get (C := RX6) (T := TX6) (N := 2) (ci := 6) (v := .int 0) X hE hP 0 rfl rfl iX6 1 (by decide) w_126 rfl dX6_set_37 ?_
  refine lv_iconst (v := 1) hx hb dX6_set_40 (by decide) ?_
  refine lv_iadd hx hb dX6_set_41 ?_
  refine tk (y := 1) (by decide) ?_
  refine k_put (C := RX6) (T := TX6) (N := 2) (ci := 6) (v := .int 1) (ty := .int) X hE hP hD hS 0 rfl rfl iX6 tyX6 tyX6_ok nmX6 1 (by decide) w_126 rfl (by decide +kernel) rfl rfl (Nat.le_of_ble_eq_true rfl) [(h0, .inr (6, [.ref hp, .int 1])), (hp, .inl (cA, 16, .inl (upd f 0 a)))] rfl dX6_set_42 (fun H locs hP hD hS => ?_)
  refine lv_aload_n hx hb dX6_set_45 rfl (lv_at hl 0 rfl) ?_
  refine k_get (C := RX6) (T := TX6) (N := 2) (ci := 6) (v := .int 1) X hE hP 0 rfl rfl iX6 1 (by decide) w_126 rfl dX6_set_46 ?_
  exact endI X hr hlocks hP hD hS dX6_set_49 ⟨rfl, rfl⟩
set_option maxHeartbeats 4000000 in
set_option maxRecDepth 100000 in
theorem c_Stops_lift0 (l : Launch) (D : va_G) (cA cB : ClassId) (h0 : Nat) (hp : Nat) (f : Nat → Int32) (a : Int32)  : CI l yX6_lift cX6_lift 3 (some .int) 1 22 0 0 D cA cB [.ref h0, .int a] [(h0, .inr (6, [.ref hp, .int 0])), (hp, .inl (cA, 16, .inl f))] (fun r W1 => r = 0 ∧ W1 = [(h0, .inr (6, [.ref hp, .int 0])), (hp, .inl (cA, 16, .inl f))]) := by
  refine mkI (lv0 := [(0, .ref h0), (1, .int a)]) (by decide) (Nat.le_of_ble_eq_true rfl) rfl ?_
  intro p e s m below meth c A ls X hr hlocks hnm hE hA hP hD hS hl
  have hx := X.1
  have hb := X.2.1
  refine lv_aload_n hx hb dX6_lift_0 rfl (lv_at hl 0 rfl) ?_
  refine lv_iload_n hx hb dX6_lift_1 rfl (lv_at hl 1 rfl) ?_
  refine kVi (n3 := 1) (As := [.int a]) (rest := []) X hl.1 hE hP hD hS hA [(h0, .inr (6, [.ref hp, .int 0])), (hp, .inl (cA, 16, .inl f))] [] [0, 1] [] rfl rfl rfl (by decide) (by decide) (by decide) (c_Stops_find0 l D cA cB h0 hp f a ) w_128 w_87 w_127 w_129 w_130 0 (ci := 6) (T := TX6) (N := 2) rfl rfl (by decide +kernel) rfl rfl (Nat.le_of_ble_eq_true rfl) ⟨(Nat.le_of_ble_eq_true rfl), (Nat.le_of_ble_eq_true rfl)⟩ ⟨(Nat.le_of_ble_eq_true rfl), (Nat.le_of_ble_eq_true rfl)⟩ dX6_lift_2 (fun r W1 H locs hw hP hD hS => ?_)
  obtain ⟨rfl, rfl⟩ := hw
  have hP : va_P D classes [(h0, .inr (6, [.ref hp, .int 0])), (hp, .inl (cA, 16, .inl f))] H := hP
  have hD : va_D A [(h0, .inr (6, [.ref hp, .int 0])), (hp, .inl (cA, 16, .inl f))] := hD
  refine lv_istore_n (lv' := [(2, .int (-1)), (0, .ref h0), (1, .int a)]) hx hb dX6_lift_5 rfl hl (by decide) rfl (fun ls hl => ?_)
  refine lv_iload_n hx hb dX6_lift_6 rfl (lv_at hl 0 rfl) ?_
  refine lv_iconst (v := (-1)) hx hb dX6_lift_7 (by decide) ?_
  refine lv_icmp_eq (tgt := 36) hx hb dX6_lift_8 (by decide) (fun c_8 => ?_) (fun c_8 => absurd (by decide) c_8)
  refine lv_aload_n hx hb dX6_lift_36 rfl (lv_at hl 1 rfl) ?_
  refine k_get (C := RX6) (T := TX6) (N := 2) (ci := 6) (v := .int 0) X hE hP 0 rfl rfl iX6 1 (by decide) w_126 rfl dX6_lift_37 ?_
  exact endI X hr hlocks hP hD hS dX6_lift_40 ⟨rfl, rfl⟩
set_option maxHeartbeats 4000000 in
set_option maxRecDepth 100000 in
theorem c_stop (l : Launch) (D : va_G) (cA cB : ClassId) (h0 : Nat) (qn : Nat) (qs : Nat) (qd : Nat) (qp : Nat) (qr : Nat) (qt : Nat) (qa : Nat) (qm : Nat) (qe : Nat) (qtp : Nat) (a : Int32) (o : Int32)  : CI l yX8_stop cX8_stop 3 (some .int) 2 44 0 0 D cA cB [.ref h0, .int a, .int o] [(h0, .inr (8, [.ref qn, .ref qs, .ref qd, .ref qp, .ref qr, .ref qt, .ref qa, .ref qm, .ref qe])), (qt, .inr (6, [.ref qtp, .int 0])), (qtp, .inl (cA, 16, .inl (fun _ => 0)))] (fun r W1 => r = (sp_stop a o)) := by
  refine mkI (lv0 := [(0, .ref h0), (1, .int a), (2, .int o)]) (by decide) (Nat.le_of_ble_eq_true rfl) rfl ?_
  intro p e s m below meth c A ls X hr hlocks hnm hE hA hP hD hS hl
  have hx := X.1
  have hb := X.2.1
  refine lv_iload_n hx hb dX8_stop_0 rfl (lv_at hl 1 rfl) ?_
  refine kSi (n3 := 1) (As := [.int a]) (rest := []) X hl.1 hE hP hD hS hA [] [(h0, .inr (8, [.ref qn, .ref qs, .ref qd, .ref qp, .ref qr, .ref qt, .ref qa, .ref qm, .ref qe])), (qt, .inr (6, [.ref qtp, .int 0])), (qtp, .inl (cA, 16, .inl (fun _ => 0)))] [] [0, 1, 2] rfl rfl rfl (by decide) (by decide) (by decide) (c_isAddress l D cA cB a ) w_115 w_116 w_114 w_117 (by decide +kernel) rfl rfl (Nat.le_of_ble_eq_true rfl) ⟨(Nat.le_of_ble_eq_true rfl), (Nat.le_of_ble_eq_true rfl)⟩ ⟨(Nat.le_of_ble_eq_true rfl), (Nat.le_of_ble_eq_true rfl)⟩ dX8_stop_1 (fun r W1 H locs hw hP hD hS => ?_)
  obtain ⟨rfl, rfl⟩ := hw
  have hP : va_P D classes [(h0, .inr (8, [.ref qn, .ref qs, .ref qd, .ref qp, .ref qr, .ref qt, .ref qa, .ref qm, .ref qe])), (qt, .inr (6, [.ref qtp, .int 0])), (qtp, .inl (cA, 16, .inl (fun _ => 0)))] H := hP
  have hD : va_D A [(h0, .inr (8, [.ref qn, .ref qs, .ref qd, .ref qp, .ref qr, .ref qt, .ref qa, .ref qm, .ref qe])), (qt, .inr (6, [.ref qtp, .int 0])), (qtp, .inl (cA, 16, .inl (fun _ => 0)))] := hD
  refine lv_if_ne (tgt := 9) hx hb dX8_stop_4 (by decide) (fun c_4 => ?_) (fun c_4 => ?_)
  · skip
    refine lv_iload_n hx hb dX8_stop_9 rfl (lv_at hl 2 rfl) ?_
    refine lv_if_eq (tgt := 24) hx hb dX8_stop_10 (by decide) (fun c_10 => ?_) (fun c_10 => ?_)
    · skip
      refine lv_aload_n hx hb dX8_stop_24 rfl (lv_at hl 0 rfl) ?_
      refine k_get (C := RX8) (T := TX8) (N := 9) (ci := 8) (v := .ref qt) X hE hP 0 rfl rfl iX8 5 (by decide) w_90 rfl dX8_stop_25 ?_
      refine lv_iload_n hx hb dX8_stop_28 rfl (lv_at hl 1 rfl) ?_
      refine kVi (n3 := 1) (As := [.int a]) (rest := []) X hl.1 hE hP hD hS hA [(qt, .inr (6, [.ref qtp, .int 0])), (qtp, .inl (cA, 16, .inl (fun _ => 0)))] [(h0, .inr (8, [.ref qn, .ref qs, .ref qd, .ref qp, .ref qr, .ref qt, .ref qa, .ref qm, .ref qe]))] [1, 2] [0] rfl rfl rfl (by decide) (by decide) (by decide) (c_Stops_lift0 l D cA cB qt qtp (fun _ => 0) a ) w_132 w_87 w_131 w_133 w_134 0 (ci := 6) (T := TX6) (N := 2) rfl rfl (by decide +kernel) rfl rfl (Nat.le_of_ble_eq_true rfl) ⟨(Nat.le_of_ble_eq_true rfl), (Nat.le_of_ble_eq_true rfl)⟩ ⟨(Nat.le_of_ble_eq_true rfl), (Nat.le_of_ble_eq_true rfl)⟩ dX8_stop_29 (fun r W1 H locs hw hP hD hS => ?_)
      obtain ⟨rfl, rfl⟩ := hw
      have hP : va_P D classes [(h0, .inr (8, [.ref qn, .ref qs, .ref qd, .ref qp, .ref qr, .ref qt, .ref qa, .ref qm, .ref qe])), (qt, .inr (6, [.ref qtp, .int 0])), (qtp, .inl (cA, 16, .inl (fun _ => 0)))] H := hP
      have hD : va_D A [(h0, .inr (8, [.ref qn, .ref qs, .ref qd, .ref qp, .ref qr, .ref qt, .ref qa, .ref qm, .ref qe])), (qt, .inr (6, [.ref qtp, .int 0])), (qtp, .inl (cA, 16, .inl (fun _ => 0)))] := hD
      exact endI X hr hlocks hP hD hS dX8_stop_32 (by unfold sp_stop; rw [if_neg c_4, if_pos c_10])
    · skip
      refine lv_aload_n hx hb dX8_stop_13 rfl (lv_at hl 0 rfl) ?_
      refine k_get (C := RX8) (T := TX8) (N := 9) (ci := 8) (v := .ref qt) X hE hP 0 rfl rfl iX8 5 (by decide) w_90 rfl dX8_stop_14 ?_
      refine lv_iload_n hx hb dX8_stop_17 rfl (lv_at hl 1 rfl) ?_
      refine kVi (n3 := 1) (As := [.int a]) (rest := []) X hl.1 hE hP hD hS hA [(qt, .inr (6, [.ref qtp, .int 0])), (qtp, .inl (cA, 16, .inl (fun _ => 0)))] [(h0, .inr (8, [.ref qn, .ref qs, .ref qd, .ref qp, .ref qr, .ref qt, .ref qa, .ref qm, .ref qe]))] [1, 2] [0] rfl rfl rfl (by decide) (by decide) (by decide) (c_Stops_set0 l D cA cB qt qtp (fun _ => 0) a ) w_136 w_87 w_135 w_137 w_138 0 (ci := 6) (T := TX6) (N := 2) rfl rfl (by decide +kernel) rfl rfl (Nat.le_of_ble_eq_true rfl) ⟨(Nat.le_of_ble_eq_true rfl), (Nat.le_of_ble_eq_true rfl)⟩ ⟨(Nat.le_of_ble_eq_true rfl), (Nat.le_of_ble_eq_true rfl)⟩ dX8_stop_18 (fun r W1 H locs hw hP hD hS => ?_)
      obtain ⟨rfl, rfl⟩ := hw
      have hP : va_P D classes [(h0, .inr (8, [.ref qn, .ref qs, .ref qd, .ref qp, .ref qr, .ref qt, .ref qa, .ref qm, .ref qe])), (qt, .inr (6, [.ref qtp, .int 1])), (qtp, .inl (cA, 16, .inl (upd (fun _ => 0) 0 a)))] H := hP
      have hD : va_D A [(h0, .inr (8, [.ref qn, .ref qs, .ref qd, .ref qp, .ref qr, .ref qt, .ref qa, .ref qm, .ref qe])), (qt, .inr (6, [.ref qtp, .int 1])), (qtp, .inl (cA, 16, .inl (upd (fun _ => 0) 0 a)))] := hD
      refine lv_goto (tgt := 32) hx hb dX8_stop_21 (by decide) ?_
      exact endI X hr hlocks hP hD hS dX8_stop_32 (by unfold sp_stop; rw [if_neg c_4, if_neg c_10])
  · skip
    refine lv_iconst (v := (-1)) hx hb dX8_stop_7 (by decide) ?_
    exact endI X hr hlocks hP hD hS dX8_stop_8 (by unfold sp_stop; rw [if_pos c_4])
set_option maxHeartbeats 4000000 in
set_option maxRecDepth 100000 in
theorem c_fault (l : Launch) (D : va_G) (cA cB : ClassId) (h0 : Nat) (qn : Nat) (qs : Nat) (qd : Nat) (qp : Nat) (qr : Nat) (qt : Nat) (qa : Nat) (qm : Nat) (qe : Nat) (qmi : Nat) (qmt : Nat) (qms : Nat) (a : Int32)  : CI l yX8_fault cX8_fault 2 (some .int) 0 0 0 0 D cA cB [.ref h0, .int a] [(h0, .inr (8, [.ref qn, .ref qs, .ref qd, .ref qp, .ref qr, .ref qt, .ref qa, .ref qm, .ref qe])), (qm, .inr (0, [.ref qa, .ref qmi, .ref qmt, .ref qms, .int (-1), .int (-1), .int 0, .int 0, .int 0, .int 0, .int 0, .int 0, .int 0, .int 0, .int 0, .int 0, .int 0, .int 0]))] (fun r W1 => r = (-1)) := by
  refine mkI (lv0 := [(0, .ref h0), (1, .int a)]) (by decide) (Nat.le_of_ble_eq_true rfl) rfl ?_
  intro p e s m below meth c A ls X hr hlocks hnm hE hA hP hD hS hl
  have hx := X.1
  have hb := X.2.1
  refine lv_iload_n hx hb dX8_fault_0 rfl (lv_at hl 1 rfl) ?_
  by_cases c_1_1 : a = 0
  · refine lv_lookup (tgt := 28) (off := 27) hx hb dX8_fault_1 (by decide) (by rw [c_1_1]; decide) (by decide) ?_
    refine lv_aload_n hx hb dX8_fault_28 rfl (lv_at hl 0 rfl) ?_
    refine k_get (C := RX8) (T := TX8) (N := 9) (ci := 8) (v := .ref qm) X hE hP 0 rfl rfl iX8 7 (by decide) w_103 rfl dX8_fault_29 ?_
    refine k_getN (C := RX0) (T := TX0) (N := 18) (ci := 0) (v := .int (-1)) X hE hP 1 rfl rfl iX0 4 (by decide) nw_25 rfl dX8_fault_32 ?_
    exact endI X hr hlocks hP hD hS dX8_fault_35 rfl
  · skip
    by_cases c_1_2 : a = 1
    · refine lv_lookup (tgt := 36) (off := 35) hx hb dX8_fault_1 (by decide) (by rw [c_1_2]; decide) (by decide) ?_
      refine lv_aload_n hx hb dX8_fault_36 rfl (lv_at hl 0 rfl) ?_
      refine k_get (C := RX8) (T := TX8) (N := 9) (ci := 8) (v := .ref qm) X hE hP 0 rfl rfl iX8 7 (by decide) w_103 rfl dX8_fault_37 ?_
      refine k_getN (C := RX0) (T := TX0) (N := 18) (ci := 0) (v := .int (-1)) X hE hP 1 rfl rfl iX0 5 (by decide) nw_26 rfl dX8_fault_40 ?_
      exact endI X hr hlocks hP hD hS dX8_fault_43 rfl
    · skip
      refine lv_lookup (tgt := 44) (off := 43) hx hb dX8_fault_1 (by decide) (by show Op.lookupswitch.offset [(0, 27), (1, 35)] 43 a.toInt = 43; rw [lv_osw (k := 0) c_1_1 (by decide), lv_osw (k := 1) c_1_2 (by decide)]; rfl) (by decide) ?_
      refine lv_iconst (v := (-1)) hx hb dX8_fault_44 (by decide) ?_
      exact endI X hr hlocks hP hD hS dX8_fault_45 rfl
set_option maxHeartbeats 4000000 in
set_option maxRecDepth 100000 in
theorem c_Names_tell0 (l : Launch) (D : va_G) (cA cB : ClassId) (h0 : Nat) (h1 : Nat) (h2 : Nat) (h3 : Nat) (h4 : Nat) (a : Int32) (v : Int32)  : CI l yX2_tell cX2_tell 3 (some .int) 0 0 0 0 D cA cB [.ref h0, .int a, .int v] [(h0, .inr (2, [.ref h1, .ref h2, .ref h3, .ref h4, .int 0]))] (fun r W1 => r = 0 ∧ W1 = [(h0, .inr (2, [.ref h1, .ref h2, .ref h3, .ref h4, .int 0]))]) := by
  refine mkI (lv0 := [(0, .ref h0), (1, .int a), (2, .int v)]) (by decide) (Nat.le_of_ble_eq_true rfl) rfl ?_
  intro p e s m below meth c A ls X hr hlocks hnm hE hA hP hD hS hl
  have hx := X.1
  have hb := X.2.1
  refine lv_iload_n hx hb dX2_tell_0 rfl (lv_at hl 1 rfl) ?_
  refine lv_if_lt (tgt := 12) hx hb dX2_tell_1 (by decide) (fun c_1 => ?_) (fun c_1 => ?_)
  · skip
    refine lv_iconst (v := 0) hx hb dX2_tell_12 (by decide) ?_
    exact endI X hr hlocks hP hD hS dX2_tell_13 ⟨rfl, rfl⟩
  · skip
    refine lv_iload_n hx hb dX2_tell_4 rfl (lv_at hl 1 rfl) ?_
    refine lv_aload_n hx hb dX2_tell_5 rfl (lv_at hl 0 rfl) ?_
    refine k_get (C := RX2) (T := TX2) (N := 5) (ci := 2) (v := .int 0) X hE hP 0 rfl rfl iX2 4 (by decide) w_139 rfl dX2_tell_6 ?_
    refine lv_icmp_lt (tgt := 14) hx hb dX2_tell_9 (by decide) (fun c_9 => absurd c_9 c_1) (fun c_9 => ?_)
    refine lv_iconst (v := 0) hx hb dX2_tell_12 (by decide) ?_
    exact endI X hr hlocks hP hD hS dX2_tell_13 ⟨rfl, rfl⟩
set_option maxHeartbeats 4000000 in
set_option maxRecDepth 100000 in
theorem c_name (l : Launch) (D : va_G) (cA cB : ClassId) (h0 : Nat) (qn : Nat) (qs : Nat) (qd : Nat) (qp : Nat) (qr : Nat) (qt : Nat) (qa : Nat) (qm : Nat) (qe : Nat) (qmi : Nat) (qmt : Nat) (qms : Nat) (qmsa : Nat) (qmsb : Nat) (qmsc : Nat) (qmsd : Nat) (a : Int32) (v : Int32)  : CI l yX8_name cX8_name 3 (some .int) 1 22 0 0 D cA cB [.ref h0, .int a, .int v] [(h0, .inr (8, [.ref qn, .ref qs, .ref qd, .ref qp, .ref qr, .ref qt, .ref qa, .ref qm, .ref qe])), (qm, .inr (0, [.ref qa, .ref qmi, .ref qmt, .ref qms, .int (-1), .int (-1), .int 0, .int 0, .int 0, .int 0, .int 0, .int 0, .int 0, .int 0, .int 0, .int 0, .int 0, .int 0])), (qms, .inr (2, [.ref qmsa, .ref qmsb, .ref qmsc, .ref qmsd, .int 0]))] (fun r W1 => r = 0) := by
  refine mkI (lv0 := [(0, .ref h0), (1, .int a), (2, .int v)]) (by decide) (Nat.le_of_ble_eq_true rfl) rfl ?_
  intro p e s m below meth c A ls X hr hlocks hnm hE hA hP hD hS hl
  have hx := X.1
  have hb := X.2.1
  refine lv_aload_n hx hb dX8_name_0 rfl (lv_at hl 0 rfl) ?_
  refine k_get (C := RX8) (T := TX8) (N := 9) (ci := 8) (v := .ref qm) X hE hP 0 rfl rfl iX8 7 (by decide) w_103 rfl dX8_name_1 ?_
  refine k_getN (C := RX0) (T := TX0) (N := 18) (ci := 0) (v := .ref qms) X hE hP 1 rfl rfl iX0 3 (by decide) nw_24 rfl dX8_name_4 ?_
  refine lv_iload_n hx hb dX8_name_7 rfl (lv_at hl 1 rfl) ?_
  refine lv_iload_n hx hb dX8_name_8 rfl (lv_at hl 2 rfl) ?_
  refine kVi (n3 := 2) (As := [.int a, .int v]) (rest := []) X hl.1 hE hP hD hS hA [(qms, .inr (2, [.ref qmsa, .ref qmsb, .ref qmsc, .ref qmsd, .int 0]))] [(h0, .inr (8, [.ref qn, .ref qs, .ref qd, .ref qp, .ref qr, .ref qt, .ref qa, .ref qm, .ref qe])), (qm, .inr (0, [.ref qa, .ref qmi, .ref qmt, .ref qms, .int (-1), .int (-1), .int 0, .int 0, .int 0, .int 0, .int 0, .int 0, .int 0, .int 0, .int 0, .int 0, .int 0, .int 0]))] [2] [0, 1] rfl rfl rfl (by decide) (by decide) (by decide) (c_Names_tell0 l D cA cB qms qmsa qmsb qmsc qmsd a v ) w_141 w_33 w_140 w_142 w_143 0 (ci := 2) (T := TX2) (N := 5) rfl rfl (by decide +kernel) rfl rfl (Nat.le_of_ble_eq_true rfl) ⟨(Nat.le_of_ble_eq_true rfl), (Nat.le_of_ble_eq_true rfl)⟩ ⟨(Nat.le_of_ble_eq_true rfl), (Nat.le_of_ble_eq_true rfl)⟩ dX8_name_9 (fun r W1 H locs hw hP hD hS => ?_)
  obtain ⟨rfl, rfl⟩ := hw
  have hP : va_P D classes [(h0, .inr (8, [.ref qn, .ref qs, .ref qd, .ref qp, .ref qr, .ref qt, .ref qa, .ref qm, .ref qe])), (qm, .inr (0, [.ref qa, .ref qmi, .ref qmt, .ref qms, .int (-1), .int (-1), .int 0, .int 0, .int 0, .int 0, .int 0, .int 0, .int 0, .int 0, .int 0, .int 0, .int 0, .int 0])), (qms, .inr (2, [.ref qmsa, .ref qmsb, .ref qmsc, .ref qmsd, .int 0]))] H := hP
  have hD : va_D A [(h0, .inr (8, [.ref qn, .ref qs, .ref qd, .ref qp, .ref qr, .ref qt, .ref qa, .ref qm, .ref qe])), (qm, .inr (0, [.ref qa, .ref qmi, .ref qmt, .ref qms, .int (-1), .int (-1), .int 0, .int 0, .int 0, .int 0, .int 0, .int 0, .int 0, .int 0, .int 0, .int 0, .int 0, .int 0])), (qms, .inr (2, [.ref qmsa, .ref qmsb, .ref qmsc, .ref qmsd, .int 0]))] := hD
  exact endI X hr hlocks hP hD hS dX8_name_12 rfl
set_option maxHeartbeats 4000000 in
set_option maxRecDepth 100000 in
theorem c_about (l : Launch) (D : va_G) (cA cB : ClassId) (h0 : Nat) (qn : Nat) (qs : Nat) (qd : Nat) (qp : Nat) (qr : Nat) (qt : Nat) (qa : Nat) (qm : Nat) (qe : Nat) (f : Nat → Int32) (qpe : Nat) (qrc : Nat) (qtp : Nat) (qab : Nat) (qmi : Nat) (qmt : Nat) (qms : Nat) (qmsa : Nat) (qmsb : Nat) (qmsc : Nat) (qmsd : Nat) (a : Int32) (hfr : frn f) : CI l yX8_about cX8_about 2 (some .int) 0 0 0 0 D cA cB [.ref h0, .int a] [(h0, .inr (8, [.ref qn, .ref qs, .ref qd, .ref qp, .ref qr, .ref qt, .ref qa, .ref qm, .ref qe])), (qn, .inl (cA, 34, .inl f)), (qp, .inr (3, [.ref qpe, .int 0, .int 0])), (qr, .inr (4, [.ref qn, .ref qs, .ref qd, .ref qp, .ref qrc, .int 0, .int 0])), (qt, .inr (6, [.ref qtp, .int 0])), (qa, .inr (7, [.ref qab, .int 0, .int 0, .int 0, .int 0, .int 0, .int 0, .int 0, .int 0])), (qm, .inr (0, [.ref qa, .ref qmi, .ref qmt, .ref qms, .int (-1), .int (-1), .int 0, .int 0, .int 0, .int 0, .int 0, .int 0, .int 0, .int 0, .int 0, .int 0, .int 0, .int 0])), (qms, .inr (2, [.ref qmsa, .ref qmsb, .ref qmsc, .ref qmsd, .int 0]))] (fun r W1 => r = 0) := by
  refine mkI (lv0 := [(0, .ref h0), (1, .int a)]) (by decide) (Nat.le_of_ble_eq_true rfl) rfl ?_
  intro p e s m below meth c A ls X hr hlocks hnm hE hA hP hD hS hl
  have hx := X.1
  have hb := X.2.1
  refine lv_iload_n hx hb dX8_about_0 rfl (lv_at hl 1 rfl) ?_
  refine lv_iconst (v := 3) hx hb dX8_about_1 (by decide) ?_
  refine lv_icmp_lt (tgt := 23) hx hb dX8_about_2 (by decide) (fun c_2 => ?_) (fun c_2 => ?_)
  · skip
    refine lv_iload_n hx hb dX8_about_23 rfl (lv_at hl 1 rfl) ?_
    by_cases c_24_1 : a = 0
    · refine lv_tableIn (tgt := 84) (off := 60) hx hb dX8_about_24 (by rw [c_24_1]; decide) (by rw [c_24_1]; decide) (by rw [c_24_1]; decide) (by decide) ?_
      refine lv_aload_n hx hb dX8_about_84 rfl (lv_at hl 0 rfl) ?_
      refine k_get (C := RX8) (T := TX8) (N := 9) (ci := 8) (v := .ref qr) X hE hP 0 rfl rfl iX8 4 (by decide) w_84 rfl dX8_about_85 ?_
      refine k_getN (C := RX4) (T := TX4) (N := 7) (ci := 4) (v := .int 0) X hE hP 3 rfl rfl iX4 5 (by decide) nw_6 rfl dX8_about_88 ?_
      exact endI X hr hlocks hP hD hS dX8_about_91 rfl
    · skip
      by_cases c_24_2 : a = 1
      · refine lv_tableIn (tgt := 92) (off := 68) hx hb dX8_about_24 (by rw [c_24_2]; decide) (by rw [c_24_2]; decide) (by rw [c_24_2]; decide) (by decide) ?_
        refine lv_aload_n hx hb dX8_about_92 rfl (lv_at hl 0 rfl) ?_
        refine k_get (C := RX8) (T := TX8) (N := 9) (ci := 8) (v := .ref qr) X hE hP 0 rfl rfl iX8 4 (by decide) w_84 rfl dX8_about_93 ?_
        refine k_getN (C := RX4) (T := TX4) (N := 7) (ci := 4) (v := .int 0) X hE hP 3 rfl rfl iX4 6 (by decide) nw_7 rfl dX8_about_96 ?_
        exact endI X hr hlocks hP hD hS dX8_about_99 rfl
      · skip
        by_cases c_24_3 : a = 2
        · refine lv_tableIn (tgt := 100) (off := 76) hx hb dX8_about_24 (by rw [c_24_3]; decide) (by rw [c_24_3]; decide) (by rw [c_24_3]; decide) (by decide) ?_
          refine lv_aload_n hx hb dX8_about_100 rfl (lv_at hl 0 rfl) ?_
          refine k_get (C := RX8) (T := TX8) (N := 9) (ci := 8) (v := .ref qp) X hE hP 0 rfl rfl iX8 3 (by decide) w_78 rfl dX8_about_101 ?_
          refine k_getN (C := RX3) (T := TX3) (N := 3) (ci := 3) (v := .int 0) X hE hP 2 rfl rfl iX3 2 (by decide) nw_4 rfl dX8_about_104 ?_
          exact endI X hr hlocks hP hD hS dX8_about_107 rfl
        · skip
          by_cases c_24_4 : a = 3
          · refine lv_tableIn (tgt := 135) (off := 111) hx hb dX8_about_24 (by rw [c_24_4]; decide) (by rw [c_24_4]; decide) (by rw [c_24_4]; decide) (by decide) ?_
            refine lv_iconst (v := 0) hx hb dX8_about_135 (by decide) ?_
            exact endI X hr hlocks hP hD hS dX8_about_136 rfl
          · skip
            by_cases c_24_5 : a = 4
            · refine lv_tableIn (tgt := 135) (off := 111) hx hb dX8_about_24 (by rw [c_24_5]; decide) (by rw [c_24_5]; decide) (by rw [c_24_5]; decide) (by decide) ?_
              refine lv_iconst (v := 0) hx hb dX8_about_135 (by decide) ?_
              exact endI X hr hlocks hP hD hS dX8_about_136 rfl
            · skip
              by_cases c_24_6 : a = 5
              · refine lv_tableIn (tgt := 135) (off := 111) hx hb dX8_about_24 (by rw [c_24_6]; decide) (by rw [c_24_6]; decide) (by rw [c_24_6]; decide) (by decide) ?_
                refine lv_iconst (v := 0) hx hb dX8_about_135 (by decide) ?_
                exact endI X hr hlocks hP hD hS dX8_about_136 rfl
              · skip
                by_cases c_24_7 : a = 6
                · refine lv_tableIn (tgt := 135) (off := 111) hx hb dX8_about_24 (by rw [c_24_7]; decide) (by rw [c_24_7]; decide) (by rw [c_24_7]; decide) (by decide) ?_
                  refine lv_iconst (v := 0) hx hb dX8_about_135 (by decide) ?_
                  exact endI X hr hlocks hP hD hS dX8_about_136 rfl
                · skip
                  by_cases c_24_8 : a = 7
                  · refine lv_tableIn (tgt := 135) (off := 111) hx hb dX8_about_24 (by rw [c_24_8]; decide) (by rw [c_24_8]; decide) (by rw [c_24_8]; decide) (by decide) ?_
                    refine lv_iconst (v := 0) hx hb dX8_about_135 (by decide) ?_
                    exact endI X hr hlocks hP hD hS dX8_about_136 rfl
                  · skip
                    by_cases c_24_9 : a = 8
                    · refine lv_tableIn (tgt := 108) (off := 84) hx hb dX8_about_24 (by rw [c_24_9]; decide) (by rw [c_24_9]; decide) (by rw [c_24_9]; decide) (by decide) ?_
                      refine lv_aload_n hx hb dX8_about_108 rfl (lv_at hl 0 rfl) ?_
                      refine k_get (C := RX8) (T := TX8) (N := 9) (ci := 8) (v := .ref qm) X hE hP 0 rfl rfl iX8 7 (by decide) w_103 rfl dX8_about_109 ?_
                      refine k_getN (C := RX0) (T := TX0) (N := 18) (ci := 0) (v := .ref qms) X hE hP 6 rfl rfl iX0 3 (by decide) nw_24 rfl dX8_about_112 ?_
                      refine k_getN (C := RX2) (T := TX2) (N := 5) (ci := 2) (v := .int 0) X hE hP 7 rfl rfl iX2 4 (by decide) nw_23 rfl dX8_about_115 ?_
                      exact endI X hr hlocks hP hD hS dX8_about_118 rfl
                    · skip
                      by_cases c_24_10 : a = 9
                      · refine lv_tableIn (tgt := 119) (off := 95) hx hb dX8_about_24 (by rw [c_24_10]; decide) (by rw [c_24_10]; decide) (by rw [c_24_10]; decide) (by decide) ?_
                        refine lv_aload_n hx hb dX8_about_119 rfl (lv_at hl 0 rfl) ?_
                        refine k_get (C := RX8) (T := TX8) (N := 9) (ci := 8) (v := .ref qt) X hE hP 0 rfl rfl iX8 5 (by decide) w_90 rfl dX8_about_120 ?_
                        refine k_getN (C := RX6) (T := TX6) (N := 2) (ci := 6) (v := .int 0) X hE hP 4 rfl rfl iX6 1 (by decide) nw_9 rfl dX8_about_123 ?_
                        exact endI X hr hlocks hP hD hS dX8_about_126 rfl
                      · skip
                        by_cases c_24_11 : a = 10
                        · refine lv_tableIn (tgt := 127) (off := 103) hx hb dX8_about_24 (by rw [c_24_11]; decide) (by rw [c_24_11]; decide) (by rw [c_24_11]; decide) (by decide) ?_
                          refine lv_aload_n hx hb dX8_about_127 rfl (lv_at hl 0 rfl) ?_
                          refine k_get (C := RX8) (T := TX8) (N := 9) (ci := 8) (v := .ref qa) X hE hP 0 rfl rfl iX8 6 (by decide) w_96 rfl dX8_about_128 ?_
                          refine k_getN (C := RX7) (T := TX7) (N := 9) (ci := 7) (v := .int 0) X hE hP 5 rfl rfl iX7 1 (by decide) nw_12 rfl dX8_about_131 ?_
                          exact endI X hr hlocks hP hD hS dX8_about_134 rfl
                        · skip
                          refine lv_tableOut (tgt := 135) hx hb dX8_about_24 (by have n_0 := lv_neT (k := 0) (a := 0) c_24_1 (by decide); have n_1 := lv_neT (k := 1) (a := 1) c_24_2 (by decide); have n_2 := lv_neT (k := 2) (a := 2) c_24_3 (by decide); have n_3 := lv_neT (k := 3) (a := 3) c_24_4 (by decide); have n_4 := lv_neT (k := 4) (a := 4) c_24_5 (by decide); have n_5 := lv_neT (k := 5) (a := 5) c_24_6 (by decide); have n_6 := lv_neT (k := 6) (a := 6) c_24_7 (by decide); have n_7 := lv_neT (k := 7) (a := 7) c_24_8 (by decide); have n_8 := lv_neT (k := 8) (a := 8) c_24_9 (by decide); have n_9 := lv_neT (k := 9) (a := 9) c_24_10 (by decide); have n_10 := lv_neT (k := 10) (a := 10) c_24_11 (by decide); omega) (by decide) ?_
                          refine lv_iconst (v := 0) hx hb dX8_about_135 (by decide) ?_
                          exact endI X hr hlocks hP hD hS dX8_about_136 rfl
  · skip
    refine lv_iload_n hx hb dX8_about_5 rfl (lv_at hl 1 rfl) ?_
    refine lv_bipush (v := 7) hx hb dX8_about_6 (by decide) ?_
    refine lv_icmp_gt (tgt := 23) hx hb dX8_about_8 (by decide) (fun c_8 => ?_) (fun c_8 => ?_)
    · skip
      refine lv_iload_n hx hb dX8_about_23 rfl (lv_at hl 1 rfl) ?_
      by_cases c_24_12 : a = 0
      · refine lv_tableIn (tgt := 84) (off := 60) hx hb dX8_about_24 (by rw [c_24_12]; decide) (by rw [c_24_12]; decide) (by rw [c_24_12]; decide) (by decide) ?_
        refine lv_aload_n hx hb dX8_about_84 rfl (lv_at hl 0 rfl) ?_
        refine k_get (C := RX8) (T := TX8) (N := 9) (ci := 8) (v := .ref qr) X hE hP 0 rfl rfl iX8 4 (by decide) w_84 rfl dX8_about_85 ?_
        refine k_getN (C := RX4) (T := TX4) (N := 7) (ci := 4) (v := .int 0) X hE hP 3 rfl rfl iX4 5 (by decide) nw_6 rfl dX8_about_88 ?_
        exact endI X hr hlocks hP hD hS dX8_about_91 rfl
      · skip
        by_cases c_24_13 : a = 1
        · refine lv_tableIn (tgt := 92) (off := 68) hx hb dX8_about_24 (by rw [c_24_13]; decide) (by rw [c_24_13]; decide) (by rw [c_24_13]; decide) (by decide) ?_
          refine lv_aload_n hx hb dX8_about_92 rfl (lv_at hl 0 rfl) ?_
          refine k_get (C := RX8) (T := TX8) (N := 9) (ci := 8) (v := .ref qr) X hE hP 0 rfl rfl iX8 4 (by decide) w_84 rfl dX8_about_93 ?_
          refine k_getN (C := RX4) (T := TX4) (N := 7) (ci := 4) (v := .int 0) X hE hP 3 rfl rfl iX4 6 (by decide) nw_7 rfl dX8_about_96 ?_
          exact endI X hr hlocks hP hD hS dX8_about_99 rfl
        · skip
          by_cases c_24_14 : a = 2
          · refine lv_tableIn (tgt := 100) (off := 76) hx hb dX8_about_24 (by rw [c_24_14]; decide) (by rw [c_24_14]; decide) (by rw [c_24_14]; decide) (by decide) ?_
            refine lv_aload_n hx hb dX8_about_100 rfl (lv_at hl 0 rfl) ?_
            refine k_get (C := RX8) (T := TX8) (N := 9) (ci := 8) (v := .ref qp) X hE hP 0 rfl rfl iX8 3 (by decide) w_78 rfl dX8_about_101 ?_
            refine k_getN (C := RX3) (T := TX3) (N := 3) (ci := 3) (v := .int 0) X hE hP 2 rfl rfl iX3 2 (by decide) nw_4 rfl dX8_about_104 ?_
            exact endI X hr hlocks hP hD hS dX8_about_107 rfl
          · skip
            by_cases c_24_15 : a = 3
            · refine lv_tableIn (tgt := 135) (off := 111) hx hb dX8_about_24 (by rw [c_24_15]; decide) (by rw [c_24_15]; decide) (by rw [c_24_15]; decide) (by decide) ?_
              refine lv_iconst (v := 0) hx hb dX8_about_135 (by decide) ?_
              exact endI X hr hlocks hP hD hS dX8_about_136 rfl
            · skip
              by_cases c_24_16 : a = 4
              · refine lv_tableIn (tgt := 135) (off := 111) hx hb dX8_about_24 (by rw [c_24_16]; decide) (by rw [c_24_16]; decide) (by rw [c_24_16]; decide) (by decide) ?_
                refine lv_iconst (v := 0) hx hb dX8_about_135 (by decide) ?_
                exact endI X hr hlocks hP hD hS dX8_about_136 rfl
              · skip
                by_cases c_24_17 : a = 5
                · refine lv_tableIn (tgt := 135) (off := 111) hx hb dX8_about_24 (by rw [c_24_17]; decide) (by rw [c_24_17]; decide) (by rw [c_24_17]; decide) (by decide) ?_
                  refine lv_iconst (v := 0) hx hb dX8_about_135 (by decide) ?_
                  exact endI X hr hlocks hP hD hS dX8_about_136 rfl
                · skip
                  by_cases c_24_18 : a = 6
                  · refine lv_tableIn (tgt := 135) (off := 111) hx hb dX8_about_24 (by rw [c_24_18]; decide) (by rw [c_24_18]; decide) (by rw [c_24_18]; decide) (by decide) ?_
                    refine lv_iconst (v := 0) hx hb dX8_about_135 (by decide) ?_
                    exact endI X hr hlocks hP hD hS dX8_about_136 rfl
                  · skip
                    by_cases c_24_19 : a = 7
                    · refine lv_tableIn (tgt := 135) (off := 111) hx hb dX8_about_24 (by rw [c_24_19]; decide) (by rw [c_24_19]; decide) (by rw [c_24_19]; decide) (by decide) ?_
                      refine lv_iconst (v := 0) hx hb dX8_about_135 (by decide) ?_
                      exact endI X hr hlocks hP hD hS dX8_about_136 rfl
                    · skip
                      by_cases c_24_20 : a = 8
                      · refine lv_tableIn (tgt := 108) (off := 84) hx hb dX8_about_24 (by rw [c_24_20]; decide) (by rw [c_24_20]; decide) (by rw [c_24_20]; decide) (by decide) ?_
                        refine lv_aload_n hx hb dX8_about_108 rfl (lv_at hl 0 rfl) ?_
                        refine k_get (C := RX8) (T := TX8) (N := 9) (ci := 8) (v := .ref qm) X hE hP 0 rfl rfl iX8 7 (by decide) w_103 rfl dX8_about_109 ?_
                        refine k_getN (C := RX0) (T := TX0) (N := 18) (ci := 0) (v := .ref qms) X hE hP 6 rfl rfl iX0 3 (by decide) nw_24 rfl dX8_about_112 ?_
                        refine k_getN (C := RX2) (T := TX2) (N := 5) (ci := 2) (v := .int 0) X hE hP 7 rfl rfl iX2 4 (by decide) nw_23 rfl dX8_about_115 ?_
                        exact endI X hr hlocks hP hD hS dX8_about_118 rfl
                      · skip
                        by_cases c_24_21 : a = 9
                        · refine lv_tableIn (tgt := 119) (off := 95) hx hb dX8_about_24 (by rw [c_24_21]; decide) (by rw [c_24_21]; decide) (by rw [c_24_21]; decide) (by decide) ?_
                          refine lv_aload_n hx hb dX8_about_119 rfl (lv_at hl 0 rfl) ?_
                          refine k_get (C := RX8) (T := TX8) (N := 9) (ci := 8) (v := .ref qt) X hE hP 0 rfl rfl iX8 5 (by decide) w_90 rfl dX8_about_120 ?_
                          refine k_getN (C := RX6) (T := TX6) (N := 2) (ci := 6) (v := .int 0) X hE hP 4 rfl rfl iX6 1 (by decide) nw_9 rfl dX8_about_123 ?_
                          exact endI X hr hlocks hP hD hS dX8_about_126 rfl
                        · skip
                          by_cases c_24_22 : a = 10
                          · refine lv_tableIn (tgt := 127) (off := 103) hx hb dX8_about_24 (by rw [c_24_22]; decide) (by rw [c_24_22]; decide) (by rw [c_24_22]; decide) (by decide) ?_
                            refine lv_aload_n hx hb dX8_about_127 rfl (lv_at hl 0 rfl) ?_
                            refine k_get (C := RX8) (T := TX8) (N := 9) (ci := 8) (v := .ref qa) X hE hP 0 rfl rfl iX8 6 (by decide) w_96 rfl dX8_about_128 ?_
                            refine k_getN (C := RX7) (T := TX7) (N := 9) (ci := 7) (v := .int 0) X hE hP 5 rfl rfl iX7 1 (by decide) nw_12 rfl dX8_about_131 ?_
                            exact endI X hr hlocks hP hD hS dX8_about_134 rfl
                          · skip
                            refine lv_tableOut (tgt := 135) hx hb dX8_about_24 (by have n_0 := lv_neT (k := 0) (a := 0) c_24_12 (by decide); have n_1 := lv_neT (k := 1) (a := 1) c_24_13 (by decide); have n_2 := lv_neT (k := 2) (a := 2) c_24_14 (by decide); have n_3 := lv_neT (k := 3) (a := 3) c_24_15 (by decide); have n_4 := lv_neT (k := 4) (a := 4) c_24_16 (by decide); have n_5 := lv_neT (k := 5) (a := 5) c_24_17 (by decide); have n_6 := lv_neT (k := 6) (a := 6) c_24_18 (by decide); have n_7 := lv_neT (k := 7) (a := 7) c_24_19 (by decide); have n_8 := lv_neT (k := 8) (a := 8) c_24_20 (by decide); have n_9 := lv_neT (k := 9) (a := 9) c_24_21 (by decide); have n_10 := lv_neT (k := 10) (a := 10) c_24_22 (by decide); omega) (by decide) ?_
                            refine lv_iconst (v := 0) hx hb dX8_about_135 (by decide) ?_
                            exact endI X hr hlocks hP hD hS dX8_about_136 rfl
    · skip
      obtain ⟨j, hj1, hj2, ej⟩ := idx_37 c_2 c_8
      refine lv_aload_n hx hb dX8_about_11 rfl (lv_at hl 0 rfl) ?_
      refine k_get (C := RX8) (T := TX8) (N := 9) (ci := 8) (v := .ref qn) X hE hP 0 rfl rfl iX8 0 (by decide) w_65 rfl dX8_about_12 ?_
      refine lv_bipush (v := 28) hx hb dX8_about_15 (by decide) ?_
      refine lv_iload_n hx hb dX8_about_17 rfl (lv_at hl 1 rfl) ?_
      refine lv_iadd hx hb dX8_about_18 ?_
      refine lv_iconst (v := 3) hx hb dX8_about_19 (by decide) ?_
      refine lv_isub hx hb dX8_about_20 ?_
      refine tk (y := nI (25 + j)) (idx_25 ej) ?_
      refine k_ald (v := 0) X hE hP 1 rfl (25 + j) rfl (by omega) (by decide) ((hfr (25 + j) (by omega)).trans (fr_hi (by omega))) dX8_about_21 ?_
      exact endI X hr hlocks hP hD hS dX8_about_22 rfl
set_option maxHeartbeats 4000000 in
set_option maxRecDepth 100000 in
theorem c_codes (l : Launch) (D : va_G) (cA cB : ClassId) (h0 : Nat) (qn : Nat) (qs : Nat) (qd : Nat) (qp : Nat) (qr : Nat) (qt : Nat) (qa : Nat) (qm : Nat) (qe : Nat) (qrc : Nat) (gc : Nat → Int32) (a : Int32) (hgc : ∀ j, j < 257 → gc j = 0) : CI l yX8_codes cX8_codes 2 (some .int) 0 0 0 0 D cA cB [.ref h0, .int a] [(h0, .inr (8, [.ref qn, .ref qs, .ref qd, .ref qp, .ref qr, .ref qt, .ref qa, .ref qm, .ref qe])), (qr, .inr (4, [.ref qn, .ref qs, .ref qd, .ref qp, .ref qrc, .int 0, .int 0])), (qrc, .inl (cA, 257, .inl gc))] (fun r W1 => r = 0) := by
  refine mkI (lv0 := [(0, .ref h0), (1, .int a)]) (by decide) (Nat.le_of_ble_eq_true rfl) rfl ?_
  intro p e s m below meth c A ls X hr hlocks hnm hE hA hP hD hS hl
  have hx := X.1
  have hb := X.2.1
  refine lv_iload_n hx hb dX8_codes_0 rfl (lv_at hl 1 rfl) ?_
  refine lv_if_lt (tgt := 23) hx hb dX8_codes_1 (by decide) (fun c_1 => ?_) (fun c_1 => ?_)
  · skip
    refine lv_iconst (v := 0) hx hb dX8_codes_23 (by decide) ?_
    exact endI X hr hlocks hP hD hS dX8_codes_24 rfl
  · skip
    refine lv_iload_n hx hb dX8_codes_4 rfl (lv_at hl 1 rfl) ?_
    refine lv_sipush (v := 256) hx hb dX8_codes_5 (by decide) ?_
    refine lv_icmp_gt (tgt := 23) hx hb dX8_codes_8 (by decide) (fun c_8 => ?_) (fun c_8 => ?_)
    · skip
      refine lv_iconst (v := 0) hx hb dX8_codes_23 (by decide) ?_
      exact endI X hr hlocks hP hD hS dX8_codes_24 rfl
    · skip
      obtain ⟨j, hj, ej⟩ := idx_le (n := 256) (by decide) c_1 c_8
      refine lv_aload_n hx hb dX8_codes_11 rfl (lv_at hl 0 rfl) ?_
      refine k_get (C := RX8) (T := TX8) (N := 9) (ci := 8) (v := .ref qr) X hE hP 0 rfl rfl iX8 4 (by decide) w_84 rfl dX8_codes_12 ?_
      refine k_getN (C := RX4) (T := TX4) (N := 7) (ci := 4) (v := .ref qrc) X hE hP 1 rfl rfl iX4 4 (by decide) nw_5 rfl dX8_codes_15 ?_
      refine lv_iload_n hx hb dX8_codes_18 rfl (lv_at hl 1 rfl) ?_
      refine k_ald (v := 0) X hE hP 2 rfl j ej (by omega) (by decide) (hgc j (by omega)) dX8_codes_19 ?_
      refine lv_goto (tgt := 24) hx hb dX8_codes_20 (by decide) ?_
      exact endI X hr hlocks hP hD hS dX8_codes_24 rfl
set_option maxHeartbeats 4000000 in
set_option maxRecDepth 100000 in
theorem c_ring (l : Launch) (D : va_G) (cA cB : ClassId) (h0 : Nat) (qn : Nat) (qs : Nat) (qd : Nat) (qp : Nat) (qr : Nat) (qt : Nat) (qa : Nat) (qm : Nat) (qe : Nat) (f : Nat → Int32) (qd1 : Nat) (qd2 : Nat) (qd3 : Nat) (qd4 : Nat) (a : Int32) (v : Int32) (hfr : frn f) : CI l yX8_ring cX8_ring 3 (some .int) 0 0 0 0 D cA cB [.ref h0, .int a, .int v] [(h0, .inr (8, [.ref qn, .ref qs, .ref qd, .ref qp, .ref qr, .ref qt, .ref qa, .ref qm, .ref qe])), (qn, .inl (cA, 34, .inl f)), (qd, .inr (1, [.ref qn, .ref qd1, .ref qd2, .ref qd3, .ref qd4])), (qd3, .inl (cA, 900, .inl (fun _ => 0)))] (fun r W1 => r = (-1)) := by
  refine mkI (lv0 := [(0, .ref h0), (1, .int a), (2, .int v)]) (by decide) (Nat.le_of_ble_eq_true rfl) rfl ?_
  intro p e s m below meth c A ls X hr hlocks hnm hE hA hP hD hS hl
  have hx := X.1
  have hb := X.2.1
  refine lv_iload_n hx hb dX8_ring_0 rfl (lv_at hl 1 rfl) ?_
  refine lv_if_lt (tgt := 24) hx hb dX8_ring_1 (by decide) (fun c_1 => ?_) (fun c_1 => ?_)
  · skip
    refine lv_iconst (v := (-1)) hx hb dX8_ring_24 (by decide) ?_
    exact endI X hr hlocks hP hD hS dX8_ring_25 rfl
  · skip
    refine lv_iload_n hx hb dX8_ring_4 rfl (lv_at hl 1 rfl) ?_
    refine lv_aload_n hx hb dX8_ring_5 rfl (lv_at hl 0 rfl) ?_
    refine k_get (C := RX8) (T := TX8) (N := 9) (ci := 8) (v := .ref qn) X hE hP 0 rfl rfl iX8 0 (by decide) w_65 rfl dX8_ring_6 ?_
    refine lv_bipush (v := 31) hx hb dX8_ring_9 (by decide) ?_
    refine k_ald (v := 0) X hE hP 1 rfl 31 rfl (by decide) (by decide) (hfr 31 (by decide)) dX8_ring_11 ?_
    refine lv_icmp_ge (tgt := 24) hx hb dX8_ring_12 (by decide) (fun c_12 => ?_) (fun c_12 => absurd (Int32.not_lt.mp c_1) c_12)
    refine lv_iconst (v := (-1)) hx hb dX8_ring_24 (by decide) ?_
    exact endI X hr hlocks hP hD hS dX8_ring_25 rfl
set_option maxHeartbeats 4000000 in
set_option maxRecDepth 100000 in
theorem c_strip (l : Launch) (D : va_G) (cA cB : ClassId) (h0 : Nat) (qn : Nat) (qs : Nat) (qd : Nat) (qp : Nat) (qr : Nat) (qt : Nat) (qa : Nat) (qm : Nat) (qe : Nat) (f : Nat → Int32) (qd1 : Nat) (qd2 : Nat) (qd3 : Nat) (qd4 : Nat) (a : Int32) (hfr : frn f) : CI l yX8_strip cX8_strip 2 (some .int) 0 0 0 0 D cA cB [.ref h0, .int a] [(h0, .inr (8, [.ref qn, .ref qs, .ref qd, .ref qp, .ref qr, .ref qt, .ref qa, .ref qm, .ref qe])), (qn, .inl (cA, 34, .inl f)), (qd, .inr (1, [.ref qn, .ref qd1, .ref qd2, .ref qd3, .ref qd4])), (qd4, .inl (cA, 200, .inl (fun _ => 0)))] (fun r W1 => r = (-1)) := by
  refine mkI (lv0 := [(0, .ref h0), (1, .int a)]) (by decide) (Nat.le_of_ble_eq_true rfl) rfl ?_
  intro p e s m below meth c A ls X hr hlocks hnm hE hA hP hD hS hl
  have hx := X.1
  have hb := X.2.1
  refine lv_iload_n hx hb dX8_strip_0 rfl (lv_at hl 1 rfl) ?_
  refine lv_if_lt (tgt := 27) hx hb dX8_strip_1 (by decide) (fun c_1 => ?_) (fun c_1 => ?_)
  · skip
    refine lv_iconst (v := (-1)) hx hb dX8_strip_27 (by decide) ?_
    exact endI X hr hlocks hP hD hS dX8_strip_28 rfl
  · skip
    refine lv_iload_n hx hb dX8_strip_4 rfl (lv_at hl 1 rfl) ?_
    refine lv_aload_n hx hb dX8_strip_5 rfl (lv_at hl 0 rfl) ?_
    refine k_get (C := RX8) (T := TX8) (N := 9) (ci := 8) (v := .ref qn) X hE hP 0 rfl rfl iX8 0 (by decide) w_65 rfl dX8_strip_6 ?_
    refine lv_bipush (v := 32) hx hb dX8_strip_9 (by decide) ?_
    refine k_ald (v := 0) X hE hP 1 rfl 32 rfl (by decide) (by decide) (hfr 32 (by decide)) dX8_strip_11 ?_
    refine lv_icmp_ge (tgt := 27) hx hb dX8_strip_12 (by decide) (fun c_12 => ?_) (fun c_12 => absurd (Int32.not_lt.mp c_1) c_12)
    refine lv_iconst (v := (-1)) hx hb dX8_strip_27 (by decide) ?_
    exact endI X hr hlocks hP hD hS dX8_strip_28 rfl
set_option maxHeartbeats 4000000 in
set_option maxRecDepth 100000 in
theorem c_outc (l : Launch) (D : va_G) (cA cB : ClassId) (h0 : Nat) (qn : Nat) (qs : Nat) (qd : Nat) (qp : Nat) (qr : Nat) (qt : Nat) (qa : Nat) (qm : Nat) (qe : Nat) (qel : Nat) (a : Int32)  : CI l yX8_out cX8_out 2 (some .int) 0 0 0 0 D cA cB [.ref h0, .int a] [(h0, .inr (8, [.ref qn, .ref qs, .ref qd, .ref qp, .ref qr, .ref qt, .ref qa, .ref qm, .ref qe])), (qe, .inr (5, [.ref qel, .int 0])), (qel, .inl (cA, 16, .inl (fun _ => 0)))] (fun r W1 => r = (-1)) := by
  refine mkI (lv0 := [(0, .ref h0), (1, .int a)]) (by decide) (Nat.le_of_ble_eq_true rfl) rfl ?_
  intro p e s m below meth c A ls X hr hlocks hnm hE hA hP hD hS hl
  have hx := X.1
  have hb := X.2.1
  refine lv_iload_n hx hb dX8_out_0 rfl (lv_at hl 1 rfl) ?_
  refine lv_if_lt (tgt := 27) hx hb dX8_out_1 (by decide) (fun c_1 => ?_) (fun c_1 => ?_)
  · skip
    refine lv_iconst (v := (-1)) hx hb dX8_out_27 (by decide) ?_
    exact endI X hr hlocks hP hD hS dX8_out_28 rfl
  · skip
    refine lv_iload_n hx hb dX8_out_4 rfl (lv_at hl 1 rfl) ?_
    refine lv_aload_n hx hb dX8_out_5 rfl (lv_at hl 0 rfl) ?_
    refine k_get (C := RX8) (T := TX8) (N := 9) (ci := 8) (v := .ref qe) X hE hP 0 rfl rfl iX8 8 (by decide) w_109 rfl dX8_out_6 ?_
    refine k_getN (C := RX5) (T := TX5) (N := 2) (ci := 5) (v := .int 0) X hE hP 1 rfl rfl iX5 1 (by decide) nw_30 rfl dX8_out_9 ?_
    refine lv_icmp_ge (tgt := 27) hx hb dX8_out_12 (by decide) (fun c_12 => ?_) (fun c_12 => absurd (Int32.not_lt.mp c_1) c_12)
    refine lv_iconst (v := (-1)) hx hb dX8_out_27 (by decide) ?_
    exact endI X hr hlocks hP hD hS dX8_out_28 rfl
set_option maxHeartbeats 4000000 in
set_option maxRecDepth 100000 in
theorem c_back (l : Launch) (D : va_G) (cA cB : ClassId) (h0 : Nat) (qn : Nat) (qs : Nat) (qd : Nat) (qp : Nat) (qr : Nat) (qt : Nat) (qa : Nat) (qm : Nat) (qe : Nat) (qpe : Nat) (a : Int32)  : CI l yX8_back cX8_back 3 (some .int) 0 0 0 0 D cA cB [.ref h0, .int a] [(h0, .inr (8, [.ref qn, .ref qs, .ref qd, .ref qp, .ref qr, .ref qt, .ref qa, .ref qm, .ref qe])), (qp, .inr (3, [.ref qpe, .int 0, .int 0]))] (fun r W1 => r = (-1)) := by
  refine mkI (lv0 := [(0, .ref h0), (1, .int a)]) (by decide) (Nat.le_of_ble_eq_true rfl) rfl ?_
  intro p e s m below meth c A ls X hr hlocks hnm hE hA hP hD hS hl
  have hx := X.1
  have hb := X.2.1
  refine lv_iload_n hx hb dX8_back_0 rfl (lv_at hl 1 rfl) ?_
  refine lv_iconst (v := 1) hx hb dX8_back_1 (by decide) ?_
  refine lv_icmp_lt (tgt := 16) hx hb dX8_back_2 (by decide) (fun c_2 => ?_) (fun c_2 => ?_)
  · skip
    refine lv_iconst (v := (-1)) hx hb dX8_back_16 (by decide) ?_
    exact endI X hr hlocks hP hD hS dX8_back_17 rfl
  · skip
    refine lv_iload_n hx hb dX8_back_5 rfl (lv_at hl 1 rfl) ?_
    refine lv_aload_n hx hb dX8_back_6 rfl (lv_at hl 0 rfl) ?_
    refine k_get (C := RX8) (T := TX8) (N := 9) (ci := 8) (v := .ref qp) X hE hP 0 rfl rfl iX8 3 (by decide) w_78 rfl dX8_back_7 ?_
    refine k_getN (C := RX3) (T := TX3) (N := 3) (ci := 3) (v := .int 0) X hE hP 1 rfl rfl iX3 2 (by decide) nw_4 rfl dX8_back_10 ?_
    refine lv_icmp_le (tgt := 18) hx hb dX8_back_13 (by decide) (fun c_13 => absurd c_13 (not_le0 c_2)) (fun c_13 => ?_)
    refine lv_iconst (v := (-1)) hx hb dX8_back_16 (by decide) ?_
    exact endI X hr hlocks hP hD hS dX8_back_17 rfl
set_option maxHeartbeats 4000000 in
set_option maxRecDepth 100000 in
theorem c_hasRoom0 (l : Launch) (D : va_G) (cA cB : ClassId) (h0 : Nat) (htb : Nat) (t0 : Int32) (t1 : Int32) (t2 : Int32) (t3 : Int32) (t4 : Int32) (t5 : Int32) (t6 : Int32)  : CI l yX7_hasRoom cX7_hasRoom 2 (some .boolean) 0 0 0 0 D cA cB [.ref h0, .int 20] [(h0, .inr (7, [.ref htb, .int 0, .int t0, .int t1, .int t2, .int t3, .int t4, .int t5, .int t6]))] (fun r W1 => r = 1 ∧ W1 = [(h0, .inr (7, [.ref htb, .int 0, .int t0, .int t1, .int t2, .int t3, .int t4, .int t5, .int t6]))]) := by
  refine mkI (lv0 := [(0, .ref h0), (1, .int 20)]) (by decide) (Nat.le_of_ble_eq_true rfl) rfl ?_
  intro p e s m below meth c A ls X hr hlocks hnm hE hA hP hD hS hl
  have hx := X.1
  have hb := X.2.1
  refine lv_aload_n hx hb dX7_hasRoom_0 rfl (lv_at hl 0 rfl) ?_
  refine k_get (C := RX7) (T := TX7) (N := 9) (ci := 7) (v := .int 0) X hE hP 0 rfl rfl iX7 1 (by decide) w_144 rfl dX7_hasRoom_1 ?_
  refine lv_iload_n hx hb dX7_hasRoom_4 rfl (lv_at hl 1 rfl) ?_
  refine lv_iadd hx hb dX7_hasRoom_5 ?_
  refine tk (y := 20) (by decide) ?_
  refine lv_sipush (v := 6000) hx hb dX7_hasRoom_6 (by decide) ?_
  refine lv_icmp_gt (tgt := 16) hx hb dX7_hasRoom_9 (by decide) (fun c_9 => absurd c_9 (by decide)) (fun c_9 => ?_)
  refine lv_iconst (v := 1) hx hb dX7_hasRoom_12 (by decide) ?_
  refine lv_goto (tgt := 17) hx hb dX7_hasRoom_13 (by decide) ?_
  exact endZ X hr rfl hlocks hP hD hS dX7_hasRoom_17 ⟨rfl, rfl⟩
set_option maxHeartbeats 4000000 in
set_option maxRecDepth 100000 in
theorem c_add0 (l : Launch) (D : va_G) (cA cB : ClassId) (h0 : Nat) (htb : Nat) (t0 : Int32) (t1 : Int32) (t2 : Int32) (t3 : Int32) (t4 : Int32) (t5 : Int32) (t6 : Int32) (f : Nat → Int32) (v : Int32)  : CV l yX7_add cX7_add 3 none 0 0 0 0 D cA cB [.ref h0, .int v] [(h0, .inr (7, [.ref htb, .int 0, .int t0, .int t1, .int t2, .int t3, .int t4, .int t5, .int t6])), (htb, .inl (cA, 6000, .inl f))] (fun W1 => ∃ (g : Nat → Int32), W1 = [(h0, .inr (7, [.ref htb, .int 4, .int t0, .int t1, .int t2, .int t3, .int t4, .int t5, .int t6])), (htb, .inl (cA, 6000, .inl g))]) := by
  refine mkV (lv0 := [(0, .ref h0), (1, .int v)]) (by decide) (Nat.le_of_ble_eq_true rfl) rfl ?_
  intro p e s m below meth c A ls X hr hlocks hnm hE hA hP hD hS hl
  have hx := X.1
  have hb := X.2.1
  refine lv_bipush (v := 24) hx hb dX7_add_0 (by decide) ?_
  refine lv_istore_n (lv' := [(2, .int 24), (0, .ref h0), (1, .int v)]) hx hb dX7_add_2 rfl hl (by decide) rfl (fun ls hl => ?_)
  refine lv_iload_n hx hb dX7_add_3 rfl (lv_at hl 0 rfl) ?_
  refine lv_if_lt (tgt := 49) hx hb dX7_add_4 (by decide) (fun c_4 => absurd c_4 (by decide)) (fun c_4 => ?_)
  refine lv_aload_n hx hb dX7_add_7 rfl (lv_at hl 1 rfl) ?_
  refine k_get (C := RX7) (T := TX7) (N := 9) (ci := 7) (v := .int 0) X hE hP 0 rfl rfl iX7 1 (by decide) w_144 rfl dX7_add_8 ?_
  refine lv_sipush (v := 6000) hx hb dX7_add_11 (by decide) ?_
  refine lv_icmp_ge (tgt := 49) hx hb dX7_add_14 (by decide) (fun c_14 => absurd c_14 (by decide)) (fun c_14 => ?_)
  refine lv_aload_n hx hb dX7_add_17 rfl (lv_at hl 1 rfl) ?_
  refine k_get (C := RX7) (T := TX7) (N := 9) (ci := 7) (v := .ref htb) X hE hP 0 rfl rfl iX7 0 (by decide) w_11 rfl dX7_add_18 ?_
  refine lv_aload_n hx hb dX7_add_21 rfl (lv_at hl 1 rfl) ?_
  refine k_get (C := RX7) (T := TX7) (N := 9) (ci := 7) (v := .int 0) X hE hP 0 rfl rfl iX7 1 (by decide) w_144 rfl dX7_add_22 ?_
  refine lv_iload_n hx hb dX7_add_25 rfl (lv_at hl 2 rfl) ?_
  refine lv_iload_n hx hb dX7_add_26 rfl (lv_at hl 0 rfl) ?_
  refine lv_ishr hx hb dX7_add_27 ?_
  refine lv_sipush (v := 255) hx hb dX7_add_28 (by decide) ?_
  refine lv_iand hx hb dX7_add_31 ?_
  refine k_ast X hE hP hD hS 1 rfl 0 rfl (by decide) (by decide) [(h0, .inr (7, [.ref htb, .int 0, .int t0, .int t1, .int t2, .int t3, .int t4, .int t5, .int t6])), (htb, .inl (cA, 6000, .inl (upd f 0 ((v >>> (24 &&& 31)) &&& 255))))] rfl dX7_add_32 (fun H locs hP hD hS => ?_)
  refine lv_aload_n hx hb dX7_add_33 rfl (lv_at hl 1 rfl) ?_
  refine lv_dup hx hb dX7_add_34 rfl ?_
  refine k_get (C := RX7) (T := TX7) (N := 9) (ci := 7) (v := .int 0) X hE hP 0 rfl rfl iX7 1 (by decide) w_144 rfl dX7_add_35 ?_
  refine lv_iconst (v := 1) hx hb dX7_add_38 (by decide) ?_
  refine lv_iadd hx hb dX7_add_39 ?_
  refine tk (y := 1) (by decide) ?_
  refine k_put (C := RX7) (T := TX7) (N := 9) (ci := 7) (v := .int 1) (ty := .int) X hE hP hD hS 0 rfl rfl iX7 tyX7 tyX7_ok nmX7 1 (by decide) w_144 rfl (by decide +kernel) rfl rfl (Nat.le_of_ble_eq_true rfl) [(h0, .inr (7, [.ref htb, .int 1, .int t0, .int t1, .int t2, .int t3, .int t4, .int t5, .int t6])), (htb, .inl (cA, 6000, .inl (upd f 0 ((v >>> (24 &&& 31)) &&& 255))))] rfl dX7_add_40 (fun H locs hP hD hS => ?_)
  refine lv_iinc (v := 16) (lv' := [(2, .int 16), (0, .ref h0), (1, .int v)]) hx hb dX7_add_43 hl (k := 0) rfl (by decide) (by decide) rfl (fun ls hl => ?_)
  refine lv_goto (tgt := 3) hx hb dX7_add_46 (by decide) ?_
  refine lv_iload_n hx hb dX7_add_3 rfl (lv_at hl 0 rfl) ?_
  refine lv_if_lt (tgt := 49) hx hb dX7_add_4 (by decide) (fun c_4_1 => absurd c_4_1 (by decide)) (fun c_4_1 => ?_)
  refine lv_aload_n hx hb dX7_add_7 rfl (lv_at hl 1 rfl) ?_
  refine k_get (C := RX7) (T := TX7) (N := 9) (ci := 7) (v := .int 1) X hE hP 0 rfl rfl iX7 1 (by decide) w_144 rfl dX7_add_8 ?_
  refine lv_sipush (v := 6000) hx hb dX7_add_11 (by decide) ?_
  refine lv_icmp_ge (tgt := 49) hx hb dX7_add_14 (by decide) (fun c_14_2 => absurd c_14_2 (by decide)) (fun c_14_2 => ?_)
  refine lv_aload_n hx hb dX7_add_17 rfl (lv_at hl 1 rfl) ?_
  refine k_get (C := RX7) (T := TX7) (N := 9) (ci := 7) (v := .ref htb) X hE hP 0 rfl rfl iX7 0 (by decide) w_11 rfl dX7_add_18 ?_
  refine lv_aload_n hx hb dX7_add_21 rfl (lv_at hl 1 rfl) ?_
  refine k_get (C := RX7) (T := TX7) (N := 9) (ci := 7) (v := .int 1) X hE hP 0 rfl rfl iX7 1 (by decide) w_144 rfl dX7_add_22 ?_
  refine lv_iload_n hx hb dX7_add_25 rfl (lv_at hl 2 rfl) ?_
  refine lv_iload_n hx hb dX7_add_26 rfl (lv_at hl 0 rfl) ?_
  refine lv_ishr hx hb dX7_add_27 ?_
  refine lv_sipush (v := 255) hx hb dX7_add_28 (by decide) ?_
  refine lv_iand hx hb dX7_add_31 ?_
  refine k_ast X hE hP hD hS 1 rfl 1 rfl (by decide) (by decide) [(h0, .inr (7, [.ref htb, .int 1, .int t0, .int t1, .int t2, .int t3, .int t4, .int t5, .int t6])), (htb, .inl (cA, 6000, .inl (upd (upd f 0 ((v >>> (24 &&& 31)) &&& 255)) 1 ((v >>> (16 &&& 31)) &&& 255))))] rfl dX7_add_32 (fun H locs hP hD hS => ?_)
  refine lv_aload_n hx hb dX7_add_33 rfl (lv_at hl 1 rfl) ?_
  refine lv_dup hx hb dX7_add_34 rfl ?_
  refine k_get (C := RX7) (T := TX7) (N := 9) (ci := 7) (v := .int 1) X hE hP 0 rfl rfl iX7 1 (by decide) w_144 rfl dX7_add_35 ?_
  refine lv_iconst (v := 1) hx hb dX7_add_38 (by decide) ?_
  refine lv_iadd hx hb dX7_add_39 ?_
  refine tk (y := 2) (by decide) ?_
  refine k_put (C := RX7) (T := TX7) (N := 9) (ci := 7) (v := .int 2) (ty := .int) X hE hP hD hS 0 rfl rfl iX7 tyX7 tyX7_ok nmX7 1 (by decide) w_144 rfl (by decide +kernel) rfl rfl (Nat.le_of_ble_eq_true rfl) [(h0, .inr (7, [.ref htb, .int 2, .int t0, .int t1, .int t2, .int t3, .int t4, .int t5, .int t6])), (htb, .inl (cA, 6000, .inl (upd (upd f 0 ((v >>> (24 &&& 31)) &&& 255)) 1 ((v >>> (16 &&& 31)) &&& 255))))] rfl dX7_add_40 (fun H locs hP hD hS => ?_)
  refine lv_iinc (v := 8) (lv' := [(2, .int 8), (0, .ref h0), (1, .int v)]) hx hb dX7_add_43 hl (k := 0) rfl (by decide) (by decide) rfl (fun ls hl => ?_)
  refine lv_goto (tgt := 3) hx hb dX7_add_46 (by decide) ?_
  refine lv_iload_n hx hb dX7_add_3 rfl (lv_at hl 0 rfl) ?_
  refine lv_if_lt (tgt := 49) hx hb dX7_add_4 (by decide) (fun c_4_3 => absurd c_4_3 (by decide)) (fun c_4_3 => ?_)
  refine lv_aload_n hx hb dX7_add_7 rfl (lv_at hl 1 rfl) ?_
  refine k_get (C := RX7) (T := TX7) (N := 9) (ci := 7) (v := .int 2) X hE hP 0 rfl rfl iX7 1 (by decide) w_144 rfl dX7_add_8 ?_
  refine lv_sipush (v := 6000) hx hb dX7_add_11 (by decide) ?_
  refine lv_icmp_ge (tgt := 49) hx hb dX7_add_14 (by decide) (fun c_14_4 => absurd c_14_4 (by decide)) (fun c_14_4 => ?_)
  refine lv_aload_n hx hb dX7_add_17 rfl (lv_at hl 1 rfl) ?_
  refine k_get (C := RX7) (T := TX7) (N := 9) (ci := 7) (v := .ref htb) X hE hP 0 rfl rfl iX7 0 (by decide) w_11 rfl dX7_add_18 ?_
  refine lv_aload_n hx hb dX7_add_21 rfl (lv_at hl 1 rfl) ?_
  refine k_get (C := RX7) (T := TX7) (N := 9) (ci := 7) (v := .int 2) X hE hP 0 rfl rfl iX7 1 (by decide) w_144 rfl dX7_add_22 ?_
  refine lv_iload_n hx hb dX7_add_25 rfl (lv_at hl 2 rfl) ?_
  refine lv_iload_n hx hb dX7_add_26 rfl (lv_at hl 0 rfl) ?_
  refine lv_ishr hx hb dX7_add_27 ?_
  refine lv_sipush (v := 255) hx hb dX7_add_28 (by decide) ?_
  refine lv_iand hx hb dX7_add_31 ?_
  refine k_ast X hE hP hD hS 1 rfl 2 rfl (by decide) (by decide) [(h0, .inr (7, [.ref htb, .int 2, .int t0, .int t1, .int t2, .int t3, .int t4, .int t5, .int t6])), (htb, .inl (cA, 6000, .inl (upd (upd (upd f 0 ((v >>> (24 &&& 31)) &&& 255)) 1 ((v >>> (16 &&& 31)) &&& 255)) 2 ((v >>> (8 &&& 31)) &&& 255))))] rfl dX7_add_32 (fun H locs hP hD hS => ?_)
  refine lv_aload_n hx hb dX7_add_33 rfl (lv_at hl 1 rfl) ?_
  refine lv_dup hx hb dX7_add_34 rfl ?_
  refine k_get (C := RX7) (T := TX7) (N := 9) (ci := 7) (v := .int 2) X hE hP 0 rfl rfl iX7 1 (by decide) w_144 rfl dX7_add_35 ?_
  refine lv_iconst (v := 1) hx hb dX7_add_38 (by decide) ?_
  refine lv_iadd hx hb dX7_add_39 ?_
  refine tk (y := 3) (by decide) ?_
  refine k_put (C := RX7) (T := TX7) (N := 9) (ci := 7) (v := .int 3) (ty := .int) X hE hP hD hS 0 rfl rfl iX7 tyX7 tyX7_ok nmX7 1 (by decide) w_144 rfl (by decide +kernel) rfl rfl (Nat.le_of_ble_eq_true rfl) [(h0, .inr (7, [.ref htb, .int 3, .int t0, .int t1, .int t2, .int t3, .int t4, .int t5, .int t6])), (htb, .inl (cA, 6000, .inl (upd (upd (upd f 0 ((v >>> (24 &&& 31)) &&& 255)) 1 ((v >>> (16 &&& 31)) &&& 255)) 2 ((v >>> (8 &&& 31)) &&& 255))))] rfl dX7_add_40 (fun H locs hP hD hS => ?_)
  refine lv_iinc (v := 0) (lv' := [(2, .int 0), (0, .ref h0), (1, .int v)]) hx hb dX7_add_43 hl (k := 0) rfl (by decide) (by decide) rfl (fun ls hl => ?_)
  refine lv_goto (tgt := 3) hx hb dX7_add_46 (by decide) ?_
  refine lv_iload_n hx hb dX7_add_3 rfl (lv_at hl 0 rfl) ?_
  refine lv_if_lt (tgt := 49) hx hb dX7_add_4 (by decide) (fun c_4_5 => absurd c_4_5 (by decide)) (fun c_4_5 => ?_)
  refine lv_aload_n hx hb dX7_add_7 rfl (lv_at hl 1 rfl) ?_
  refine k_get (C := RX7) (T := TX7) (N := 9) (ci := 7) (v := .int 3) X hE hP 0 rfl rfl iX7 1 (by decide) w_144 rfl dX7_add_8 ?_
  refine lv_sipush (v := 6000) hx hb dX7_add_11 (by decide) ?_
  refine lv_icmp_ge (tgt := 49) hx hb dX7_add_14 (by decide) (fun c_14_6 => absurd c_14_6 (by decide)) (fun c_14_6 => ?_)
  refine lv_aload_n hx hb dX7_add_17 rfl (lv_at hl 1 rfl) ?_
  refine k_get (C := RX7) (T := TX7) (N := 9) (ci := 7) (v := .ref htb) X hE hP 0 rfl rfl iX7 0 (by decide) w_11 rfl dX7_add_18 ?_
  refine lv_aload_n hx hb dX7_add_21 rfl (lv_at hl 1 rfl) ?_
  refine k_get (C := RX7) (T := TX7) (N := 9) (ci := 7) (v := .int 3) X hE hP 0 rfl rfl iX7 1 (by decide) w_144 rfl dX7_add_22 ?_
  refine lv_iload_n hx hb dX7_add_25 rfl (lv_at hl 2 rfl) ?_
  refine lv_iload_n hx hb dX7_add_26 rfl (lv_at hl 0 rfl) ?_
  refine lv_ishr hx hb dX7_add_27 ?_
  refine lv_sipush (v := 255) hx hb dX7_add_28 (by decide) ?_
  refine lv_iand hx hb dX7_add_31 ?_
  refine k_ast X hE hP hD hS 1 rfl 3 rfl (by decide) (by decide) [(h0, .inr (7, [.ref htb, .int 3, .int t0, .int t1, .int t2, .int t3, .int t4, .int t5, .int t6])), (htb, .inl (cA, 6000, .inl (upd (upd (upd (upd f 0 ((v >>> (24 &&& 31)) &&& 255)) 1 ((v >>> (16 &&& 31)) &&& 255)) 2 ((v >>> (8 &&& 31)) &&& 255)) 3 ((v >>> (0 &&& 31)) &&& 255))))] rfl dX7_add_32 (fun H locs hP hD hS => ?_)
  refine lv_aload_n hx hb dX7_add_33 rfl (lv_at hl 1 rfl) ?_
  refine lv_dup hx hb dX7_add_34 rfl ?_
  refine k_get (C := RX7) (T := TX7) (N := 9) (ci := 7) (v := .int 3) X hE hP 0 rfl rfl iX7 1 (by decide) w_144 rfl dX7_add_35 ?_
  refine lv_iconst (v := 1) hx hb dX7_add_38 (by decide) ?_
  refine lv_iadd hx hb dX7_add_39 ?_
  refine tk (y := 4) (by decide) ?_
  refine k_put (C := RX7) (T := TX7) (N := 9) (ci := 7) (v := .int 4) (ty := .int) X hE hP hD hS 0 rfl rfl iX7 tyX7 tyX7_ok nmX7 1 (by decide) w_144 rfl (by decide +kernel) rfl rfl (Nat.le_of_ble_eq_true rfl) [(h0, .inr (7, [.ref htb, .int 4, .int t0, .int t1, .int t2, .int t3, .int t4, .int t5, .int t6])), (htb, .inl (cA, 6000, .inl (upd (upd (upd (upd f 0 ((v >>> (24 &&& 31)) &&& 255)) 1 ((v >>> (16 &&& 31)) &&& 255)) 2 ((v >>> (8 &&& 31)) &&& 255)) 3 ((v >>> (0 &&& 31)) &&& 255))))] rfl dX7_add_40 (fun H locs hP hD hS => ?_)
  refine lv_iinc (v := (-8)) (lv' := [(2, .int (-8)), (0, .ref h0), (1, .int v)]) hx hb dX7_add_43 hl (k := 0) rfl (by decide) (by decide) rfl (fun ls hl => ?_)
  refine lv_goto (tgt := 3) hx hb dX7_add_46 (by decide) ?_
  refine lv_iload_n hx hb dX7_add_3 rfl (lv_at hl 0 rfl) ?_
  refine lv_if_lt (tgt := 49) hx hb dX7_add_4 (by decide) (fun c_4_7 => ?_) (fun c_4_7 => absurd (by decide) c_4_7)
  exact endV X hr hlocks hP hD hS dX7_add_49 ⟨(upd (upd (upd (upd f 0 ((v >>> (24 &&& 31)) &&& 255)) 1 ((v >>> (16 &&& 31)) &&& 255)) 2 ((v >>> (8 &&& 31)) &&& 255)) 3 ((v >>> (0 &&& 31)) &&& 255)), rfl⟩
set_option maxHeartbeats 4000000 in
set_option maxRecDepth 100000 in
theorem c_add4 (l : Launch) (D : va_G) (cA cB : ClassId) (h0 : Nat) (htb : Nat) (t0 : Int32) (t1 : Int32) (t2 : Int32) (t3 : Int32) (t4 : Int32) (t5 : Int32) (t6 : Int32) (f : Nat → Int32) (v : Int32)  : CV l yX7_add cX7_add 3 none 0 0 0 0 D cA cB [.ref h0, .int v] [(h0, .inr (7, [.ref htb, .int 4, .int t0, .int t1, .int t2, .int t3, .int t4, .int t5, .int t6])), (htb, .inl (cA, 6000, .inl f))] (fun W1 => ∃ (g : Nat → Int32), W1 = [(h0, .inr (7, [.ref htb, .int 8, .int t0, .int t1, .int t2, .int t3, .int t4, .int t5, .int t6])), (htb, .inl (cA, 6000, .inl g))]) := by
  refine mkV (lv0 := [(0, .ref h0), (1, .int v)]) (by decide) (Nat.le_of_ble_eq_true rfl) rfl ?_
  intro p e s m below meth c A ls X hr hlocks hnm hE hA hP hD hS hl
  have hx := X.1
  have hb := X.2.1
  refine lv_bipush (v := 24) hx hb dX7_add_0 (by decide) ?_
  refine lv_istore_n (lv' := [(2, .int 24), (0, .ref h0), (1, .int v)]) hx hb dX7_add_2 rfl hl (by decide) rfl (fun ls hl => ?_)
  refine lv_iload_n hx hb dX7_add_3 rfl (lv_at hl 0 rfl) ?_
  refine lv_if_lt (tgt := 49) hx hb dX7_add_4 (by decide) (fun c_4 => absurd c_4 (by decide)) (fun c_4 => ?_)
  refine lv_aload_n hx hb dX7_add_7 rfl (lv_at hl 1 rfl) ?_
  refine k_get (C := RX7) (T := TX7) (N := 9) (ci := 7) (v := .int 4) X hE hP 0 rfl rfl iX7 1 (by decide) w_144 rfl dX7_add_8 ?_
  refine lv_sipush (v := 6000) hx hb dX7_add_11 (by decide) ?_
  refine lv_icmp_ge (tgt := 49) hx hb dX7_add_14 (by decide) (fun c_14 => absurd c_14 (by decide)) (fun c_14 => ?_)
  refine lv_aload_n hx hb dX7_add_17 rfl (lv_at hl 1 rfl) ?_
  refine k_get (C := RX7) (T := TX7) (N := 9) (ci := 7) (v := .ref htb) X hE hP 0 rfl rfl iX7 0 (by decide) w_11 rfl dX7_add_18 ?_
  refine lv_aload_n hx hb dX7_add_21 rfl (lv_at hl 1 rfl) ?_
  refine k_get (C := RX7) (T := TX7) (N := 9) (ci := 7) (v := .int 4) X hE hP 0 rfl rfl iX7 1 (by decide) w_144 rfl dX7_add_22 ?_
  refine lv_iload_n hx hb dX7_add_25 rfl (lv_at hl 2 rfl) ?_
  refine lv_iload_n hx hb dX7_add_26 rfl (lv_at hl 0 rfl) ?_
  refine lv_ishr hx hb dX7_add_27 ?_
  refine lv_sipush (v := 255) hx hb dX7_add_28 (by decide) ?_
  refine lv_iand hx hb dX7_add_31 ?_
  refine k_ast X hE hP hD hS 1 rfl 4 rfl (by decide) (by decide) [(h0, .inr (7, [.ref htb, .int 4, .int t0, .int t1, .int t2, .int t3, .int t4, .int t5, .int t6])), (htb, .inl (cA, 6000, .inl (upd f 4 ((v >>> (24 &&& 31)) &&& 255))))] rfl dX7_add_32 (fun H locs hP hD hS => ?_)
  refine lv_aload_n hx hb dX7_add_33 rfl (lv_at hl 1 rfl) ?_
  refine lv_dup hx hb dX7_add_34 rfl ?_
  refine k_get (C := RX7) (T := TX7) (N := 9) (ci := 7) (v := .int 4) X hE hP 0 rfl rfl iX7 1 (by decide) w_144 rfl dX7_add_35 ?_
  refine lv_iconst (v := 1) hx hb dX7_add_38 (by decide) ?_
  refine lv_iadd hx hb dX7_add_39 ?_
  refine tk (y := 5) (by decide) ?_
  refine k_put (C := RX7) (T := TX7) (N := 9) (ci := 7) (v := .int 5) (ty := .int) X hE hP hD hS 0 rfl rfl iX7 tyX7 tyX7_ok nmX7 1 (by decide) w_144 rfl (by decide +kernel) rfl rfl (Nat.le_of_ble_eq_true rfl) [(h0, .inr (7, [.ref htb, .int 5, .int t0, .int t1, .int t2, .int t3, .int t4, .int t5, .int t6])), (htb, .inl (cA, 6000, .inl (upd f 4 ((v >>> (24 &&& 31)) &&& 255))))] rfl dX7_add_40 (fun H locs hP hD hS => ?_)
  refine lv_iinc (v := 16) (lv' := [(2, .int 16), (0, .ref h0), (1, .int v)]) hx hb dX7_add_43 hl (k := 0) rfl (by decide) (by decide) rfl (fun ls hl => ?_)
  refine lv_goto (tgt := 3) hx hb dX7_add_46 (by decide) ?_
  refine lv_iload_n hx hb dX7_add_3 rfl (lv_at hl 0 rfl) ?_
  refine lv_if_lt (tgt := 49) hx hb dX7_add_4 (by decide) (fun c_4_1 => absurd c_4_1 (by decide)) (fun c_4_1 => ?_)
  refine lv_aload_n hx hb dX7_add_7 rfl (lv_at hl 1 rfl) ?_
  refine k_get (C := RX7) (T := TX7) (N := 9) (ci := 7) (v := .int 5) X hE hP 0 rfl rfl iX7 1 (by decide) w_144 rfl dX7_add_8 ?_
  refine lv_sipush (v := 6000) hx hb dX7_add_11 (by decide) ?_
  refine lv_icmp_ge (tgt := 49) hx hb dX7_add_14 (by decide) (fun c_14_2 => absurd c_14_2 (by decide)) (fun c_14_2 => ?_)
  refine lv_aload_n hx hb dX7_add_17 rfl (lv_at hl 1 rfl) ?_
  refine k_get (C := RX7) (T := TX7) (N := 9) (ci := 7) (v := .ref htb) X hE hP 0 rfl rfl iX7 0 (by decide) w_11 rfl dX7_add_18 ?_
  refine lv_aload_n hx hb dX7_add_21 rfl (lv_at hl 1 rfl) ?_
  refine k_get (C := RX7) (T := TX7) (N := 9) (ci := 7) (v := .int 5) X hE hP 0 rfl rfl iX7 1 (by decide) w_144 rfl dX7_add_22 ?_
  refine lv_iload_n hx hb dX7_add_25 rfl (lv_at hl 2 rfl) ?_
  refine lv_iload_n hx hb dX7_add_26 rfl (lv_at hl 0 rfl) ?_
  refine lv_ishr hx hb dX7_add_27 ?_
  refine lv_sipush (v := 255) hx hb dX7_add_28 (by decide) ?_
  refine lv_iand hx hb dX7_add_31 ?_
  refine k_ast X hE hP hD hS 1 rfl 5 rfl (by decide) (by decide) [(h0, .inr (7, [.ref htb, .int 5, .int t0, .int t1, .int t2, .int t3, .int t4, .int t5, .int t6])), (htb, .inl (cA, 6000, .inl (upd (upd f 4 ((v >>> (24 &&& 31)) &&& 255)) 5 ((v >>> (16 &&& 31)) &&& 255))))] rfl dX7_add_32 (fun H locs hP hD hS => ?_)
  refine lv_aload_n hx hb dX7_add_33 rfl (lv_at hl 1 rfl) ?_
  refine lv_dup hx hb dX7_add_34 rfl ?_
  refine k_get (C := RX7) (T := TX7) (N := 9) (ci := 7) (v := .int 5) X hE hP 0 rfl rfl iX7 1 (by decide) w_144 rfl dX7_add_35 ?_
  refine lv_iconst (v := 1) hx hb dX7_add_38 (by decide) ?_
  refine lv_iadd hx hb dX7_add_39 ?_
  refine tk (y := 6) (by decide) ?_
  refine k_put (C := RX7) (T := TX7) (N := 9) (ci := 7) (v := .int 6) (ty := .int) X hE hP hD hS 0 rfl rfl iX7 tyX7 tyX7_ok nmX7 1 (by decide) w_144 rfl (by decide +kernel) rfl rfl (Nat.le_of_ble_eq_true rfl) [(h0, .inr (7, [.ref htb, .int 6, .int t0, .int t1, .int t2, .int t3, .int t4, .int t5, .int t6])), (htb, .inl (cA, 6000, .inl (upd (upd f 4 ((v >>> (24 &&& 31)) &&& 255)) 5 ((v >>> (16 &&& 31)) &&& 255))))] rfl dX7_add_40 (fun H locs hP hD hS => ?_)
  refine lv_iinc (v := 8) (lv' := [(2, .int 8), (0, .ref h0), (1, .int v)]) hx hb dX7_add_43 hl (k := 0) rfl (by decide) (by decide) rfl (fun ls hl => ?_)
  refine lv_goto (tgt := 3) hx hb dX7_add_46 (by decide) ?_
  refine lv_iload_n hx hb dX7_add_3 rfl (lv_at hl 0 rfl) ?_
  refine lv_if_lt (tgt := 49) hx hb dX7_add_4 (by decide) (fun c_4_3 => absurd c_4_3 (by decide)) (fun c_4_3 => ?_)
  refine lv_aload_n hx hb dX7_add_7 rfl (lv_at hl 1 rfl) ?_
  refine k_get (C := RX7) (T := TX7) (N := 9) (ci := 7) (v := .int 6) X hE hP 0 rfl rfl iX7 1 (by decide) w_144 rfl dX7_add_8 ?_
  refine lv_sipush (v := 6000) hx hb dX7_add_11 (by decide) ?_
  refine lv_icmp_ge (tgt := 49) hx hb dX7_add_14 (by decide) (fun c_14_4 => absurd c_14_4 (by decide)) (fun c_14_4 => ?_)
  refine lv_aload_n hx hb dX7_add_17 rfl (lv_at hl 1 rfl) ?_
  refine k_get (C := RX7) (T := TX7) (N := 9) (ci := 7) (v := .ref htb) X hE hP 0 rfl rfl iX7 0 (by decide) w_11 rfl dX7_add_18 ?_
  refine lv_aload_n hx hb dX7_add_21 rfl (lv_at hl 1 rfl) ?_
  refine k_get (C := RX7) (T := TX7) (N := 9) (ci := 7) (v := .int 6) X hE hP 0 rfl rfl iX7 1 (by decide) w_144 rfl dX7_add_22 ?_
  refine lv_iload_n hx hb dX7_add_25 rfl (lv_at hl 2 rfl) ?_
  refine lv_iload_n hx hb dX7_add_26 rfl (lv_at hl 0 rfl) ?_
  refine lv_ishr hx hb dX7_add_27 ?_
  refine lv_sipush (v := 255) hx hb dX7_add_28 (by decide) ?_
  refine lv_iand hx hb dX7_add_31 ?_
  refine k_ast X hE hP hD hS 1 rfl 6 rfl (by decide) (by decide) [(h0, .inr (7, [.ref htb, .int 6, .int t0, .int t1, .int t2, .int t3, .int t4, .int t5, .int t6])), (htb, .inl (cA, 6000, .inl (upd (upd (upd f 4 ((v >>> (24 &&& 31)) &&& 255)) 5 ((v >>> (16 &&& 31)) &&& 255)) 6 ((v >>> (8 &&& 31)) &&& 255))))] rfl dX7_add_32 (fun H locs hP hD hS => ?_)
  refine lv_aload_n hx hb dX7_add_33 rfl (lv_at hl 1 rfl) ?_
  refine lv_dup hx hb dX7_add_34 rfl ?_
  refine k_get (C := RX7) (T := TX7) (N := 9) (ci := 7) (v := .int 6) X hE hP 0 rfl rfl iX7 1 (by decide) w_144 rfl dX7_add_35 ?_
  refine lv_iconst (v := 1) hx hb dX7_add_38 (by decide) ?_
  refine lv_iadd hx hb dX7_add_39 ?_
  refine tk (y := 7) (by decide) ?_
  refine k_put (C := RX7) (T := TX7) (N := 9) (ci := 7) (v := .int 7) (ty := .int) X hE hP hD hS 0 rfl rfl iX7 tyX7 tyX7_ok nmX7 1 (by decide) w_144 rfl (by decide +kernel) rfl rfl (Nat.le_of_ble_eq_true rfl) [(h0, .inr (7, [.ref htb, .int 7, .int t0, .int t1, .int t2, .int t3, .int t4, .int t5, .int t6])), (htb, .inl (cA, 6000, .inl (upd (upd (upd f 4 ((v >>> (24 &&& 31)) &&& 255)) 5 ((v >>> (16 &&& 31)) &&& 255)) 6 ((v >>> (8 &&& 31)) &&& 255))))] rfl dX7_add_40 (fun H locs hP hD hS => ?_)
  refine lv_iinc (v := 0) (lv' := [(2, .int 0), (0, .ref h0), (1, .int v)]) hx hb dX7_add_43 hl (k := 0) rfl (by decide) (by decide) rfl (fun ls hl => ?_)
  refine lv_goto (tgt := 3) hx hb dX7_add_46 (by decide) ?_
  refine lv_iload_n hx hb dX7_add_3 rfl (lv_at hl 0 rfl) ?_
  refine lv_if_lt (tgt := 49) hx hb dX7_add_4 (by decide) (fun c_4_5 => absurd c_4_5 (by decide)) (fun c_4_5 => ?_)
  refine lv_aload_n hx hb dX7_add_7 rfl (lv_at hl 1 rfl) ?_
  refine k_get (C := RX7) (T := TX7) (N := 9) (ci := 7) (v := .int 7) X hE hP 0 rfl rfl iX7 1 (by decide) w_144 rfl dX7_add_8 ?_
  refine lv_sipush (v := 6000) hx hb dX7_add_11 (by decide) ?_
  refine lv_icmp_ge (tgt := 49) hx hb dX7_add_14 (by decide) (fun c_14_6 => absurd c_14_6 (by decide)) (fun c_14_6 => ?_)
  refine lv_aload_n hx hb dX7_add_17 rfl (lv_at hl 1 rfl) ?_
  refine k_get (C := RX7) (T := TX7) (N := 9) (ci := 7) (v := .ref htb) X hE hP 0 rfl rfl iX7 0 (by decide) w_11 rfl dX7_add_18 ?_
  refine lv_aload_n hx hb dX7_add_21 rfl (lv_at hl 1 rfl) ?_
  refine k_get (C := RX7) (T := TX7) (N := 9) (ci := 7) (v := .int 7) X hE hP 0 rfl rfl iX7 1 (by decide) w_144 rfl dX7_add_22 ?_
  refine lv_iload_n hx hb dX7_add_25 rfl (lv_at hl 2 rfl) ?_
  refine lv_iload_n hx hb dX7_add_26 rfl (lv_at hl 0 rfl) ?_
  refine lv_ishr hx hb dX7_add_27 ?_
  refine lv_sipush (v := 255) hx hb dX7_add_28 (by decide) ?_
  refine lv_iand hx hb dX7_add_31 ?_
  refine k_ast X hE hP hD hS 1 rfl 7 rfl (by decide) (by decide) [(h0, .inr (7, [.ref htb, .int 7, .int t0, .int t1, .int t2, .int t3, .int t4, .int t5, .int t6])), (htb, .inl (cA, 6000, .inl (upd (upd (upd (upd f 4 ((v >>> (24 &&& 31)) &&& 255)) 5 ((v >>> (16 &&& 31)) &&& 255)) 6 ((v >>> (8 &&& 31)) &&& 255)) 7 ((v >>> (0 &&& 31)) &&& 255))))] rfl dX7_add_32 (fun H locs hP hD hS => ?_)
  refine lv_aload_n hx hb dX7_add_33 rfl (lv_at hl 1 rfl) ?_
  refine lv_dup hx hb dX7_add_34 rfl ?_
  refine k_get (C := RX7) (T := TX7) (N := 9) (ci := 7) (v := .int 7) X hE hP 0 rfl rfl iX7 1 (by decide) w_144 rfl dX7_add_35 ?_
  refine lv_iconst (v := 1) hx hb dX7_add_38 (by decide) ?_
  refine lv_iadd hx hb dX7_add_39 ?_
  refine tk (y := 8) (by decide) ?_
  refine k_put (C := RX7) (T := TX7) (N := 9) (ci := 7) (v := .int 8) (ty := .int) X hE hP hD hS 0 rfl rfl iX7 tyX7 tyX7_ok nmX7 1 (by decide) w_144 rfl (by decide +kernel) rfl rfl (Nat.le_of_ble_eq_true rfl) [(h0, .inr (7, [.ref htb, .int 8, .int t0, .int t1, .int t2, .int t3, .int t4, .int t5, .int t6])), (htb, .inl (cA, 6000, .inl (upd (upd (upd (upd f 4 ((v >>> (24 &&& 31)) &&& 255)) 5 ((v >>> (16 &&& 31)) &&& 255)) 6 ((v >>> (8 &&& 31)) &&& 255)) 7 ((v >>> (0 &&& 31)) &&& 255))))] rfl dX7_add_40 (fun H locs hP hD hS => ?_)
  refine lv_iinc (v := (-8)) (lv' := [(2, .int (-8)), (0, .ref h0), (1, .int v)]) hx hb dX7_add_43 hl (k := 0) rfl (by decide) (by decide) rfl (fun ls hl => ?_)
  refine lv_goto (tgt := 3) hx hb dX7_add_46 (by decide) ?_
  refine lv_iload_n hx hb dX7_add_3 rfl (lv_at hl 0 rfl) ?_
  refine lv_if_lt (tgt := 49) hx hb dX7_add_4 (by decide) (fun c_4_7 => ?_) (fun c_4_7 => absurd (by decide) c_4_7)
  exact endV X hr hlocks hP hD hS dX7_add_49 ⟨(upd (upd (upd (upd f 4 ((v >>> (24 &&& 31)) &&& 255)) 5 ((v >>> (16 &&& 31)) &&& 255)) 6 ((v >>> (8 &&& 31)) &&& 255)) 7 ((v >>> (0 &&& 31)) &&& 255)), rfl⟩
set_option maxHeartbeats 4000000 in
set_option maxRecDepth 100000 in
theorem c_add8 (l : Launch) (D : va_G) (cA cB : ClassId) (h0 : Nat) (htb : Nat) (t0 : Int32) (t1 : Int32) (t2 : Int32) (t3 : Int32) (t4 : Int32) (t5 : Int32) (t6 : Int32) (f : Nat → Int32) (v : Int32)  : CV l yX7_add cX7_add 3 none 0 0 0 0 D cA cB [.ref h0, .int v] [(h0, .inr (7, [.ref htb, .int 8, .int t0, .int t1, .int t2, .int t3, .int t4, .int t5, .int t6])), (htb, .inl (cA, 6000, .inl f))] (fun W1 => ∃ (g : Nat → Int32), W1 = [(h0, .inr (7, [.ref htb, .int 12, .int t0, .int t1, .int t2, .int t3, .int t4, .int t5, .int t6])), (htb, .inl (cA, 6000, .inl g))]) := by
  refine mkV (lv0 := [(0, .ref h0), (1, .int v)]) (by decide) (Nat.le_of_ble_eq_true rfl) rfl ?_
  intro p e s m below meth c A ls X hr hlocks hnm hE hA hP hD hS hl
  have hx := X.1
  have hb := X.2.1
  refine lv_bipush (v := 24) hx hb dX7_add_0 (by decide) ?_
  refine lv_istore_n (lv' := [(2, .int 24), (0, .ref h0), (1, .int v)]) hx hb dX7_add_2 rfl hl (by decide) rfl (fun ls hl => ?_)
  refine lv_iload_n hx hb dX7_add_3 rfl (lv_at hl 0 rfl) ?_
  refine lv_if_lt (tgt := 49) hx hb dX7_add_4 (by decide) (fun c_4 => absurd c_4 (by decide)) (fun c_4 => ?_)
  refine lv_aload_n hx hb dX7_add_7 rfl (lv_at hl 1 rfl) ?_
  refine k_get (C := RX7) (T := TX7) (N := 9) (ci := 7) (v := .int 8) X hE hP 0 rfl rfl iX7 1 (by decide) w_144 rfl dX7_add_8 ?_
  refine lv_sipush (v := 6000) hx hb dX7_add_11 (by decide) ?_
  refine lv_icmp_ge (tgt := 49) hx hb dX7_add_14 (by decide) (fun c_14 => absurd c_14 (by decide)) (fun c_14 => ?_)
  refine lv_aload_n hx hb dX7_add_17 rfl (lv_at hl 1 rfl) ?_
  refine k_get (C := RX7) (T := TX7) (N := 9) (ci := 7) (v := .ref htb) X hE hP 0 rfl rfl iX7 0 (by decide) w_11 rfl dX7_add_18 ?_
  refine lv_aload_n hx hb dX7_add_21 rfl (lv_at hl 1 rfl) ?_
  refine k_get (C := RX7) (T := TX7) (N := 9) (ci := 7) (v := .int 8) X hE hP 0 rfl rfl iX7 1 (by decide) w_144 rfl dX7_add_22 ?_
  refine lv_iload_n hx hb dX7_add_25 rfl (lv_at hl 2 rfl) ?_
  refine lv_iload_n hx hb dX7_add_26 rfl (lv_at hl 0 rfl) ?_
  refine lv_ishr hx hb dX7_add_27 ?_
  refine lv_sipush (v := 255) hx hb dX7_add_28 (by decide) ?_
  refine lv_iand hx hb dX7_add_31 ?_
  refine k_ast X hE hP hD hS 1 rfl 8 rfl (by decide) (by decide) [(h0, .inr (7, [.ref htb, .int 8, .int t0, .int t1, .int t2, .int t3, .int t4, .int t5, .int t6])), (htb, .inl (cA, 6000, .inl (upd f 8 ((v >>> (24 &&& 31)) &&& 255))))] rfl dX7_add_32 (fun H locs hP hD hS => ?_)
  refine lv_aload_n hx hb dX7_add_33 rfl (lv_at hl 1 rfl) ?_
  refine lv_dup hx hb dX7_add_34 rfl ?_
  refine k_get (C := RX7) (T := TX7) (N := 9) (ci := 7) (v := .int 8) X hE hP 0 rfl rfl iX7 1 (by decide) w_144 rfl dX7_add_35 ?_
  refine lv_iconst (v := 1) hx hb dX7_add_38 (by decide) ?_
  refine lv_iadd hx hb dX7_add_39 ?_
  refine tk (y := 9) (by decide) ?_
  refine k_put (C := RX7) (T := TX7) (N := 9) (ci := 7) (v := .int 9) (ty := .int) X hE hP hD hS 0 rfl rfl iX7 tyX7 tyX7_ok nmX7 1 (by decide) w_144 rfl (by decide +kernel) rfl rfl (Nat.le_of_ble_eq_true rfl) [(h0, .inr (7, [.ref htb, .int 9, .int t0, .int t1, .int t2, .int t3, .int t4, .int t5, .int t6])), (htb, .inl (cA, 6000, .inl (upd f 8 ((v >>> (24 &&& 31)) &&& 255))))] rfl dX7_add_40 (fun H locs hP hD hS => ?_)
  refine lv_iinc (v := 16) (lv' := [(2, .int 16), (0, .ref h0), (1, .int v)]) hx hb dX7_add_43 hl (k := 0) rfl (by decide) (by decide) rfl (fun ls hl => ?_)
  refine lv_goto (tgt := 3) hx hb dX7_add_46 (by decide) ?_
  refine lv_iload_n hx hb dX7_add_3 rfl (lv_at hl 0 rfl) ?_
  refine lv_if_lt (tgt := 49) hx hb dX7_add_4 (by decide) (fun c_4_1 => absurd c_4_1 (by decide)) (fun c_4_1 => ?_)
  refine lv_aload_n hx hb dX7_add_7 rfl (lv_at hl 1 rfl) ?_
  refine k_get (C := RX7) (T := TX7) (N := 9) (ci := 7) (v := .int 9) X hE hP 0 rfl rfl iX7 1 (by decide) w_144 rfl dX7_add_8 ?_
  refine lv_sipush (v := 6000) hx hb dX7_add_11 (by decide) ?_
  refine lv_icmp_ge (tgt := 49) hx hb dX7_add_14 (by decide) (fun c_14_2 => absurd c_14_2 (by decide)) (fun c_14_2 => ?_)
  refine lv_aload_n hx hb dX7_add_17 rfl (lv_at hl 1 rfl) ?_
  refine k_get (C := RX7) (T := TX7) (N := 9) (ci := 7) (v := .ref htb) X hE hP 0 rfl rfl iX7 0 (by decide) w_11 rfl dX7_add_18 ?_
  refine lv_aload_n hx hb dX7_add_21 rfl (lv_at hl 1 rfl) ?_
  refine k_get (C := RX7) (T := TX7) (N := 9) (ci := 7) (v := .int 9) X hE hP 0 rfl rfl iX7 1 (by decide) w_144 rfl dX7_add_22 ?_
  refine lv_iload_n hx hb dX7_add_25 rfl (lv_at hl 2 rfl) ?_
  refine lv_iload_n hx hb dX7_add_26 rfl (lv_at hl 0 rfl) ?_
  refine lv_ishr hx hb dX7_add_27 ?_
  refine lv_sipush (v := 255) hx hb dX7_add_28 (by decide) ?_
  refine lv_iand hx hb dX7_add_31 ?_
  refine k_ast X hE hP hD hS 1 rfl 9 rfl (by decide) (by decide) [(h0, .inr (7, [.ref htb, .int 9, .int t0, .int t1, .int t2, .int t3, .int t4, .int t5, .int t6])), (htb, .inl (cA, 6000, .inl (upd (upd f 8 ((v >>> (24 &&& 31)) &&& 255)) 9 ((v >>> (16 &&& 31)) &&& 255))))] rfl dX7_add_32 (fun H locs hP hD hS => ?_)
  refine lv_aload_n hx hb dX7_add_33 rfl (lv_at hl 1 rfl) ?_
  refine lv_dup hx hb dX7_add_34 rfl ?_
  refine k_get (C := RX7) (T := TX7) (N := 9) (ci := 7) (v := .int 9) X hE hP 0 rfl rfl iX7 1 (by decide) w_144 rfl dX7_add_35 ?_
  refine lv_iconst (v := 1) hx hb dX7_add_38 (by decide) ?_
  refine lv_iadd hx hb dX7_add_39 ?_
  refine tk (y := 10) (by decide) ?_
  refine k_put (C := RX7) (T := TX7) (N := 9) (ci := 7) (v := .int 10) (ty := .int) X hE hP hD hS 0 rfl rfl iX7 tyX7 tyX7_ok nmX7 1 (by decide) w_144 rfl (by decide +kernel) rfl rfl (Nat.le_of_ble_eq_true rfl) [(h0, .inr (7, [.ref htb, .int 10, .int t0, .int t1, .int t2, .int t3, .int t4, .int t5, .int t6])), (htb, .inl (cA, 6000, .inl (upd (upd f 8 ((v >>> (24 &&& 31)) &&& 255)) 9 ((v >>> (16 &&& 31)) &&& 255))))] rfl dX7_add_40 (fun H locs hP hD hS => ?_)
  refine lv_iinc (v := 8) (lv' := [(2, .int 8), (0, .ref h0), (1, .int v)]) hx hb dX7_add_43 hl (k := 0) rfl (by decide) (by decide) rfl (fun ls hl => ?_)
  refine lv_goto (tgt := 3) hx hb dX7_add_46 (by decide) ?_
  refine lv_iload_n hx hb dX7_add_3 rfl (lv_at hl 0 rfl) ?_
  refine lv_if_lt (tgt := 49) hx hb dX7_add_4 (by decide) (fun c_4_3 => absurd c_4_3 (by decide)) (fun c_4_3 => ?_)
  refine lv_aload_n hx hb dX7_add_7 rfl (lv_at hl 1 rfl) ?_
  refine k_get (C := RX7) (T := TX7) (N := 9) (ci := 7) (v := .int 10) X hE hP 0 rfl rfl iX7 1 (by decide) w_144 rfl dX7_add_8 ?_
  refine lv_sipush (v := 6000) hx hb dX7_add_11 (by decide) ?_
  refine lv_icmp_ge (tgt := 49) hx hb dX7_add_14 (by decide) (fun c_14_4 => absurd c_14_4 (by decide)) (fun c_14_4 => ?_)
  refine lv_aload_n hx hb dX7_add_17 rfl (lv_at hl 1 rfl) ?_
  refine k_get (C := RX7) (T := TX7) (N := 9) (ci := 7) (v := .ref htb) X hE hP 0 rfl rfl iX7 0 (by decide) w_11 rfl dX7_add_18 ?_
  refine lv_aload_n hx hb dX7_add_21 rfl (lv_at hl 1 rfl) ?_
  refine k_get (C := RX7) (T := TX7) (N := 9) (ci := 7) (v := .int 10) X hE hP 0 rfl rfl iX7 1 (by decide) w_144 rfl dX7_add_22 ?_
  refine lv_iload_n hx hb dX7_add_25 rfl (lv_at hl 2 rfl) ?_
  refine lv_iload_n hx hb dX7_add_26 rfl (lv_at hl 0 rfl) ?_
  refine lv_ishr hx hb dX7_add_27 ?_
  refine lv_sipush (v := 255) hx hb dX7_add_28 (by decide) ?_
  refine lv_iand hx hb dX7_add_31 ?_
  refine k_ast X hE hP hD hS 1 rfl 10 rfl (by decide) (by decide) [(h0, .inr (7, [.ref htb, .int 10, .int t0, .int t1, .int t2, .int t3, .int t4, .int t5, .int t6])), (htb, .inl (cA, 6000, .inl (upd (upd (upd f 8 ((v >>> (24 &&& 31)) &&& 255)) 9 ((v >>> (16 &&& 31)) &&& 255)) 10 ((v >>> (8 &&& 31)) &&& 255))))] rfl dX7_add_32 (fun H locs hP hD hS => ?_)
  refine lv_aload_n hx hb dX7_add_33 rfl (lv_at hl 1 rfl) ?_
  refine lv_dup hx hb dX7_add_34 rfl ?_
  refine k_get (C := RX7) (T := TX7) (N := 9) (ci := 7) (v := .int 10) X hE hP 0 rfl rfl iX7 1 (by decide) w_144 rfl dX7_add_35 ?_
  refine lv_iconst (v := 1) hx hb dX7_add_38 (by decide) ?_
  refine lv_iadd hx hb dX7_add_39 ?_
  refine tk (y := 11) (by decide) ?_
  refine k_put (C := RX7) (T := TX7) (N := 9) (ci := 7) (v := .int 11) (ty := .int) X hE hP hD hS 0 rfl rfl iX7 tyX7 tyX7_ok nmX7 1 (by decide) w_144 rfl (by decide +kernel) rfl rfl (Nat.le_of_ble_eq_true rfl) [(h0, .inr (7, [.ref htb, .int 11, .int t0, .int t1, .int t2, .int t3, .int t4, .int t5, .int t6])), (htb, .inl (cA, 6000, .inl (upd (upd (upd f 8 ((v >>> (24 &&& 31)) &&& 255)) 9 ((v >>> (16 &&& 31)) &&& 255)) 10 ((v >>> (8 &&& 31)) &&& 255))))] rfl dX7_add_40 (fun H locs hP hD hS => ?_)
  refine lv_iinc (v := 0) (lv' := [(2, .int 0), (0, .ref h0), (1, .int v)]) hx hb dX7_add_43 hl (k := 0) rfl (by decide) (by decide) rfl (fun ls hl => ?_)
  refine lv_goto (tgt := 3) hx hb dX7_add_46 (by decide) ?_
  refine lv_iload_n hx hb dX7_add_3 rfl (lv_at hl 0 rfl) ?_
  refine lv_if_lt (tgt := 49) hx hb dX7_add_4 (by decide) (fun c_4_5 => absurd c_4_5 (by decide)) (fun c_4_5 => ?_)
  refine lv_aload_n hx hb dX7_add_7 rfl (lv_at hl 1 rfl) ?_
  refine k_get (C := RX7) (T := TX7) (N := 9) (ci := 7) (v := .int 11) X hE hP 0 rfl rfl iX7 1 (by decide) w_144 rfl dX7_add_8 ?_
  refine lv_sipush (v := 6000) hx hb dX7_add_11 (by decide) ?_
  refine lv_icmp_ge (tgt := 49) hx hb dX7_add_14 (by decide) (fun c_14_6 => absurd c_14_6 (by decide)) (fun c_14_6 => ?_)
  refine lv_aload_n hx hb dX7_add_17 rfl (lv_at hl 1 rfl) ?_
  refine k_get (C := RX7) (T := TX7) (N := 9) (ci := 7) (v := .ref htb) X hE hP 0 rfl rfl iX7 0 (by decide) w_11 rfl dX7_add_18 ?_
  refine lv_aload_n hx hb dX7_add_21 rfl (lv_at hl 1 rfl) ?_
  refine k_get (C := RX7) (T := TX7) (N := 9) (ci := 7) (v := .int 11) X hE hP 0 rfl rfl iX7 1 (by decide) w_144 rfl dX7_add_22 ?_
  refine lv_iload_n hx hb dX7_add_25 rfl (lv_at hl 2 rfl) ?_
  refine lv_iload_n hx hb dX7_add_26 rfl (lv_at hl 0 rfl) ?_
  refine lv_ishr hx hb dX7_add_27 ?_
  refine lv_sipush (v := 255) hx hb dX7_add_28 (by decide) ?_
  refine lv_iand hx hb dX7_add_31 ?_
  refine k_ast X hE hP hD hS 1 rfl 11 rfl (by decide) (by decide) [(h0, .inr (7, [.ref htb, .int 11, .int t0, .int t1, .int t2, .int t3, .int t4, .int t5, .int t6])), (htb, .inl (cA, 6000, .inl (upd (upd (upd (upd f 8 ((v >>> (24 &&& 31)) &&& 255)) 9 ((v >>> (16 &&& 31)) &&& 255)) 10 ((v >>> (8 &&& 31)) &&& 255)) 11 ((v >>> (0 &&& 31)) &&& 255))))] rfl dX7_add_32 (fun H locs hP hD hS => ?_)
  refine lv_aload_n hx hb dX7_add_33 rfl (lv_at hl 1 rfl) ?_
  refine lv_dup hx hb dX7_add_34 rfl ?_
  refine k_get (C := RX7) (T := TX7) (N := 9) (ci := 7) (v := .int 11) X hE hP 0 rfl rfl iX7 1 (by decide) w_144 rfl dX7_add_35 ?_
  refine lv_iconst (v := 1) hx hb dX7_add_38 (by decide) ?_
  refine lv_iadd hx hb dX7_add_39 ?_
  refine tk (y := 12) (by decide) ?_
  refine k_put (C := RX7) (T := TX7) (N := 9) (ci := 7) (v := .int 12) (ty := .int) X hE hP hD hS 0 rfl rfl iX7 tyX7 tyX7_ok nmX7 1 (by decide) w_144 rfl (by decide +kernel) rfl rfl (Nat.le_of_ble_eq_true rfl) [(h0, .inr (7, [.ref htb, .int 12, .int t0, .int t1, .int t2, .int t3, .int t4, .int t5, .int t6])), (htb, .inl (cA, 6000, .inl (upd (upd (upd (upd f 8 ((v >>> (24 &&& 31)) &&& 255)) 9 ((v >>> (16 &&& 31)) &&& 255)) 10 ((v >>> (8 &&& 31)) &&& 255)) 11 ((v >>> (0 &&& 31)) &&& 255))))] rfl dX7_add_40 (fun H locs hP hD hS => ?_)
  refine lv_iinc (v := (-8)) (lv' := [(2, .int (-8)), (0, .ref h0), (1, .int v)]) hx hb dX7_add_43 hl (k := 0) rfl (by decide) (by decide) rfl (fun ls hl => ?_)
  refine lv_goto (tgt := 3) hx hb dX7_add_46 (by decide) ?_
  refine lv_iload_n hx hb dX7_add_3 rfl (lv_at hl 0 rfl) ?_
  refine lv_if_lt (tgt := 49) hx hb dX7_add_4 (by decide) (fun c_4_7 => ?_) (fun c_4_7 => absurd (by decide) c_4_7)
  exact endV X hr hlocks hP hD hS dX7_add_49 ⟨(upd (upd (upd (upd f 8 ((v >>> (24 &&& 31)) &&& 255)) 9 ((v >>> (16 &&& 31)) &&& 255)) 10 ((v >>> (8 &&& 31)) &&& 255)) 11 ((v >>> (0 &&& 31)) &&& 255)), rfl⟩
set_option maxHeartbeats 4000000 in
set_option maxRecDepth 100000 in
theorem c_add12 (l : Launch) (D : va_G) (cA cB : ClassId) (h0 : Nat) (htb : Nat) (t0 : Int32) (t1 : Int32) (t2 : Int32) (t3 : Int32) (t4 : Int32) (t5 : Int32) (t6 : Int32) (f : Nat → Int32) (v : Int32)  : CV l yX7_add cX7_add 3 none 0 0 0 0 D cA cB [.ref h0, .int v] [(h0, .inr (7, [.ref htb, .int 12, .int t0, .int t1, .int t2, .int t3, .int t4, .int t5, .int t6])), (htb, .inl (cA, 6000, .inl f))] (fun W1 => ∃ (g : Nat → Int32), W1 = [(h0, .inr (7, [.ref htb, .int 16, .int t0, .int t1, .int t2, .int t3, .int t4, .int t5, .int t6])), (htb, .inl (cA, 6000, .inl g))]) := by
  refine mkV (lv0 := [(0, .ref h0), (1, .int v)]) (by decide) (Nat.le_of_ble_eq_true rfl) rfl ?_
  intro p e s m below meth c A ls X hr hlocks hnm hE hA hP hD hS hl
  have hx := X.1
  have hb := X.2.1
  refine lv_bipush (v := 24) hx hb dX7_add_0 (by decide) ?_
  refine lv_istore_n (lv' := [(2, .int 24), (0, .ref h0), (1, .int v)]) hx hb dX7_add_2 rfl hl (by decide) rfl (fun ls hl => ?_)
  refine lv_iload_n hx hb dX7_add_3 rfl (lv_at hl 0 rfl) ?_
  refine lv_if_lt (tgt := 49) hx hb dX7_add_4 (by decide) (fun c_4 => absurd c_4 (by decide)) (fun c_4 => ?_)
  refine lv_aload_n hx hb dX7_add_7 rfl (lv_at hl 1 rfl) ?_
  refine k_get (C := RX7) (T := TX7) (N := 9) (ci := 7) (v := .int 12) X hE hP 0 rfl rfl iX7 1 (by decide) w_144 rfl dX7_add_8 ?_
  refine lv_sipush (v := 6000) hx hb dX7_add_11 (by decide) ?_
  refine lv_icmp_ge (tgt := 49) hx hb dX7_add_14 (by decide) (fun c_14 => absurd c_14 (by decide)) (fun c_14 => ?_)
  refine lv_aload_n hx hb dX7_add_17 rfl (lv_at hl 1 rfl) ?_
  refine k_get (C := RX7) (T := TX7) (N := 9) (ci := 7) (v := .ref htb) X hE hP 0 rfl rfl iX7 0 (by decide) w_11 rfl dX7_add_18 ?_
  refine lv_aload_n hx hb dX7_add_21 rfl (lv_at hl 1 rfl) ?_
  refine k_get (C := RX7) (T := TX7) (N := 9) (ci := 7) (v := .int 12) X hE hP 0 rfl rfl iX7 1 (by decide) w_144 rfl dX7_add_22 ?_
  refine lv_iload_n hx hb dX7_add_25 rfl (lv_at hl 2 rfl) ?_
  refine lv_iload_n hx hb dX7_add_26 rfl (lv_at hl 0 rfl) ?_
  refine lv_ishr hx hb dX7_add_27 ?_
  refine lv_sipush (v := 255) hx hb dX7_add_28 (by decide) ?_
  refine lv_iand hx hb dX7_add_31 ?_
  refine k_ast X hE hP hD hS 1 rfl 12 rfl (by decide) (by decide) [(h0, .inr (7, [.ref htb, .int 12, .int t0, .int t1, .int t2, .int t3, .int t4, .int t5, .int t6])), (htb, .inl (cA, 6000, .inl (upd f 12 ((v >>> (24 &&& 31)) &&& 255))))] rfl dX7_add_32 (fun H locs hP hD hS => ?_)
  refine lv_aload_n hx hb dX7_add_33 rfl (lv_at hl 1 rfl) ?_
  refine lv_dup hx hb dX7_add_34 rfl ?_
  refine k_get (C := RX7) (T := TX7) (N := 9) (ci := 7) (v := .int 12) X hE hP 0 rfl rfl iX7 1 (by decide) w_144 rfl dX7_add_35 ?_
  refine lv_iconst (v := 1) hx hb dX7_add_38 (by decide) ?_
  refine lv_iadd hx hb dX7_add_39 ?_
  refine tk (y := 13) (by decide) ?_
  refine k_put (C := RX7) (T := TX7) (N := 9) (ci := 7) (v := .int 13) (ty := .int) X hE hP hD hS 0 rfl rfl iX7 tyX7 tyX7_ok nmX7 1 (by decide) w_144 rfl (by decide +kernel) rfl rfl (Nat.le_of_ble_eq_true rfl) [(h0, .inr (7, [.ref htb, .int 13, .int t0, .int t1, .int t2, .int t3, .int t4, .int t5, .int t6])), (htb, .inl (cA, 6000, .inl (upd f 12 ((v >>> (24 &&& 31)) &&& 255))))] rfl dX7_add_40 (fun H locs hP hD hS => ?_)
  refine lv_iinc (v := 16) (lv' := [(2, .int 16), (0, .ref h0), (1, .int v)]) hx hb dX7_add_43 hl (k := 0) rfl (by decide) (by decide) rfl (fun ls hl => ?_)
  refine lv_goto (tgt := 3) hx hb dX7_add_46 (by decide) ?_
  refine lv_iload_n hx hb dX7_add_3 rfl (lv_at hl 0 rfl) ?_
  refine lv_if_lt (tgt := 49) hx hb dX7_add_4 (by decide) (fun c_4_1 => absurd c_4_1 (by decide)) (fun c_4_1 => ?_)
  refine lv_aload_n hx hb dX7_add_7 rfl (lv_at hl 1 rfl) ?_
  refine k_get (C := RX7) (T := TX7) (N := 9) (ci := 7) (v := .int 13) X hE hP 0 rfl rfl iX7 1 (by decide) w_144 rfl dX7_add_8 ?_
  refine lv_sipush (v := 6000) hx hb dX7_add_11 (by decide) ?_
  refine lv_icmp_ge (tgt := 49) hx hb dX7_add_14 (by decide) (fun c_14_2 => absurd c_14_2 (by decide)) (fun c_14_2 => ?_)
  refine lv_aload_n hx hb dX7_add_17 rfl (lv_at hl 1 rfl) ?_
  refine k_get (C := RX7) (T := TX7) (N := 9) (ci := 7) (v := .ref htb) X hE hP 0 rfl rfl iX7 0 (by decide) w_11 rfl dX7_add_18 ?_
  refine lv_aload_n hx hb dX7_add_21 rfl (lv_at hl 1 rfl) ?_
  refine k_get (C := RX7) (T := TX7) (N := 9) (ci := 7) (v := .int 13) X hE hP 0 rfl rfl iX7 1 (by decide) w_144 rfl dX7_add_22 ?_
  refine lv_iload_n hx hb dX7_add_25 rfl (lv_at hl 2 rfl) ?_
  refine lv_iload_n hx hb dX7_add_26 rfl (lv_at hl 0 rfl) ?_
  refine lv_ishr hx hb dX7_add_27 ?_
  refine lv_sipush (v := 255) hx hb dX7_add_28 (by decide) ?_
  refine lv_iand hx hb dX7_add_31 ?_
  refine k_ast X hE hP hD hS 1 rfl 13 rfl (by decide) (by decide) [(h0, .inr (7, [.ref htb, .int 13, .int t0, .int t1, .int t2, .int t3, .int t4, .int t5, .int t6])), (htb, .inl (cA, 6000, .inl (upd (upd f 12 ((v >>> (24 &&& 31)) &&& 255)) 13 ((v >>> (16 &&& 31)) &&& 255))))] rfl dX7_add_32 (fun H locs hP hD hS => ?_)
  refine lv_aload_n hx hb dX7_add_33 rfl (lv_at hl 1 rfl) ?_
  refine lv_dup hx hb dX7_add_34 rfl ?_
  refine k_get (C := RX7) (T := TX7) (N := 9) (ci := 7) (v := .int 13) X hE hP 0 rfl rfl iX7 1 (by decide) w_144 rfl dX7_add_35 ?_
  refine lv_iconst (v := 1) hx hb dX7_add_38 (by decide) ?_
  refine lv_iadd hx hb dX7_add_39 ?_
  refine tk (y := 14) (by decide) ?_
  refine k_put (C := RX7) (T := TX7) (N := 9) (ci := 7) (v := .int 14) (ty := .int) X hE hP hD hS 0 rfl rfl iX7 tyX7 tyX7_ok nmX7 1 (by decide) w_144 rfl (by decide +kernel) rfl rfl (Nat.le_of_ble_eq_true rfl) [(h0, .inr (7, [.ref htb, .int 14, .int t0, .int t1, .int t2, .int t3, .int t4, .int t5, .int t6])), (htb, .inl (cA, 6000, .inl (upd (upd f 12 ((v >>> (24 &&& 31)) &&& 255)) 13 ((v >>> (16 &&& 31)) &&& 255))))] rfl dX7_add_40 (fun H locs hP hD hS => ?_)
  refine lv_iinc (v := 8) (lv' := [(2, .int 8), (0, .ref h0), (1, .int v)]) hx hb dX7_add_43 hl (k := 0) rfl (by decide) (by decide) rfl (fun ls hl => ?_)
  refine lv_goto (tgt := 3) hx hb dX7_add_46 (by decide) ?_
  refine lv_iload_n hx hb dX7_add_3 rfl (lv_at hl 0 rfl) ?_
  refine lv_if_lt (tgt := 49) hx hb dX7_add_4 (by decide) (fun c_4_3 => absurd c_4_3 (by decide)) (fun c_4_3 => ?_)
  refine lv_aload_n hx hb dX7_add_7 rfl (lv_at hl 1 rfl) ?_
  refine k_get (C := RX7) (T := TX7) (N := 9) (ci := 7) (v := .int 14) X hE hP 0 rfl rfl iX7 1 (by decide) w_144 rfl dX7_add_8 ?_
  refine lv_sipush (v := 6000) hx hb dX7_add_11 (by decide) ?_
  refine lv_icmp_ge (tgt := 49) hx hb dX7_add_14 (by decide) (fun c_14_4 => absurd c_14_4 (by decide)) (fun c_14_4 => ?_)
  refine lv_aload_n hx hb dX7_add_17 rfl (lv_at hl 1 rfl) ?_
  refine k_get (C := RX7) (T := TX7) (N := 9) (ci := 7) (v := .ref htb) X hE hP 0 rfl rfl iX7 0 (by decide) w_11 rfl dX7_add_18 ?_
  refine lv_aload_n hx hb dX7_add_21 rfl (lv_at hl 1 rfl) ?_
  refine k_get (C := RX7) (T := TX7) (N := 9) (ci := 7) (v := .int 14) X hE hP 0 rfl rfl iX7 1 (by decide) w_144 rfl dX7_add_22 ?_
  refine lv_iload_n hx hb dX7_add_25 rfl (lv_at hl 2 rfl) ?_
  refine lv_iload_n hx hb dX7_add_26 rfl (lv_at hl 0 rfl) ?_
  refine lv_ishr hx hb dX7_add_27 ?_
  refine lv_sipush (v := 255) hx hb dX7_add_28 (by decide) ?_
  refine lv_iand hx hb dX7_add_31 ?_
  refine k_ast X hE hP hD hS 1 rfl 14 rfl (by decide) (by decide) [(h0, .inr (7, [.ref htb, .int 14, .int t0, .int t1, .int t2, .int t3, .int t4, .int t5, .int t6])), (htb, .inl (cA, 6000, .inl (upd (upd (upd f 12 ((v >>> (24 &&& 31)) &&& 255)) 13 ((v >>> (16 &&& 31)) &&& 255)) 14 ((v >>> (8 &&& 31)) &&& 255))))] rfl dX7_add_32 (fun H locs hP hD hS => ?_)
  refine lv_aload_n hx hb dX7_add_33 rfl (lv_at hl 1 rfl) ?_
  refine lv_dup hx hb dX7_add_34 rfl ?_
  refine k_get (C := RX7) (T := TX7) (N := 9) (ci := 7) (v := .int 14) X hE hP 0 rfl rfl iX7 1 (by decide) w_144 rfl dX7_add_35 ?_
  refine lv_iconst (v := 1) hx hb dX7_add_38 (by decide) ?_
  refine lv_iadd hx hb dX7_add_39 ?_
  refine tk (y := 15) (by decide) ?_
  refine k_put (C := RX7) (T := TX7) (N := 9) (ci := 7) (v := .int 15) (ty := .int) X hE hP hD hS 0 rfl rfl iX7 tyX7 tyX7_ok nmX7 1 (by decide) w_144 rfl (by decide +kernel) rfl rfl (Nat.le_of_ble_eq_true rfl) [(h0, .inr (7, [.ref htb, .int 15, .int t0, .int t1, .int t2, .int t3, .int t4, .int t5, .int t6])), (htb, .inl (cA, 6000, .inl (upd (upd (upd f 12 ((v >>> (24 &&& 31)) &&& 255)) 13 ((v >>> (16 &&& 31)) &&& 255)) 14 ((v >>> (8 &&& 31)) &&& 255))))] rfl dX7_add_40 (fun H locs hP hD hS => ?_)
  refine lv_iinc (v := 0) (lv' := [(2, .int 0), (0, .ref h0), (1, .int v)]) hx hb dX7_add_43 hl (k := 0) rfl (by decide) (by decide) rfl (fun ls hl => ?_)
  refine lv_goto (tgt := 3) hx hb dX7_add_46 (by decide) ?_
  refine lv_iload_n hx hb dX7_add_3 rfl (lv_at hl 0 rfl) ?_
  refine lv_if_lt (tgt := 49) hx hb dX7_add_4 (by decide) (fun c_4_5 => absurd c_4_5 (by decide)) (fun c_4_5 => ?_)
  refine lv_aload_n hx hb dX7_add_7 rfl (lv_at hl 1 rfl) ?_
  refine k_get (C := RX7) (T := TX7) (N := 9) (ci := 7) (v := .int 15) X hE hP 0 rfl rfl iX7 1 (by decide) w_144 rfl dX7_add_8 ?_
  refine lv_sipush (v := 6000) hx hb dX7_add_11 (by decide) ?_
  refine lv_icmp_ge (tgt := 49) hx hb dX7_add_14 (by decide) (fun c_14_6 => absurd c_14_6 (by decide)) (fun c_14_6 => ?_)
  refine lv_aload_n hx hb dX7_add_17 rfl (lv_at hl 1 rfl) ?_
  refine k_get (C := RX7) (T := TX7) (N := 9) (ci := 7) (v := .ref htb) X hE hP 0 rfl rfl iX7 0 (by decide) w_11 rfl dX7_add_18 ?_
  refine lv_aload_n hx hb dX7_add_21 rfl (lv_at hl 1 rfl) ?_
  refine k_get (C := RX7) (T := TX7) (N := 9) (ci := 7) (v := .int 15) X hE hP 0 rfl rfl iX7 1 (by decide) w_144 rfl dX7_add_22 ?_
  refine lv_iload_n hx hb dX7_add_25 rfl (lv_at hl 2 rfl) ?_
  refine lv_iload_n hx hb dX7_add_26 rfl (lv_at hl 0 rfl) ?_
  refine lv_ishr hx hb dX7_add_27 ?_
  refine lv_sipush (v := 255) hx hb dX7_add_28 (by decide) ?_
  refine lv_iand hx hb dX7_add_31 ?_
  refine k_ast X hE hP hD hS 1 rfl 15 rfl (by decide) (by decide) [(h0, .inr (7, [.ref htb, .int 15, .int t0, .int t1, .int t2, .int t3, .int t4, .int t5, .int t6])), (htb, .inl (cA, 6000, .inl (upd (upd (upd (upd f 12 ((v >>> (24 &&& 31)) &&& 255)) 13 ((v >>> (16 &&& 31)) &&& 255)) 14 ((v >>> (8 &&& 31)) &&& 255)) 15 ((v >>> (0 &&& 31)) &&& 255))))] rfl dX7_add_32 (fun H locs hP hD hS => ?_)
  refine lv_aload_n hx hb dX7_add_33 rfl (lv_at hl 1 rfl) ?_
  refine lv_dup hx hb dX7_add_34 rfl ?_
  refine k_get (C := RX7) (T := TX7) (N := 9) (ci := 7) (v := .int 15) X hE hP 0 rfl rfl iX7 1 (by decide) w_144 rfl dX7_add_35 ?_
  refine lv_iconst (v := 1) hx hb dX7_add_38 (by decide) ?_
  refine lv_iadd hx hb dX7_add_39 ?_
  refine tk (y := 16) (by decide) ?_
  refine k_put (C := RX7) (T := TX7) (N := 9) (ci := 7) (v := .int 16) (ty := .int) X hE hP hD hS 0 rfl rfl iX7 tyX7 tyX7_ok nmX7 1 (by decide) w_144 rfl (by decide +kernel) rfl rfl (Nat.le_of_ble_eq_true rfl) [(h0, .inr (7, [.ref htb, .int 16, .int t0, .int t1, .int t2, .int t3, .int t4, .int t5, .int t6])), (htb, .inl (cA, 6000, .inl (upd (upd (upd (upd f 12 ((v >>> (24 &&& 31)) &&& 255)) 13 ((v >>> (16 &&& 31)) &&& 255)) 14 ((v >>> (8 &&& 31)) &&& 255)) 15 ((v >>> (0 &&& 31)) &&& 255))))] rfl dX7_add_40 (fun H locs hP hD hS => ?_)
  refine lv_iinc (v := (-8)) (lv' := [(2, .int (-8)), (0, .ref h0), (1, .int v)]) hx hb dX7_add_43 hl (k := 0) rfl (by decide) (by decide) rfl (fun ls hl => ?_)
  refine lv_goto (tgt := 3) hx hb dX7_add_46 (by decide) ?_
  refine lv_iload_n hx hb dX7_add_3 rfl (lv_at hl 0 rfl) ?_
  refine lv_if_lt (tgt := 49) hx hb dX7_add_4 (by decide) (fun c_4_7 => ?_) (fun c_4_7 => absurd (by decide) c_4_7)
  exact endV X hr hlocks hP hD hS dX7_add_49 ⟨(upd (upd (upd (upd f 12 ((v >>> (24 &&& 31)) &&& 255)) 13 ((v >>> (16 &&& 31)) &&& 255)) 14 ((v >>> (8 &&& 31)) &&& 255)) 15 ((v >>> (0 &&& 31)) &&& 255)), rfl⟩
set_option maxHeartbeats 4000000 in
set_option maxRecDepth 100000 in
theorem c_add16 (l : Launch) (D : va_G) (cA cB : ClassId) (h0 : Nat) (htb : Nat) (t0 : Int32) (t1 : Int32) (t2 : Int32) (t3 : Int32) (t4 : Int32) (t5 : Int32) (t6 : Int32) (f : Nat → Int32) (v : Int32)  : CV l yX7_add cX7_add 3 none 0 0 0 0 D cA cB [.ref h0, .int v] [(h0, .inr (7, [.ref htb, .int 16, .int t0, .int t1, .int t2, .int t3, .int t4, .int t5, .int t6])), (htb, .inl (cA, 6000, .inl f))] (fun W1 => ∃ (g : Nat → Int32), W1 = [(h0, .inr (7, [.ref htb, .int 20, .int t0, .int t1, .int t2, .int t3, .int t4, .int t5, .int t6])), (htb, .inl (cA, 6000, .inl g))]) := by
  refine mkV (lv0 := [(0, .ref h0), (1, .int v)]) (by decide) (Nat.le_of_ble_eq_true rfl) rfl ?_
  intro p e s m below meth c A ls X hr hlocks hnm hE hA hP hD hS hl
  have hx := X.1
  have hb := X.2.1
  refine lv_bipush (v := 24) hx hb dX7_add_0 (by decide) ?_
  refine lv_istore_n (lv' := [(2, .int 24), (0, .ref h0), (1, .int v)]) hx hb dX7_add_2 rfl hl (by decide) rfl (fun ls hl => ?_)
  refine lv_iload_n hx hb dX7_add_3 rfl (lv_at hl 0 rfl) ?_
  refine lv_if_lt (tgt := 49) hx hb dX7_add_4 (by decide) (fun c_4 => absurd c_4 (by decide)) (fun c_4 => ?_)
  refine lv_aload_n hx hb dX7_add_7 rfl (lv_at hl 1 rfl) ?_
  refine k_get (C := RX7) (T := TX7) (N := 9) (ci := 7) (v := .int 16) X hE hP 0 rfl rfl iX7 1 (by decide) w_144 rfl dX7_add_8 ?_
  refine lv_sipush (v := 6000) hx hb dX7_add_11 (by decide) ?_
  refine lv_icmp_ge (tgt := 49) hx hb dX7_add_14 (by decide) (fun c_14 => absurd c_14 (by decide)) (fun c_14 => ?_)
  refine lv_aload_n hx hb dX7_add_17 rfl (lv_at hl 1 rfl) ?_
  refine k_get (C := RX7) (T := TX7) (N := 9) (ci := 7) (v := .ref htb) X hE hP 0 rfl rfl iX7 0 (by decide) w_11 rfl dX7_add_18 ?_
  refine lv_aload_n hx hb dX7_add_21 rfl (lv_at hl 1 rfl) ?_
  refine k_get (C := RX7) (T := TX7) (N := 9) (ci := 7) (v := .int 16) X hE hP 0 rfl rfl iX7 1 (by decide) w_144 rfl dX7_add_22 ?_
  refine lv_iload_n hx hb dX7_add_25 rfl (lv_at hl 2 rfl) ?_
  refine lv_iload_n hx hb dX7_add_26 rfl (lv_at hl 0 rfl) ?_
  refine lv_ishr hx hb dX7_add_27 ?_
  refine lv_sipush (v := 255) hx hb dX7_add_28 (by decide) ?_
  refine lv_iand hx hb dX7_add_31 ?_
  refine k_ast X hE hP hD hS 1 rfl 16 rfl (by decide) (by decide) [(h0, .inr (7, [.ref htb, .int 16, .int t0, .int t1, .int t2, .int t3, .int t4, .int t5, .int t6])), (htb, .inl (cA, 6000, .inl (upd f 16 ((v >>> (24 &&& 31)) &&& 255))))] rfl dX7_add_32 (fun H locs hP hD hS => ?_)
  refine lv_aload_n hx hb dX7_add_33 rfl (lv_at hl 1 rfl) ?_
  refine lv_dup hx hb dX7_add_34 rfl ?_
  refine k_get (C := RX7) (T := TX7) (N := 9) (ci := 7) (v := .int 16) X hE hP 0 rfl rfl iX7 1 (by decide) w_144 rfl dX7_add_35 ?_
  refine lv_iconst (v := 1) hx hb dX7_add_38 (by decide) ?_
  refine lv_iadd hx hb dX7_add_39 ?_
  refine tk (y := 17) (by decide) ?_
  refine k_put (C := RX7) (T := TX7) (N := 9) (ci := 7) (v := .int 17) (ty := .int) X hE hP hD hS 0 rfl rfl iX7 tyX7 tyX7_ok nmX7 1 (by decide) w_144 rfl (by decide +kernel) rfl rfl (Nat.le_of_ble_eq_true rfl) [(h0, .inr (7, [.ref htb, .int 17, .int t0, .int t1, .int t2, .int t3, .int t4, .int t5, .int t6])), (htb, .inl (cA, 6000, .inl (upd f 16 ((v >>> (24 &&& 31)) &&& 255))))] rfl dX7_add_40 (fun H locs hP hD hS => ?_)
  refine lv_iinc (v := 16) (lv' := [(2, .int 16), (0, .ref h0), (1, .int v)]) hx hb dX7_add_43 hl (k := 0) rfl (by decide) (by decide) rfl (fun ls hl => ?_)
  refine lv_goto (tgt := 3) hx hb dX7_add_46 (by decide) ?_
  refine lv_iload_n hx hb dX7_add_3 rfl (lv_at hl 0 rfl) ?_
  refine lv_if_lt (tgt := 49) hx hb dX7_add_4 (by decide) (fun c_4_1 => absurd c_4_1 (by decide)) (fun c_4_1 => ?_)
  refine lv_aload_n hx hb dX7_add_7 rfl (lv_at hl 1 rfl) ?_
  refine k_get (C := RX7) (T := TX7) (N := 9) (ci := 7) (v := .int 17) X hE hP 0 rfl rfl iX7 1 (by decide) w_144 rfl dX7_add_8 ?_
  refine lv_sipush (v := 6000) hx hb dX7_add_11 (by decide) ?_
  refine lv_icmp_ge (tgt := 49) hx hb dX7_add_14 (by decide) (fun c_14_2 => absurd c_14_2 (by decide)) (fun c_14_2 => ?_)
  refine lv_aload_n hx hb dX7_add_17 rfl (lv_at hl 1 rfl) ?_
  refine k_get (C := RX7) (T := TX7) (N := 9) (ci := 7) (v := .ref htb) X hE hP 0 rfl rfl iX7 0 (by decide) w_11 rfl dX7_add_18 ?_
  refine lv_aload_n hx hb dX7_add_21 rfl (lv_at hl 1 rfl) ?_
  refine k_get (C := RX7) (T := TX7) (N := 9) (ci := 7) (v := .int 17) X hE hP 0 rfl rfl iX7 1 (by decide) w_144 rfl dX7_add_22 ?_
  refine lv_iload_n hx hb dX7_add_25 rfl (lv_at hl 2 rfl) ?_
  refine lv_iload_n hx hb dX7_add_26 rfl (lv_at hl 0 rfl) ?_
  refine lv_ishr hx hb dX7_add_27 ?_
  refine lv_sipush (v := 255) hx hb dX7_add_28 (by decide) ?_
  refine lv_iand hx hb dX7_add_31 ?_
  refine k_ast X hE hP hD hS 1 rfl 17 rfl (by decide) (by decide) [(h0, .inr (7, [.ref htb, .int 17, .int t0, .int t1, .int t2, .int t3, .int t4, .int t5, .int t6])), (htb, .inl (cA, 6000, .inl (upd (upd f 16 ((v >>> (24 &&& 31)) &&& 255)) 17 ((v >>> (16 &&& 31)) &&& 255))))] rfl dX7_add_32 (fun H locs hP hD hS => ?_)
  refine lv_aload_n hx hb dX7_add_33 rfl (lv_at hl 1 rfl) ?_
  refine lv_dup hx hb dX7_add_34 rfl ?_
  refine k_get (C := RX7) (T := TX7) (N := 9) (ci := 7) (v := .int 17) X hE hP 0 rfl rfl iX7 1 (by decide) w_144 rfl dX7_add_35 ?_
  refine lv_iconst (v := 1) hx hb dX7_add_38 (by decide) ?_
  refine lv_iadd hx hb dX7_add_39 ?_
  refine tk (y := 18) (by decide) ?_
  refine k_put (C := RX7) (T := TX7) (N := 9) (ci := 7) (v := .int 18) (ty := .int) X hE hP hD hS 0 rfl rfl iX7 tyX7 tyX7_ok nmX7 1 (by decide) w_144 rfl (by decide +kernel) rfl rfl (Nat.le_of_ble_eq_true rfl) [(h0, .inr (7, [.ref htb, .int 18, .int t0, .int t1, .int t2, .int t3, .int t4, .int t5, .int t6])), (htb, .inl (cA, 6000, .inl (upd (upd f 16 ((v >>> (24 &&& 31)) &&& 255)) 17 ((v >>> (16 &&& 31)) &&& 255))))] rfl dX7_add_40 (fun H locs hP hD hS => ?_)
  refine lv_iinc (v := 8) (lv' := [(2, .int 8), (0, .ref h0), (1, .int v)]) hx hb dX7_add_43 hl (k := 0) rfl (by decide) (by decide) rfl (fun ls hl => ?_)
  refine lv_goto (tgt := 3) hx hb dX7_add_46 (by decide) ?_
  refine lv_iload_n hx hb dX7_add_3 rfl (lv_at hl 0 rfl) ?_
  refine lv_if_lt (tgt := 49) hx hb dX7_add_4 (by decide) (fun c_4_3 => absurd c_4_3 (by decide)) (fun c_4_3 => ?_)
  refine lv_aload_n hx hb dX7_add_7 rfl (lv_at hl 1 rfl) ?_
  refine k_get (C := RX7) (T := TX7) (N := 9) (ci := 7) (v := .int 18) X hE hP 0 rfl rfl iX7 1 (by decide) w_144 rfl dX7_add_8 ?_
  refine lv_sipush (v := 6000) hx hb dX7_add_11 (by decide) ?_
  refine lv_icmp_ge (tgt := 49) hx hb dX7_add_14 (by decide) (fun c_14_4 => absurd c_14_4 (by decide)) (fun c_14_4 => ?_)
  refine lv_aload_n hx hb dX7_add_17 rfl (lv_at hl 1 rfl) ?_
  refine k_get (C := RX7) (T := TX7) (N := 9) (ci := 7) (v := .ref htb) X hE hP 0 rfl rfl iX7 0 (by decide) w_11 rfl dX7_add_18 ?_
  refine lv_aload_n hx hb dX7_add_21 rfl (lv_at hl 1 rfl) ?_
  refine k_get (C := RX7) (T := TX7) (N := 9) (ci := 7) (v := .int 18) X hE hP 0 rfl rfl iX7 1 (by decide) w_144 rfl dX7_add_22 ?_
  refine lv_iload_n hx hb dX7_add_25 rfl (lv_at hl 2 rfl) ?_
  refine lv_iload_n hx hb dX7_add_26 rfl (lv_at hl 0 rfl) ?_
  refine lv_ishr hx hb dX7_add_27 ?_
  refine lv_sipush (v := 255) hx hb dX7_add_28 (by decide) ?_
  refine lv_iand hx hb dX7_add_31 ?_
  refine k_ast X hE hP hD hS 1 rfl 18 rfl (by decide) (by decide) [(h0, .inr (7, [.ref htb, .int 18, .int t0, .int t1, .int t2, .int t3, .int t4, .int t5, .int t6])), (htb, .inl (cA, 6000, .inl (upd (upd (upd f 16 ((v >>> (24 &&& 31)) &&& 255)) 17 ((v >>> (16 &&& 31)) &&& 255)) 18 ((v >>> (8 &&& 31)) &&& 255))))] rfl dX7_add_32 (fun H locs hP hD hS => ?_)
  refine lv_aload_n hx hb dX7_add_33 rfl (lv_at hl 1 rfl) ?_
  refine lv_dup hx hb dX7_add_34 rfl ?_
  refine k_get (C := RX7) (T := TX7) (N := 9) (ci := 7) (v := .int 18) X hE hP 0 rfl rfl iX7 1 (by decide) w_144 rfl dX7_add_35 ?_
  refine lv_iconst (v := 1) hx hb dX7_add_38 (by decide) ?_
  refine lv_iadd hx hb dX7_add_39 ?_
  refine tk (y := 19) (by decide) ?_
  refine k_put (C := RX7) (T := TX7) (N := 9) (ci := 7) (v := .int 19) (ty := .int) X hE hP hD hS 0 rfl rfl iX7 tyX7 tyX7_ok nmX7 1 (by decide) w_144 rfl (by decide +kernel) rfl rfl (Nat.le_of_ble_eq_true rfl) [(h0, .inr (7, [.ref htb, .int 19, .int t0, .int t1, .int t2, .int t3, .int t4, .int t5, .int t6])), (htb, .inl (cA, 6000, .inl (upd (upd (upd f 16 ((v >>> (24 &&& 31)) &&& 255)) 17 ((v >>> (16 &&& 31)) &&& 255)) 18 ((v >>> (8 &&& 31)) &&& 255))))] rfl dX7_add_40 (fun H locs hP hD hS => ?_)
  refine lv_iinc (v := 0) (lv' := [(2, .int 0), (0, .ref h0), (1, .int v)]) hx hb dX7_add_43 hl (k := 0) rfl (by decide) (by decide) rfl (fun ls hl => ?_)
  refine lv_goto (tgt := 3) hx hb dX7_add_46 (by decide) ?_
  refine lv_iload_n hx hb dX7_add_3 rfl (lv_at hl 0 rfl) ?_
  refine lv_if_lt (tgt := 49) hx hb dX7_add_4 (by decide) (fun c_4_5 => absurd c_4_5 (by decide)) (fun c_4_5 => ?_)
  refine lv_aload_n hx hb dX7_add_7 rfl (lv_at hl 1 rfl) ?_
  refine k_get (C := RX7) (T := TX7) (N := 9) (ci := 7) (v := .int 19) X hE hP 0 rfl rfl iX7 1 (by decide) w_144 rfl dX7_add_8 ?_
  refine lv_sipush (v := 6000) hx hb dX7_add_11 (by decide) ?_
  refine lv_icmp_ge (tgt := 49) hx hb dX7_add_14 (by decide) (fun c_14_6 => absurd c_14_6 (by decide)) (fun c_14_6 => ?_)
  refine lv_aload_n hx hb dX7_add_17 rfl (lv_at hl 1 rfl) ?_
  refine k_get (C := RX7) (T := TX7) (N := 9) (ci := 7) (v := .ref htb) X hE hP 0 rfl rfl iX7 0 (by decide) w_11 rfl dX7_add_18 ?_
  refine lv_aload_n hx hb dX7_add_21 rfl (lv_at hl 1 rfl) ?_
  refine k_get (C := RX7) (T := TX7) (N := 9) (ci := 7) (v := .int 19) X hE hP 0 rfl rfl iX7 1 (by decide) w_144 rfl dX7_add_22 ?_
  refine lv_iload_n hx hb dX7_add_25 rfl (lv_at hl 2 rfl) ?_
  refine lv_iload_n hx hb dX7_add_26 rfl (lv_at hl 0 rfl) ?_
  refine lv_ishr hx hb dX7_add_27 ?_
  refine lv_sipush (v := 255) hx hb dX7_add_28 (by decide) ?_
  refine lv_iand hx hb dX7_add_31 ?_
  refine k_ast X hE hP hD hS 1 rfl 19 rfl (by decide) (by decide) [(h0, .inr (7, [.ref htb, .int 19, .int t0, .int t1, .int t2, .int t3, .int t4, .int t5, .int t6])), (htb, .inl (cA, 6000, .inl (upd (upd (upd (upd f 16 ((v >>> (24 &&& 31)) &&& 255)) 17 ((v >>> (16 &&& 31)) &&& 255)) 18 ((v >>> (8 &&& 31)) &&& 255)) 19 ((v >>> (0 &&& 31)) &&& 255))))] rfl dX7_add_32 (fun H locs hP hD hS => ?_)
  refine lv_aload_n hx hb dX7_add_33 rfl (lv_at hl 1 rfl) ?_
  refine lv_dup hx hb dX7_add_34 rfl ?_
  refine k_get (C := RX7) (T := TX7) (N := 9) (ci := 7) (v := .int 19) X hE hP 0 rfl rfl iX7 1 (by decide) w_144 rfl dX7_add_35 ?_
  refine lv_iconst (v := 1) hx hb dX7_add_38 (by decide) ?_
  refine lv_iadd hx hb dX7_add_39 ?_
  refine tk (y := 20) (by decide) ?_
  refine k_put (C := RX7) (T := TX7) (N := 9) (ci := 7) (v := .int 20) (ty := .int) X hE hP hD hS 0 rfl rfl iX7 tyX7 tyX7_ok nmX7 1 (by decide) w_144 rfl (by decide +kernel) rfl rfl (Nat.le_of_ble_eq_true rfl) [(h0, .inr (7, [.ref htb, .int 20, .int t0, .int t1, .int t2, .int t3, .int t4, .int t5, .int t6])), (htb, .inl (cA, 6000, .inl (upd (upd (upd (upd f 16 ((v >>> (24 &&& 31)) &&& 255)) 17 ((v >>> (16 &&& 31)) &&& 255)) 18 ((v >>> (8 &&& 31)) &&& 255)) 19 ((v >>> (0 &&& 31)) &&& 255))))] rfl dX7_add_40 (fun H locs hP hD hS => ?_)
  refine lv_iinc (v := (-8)) (lv' := [(2, .int (-8)), (0, .ref h0), (1, .int v)]) hx hb dX7_add_43 hl (k := 0) rfl (by decide) (by decide) rfl (fun ls hl => ?_)
  refine lv_goto (tgt := 3) hx hb dX7_add_46 (by decide) ?_
  refine lv_iload_n hx hb dX7_add_3 rfl (lv_at hl 0 rfl) ?_
  refine lv_if_lt (tgt := 49) hx hb dX7_add_4 (by decide) (fun c_4_7 => ?_) (fun c_4_7 => absurd (by decide) c_4_7)
  exact endV X hr hlocks hP hD hS dX7_add_49 ⟨(upd (upd (upd (upd f 16 ((v >>> (24 &&& 31)) &&& 255)) 17 ((v >>> (16 &&& 31)) &&& 255)) 18 ((v >>> (8 &&& 31)) &&& 255)) 19 ((v >>> (0 &&& 31)) &&& 255)), rfl⟩
set_option maxHeartbeats 4000000 in
set_option maxRecDepth 100000 in
theorem c_feed (l : Launch) (D : va_G) (cA cB : ClassId) (h0 : Nat) (qn : Nat) (qs : Nat) (qd : Nat) (qp : Nat) (qr : Nat) (qt : Nat) (qa : Nat) (qm : Nat) (qe : Nat) (qab : Nat) (v1 : Int32) (v2 : Int32) (v3 : Int32) (v4 : Int32) (v5 : Int32)  : CI l yX8_feed cX8_feed 6 (some .int) 1 22 0 0 D cA cB [.ref h0, .int v1, .int v2, .int v3, .int v4, .int v5] [(h0, .inr (8, [.ref qn, .ref qs, .ref qd, .ref qp, .ref qr, .ref qt, .ref qa, .ref qm, .ref qe])), (qa, .inr (7, [.ref qab, .int 0, .int 0, .int 0, .int 0, .int 0, .int 0, .int 0, .int 0])), (qab, .inl (cA, 6000, .inl (fun _ => 0)))] (fun r W1 => r = 20) := by
  refine mkI (lv0 := [(0, .ref h0), (1, .int v1), (2, .int v2), (3, .int v3), (4, .int v4), (5, .int v5)]) (by decide) (Nat.le_of_ble_eq_true rfl) rfl ?_
  intro p e s m below meth c A ls X hr hlocks hnm hE hA hP hD hS hl
  have hx := X.1
  have hb := X.2.1
  refine lv_aload_n hx hb dX8_feed_0 rfl (lv_at hl 0 rfl) ?_
  refine k_get (C := RX8) (T := TX8) (N := 9) (ci := 8) (v := .ref qa) X hE hP 0 rfl rfl iX8 6 (by decide) w_96 rfl dX8_feed_1 ?_
  refine lv_bipush (v := 20) hx hb dX8_feed_4 (by decide) ?_
  refine kVi (n3 := 1) (As := [.int 20]) (rest := []) X hl.1 hE hP hD hS hA [(qa, .inr (7, [.ref qab, .int 0, .int 0, .int 0, .int 0, .int 0, .int 0, .int 0, .int 0]))] [(h0, .inr (8, [.ref qn, .ref qs, .ref qd, .ref qp, .ref qr, .ref qt, .ref qa, .ref qm, .ref qe])), (qab, .inl (cA, 6000, .inl (fun _ => 0)))] [1] [0, 2] rfl rfl rfl (by decide) (by decide) (by decide) (c_hasRoom0 l D cA cB qa qab 0 0 0 0 0 0 0 ) w_146 w_93 w_145 w_147 w_148 0 (ci := 7) (T := TX7) (N := 9) rfl rfl (by decide +kernel) rfl rfl (Nat.le_of_ble_eq_true rfl) ⟨(Nat.le_of_ble_eq_true rfl), (Nat.le_of_ble_eq_true rfl)⟩ ⟨(Nat.le_of_ble_eq_true rfl), (Nat.le_of_ble_eq_true rfl)⟩ dX8_feed_6 (fun r W1 H locs hw hP hD hS => ?_)
  obtain ⟨rfl, rfl⟩ := hw
  have hP : va_P D classes [(h0, .inr (8, [.ref qn, .ref qs, .ref qd, .ref qp, .ref qr, .ref qt, .ref qa, .ref qm, .ref qe])), (qab, .inl (cA, 6000, .inl (fun _ => 0))), (qa, .inr (7, [.ref qab, .int 0, .int 0, .int 0, .int 0, .int 0, .int 0, .int 0, .int 0]))] H := hP
  have hD : va_D A [(h0, .inr (8, [.ref qn, .ref qs, .ref qd, .ref qp, .ref qr, .ref qt, .ref qa, .ref qm, .ref qe])), (qab, .inl (cA, 6000, .inl (fun _ => 0))), (qa, .inr (7, [.ref qab, .int 0, .int 0, .int 0, .int 0, .int 0, .int 0, .int 0, .int 0]))] := hD
  refine lv_if_ne (tgt := 14) hx hb dX8_feed_9 (by decide) (fun c_9 => ?_) (fun c_9 => absurd c_9 (by decide))
  refine lv_aload_n hx hb dX8_feed_14 rfl (lv_at hl 0 rfl) ?_
  refine k_get (C := RX8) (T := TX8) (N := 9) (ci := 8) (v := .ref qa) X hE hP 0 rfl rfl iX8 6 (by decide) w_96 rfl dX8_feed_15 ?_
  refine lv_iload_n hx hb dX8_feed_18 rfl (lv_at hl 1 rfl) ?_
  refine kVv (n3 := 1) (As := [.int v1]) (rest := []) X hl.1 hE hP hD hS hA [(qa, .inr (7, [.ref qab, .int 0, .int 0, .int 0, .int 0, .int 0, .int 0, .int 0, .int 0])), (qab, .inl (cA, 6000, .inl (fun _ => 0)))] [(h0, .inr (8, [.ref qn, .ref qs, .ref qd, .ref qp, .ref qr, .ref qt, .ref qa, .ref qm, .ref qe]))] [2, 1] [0] rfl rfl rfl (by decide) (by decide) (by decide) (c_add0 l D cA cB qa qab 0 0 0 0 0 0 0 (fun _ => 0) v1 ) w_150 w_93 w_149 w_151 w_152 0 (ci := 7) (T := TX7) (N := 9) rfl rfl (by decide +kernel) rfl rfl (Nat.le_of_ble_eq_true rfl) ⟨(Nat.le_of_ble_eq_true rfl), (Nat.le_of_ble_eq_true rfl)⟩ ⟨(Nat.le_of_ble_eq_true rfl), (Nat.le_of_ble_eq_true rfl)⟩ dX8_feed_19 (fun W1 H locs hw hP hD hS => ?_)
  obtain ⟨g_1, rfl⟩ := hw
  have hP : va_P D classes [(h0, .inr (8, [.ref qn, .ref qs, .ref qd, .ref qp, .ref qr, .ref qt, .ref qa, .ref qm, .ref qe])), (qa, .inr (7, [.ref qab, .int 4, .int 0, .int 0, .int 0, .int 0, .int 0, .int 0, .int 0])), (qab, .inl (cA, 6000, .inl g_1))] H := hP
  have hD : va_D A [(h0, .inr (8, [.ref qn, .ref qs, .ref qd, .ref qp, .ref qr, .ref qt, .ref qa, .ref qm, .ref qe])), (qa, .inr (7, [.ref qab, .int 4, .int 0, .int 0, .int 0, .int 0, .int 0, .int 0, .int 0])), (qab, .inl (cA, 6000, .inl g_1))] := hD
  refine lv_aload_n hx hb dX8_feed_22 rfl (lv_at hl 0 rfl) ?_
  refine k_get (C := RX8) (T := TX8) (N := 9) (ci := 8) (v := .ref qa) X hE hP 0 rfl rfl iX8 6 (by decide) w_96 rfl dX8_feed_23 ?_
  refine lv_iload_n hx hb dX8_feed_26 rfl (lv_at hl 2 rfl) ?_
  refine kVv (n3 := 1) (As := [.int v2]) (rest := []) X hl.1 hE hP hD hS hA [(qa, .inr (7, [.ref qab, .int 4, .int 0, .int 0, .int 0, .int 0, .int 0, .int 0, .int 0])), (qab, .inl (cA, 6000, .inl g_1))] [(h0, .inr (8, [.ref qn, .ref qs, .ref qd, .ref qp, .ref qr, .ref qt, .ref qa, .ref qm, .ref qe]))] [1, 2] [0] rfl rfl rfl (by decide) (by decide) (by decide) (c_add4 l D cA cB qa qab 0 0 0 0 0 0 0 g_1 v2 ) w_150 w_93 w_149 w_151 w_152 0 (ci := 7) (T := TX7) (N := 9) rfl rfl (by decide +kernel) rfl rfl (Nat.le_of_ble_eq_true rfl) ⟨(Nat.le_of_ble_eq_true rfl), (Nat.le_of_ble_eq_true rfl)⟩ ⟨(Nat.le_of_ble_eq_true rfl), (Nat.le_of_ble_eq_true rfl)⟩ dX8_feed_27 (fun W1 H locs hw hP hD hS => ?_)
  obtain ⟨g_2, rfl⟩ := hw
  have hP : va_P D classes [(h0, .inr (8, [.ref qn, .ref qs, .ref qd, .ref qp, .ref qr, .ref qt, .ref qa, .ref qm, .ref qe])), (qa, .inr (7, [.ref qab, .int 8, .int 0, .int 0, .int 0, .int 0, .int 0, .int 0, .int 0])), (qab, .inl (cA, 6000, .inl g_2))] H := hP
  have hD : va_D A [(h0, .inr (8, [.ref qn, .ref qs, .ref qd, .ref qp, .ref qr, .ref qt, .ref qa, .ref qm, .ref qe])), (qa, .inr (7, [.ref qab, .int 8, .int 0, .int 0, .int 0, .int 0, .int 0, .int 0, .int 0])), (qab, .inl (cA, 6000, .inl g_2))] := hD
  refine lv_aload_n hx hb dX8_feed_30 rfl (lv_at hl 0 rfl) ?_
  refine k_get (C := RX8) (T := TX8) (N := 9) (ci := 8) (v := .ref qa) X hE hP 0 rfl rfl iX8 6 (by decide) w_96 rfl dX8_feed_31 ?_
  refine lv_iload_n hx hb dX8_feed_34 rfl (lv_at hl 3 rfl) ?_
  refine kVv (n3 := 1) (As := [.int v3]) (rest := []) X hl.1 hE hP hD hS hA [(qa, .inr (7, [.ref qab, .int 8, .int 0, .int 0, .int 0, .int 0, .int 0, .int 0, .int 0])), (qab, .inl (cA, 6000, .inl g_2))] [(h0, .inr (8, [.ref qn, .ref qs, .ref qd, .ref qp, .ref qr, .ref qt, .ref qa, .ref qm, .ref qe]))] [1, 2] [0] rfl rfl rfl (by decide) (by decide) (by decide) (c_add8 l D cA cB qa qab 0 0 0 0 0 0 0 g_2 v3 ) w_150 w_93 w_149 w_151 w_152 0 (ci := 7) (T := TX7) (N := 9) rfl rfl (by decide +kernel) rfl rfl (Nat.le_of_ble_eq_true rfl) ⟨(Nat.le_of_ble_eq_true rfl), (Nat.le_of_ble_eq_true rfl)⟩ ⟨(Nat.le_of_ble_eq_true rfl), (Nat.le_of_ble_eq_true rfl)⟩ dX8_feed_35 (fun W1 H locs hw hP hD hS => ?_)
  obtain ⟨g_3, rfl⟩ := hw
  have hP : va_P D classes [(h0, .inr (8, [.ref qn, .ref qs, .ref qd, .ref qp, .ref qr, .ref qt, .ref qa, .ref qm, .ref qe])), (qa, .inr (7, [.ref qab, .int 12, .int 0, .int 0, .int 0, .int 0, .int 0, .int 0, .int 0])), (qab, .inl (cA, 6000, .inl g_3))] H := hP
  have hD : va_D A [(h0, .inr (8, [.ref qn, .ref qs, .ref qd, .ref qp, .ref qr, .ref qt, .ref qa, .ref qm, .ref qe])), (qa, .inr (7, [.ref qab, .int 12, .int 0, .int 0, .int 0, .int 0, .int 0, .int 0, .int 0])), (qab, .inl (cA, 6000, .inl g_3))] := hD
  refine lv_aload_n hx hb dX8_feed_38 rfl (lv_at hl 0 rfl) ?_
  refine k_get (C := RX8) (T := TX8) (N := 9) (ci := 8) (v := .ref qa) X hE hP 0 rfl rfl iX8 6 (by decide) w_96 rfl dX8_feed_39 ?_
  refine lv_iload hx hb dX8_feed_42 (lv_at hl 4 rfl) ?_
  refine kVv (n3 := 1) (As := [.int v4]) (rest := []) X hl.1 hE hP hD hS hA [(qa, .inr (7, [.ref qab, .int 12, .int 0, .int 0, .int 0, .int 0, .int 0, .int 0, .int 0])), (qab, .inl (cA, 6000, .inl g_3))] [(h0, .inr (8, [.ref qn, .ref qs, .ref qd, .ref qp, .ref qr, .ref qt, .ref qa, .ref qm, .ref qe]))] [1, 2] [0] rfl rfl rfl (by decide) (by decide) (by decide) (c_add12 l D cA cB qa qab 0 0 0 0 0 0 0 g_3 v4 ) w_150 w_93 w_149 w_151 w_152 0 (ci := 7) (T := TX7) (N := 9) rfl rfl (by decide +kernel) rfl rfl (Nat.le_of_ble_eq_true rfl) ⟨(Nat.le_of_ble_eq_true rfl), (Nat.le_of_ble_eq_true rfl)⟩ ⟨(Nat.le_of_ble_eq_true rfl), (Nat.le_of_ble_eq_true rfl)⟩ dX8_feed_44 (fun W1 H locs hw hP hD hS => ?_)
  obtain ⟨g_4, rfl⟩ := hw
  have hP : va_P D classes [(h0, .inr (8, [.ref qn, .ref qs, .ref qd, .ref qp, .ref qr, .ref qt, .ref qa, .ref qm, .ref qe])), (qa, .inr (7, [.ref qab, .int 16, .int 0, .int 0, .int 0, .int 0, .int 0, .int 0, .int 0])), (qab, .inl (cA, 6000, .inl g_4))] H := hP
  have hD : va_D A [(h0, .inr (8, [.ref qn, .ref qs, .ref qd, .ref qp, .ref qr, .ref qt, .ref qa, .ref qm, .ref qe])), (qa, .inr (7, [.ref qab, .int 16, .int 0, .int 0, .int 0, .int 0, .int 0, .int 0, .int 0])), (qab, .inl (cA, 6000, .inl g_4))] := hD
  refine lv_aload_n hx hb dX8_feed_47 rfl (lv_at hl 0 rfl) ?_
  refine k_get (C := RX8) (T := TX8) (N := 9) (ci := 8) (v := .ref qa) X hE hP 0 rfl rfl iX8 6 (by decide) w_96 rfl dX8_feed_48 ?_
  refine lv_iload hx hb dX8_feed_51 (lv_at hl 5 rfl) ?_
  refine kVv (n3 := 1) (As := [.int v5]) (rest := []) X hl.1 hE hP hD hS hA [(qa, .inr (7, [.ref qab, .int 16, .int 0, .int 0, .int 0, .int 0, .int 0, .int 0, .int 0])), (qab, .inl (cA, 6000, .inl g_4))] [(h0, .inr (8, [.ref qn, .ref qs, .ref qd, .ref qp, .ref qr, .ref qt, .ref qa, .ref qm, .ref qe]))] [1, 2] [0] rfl rfl rfl (by decide) (by decide) (by decide) (c_add16 l D cA cB qa qab 0 0 0 0 0 0 0 g_4 v5 ) w_150 w_93 w_149 w_151 w_152 0 (ci := 7) (T := TX7) (N := 9) rfl rfl (by decide +kernel) rfl rfl (Nat.le_of_ble_eq_true rfl) ⟨(Nat.le_of_ble_eq_true rfl), (Nat.le_of_ble_eq_true rfl)⟩ ⟨(Nat.le_of_ble_eq_true rfl), (Nat.le_of_ble_eq_true rfl)⟩ dX8_feed_53 (fun W1 H locs hw hP hD hS => ?_)
  obtain ⟨g_5, rfl⟩ := hw
  have hP : va_P D classes [(h0, .inr (8, [.ref qn, .ref qs, .ref qd, .ref qp, .ref qr, .ref qt, .ref qa, .ref qm, .ref qe])), (qa, .inr (7, [.ref qab, .int 20, .int 0, .int 0, .int 0, .int 0, .int 0, .int 0, .int 0])), (qab, .inl (cA, 6000, .inl g_5))] H := hP
  have hD : va_D A [(h0, .inr (8, [.ref qn, .ref qs, .ref qd, .ref qp, .ref qr, .ref qt, .ref qa, .ref qm, .ref qe])), (qa, .inr (7, [.ref qab, .int 20, .int 0, .int 0, .int 0, .int 0, .int 0, .int 0, .int 0])), (qab, .inl (cA, 6000, .inl g_5))] := hD
  refine lv_aload_n hx hb dX8_feed_56 rfl (lv_at hl 0 rfl) ?_
  refine k_get (C := RX8) (T := TX8) (N := 9) (ci := 8) (v := .ref qa) X hE hP 0 rfl rfl iX8 6 (by decide) w_96 rfl dX8_feed_57 ?_
  refine k_getN (C := RX7) (T := TX7) (N := 9) (ci := 7) (v := .int 20) X hE hP 1 rfl rfl iX7 1 (by decide) nw_12 rfl dX8_feed_60 ?_
  exact endI X hr hlocks hP hD hS dX8_feed_63 rfl
set_option maxHeartbeats 4000000 in
set_option maxRecDepth 100000 in
theorem c_pinsOfRow0 (l : Launch) (D : va_G) (cA cB : ClassId) (h0 : Nat) (hn : Nat) (h1 : Nat) (h2 : Nat) (h3 : Nat) (h4 : Nat) (f : Nat → Int32) (g : Nat → Int32) (k14 : f 14 = 0) (k0 : g 0 = 0) : CI l yX1_pinsOfRow cX1_pinsOfRow 1 (some .int) 0 0 0 0 D cA cB [.ref h0] [(h0, .inr (1, [.ref hn, .ref h1, .ref h2, .ref h3, .ref h4])), (hn, .inl (cA, 34, .inl f)), (h1, .inl (cA, 64, .inl g))] (fun r W1 => r = 0 ∧ W1 = [(h0, .inr (1, [.ref hn, .ref h1, .ref h2, .ref h3, .ref h4])), (hn, .inl (cA, 34, .inl f)), (h1, .inl (cA, 64, .inl g))]) := by
  refine mkI (lv0 := [(0, .ref h0)]) (by decide) (Nat.le_of_ble_eq_true rfl) rfl ?_
  intro p e s m below meth c A ls X hr hlocks hnm hE hA hP hD hS hl
  have hx := X.1
  have hb := X.2.1
  refine lv_aload_n hx hb dX1_pinsOfRow_0 rfl (lv_at hl 0 rfl) ?_
  refine k_get (C := RX1) (T := TX1) (N := 5) (ci := 1) (v := .ref h1) X hE hP 0 rfl rfl iX1 1 (by decide) w_18 rfl dX1_pinsOfRow_1 ?_
  refine lv_aload_n hx hb dX1_pinsOfRow_4 rfl (lv_at hl 0 rfl) ?_
  refine k_get (C := RX1) (T := TX1) (N := 5) (ci := 1) (v := .ref hn) X hE hP 0 rfl rfl iX1 0 (by decide) w_22 rfl dX1_pinsOfRow_5 ?_
  refine lv_bipush (v := 14) hx hb dX1_pinsOfRow_8 (by decide) ?_
  refine k_ald (v := 0) X hE hP 1 rfl 14 rfl (by decide) (by decide) k14 dX1_pinsOfRow_10 ?_
  refine lv_bipush (v := 64) hx hb dX1_pinsOfRow_11 (by decide) ?_
  refine lv_irem hx hb dX1_pinsOfRow_13 (by decide) ?_
  refine tk (y := 0) (by decide) ?_
  refine k_ald (v := 0) X hE hP 2 rfl 0 rfl (by decide) (by decide) k0 dX1_pinsOfRow_14 ?_
  exact endI X hr hlocks hP hD hS dX1_pinsOfRow_15 ⟨rfl, rfl⟩
set_option maxHeartbeats 4000000 in
set_option maxRecDepth 100000 in
theorem c_keyAt0 (l : Launch) (D : va_G) (cA cB : ClassId) (h0 : Nat) (hn : Nat) (h1 : Nat) (h2 : Nat) (h3 : Nat) (h4 : Nat) (f : Nat → Int32) (i : Int32) (k19 : f 19 = 0) (hi : 0 ≤ i) : CI l yX1_keyAt cX1_keyAt 2 (some .int) 0 0 0 0 D cA cB [.ref h0, .int i] [(h0, .inr (1, [.ref hn, .ref h1, .ref h2, .ref h3, .ref h4])), (hn, .inl (cA, 34, .inl f))] (fun r W1 => r = 0 ∧ W1 = [(h0, .inr (1, [.ref hn, .ref h1, .ref h2, .ref h3, .ref h4])), (hn, .inl (cA, 34, .inl f))]) := by
  refine mkI (lv0 := [(0, .ref h0), (1, .int i)]) (by decide) (Nat.le_of_ble_eq_true rfl) rfl ?_
  intro p e s m below meth c A ls X hr hlocks hnm hE hA hP hD hS hl
  have hx := X.1
  have hb := X.2.1
  refine lv_iload_n hx hb dX1_keyAt_0 rfl (lv_at hl 1 rfl) ?_
  refine lv_aload_n hx hb dX1_keyAt_1 rfl (lv_at hl 0 rfl) ?_
  refine k_get (C := RX1) (T := TX1) (N := 5) (ci := 1) (v := .ref hn) X hE hP 0 rfl rfl iX1 0 (by decide) w_22 rfl dX1_keyAt_2 ?_
  refine lv_bipush (v := 19) hx hb dX1_keyAt_5 (by decide) ?_
  refine k_ald (v := 0) X hE hP 1 rfl 19 rfl (by decide) (by decide) k19 dX1_keyAt_7 ?_
  refine lv_icmp_ge (tgt := 31) hx hb dX1_keyAt_8 (by decide) (fun c_8 => ?_) (fun c_8 => absurd hi c_8)
  refine lv_iconst (v := 0) hx hb dX1_keyAt_31 (by decide) ?_
  exact endI X hr hlocks hP hD hS dX1_keyAt_32 ⟨rfl, rfl⟩
set_option maxHeartbeats 4000000 in
set_option maxRecDepth 100000 in
theorem c_device (l : Launch) (D : va_G) (cA cB : ClassId) (h0 : Nat) (qn : Nat) (qs : Nat) (qd : Nat) (qp : Nat) (qr : Nat) (qt : Nat) (qa : Nat) (qm : Nat) (qe : Nat) (f : Nat → Int32) (qd1 : Nat) (qd2 : Nat) (qd3 : Nat) (qd4 : Nat) (a : Int32) (hfr : frn f) : CI l yX8_device cX8_device 2 (some .int) 1 21 0 0 D cA cB [.ref h0, .int a] [(h0, .inr (8, [.ref qn, .ref qs, .ref qd, .ref qp, .ref qr, .ref qt, .ref qa, .ref qm, .ref qe])), (qn, .inl (cA, 34, .inl f)), (qd, .inr (1, [.ref qn, .ref qd1, .ref qd2, .ref qd3, .ref qd4])), (qd1, .inl (cA, 64, .inl (fun _ => 0)))] (fun r W1 => r = (sp_device a)) := by
  refine mkI (lv0 := [(0, .ref h0), (1, .int a)]) (by decide) (Nat.le_of_ble_eq_true rfl) rfl ?_
  intro p e s m below meth c A ls X hr hlocks hnm hE hA hP hD hS hl
  have hx := X.1
  have hb := X.2.1
  refine lv_iload_n hx hb dX8_device_0 rfl (lv_at hl 1 rfl) ?_
  refine lv_if_lt (tgt := 20) hx hb dX8_device_1 (by decide) (fun c_1 => ?_) (fun c_1 => ?_)
  · skip
    refine lv_iload_n hx hb dX8_device_20 rfl (lv_at hl 1 rfl) ?_
    refine lv_bipush (v := 20) hx hb dX8_device_21 (by decide) ?_
    refine lv_icmp_ne (tgt := 34) hx hb dX8_device_23 (by decide) (fun c_23 => ?_) (fun c_23 => ?_)
    · skip
      refine lv_iload_n hx hb dX8_device_34 rfl (lv_at hl 1 rfl) ?_
      refine lv_bipush (v := 21) hx hb dX8_device_35 (by decide) ?_
      refine lv_icmp_lt (tgt := 60) hx hb dX8_device_37 (by decide) (fun c_37 => ?_) (fun c_37 => ?_)
      · skip
        refine lv_iconst (v := 0) hx hb dX8_device_60 (by decide) ?_
        exact endI X hr hlocks hP hD hS dX8_device_61 (by unfold sp_device; rw [if_pos c_1])
      · skip
        refine lv_iload_n hx hb dX8_device_40 rfl (lv_at hl 1 rfl) ?_
        refine lv_bipush (v := 37) hx hb dX8_device_41 (by decide) ?_
        refine lv_icmp_ge (tgt := 60) hx hb dX8_device_43 (by decide) (fun c_43 => ?_) (fun c_43 => ?_)
        · skip
          refine lv_iconst (v := 0) hx hb dX8_device_60 (by decide) ?_
          exact endI X hr hlocks hP hD hS dX8_device_61 (by unfold sp_device; rw [if_pos c_1])
        · skip
          refine lv_aload_n hx hb dX8_device_46 rfl (lv_at hl 0 rfl) ?_
          refine k_get (C := RX8) (T := TX8) (N := 9) (ci := 8) (v := .ref qd) X hE hP 0 rfl rfl iX8 2 (by decide) w_73 rfl dX8_device_47 ?_
          refine lv_iload_n hx hb dX8_device_50 rfl (lv_at hl 1 rfl) ?_
          refine lv_bipush (v := 21) hx hb dX8_device_51 (by decide) ?_
          refine lv_isub hx hb dX8_device_53 ?_
          refine kVi (n3 := 1) (As := [.int (a - 21)]) (rest := []) X hl.1 hE hP hD hS hA [(qd, .inr (1, [.ref qn, .ref qd1, .ref qd2, .ref qd3, .ref qd4])), (qn, .inl (cA, 34, .inl f))] [(h0, .inr (8, [.ref qn, .ref qs, .ref qd, .ref qp, .ref qr, .ref qt, .ref qa, .ref qm, .ref qe])), (qd1, .inl (cA, 64, .inl (fun _ => 0)))] [2, 1] [0, 3] rfl rfl rfl (by decide) (by decide) (by decide) (c_keyAt0 l D cA cB qd qn qd1 qd2 qd3 qd4 f (a - 21) (hfr 19 (by decide)) (idx_21 c_37)) w_154 w_69 w_153 w_155 w_156 0 (ci := 1) (T := TX1) (N := 5) rfl rfl (by decide +kernel) rfl rfl (Nat.le_of_ble_eq_true rfl) ⟨(Nat.le_of_ble_eq_true rfl), (Nat.le_of_ble_eq_true rfl)⟩ ⟨(Nat.le_of_ble_eq_true rfl), (Nat.le_of_ble_eq_true rfl)⟩ dX8_device_54 (fun r W1 H locs hw hP hD hS => ?_)
          obtain ⟨rfl, rfl⟩ := hw
          have hP : va_P D classes [(h0, .inr (8, [.ref qn, .ref qs, .ref qd, .ref qp, .ref qr, .ref qt, .ref qa, .ref qm, .ref qe])), (qd1, .inl (cA, 64, .inl (fun _ => 0))), (qd, .inr (1, [.ref qn, .ref qd1, .ref qd2, .ref qd3, .ref qd4])), (qn, .inl (cA, 34, .inl f))] H := hP
          have hD : va_D A [(h0, .inr (8, [.ref qn, .ref qs, .ref qd, .ref qp, .ref qr, .ref qt, .ref qa, .ref qm, .ref qe])), (qd1, .inl (cA, 64, .inl (fun _ => 0))), (qd, .inr (1, [.ref qn, .ref qd1, .ref qd2, .ref qd3, .ref qd4])), (qn, .inl (cA, 34, .inl f))] := hD
          refine lv_goto (tgt := 61) hx hb dX8_device_57 (by decide) ?_
          exact endI X hr hlocks hP hD hS dX8_device_61 (by unfold sp_device; rw [if_pos c_1])
    · skip
      refine lv_aload_n hx hb dX8_device_26 rfl (lv_at hl 0 rfl) ?_
      refine k_get (C := RX8) (T := TX8) (N := 9) (ci := 8) (v := .ref qd) X hE hP 0 rfl rfl iX8 2 (by decide) w_73 rfl dX8_device_27 ?_
      refine kVi (n3 := 0) (As := []) (rest := []) X hl.1 hE hP hD hS hA [(qd, .inr (1, [.ref qn, .ref qd1, .ref qd2, .ref qd3, .ref qd4])), (qn, .inl (cA, 34, .inl f)), (qd1, .inl (cA, 64, .inl (fun _ => 0)))] [(h0, .inr (8, [.ref qn, .ref qs, .ref qd, .ref qp, .ref qr, .ref qt, .ref qa, .ref qm, .ref qe]))] [2, 1, 3] [0] rfl rfl rfl (by decide) (by decide) (by decide) (c_pinsOfRow0 l D cA cB qd qn qd1 qd2 qd3 qd4 f (fun _ => 0) (hfr 14 (by decide)) rfl) w_158 w_69 w_157 w_159 w_160 0 (ci := 1) (T := TX1) (N := 5) rfl rfl (by decide +kernel) rfl rfl (Nat.le_of_ble_eq_true rfl) ⟨(Nat.le_of_ble_eq_true rfl), (Nat.le_of_ble_eq_true rfl)⟩ ⟨(Nat.le_of_ble_eq_true rfl), (Nat.le_of_ble_eq_true rfl)⟩ dX8_device_30 (fun r W1 H locs hw hP hD hS => ?_)
      obtain ⟨rfl, rfl⟩ := hw
      have hP : va_P D classes [(h0, .inr (8, [.ref qn, .ref qs, .ref qd, .ref qp, .ref qr, .ref qt, .ref qa, .ref qm, .ref qe])), (qd, .inr (1, [.ref qn, .ref qd1, .ref qd2, .ref qd3, .ref qd4])), (qn, .inl (cA, 34, .inl f)), (qd1, .inl (cA, 64, .inl (fun _ => 0)))] H := hP
      have hD : va_D A [(h0, .inr (8, [.ref qn, .ref qs, .ref qd, .ref qp, .ref qr, .ref qt, .ref qa, .ref qm, .ref qe])), (qd, .inr (1, [.ref qn, .ref qd1, .ref qd2, .ref qd3, .ref qd4])), (qn, .inl (cA, 34, .inl f)), (qd1, .inl (cA, 64, .inl (fun _ => 0)))] := hD
      exact endI X hr hlocks hP hD hS dX8_device_33 (by unfold sp_device; rw [if_pos c_1])
  · skip
    refine lv_iload_n hx hb dX8_device_4 rfl (lv_at hl 1 rfl) ?_
    refine lv_bipush (v := 20) hx hb dX8_device_5 (by decide) ?_
    refine lv_icmp_ge (tgt := 20) hx hb dX8_device_7 (by decide) (fun c_7 => ?_) (fun c_7 => ?_)
    · skip
      refine lv_iload_n hx hb dX8_device_20 rfl (lv_at hl 1 rfl) ?_
      refine lv_bipush (v := 20) hx hb dX8_device_21 (by decide) ?_
      refine lv_icmp_ne (tgt := 34) hx hb dX8_device_23 (by decide) (fun c_23 => ?_) (fun c_23 => ?_)
      · skip
        refine lv_iload_n hx hb dX8_device_34 rfl (lv_at hl 1 rfl) ?_
        refine lv_bipush (v := 21) hx hb dX8_device_35 (by decide) ?_
        refine lv_icmp_lt (tgt := 60) hx hb dX8_device_37 (by decide) (fun c_37 => ?_) (fun c_37 => ?_)
        · skip
          refine lv_iconst (v := 0) hx hb dX8_device_60 (by decide) ?_
          exact endI X hr hlocks hP hD hS dX8_device_61 (by unfold sp_device; rw [if_neg c_1, if_pos c_7])
        · skip
          refine lv_iload_n hx hb dX8_device_40 rfl (lv_at hl 1 rfl) ?_
          refine lv_bipush (v := 37) hx hb dX8_device_41 (by decide) ?_
          refine lv_icmp_ge (tgt := 60) hx hb dX8_device_43 (by decide) (fun c_43 => ?_) (fun c_43 => ?_)
          · skip
            refine lv_iconst (v := 0) hx hb dX8_device_60 (by decide) ?_
            exact endI X hr hlocks hP hD hS dX8_device_61 (by unfold sp_device; rw [if_neg c_1, if_pos c_7])
          · skip
            refine lv_aload_n hx hb dX8_device_46 rfl (lv_at hl 0 rfl) ?_
            refine k_get (C := RX8) (T := TX8) (N := 9) (ci := 8) (v := .ref qd) X hE hP 0 rfl rfl iX8 2 (by decide) w_73 rfl dX8_device_47 ?_
            refine lv_iload_n hx hb dX8_device_50 rfl (lv_at hl 1 rfl) ?_
            refine lv_bipush (v := 21) hx hb dX8_device_51 (by decide) ?_
            refine lv_isub hx hb dX8_device_53 ?_
            refine kVi (n3 := 1) (As := [.int (a - 21)]) (rest := []) X hl.1 hE hP hD hS hA [(qd, .inr (1, [.ref qn, .ref qd1, .ref qd2, .ref qd3, .ref qd4])), (qn, .inl (cA, 34, .inl f))] [(h0, .inr (8, [.ref qn, .ref qs, .ref qd, .ref qp, .ref qr, .ref qt, .ref qa, .ref qm, .ref qe])), (qd1, .inl (cA, 64, .inl (fun _ => 0)))] [2, 1] [0, 3] rfl rfl rfl (by decide) (by decide) (by decide) (c_keyAt0 l D cA cB qd qn qd1 qd2 qd3 qd4 f (a - 21) (hfr 19 (by decide)) (idx_21 c_37)) w_154 w_69 w_153 w_155 w_156 0 (ci := 1) (T := TX1) (N := 5) rfl rfl (by decide +kernel) rfl rfl (Nat.le_of_ble_eq_true rfl) ⟨(Nat.le_of_ble_eq_true rfl), (Nat.le_of_ble_eq_true rfl)⟩ ⟨(Nat.le_of_ble_eq_true rfl), (Nat.le_of_ble_eq_true rfl)⟩ dX8_device_54 (fun r W1 H locs hw hP hD hS => ?_)
            obtain ⟨rfl, rfl⟩ := hw
            have hP : va_P D classes [(h0, .inr (8, [.ref qn, .ref qs, .ref qd, .ref qp, .ref qr, .ref qt, .ref qa, .ref qm, .ref qe])), (qd1, .inl (cA, 64, .inl (fun _ => 0))), (qd, .inr (1, [.ref qn, .ref qd1, .ref qd2, .ref qd3, .ref qd4])), (qn, .inl (cA, 34, .inl f))] H := hP
            have hD : va_D A [(h0, .inr (8, [.ref qn, .ref qs, .ref qd, .ref qp, .ref qr, .ref qt, .ref qa, .ref qm, .ref qe])), (qd1, .inl (cA, 64, .inl (fun _ => 0))), (qd, .inr (1, [.ref qn, .ref qd1, .ref qd2, .ref qd3, .ref qd4])), (qn, .inl (cA, 34, .inl f))] := hD
            refine lv_goto (tgt := 61) hx hb dX8_device_57 (by decide) ?_
            exact endI X hr hlocks hP hD hS dX8_device_61 (by unfold sp_device; rw [if_neg c_1, if_pos c_7])
      · skip
        refine lv_aload_n hx hb dX8_device_26 rfl (lv_at hl 0 rfl) ?_
        refine k_get (C := RX8) (T := TX8) (N := 9) (ci := 8) (v := .ref qd) X hE hP 0 rfl rfl iX8 2 (by decide) w_73 rfl dX8_device_27 ?_
        refine kVi (n3 := 0) (As := []) (rest := []) X hl.1 hE hP hD hS hA [(qd, .inr (1, [.ref qn, .ref qd1, .ref qd2, .ref qd3, .ref qd4])), (qn, .inl (cA, 34, .inl f)), (qd1, .inl (cA, 64, .inl (fun _ => 0)))] [(h0, .inr (8, [.ref qn, .ref qs, .ref qd, .ref qp, .ref qr, .ref qt, .ref qa, .ref qm, .ref qe]))] [2, 1, 3] [0] rfl rfl rfl (by decide) (by decide) (by decide) (c_pinsOfRow0 l D cA cB qd qn qd1 qd2 qd3 qd4 f (fun _ => 0) (hfr 14 (by decide)) rfl) w_158 w_69 w_157 w_159 w_160 0 (ci := 1) (T := TX1) (N := 5) rfl rfl (by decide +kernel) rfl rfl (Nat.le_of_ble_eq_true rfl) ⟨(Nat.le_of_ble_eq_true rfl), (Nat.le_of_ble_eq_true rfl)⟩ ⟨(Nat.le_of_ble_eq_true rfl), (Nat.le_of_ble_eq_true rfl)⟩ dX8_device_30 (fun r W1 H locs hw hP hD hS => ?_)
        obtain ⟨rfl, rfl⟩ := hw
        have hP : va_P D classes [(h0, .inr (8, [.ref qn, .ref qs, .ref qd, .ref qp, .ref qr, .ref qt, .ref qa, .ref qm, .ref qe])), (qd, .inr (1, [.ref qn, .ref qd1, .ref qd2, .ref qd3, .ref qd4])), (qn, .inl (cA, 34, .inl f)), (qd1, .inl (cA, 64, .inl (fun _ => 0)))] H := hP
        have hD : va_D A [(h0, .inr (8, [.ref qn, .ref qs, .ref qd, .ref qp, .ref qr, .ref qt, .ref qa, .ref qm, .ref qe])), (qd, .inr (1, [.ref qn, .ref qd1, .ref qd2, .ref qd3, .ref qd4])), (qn, .inl (cA, 34, .inl f)), (qd1, .inl (cA, 64, .inl (fun _ => 0)))] := hD
        exact endI X hr hlocks hP hD hS dX8_device_33 (by unfold sp_device; rw [if_neg c_1, if_pos c_7])
    · skip
      obtain ⟨j, hj, ej⟩ := idx_of (n := 20) (by decide) c_1 c_7
      refine lv_aload_n hx hb dX8_device_10 rfl (lv_at hl 0 rfl) ?_
      refine k_get (C := RX8) (T := TX8) (N := 9) (ci := 8) (v := .ref qn) X hE hP 0 rfl rfl iX8 0 (by decide) w_65 rfl dX8_device_11 ?_
      refine lv_bipush (v := 8) hx hb dX8_device_14 (by decide) ?_
      refine lv_iload_n hx hb dX8_device_16 rfl (lv_at hl 1 rfl) ?_
      refine lv_iadd hx hb dX8_device_17 ?_
      refine tk (y := nI (8 + j)) (by rw [ej]; exact nI_add 8 j) ?_
      refine k_ald (v := (fr_at (8 + j))) X hE hP 1 rfl (8 + j) rfl (by omega) (by decide) ((hfr (8 + j) (by omega)).trans rfl) dX8_device_18 ?_
      exact endI X hr hlocks hP hD hS dX8_device_19 (by unfold sp_device; rw [if_neg c_1, if_neg c_7, ej]; exact sp_dev_at j hj)
set_option maxHeartbeats 4000000 in
set_option maxRecDepth 100000 in
theorem c_restart (l : Launch) (D : va_G) (cA cB : ClassId) (h0 : Nat) (qn : Nat) (qs : Nat) (qd : Nat) (qp : Nat) (qr : Nat) (qt : Nat) (qa : Nat) (qm : Nat) (qe : Nat) (f : Nat → Int32) (qpe : Nat) (qrc : Nat) (gc : Nat → Int32) (hfr : frn f) (hgc : ∀ j, j < 257 → gc j = 0) : CV l yX8_restart cX8_restart 1 none 4 82 0 0 D cA cB [.ref h0] [(h0, .inr (8, [.ref qn, .ref qs, .ref qd, .ref qp, .ref qr, .ref qt, .ref qa, .ref qm, .ref qe])), (qn, .inl (cA, 34, .inl f)), (qs, .inl (cA, 4096, .inl (fun _ => 0))), (qp, .inr (3, [.ref qpe, .int 0, .int 0])), (qr, .inr (4, [.ref qn, .ref qs, .ref qd, .ref qp, .ref qrc, .int 0, .int 0])), (qrc, .inl (cA, 257, .inl gc))] (fun W1 => True) := by
  refine mkV (lv0 := [(0, .ref h0)]) (by decide) (Nat.le_of_ble_eq_true rfl) rfl ?_
  intro p e s m below meth c A ls X hr hlocks hnm hE hA hP hD hS hl
  have hx := X.1
  have hb := X.2.1
  refine lv_aload_n hx hb dX8_restart_0 rfl (lv_at hl 0 rfl) ?_
  refine k_get (C := RX8) (T := TX8) (N := 9) (ci := 8) (v := .ref qr) X hE hP 0 rfl rfl iX8 4 (by decide) w_84 rfl dX8_restart_1 ?_
  refine kVv (n3 := 0) (As := []) (rest := []) X hl.1 hE hP hD hS hA [(qr, .inr (4, [.ref qn, .ref qs, .ref qd, .ref qp, .ref qrc, .int 0, .int 0])), (qn, .inl (cA, 34, .inl f)), (qs, .inl (cA, 4096, .inl (fun _ => 0))), (qrc, .inl (cA, 257, .inl gc)), (qp, .inr (3, [.ref qpe, .int 0, .int 0]))] [(h0, .inr (8, [.ref qn, .ref qs, .ref qd, .ref qp, .ref qr, .ref qt, .ref qa, .ref qm, .ref qe]))] [4, 1, 2, 5, 3] [0] rfl rfl rfl (by decide) (by decide) (by decide) (c_beginAnew l D cA cB qr qn qs qd qp qrc 0 0 qpe 0 0 f (fun _ => 0) gc ) w_111 w_44 w_110 w_112 w_113 0 (ci := 4) (T := TX4) (N := 7) rfl rfl (by decide +kernel) rfl rfl (Nat.le_of_ble_eq_true rfl) ⟨(Nat.le_of_ble_eq_true rfl), (Nat.le_of_ble_eq_true rfl)⟩ ⟨(Nat.le_of_ble_eq_true rfl), (Nat.le_of_ble_eq_true rfl)⟩ dX8_restart_4 (fun W1 H locs hw hP hD hS => ?_)
  obtain ⟨g_1, g2_2, hf_3, hf_4, rfl⟩ := hw
  have hP : va_P D classes [(h0, .inr (8, [.ref qn, .ref qs, .ref qd, .ref qp, .ref qr, .ref qt, .ref qa, .ref qm, .ref qe])), (qr, .inr (4, [.ref qn, .ref qs, .ref qd, .ref qp, .ref qrc, .int 0, .int 0])), (qn, .inl (cA, 34, .inl (upd (upd (upd (upd (upd (upd (upd (upd g_1 18 1) 0 0) 1 0) 2 0) 3 255) 5 4) 4 ((((fun _ => 0) 4078) + (256 * ((fun _ => 0) 4079))) &&& 4095)) 6 0))), (qs, .inl (cA, 4096, .inl (fun _ => 0))), (qrc, .inl (cA, 257, .inl g2_2)), (qp, .inr (3, [.ref qpe, .int 0, .int 0]))] H := hP
  have hD : va_D A [(h0, .inr (8, [.ref qn, .ref qs, .ref qd, .ref qp, .ref qr, .ref qt, .ref qa, .ref qm, .ref qe])), (qr, .inr (4, [.ref qn, .ref qs, .ref qd, .ref qp, .ref qrc, .int 0, .int 0])), (qn, .inl (cA, 34, .inl (upd (upd (upd (upd (upd (upd (upd (upd g_1 18 1) 0 0) 1 0) 2 0) 3 255) 5 4) 4 ((((fun _ => 0) 4078) + (256 * ((fun _ => 0) 4079))) &&& 4095)) 6 0))), (qs, .inl (cA, 4096, .inl (fun _ => 0))), (qrc, .inl (cA, 257, .inl g2_2)), (qp, .inr (3, [.ref qpe, .int 0, .int 0]))] := hD
  exact endV X hr hlocks hP hD hS dX8_restart_7 trivial
