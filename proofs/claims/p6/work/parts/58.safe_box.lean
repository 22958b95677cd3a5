abbrev cX8_isAddress : ByteArray := prog_1_method_23_code
def yX8_isAddress : MethodName := ⟨RX8, "isAddress", "(I)Z"⟩
abbrev cX8_isByte : ByteArray := prog_1_method_24_code
def yX8_isByte : MethodName := ⟨RX8, "isByte", "(I)Z"⟩
abbrev cX8_peek : ByteArray := prog_1_method_8_code
def yX8_peek : MethodName := ⟨RX8, "peek", "(I)I"⟩
abbrev cX8_restart : ByteArray := prog_1_method_7_code
def yX8_restart : MethodName := ⟨RX8, "restart", "()V"⟩
abbrev cX8_run : ByteArray := prog_1_method_13_code
def yX8_run : MethodName := ⟨RX8, "run", "(I)I"⟩
abbrev cX8_register : ByteArray := prog_1_method_15_code
def yX8_register : MethodName := ⟨RX8, "register", "(I)I"⟩
abbrev cX8_poke : ByteArray := prog_1_method_9_code
def yX8_poke : MethodName := ⟨RX8, "poke", "(II)Z"⟩
abbrev cX8_drum : ByteArray := prog_1_method_11_code
def yX8_drum : MethodName := ⟨RX8, "drum", "(II)Z"⟩
abbrev cX8_key : ByteArray := prog_1_method_10_code
def yX8_key : MethodName := ⟨RX8, "key", "(I)I"⟩
abbrev cX8_strip : ByteArray := prog_1_method_20_code
def yX8_strip : MethodName := ⟨RX8, "strip", "(I)I"⟩
abbrev cX8_ring : ByteArray := prog_1_method_19_code
def yX8_ring : MethodName := ⟨RX8, "ring", "(II)I"⟩
abbrev cX8_device : ByteArray := prog_1_method_16_code
def yX8_device : MethodName := ⟨RX8, "device", "(I)I"⟩
abbrev cX8_back : ByteArray := prog_1_method_14_code
def yX8_back : MethodName := ⟨RX8, "back", "(I)I"⟩
abbrev cX8_codes : ByteArray := prog_1_method_18_code
def yX8_codes : MethodName := ⟨RX8, "codes", "(I)I"⟩
set_option maxRecDepth 100000 in
theorem w_310 : (Cond.methodLink "BelfryBox" 115 yX8_isAddress : Cond) ∈ gw := List.mem_filter.mpr ⟨List.mem_append_right _ (tb3 (List.mem_of_getElem? (i := 129) rfl)), rfl⟩
set_option maxRecDepth 100000 in
theorem w_311 : (Cond.code yX8_isAddress prog_1_method_23_code 1 (Option.some Jvm.ClassFile.FieldType.boolean) : Cond) ∈ gw := List.mem_filter.mpr ⟨List.mem_append_right _ (tb3 (List.mem_of_getElem? (i := 131) rfl)), rfl⟩
set_option maxRecDepth 100000 in
theorem w_312 : (Cond.static yX8_isAddress : Cond) ∈ gw := List.mem_filter.mpr ⟨List.mem_append_right _ (tb3 (List.mem_of_getElem? (i := 130) rfl)), rfl⟩
set_option maxRecDepth 100000 in
theorem w_313 : (Cond.fieldLink "BelfryBox" 13 "BelfryBox" "store" "[I" : Cond) ∈ gw := List.mem_filter.mpr ⟨List.mem_append_right _ (tb2 (List.mem_of_getElem? (i := 47) rfl)), rfl⟩
set_option maxRecDepth 100000 in
theorem w_314 : (Cond.fieldLink "BelfryBox" 37 "BelfryBox" "processor" "LBelfryBox$Processor;" : Cond) ∈ gw := List.mem_filter.mpr ⟨List.mem_append_right _ (tb2 (List.mem_of_getElem? (i := 50) rfl)), rfl⟩
set_option maxRecDepth 100000 in
theorem w_315 : (Cond.methodLink "BelfryBox" 71 yX4_beginAnew : Cond) ∈ gw := List.mem_filter.mpr ⟨List.mem_append_right _ (tb2 (List.mem_of_getElem? (i := 23) rfl)), rfl⟩
set_option maxRecDepth 100000 in
theorem w_316 : (Cond.code yX4_beginAnew prog_6_method_2_code 1 (Option.none : Option Jvm.ClassFile.FieldType) : Cond) ∈ gw := List.mem_filter.mpr ⟨List.mem_append_right _ (tb2 (List.mem_of_getElem? (i := 26) rfl)), rfl⟩
set_option maxRecDepth 100000 in
theorem w_317 : (Cond.instanceMethod yX4_beginAnew : Cond) ∈ gw := List.mem_filter.mpr ⟨List.mem_append_right _ (tb2 (List.mem_of_getElem? (i := 24) rfl)), rfl⟩
set_option maxRecDepth 100000 in
theorem w_318 : (Cond.selects "BelfryBox$Processor" yX4_beginAnew yX4_beginAnew : Cond) ∈ gw := List.mem_filter.mpr ⟨List.mem_append_right _ (tb2 (List.mem_of_getElem? (i := 25) rfl)), rfl⟩
set_option maxRecDepth 100000 in
theorem w_319 : (Cond.fieldLink "BelfryBox" 44 "BelfryBox" "stops" "LBelfryBox$Stops;" : Cond) ∈ gw := List.mem_filter.mpr ⟨List.mem_append_right _ (tb2 (List.mem_of_getElem? (i := 51) rfl)), rfl⟩
set_option maxRecDepth 100000 in
theorem w_320 : (Cond.methodLink "BelfryBox" 137 yX4_doSteps : Cond) ∈ gw := List.mem_filter.mpr ⟨List.mem_append_right _ (tb3 (List.mem_of_getElem? (i := 172) rfl)), rfl⟩
set_option maxRecDepth 100000 in
theorem w_321 : (Cond.code yX4_doSteps prog_6_method_5_code 4 (Option.some Jvm.ClassFile.FieldType.int) : Cond) ∈ gw := List.mem_filter.mpr ⟨List.mem_append_right _ (tb3 (List.mem_of_getElem? (i := 175) rfl)), rfl⟩
set_option maxRecDepth 100000 in
theorem w_322 : (Cond.instanceMethod yX4_doSteps : Cond) ∈ gw := List.mem_filter.mpr ⟨List.mem_append_right _ (tb3 (List.mem_of_getElem? (i := 173) rfl)), rfl⟩
set_option maxRecDepth 100000 in
theorem w_323 : (Cond.selects "BelfryBox$Processor" yX4_doSteps yX4_doSteps : Cond) ∈ gw := List.mem_filter.mpr ⟨List.mem_append_right _ (tb3 (List.mem_of_getElem? (i := 174) rfl)), rfl⟩
set_option maxRecDepth 100000 in
theorem w_324 : (Cond.fieldLink "BelfryBox" 9 "BelfryBox" "now" "[I" : Cond) ∈ gw := List.mem_filter.mpr ⟨List.mem_append_right _ (tb2 (List.mem_of_getElem? (i := 46) rfl)), rfl⟩
set_option maxRecDepth 100000 in
theorem w_325 : (Cond.methodLink "BelfryBox" 118 yX8_isByte : Cond) ∈ gw := List.mem_filter.mpr ⟨List.mem_append_right _ (tb3 (List.mem_of_getElem? (i := 136) rfl)), rfl⟩
set_option maxRecDepth 100000 in
theorem w_326 : (Cond.code yX8_isByte prog_1_method_24_code 1 (Option.some Jvm.ClassFile.FieldType.boolean) : Cond) ∈ gw := List.mem_filter.mpr ⟨List.mem_append_right _ (tb3 (List.mem_of_getElem? (i := 138) rfl)), rfl⟩
set_option maxRecDepth 100000 in
theorem w_327 : (Cond.static yX8_isByte : Cond) ∈ gw := List.mem_filter.mpr ⟨List.mem_append_right _ (tb3 (List.mem_of_getElem? (i := 137) rfl)), rfl⟩
set_option maxRecDepth 100000 in
theorem w_328 : (Cond.fieldLink "BelfryBox" 28 "BelfryBox" "past" "LBelfryBox$Past;" : Cond) ∈ gw := List.mem_filter.mpr ⟨List.mem_append_right _ (tb2 (List.mem_of_getElem? (i := 49) rfl)), rfl⟩
set_option maxRecDepth 100000 in
theorem w_329 : (Cond.methodLink "BelfryBox" 121 yX3_forget : Cond) ∈ gw := List.mem_filter.mpr ⟨List.mem_append_right _ (tb3 (List.mem_of_getElem? (i := 139) rfl)), rfl⟩
set_option maxRecDepth 100000 in
theorem w_330 : (Cond.fieldLink "BelfryBox" 21 "BelfryBox" "devices" "LBelfryBox$Devices;" : Cond) ∈ gw := List.mem_filter.mpr ⟨List.mem_append_right _ (tb2 (List.mem_of_getElem? (i := 48) rfl)), rfl⟩
set_option maxRecDepth 100000 in
theorem w_331 : (Cond.methodLink "BelfryBox" 124 yX1_addKey : Cond) ∈ gw := List.mem_filter.mpr ⟨List.mem_append_right _ (tb3 (List.mem_of_getElem? (i := 144) rfl)), rfl⟩
set_option maxRecDepth 100000 in
theorem w_332 : (Cond.code yX1_addKey prog_3_method_4_code 2 (Option.none : Option Jvm.ClassFile.FieldType) : Cond) ∈ gw := List.mem_filter.mpr ⟨List.mem_append_right _ (tb3 (List.mem_of_getElem? (i := 147) rfl)), rfl⟩
set_option maxRecDepth 100000 in
theorem w_333 : (Cond.instanceMethod yX1_addKey : Cond) ∈ gw := List.mem_filter.mpr ⟨List.mem_append_right _ (tb3 (List.mem_of_getElem? (i := 145) rfl)), rfl⟩
set_option maxRecDepth 100000 in
theorem w_334 : (Cond.selects "BelfryBox$Devices" yX1_addKey yX1_addKey : Cond) ∈ gw := List.mem_filter.mpr ⟨List.mem_append_right _ (tb3 (List.mem_of_getElem? (i := 146) rfl)), rfl⟩
set_option maxRecDepth 100000 in
theorem w_335 : (Cond.methodLink "BelfryBox" 155 yX1_keyAt : Cond) ∈ gw := List.mem_filter.mpr ⟨List.mem_append_right _ (tb4 (List.mem_of_getElem? (i := 213) rfl)), rfl⟩
set_option maxRecDepth 100000 in
theorem w_336 : (Cond.code yX1_keyAt prog_3_method_5_code 2 (Option.some Jvm.ClassFile.FieldType.int) : Cond) ∈ gw := List.mem_filter.mpr ⟨List.mem_append_right _ (tb4 (List.mem_of_getElem? (i := 216) rfl)), rfl⟩
set_option maxRecDepth 100000 in
theorem w_337 : (Cond.instanceMethod yX1_keyAt : Cond) ∈ gw := List.mem_filter.mpr ⟨List.mem_append_right _ (tb4 (List.mem_of_getElem? (i := 214) rfl)), rfl⟩
set_option maxRecDepth 100000 in
theorem w_338 : (Cond.selects "BelfryBox$Devices" yX1_keyAt yX1_keyAt : Cond) ∈ gw := List.mem_filter.mpr ⟨List.mem_append_right _ (tb4 (List.mem_of_getElem? (i := 215) rfl)), rfl⟩
set_option maxRecDepth 100000 in
theorem w_339 : (Cond.methodLink "BelfryBox" 151 yX1_pinsOfRow : Cond) ∈ gw := List.mem_filter.mpr ⟨List.mem_append_right _ (tb4 (List.mem_of_getElem? (i := 212) rfl)), rfl⟩
set_option maxRecDepth 100000 in
theorem w_340 : (Cond.methodLink "BelfryBox" 147 yX3_takeBack : Cond) ∈ gw := List.mem_filter.mpr ⟨List.mem_append_right _ (tb4 (List.mem_of_getElem? (i := 200) rfl)), rfl⟩
set_option maxRecDepth 100000 in
theorem w_341 : (Cond.code yX3_takeBack prog_5_method_6_code 6 (Option.none : Option Jvm.ClassFile.FieldType) : Cond) ∈ gw := List.mem_filter.mpr ⟨List.mem_append_right _ (tb4 (List.mem_of_getElem? (i := 203) rfl)), rfl⟩
set_option maxRecDepth 100000 in
theorem w_342 : (Cond.instanceMethod yX3_takeBack : Cond) ∈ gw := List.mem_filter.mpr ⟨List.mem_append_right _ (tb4 (List.mem_of_getElem? (i := 201) rfl)), rfl⟩
set_option maxRecDepth 100000 in
theorem w_343 : (Cond.selects "BelfryBox$Past" yX3_takeBack yX3_takeBack : Cond) ∈ gw := List.mem_filter.mpr ⟨List.mem_append_right _ (tb4 (List.mem_of_getElem? (i := 202) rfl)), rfl⟩
theorem nw_0 : (Cond.fieldLinkNest "BelfryBox" 127 "BelfryBox$Devices" "pins" "[I" "BelfryBox" : Cond) ∈ nests := List.mem_of_getElem? (i := 0) rfl
theorem nw_2 : (Cond.fieldLinkNest "BelfryBox" 171 "BelfryBox$Devices" "paper" "[I" "BelfryBox" : Cond) ∈ nests := List.mem_of_getElem? (i := 2) rfl
theorem nw_1 : (Cond.fieldLinkNest "BelfryBox" 168 "BelfryBox$Devices" "rings" "[I" "BelfryBox" : Cond) ∈ nests := List.mem_of_getElem? (i := 1) rfl
theorem nw_4 : (Cond.fieldLinkNest "BelfryBox" 141 "BelfryBox$Past" "kept" "I" "BelfryBox" : Cond) ∈ nests := List.mem_of_getElem? (i := 4) rfl
theorem nw_5 : (Cond.fieldLinkNest "BelfryBox" 144 "BelfryBox$Processor" "counts" "[I" "BelfryBox" : Cond) ∈ nests := List.mem_of_getElem? (i := 5) rfl
theorem dX8_isAddress_0 : decode cX8_isAddress 0 = .ok (.iload_n 0, 1) := by decide +kernel
theorem dX8_isAddress_1 : decode cX8_isAddress 1 = .ok (.ifCond .lt 14, 3) := by decide +kernel
theorem dX8_isAddress_15 : decode cX8_isAddress 15 = .ok (.iconst 0, 1) := by decide +kernel
theorem dX8_isAddress_16 : decode cX8_isAddress 16 = .ok (.ireturn, 1) := by decide +kernel
theorem dX8_isAddress_4 : decode cX8_isAddress 4 = .ok (.iload_n 0, 1) := by decide +kernel
theorem dX8_isAddress_5 : decode cX8_isAddress 5 = .ok (.sipush 4096, 3) := by decide +kernel
theorem dX8_isAddress_8 : decode cX8_isAddress 8 = .ok (.if_icmp .ge 7, 3) := by decide +kernel
theorem dX8_isAddress_11 : decode cX8_isAddress 11 = .ok (.iconst 1, 1) := by decide +kernel
theorem dX8_isAddress_12 : decode cX8_isAddress 12 = .ok (.goto 4, 3) := by decide +kernel
theorem dX8_isByte_0 : decode cX8_isByte 0 = .ok (.iload_n 0, 1) := by decide +kernel
theorem dX8_isByte_1 : decode cX8_isByte 1 = .ok (.ifCond .lt 14, 3) := by decide +kernel
theorem dX8_isByte_15 : decode cX8_isByte 15 = .ok (.iconst 0, 1) := by decide +kernel
theorem dX8_isByte_16 : decode cX8_isByte 16 = .ok (.ireturn, 1) := by decide +kernel
theorem dX8_isByte_4 : decode cX8_isByte 4 = .ok (.iload_n 0, 1) := by decide +kernel
theorem dX8_isByte_5 : decode cX8_isByte 5 = .ok (.sipush 255, 3) := by decide +kernel
theorem dX8_isByte_8 : decode cX8_isByte 8 = .ok (.if_icmp .gt 7, 3) := by decide +kernel
theorem dX8_isByte_11 : decode cX8_isByte 11 = .ok (.iconst 1, 1) := by decide +kernel
theorem dX8_isByte_12 : decode cX8_isByte 12 = .ok (.goto 4, 3) := by decide +kernel
theorem dX8_peek_0 : decode cX8_peek 0 = .ok (.iload_n 1, 1) := by decide +kernel
theorem dX8_peek_1 : decode cX8_peek 1 = .ok (.invokestatic 115, 3) := by decide +kernel
theorem dX8_peek_4 : decode cX8_peek 4 = .ok (.ifCond .eq 12, 3) := by decide +kernel
theorem dX8_peek_16 : decode cX8_peek 16 = .ok (.iconst (-1), 1) := by decide +kernel
theorem dX8_peek_17 : decode cX8_peek 17 = .ok (.ireturn, 1) := by decide +kernel
theorem dX8_peek_7 : decode cX8_peek 7 = .ok (.aload_n 0, 1) := by decide +kernel
theorem dX8_peek_8 : decode cX8_peek 8 = .ok (.getfield 13, 3) := by decide +kernel
theorem dX8_peek_11 : decode cX8_peek 11 = .ok (.iload_n 1, 1) := by decide +kernel
theorem dX8_peek_12 : decode cX8_peek 12 = .ok (.iaload, 1) := by decide +kernel
theorem dX8_peek_13 : decode cX8_peek 13 = .ok (.goto 4, 3) := by decide +kernel
theorem dX8_restart_0 : decode cX8_restart 0 = .ok (.aload_n 0, 1) := by decide +kernel
theorem dX8_restart_1 : decode cX8_restart 1 = .ok (.getfield 37, 3) := by decide +kernel
theorem dX8_restart_4 : decode cX8_restart 4 = .ok (.invokevirtual 71, 3) := by decide +kernel
theorem dX8_restart_7 : decode cX8_restart 7 = .ok (.return_, 1) := by decide +kernel
theorem dX8_run_0 : decode cX8_run 0 = .ok (.iload_n 1, 1) := by decide +kernel
theorem dX8_run_1 : decode cX8_run 1 = .ok (.iconst 1, 1) := by decide +kernel
theorem dX8_run_2 : decode cX8_run 2 = .ok (.if_icmp .lt 10, 3) := by decide +kernel
theorem dX8_run_12 : decode cX8_run 12 = .ok (.iconst (-1), 1) := by decide +kernel
theorem dX8_run_13 : decode cX8_run 13 = .ok (.ireturn, 1) := by decide +kernel
theorem dX8_run_5 : decode cX8_run 5 = .ok (.iload_n 1, 1) := by decide +kernel
theorem dX8_run_6 : decode cX8_run 6 = .ok (.sipush 2000, 3) := by decide +kernel
theorem dX8_run_9 : decode cX8_run 9 = .ok (.if_icmp .le 5, 3) := by decide +kernel
theorem dX8_run_14 : decode cX8_run 14 = .ok (.aload_n 0, 1) := by decide +kernel
theorem dX8_run_15 : decode cX8_run 15 = .ok (.getfield 37, 3) := by decide +kernel
theorem dX8_run_18 : decode cX8_run 18 = .ok (.iload_n 1, 1) := by decide +kernel
theorem dX8_run_19 : decode cX8_run 19 = .ok (.aload_n 0, 1) := by decide +kernel
theorem dX8_run_20 : decode cX8_run 20 = .ok (.getfield 44, 3) := by decide +kernel
theorem dX8_run_23 : decode cX8_run 23 = .ok (.invokevirtual 137, 3) := by decide +kernel
theorem dX8_run_26 : decode cX8_run 26 = .ok (.ireturn, 1) := by decide +kernel
theorem dX8_register_0 : decode cX8_register 0 = .ok (.iload_n 1, 1) := by decide +kernel
theorem dX8_register_1 : decode cX8_register 1 = .ok (.ifCond .lt 18, 3) := by decide +kernel
theorem dX8_register_19 : decode cX8_register 19 = .ok (.iconst 0, 1) := by decide +kernel
theorem dX8_register_20 : decode cX8_register 20 = .ok (.ireturn, 1) := by decide +kernel
theorem dX8_register_4 : decode cX8_register 4 = .ok (.iload_n 1, 1) := by decide +kernel
theorem dX8_register_5 : decode cX8_register 5 = .ok (.bipush 7, 2) := by decide +kernel
theorem dX8_register_7 : decode cX8_register 7 = .ok (.if_icmp .gt 12, 3) := by decide +kernel
theorem dX8_register_10 : decode cX8_register 10 = .ok (.aload_n 0, 1) := by decide +kernel
theorem dX8_register_11 : decode cX8_register 11 = .ok (.getfield 9, 3) := by decide +kernel
theorem dX8_register_14 : decode cX8_register 14 = .ok (.iload_n 1, 1) := by decide +kernel
theorem dX8_register_15 : decode cX8_register 15 = .ok (.iaload, 1) := by decide +kernel
theorem dX8_register_16 : decode cX8_register 16 = .ok (.goto 4, 3) := by decide +kernel
theorem dX8_poke_0 : decode cX8_poke 0 = .ok (.iload_n 1, 1) := by decide +kernel
theorem dX8_poke_1 : decode cX8_poke 1 = .ok (.ifCond .lt 17, 3) := by decide +kernel
theorem dX8_poke_18 : decode cX8_poke 18 = .ok (.iconst 0, 1) := by decide +kernel
theorem dX8_poke_19 : decode cX8_poke 19 = .ok (.ireturn, 1) := by decide +kernel
theorem dX8_poke_4 : decode cX8_poke 4 = .ok (.iload_n 1, 1) := by decide +kernel
theorem dX8_poke_5 : decode cX8_poke 5 = .ok (.sipush 4080, 3) := by decide +kernel
theorem dX8_poke_8 : decode cX8_poke 8 = .ok (.if_icmp .ge 10, 3) := by decide +kernel
theorem dX8_poke_11 : decode cX8_poke 11 = .ok (.iload_n 2, 1) := by decide +kernel
theorem dX8_poke_12 : decode cX8_poke 12 = .ok (.invokestatic 118, 3) := by decide +kernel
theorem dX8_poke_15 : decode cX8_poke 15 = .ok (.ifCond .ne 5, 3) := by decide +kernel
theorem dX8_poke_20 : decode cX8_poke 20 = .ok (.aload_n 0, 1) := by decide +kernel
theorem dX8_poke_21 : decode cX8_poke 21 = .ok (.getfield 13, 3) := by decide +kernel
theorem dX8_poke_24 : decode cX8_poke 24 = .ok (.iload_n 1, 1) := by decide +kernel
theorem dX8_poke_25 : decode cX8_poke 25 = .ok (.iload_n 2, 1) := by decide +kernel
theorem dX8_poke_26 : decode cX8_poke 26 = .ok (.iastore, 1) := by decide +kernel
theorem dX8_poke_27 : decode cX8_poke 27 = .ok (.aload_n 0, 1) := by decide +kernel
theorem dX8_poke_28 : decode cX8_poke 28 = .ok (.getfield 28, 3) := by decide +kernel
theorem dX8_poke_31 : decode cX8_poke 31 = .ok (.invokevirtual 121, 3) := by decide +kernel
theorem dX8_poke_34 : decode cX8_poke 34 = .ok (.iconst 1, 1) := by decide +kernel
theorem dX8_poke_35 : decode cX8_poke 35 = .ok (.ireturn, 1) := by decide +kernel
theorem dX8_drum_0 : decode cX8_drum 0 = .ok (.iload_n 1, 1) := by decide +kernel
theorem dX8_drum_1 : decode cX8_drum 1 = .ok (.ifCond .lt 16, 3) := by decide +kernel
theorem dX8_drum_17 : decode cX8_drum 17 = .ok (.iconst 0, 1) := by decide +kernel
theorem dX8_drum_18 : decode cX8_drum 18 = .ok (.ireturn, 1) := by decide +kernel
theorem dX8_drum_4 : decode cX8_drum 4 = .ok (.iload_n 1, 1) := by decide +kernel
theorem dX8_drum_5 : decode cX8_drum 5 = .ok (.bipush 64, 2) := by decide +kernel
theorem dX8_drum_7 : decode cX8_drum 7 = .ok (.if_icmp .ge 10, 3) := by decide +kernel
theorem dX8_drum_10 : decode cX8_drum 10 = .ok (.iload_n 2, 1) := by decide +kernel
theorem dX8_drum_11 : decode cX8_drum 11 = .ok (.invokestatic 118, 3) := by decide +kernel
theorem dX8_drum_14 : decode cX8_drum 14 = .ok (.ifCond .ne 5, 3) := by decide +kernel
theorem dX8_drum_19 : decode cX8_drum 19 = .ok (.aload_n 0, 1) := by decide +kernel
theorem dX8_drum_20 : decode cX8_drum 20 = .ok (.getfield 21, 3) := by decide +kernel
theorem dX8_drum_23 : decode cX8_drum 23 = .ok (.getfield 127, 3) := by decide +kernel
theorem dX8_drum_26 : decode cX8_drum 26 = .ok (.iload_n 1, 1) := by decide +kernel
theorem dX8_drum_27 : decode cX8_drum 27 = .ok (.iload_n 2, 1) := by decide +kernel
theorem dX8_drum_28 : decode cX8_drum 28 = .ok (.iastore, 1) := by decide +kernel
theorem dX8_drum_29 : decode cX8_drum 29 = .ok (.aload_n 0, 1) := by decide +kernel
theorem dX8_drum_30 : decode cX8_drum 30 = .ok (.getfield 28, 3) := by decide +kernel
theorem dX8_drum_33 : decode cX8_drum 33 = .ok (.invokevirtual 121, 3) := by decide +kernel
theorem dX8_drum_36 : decode cX8_drum 36 = .ok (.iconst 1, 1) := by decide +kernel
theorem dX8_drum_37 : decode cX8_drum 37 = .ok (.ireturn, 1) := by decide +kernel
theorem dX8_key_0 : decode cX8_key 0 = .ok (.iload_n 1, 1) := by decide +kernel
theorem dX8_key_1 : decode cX8_key 1 = .ok (.invokestatic 118, 3) := by decide +kernel
theorem dX8_key_4 : decode cX8_key 4 = .ok (.ifCond .eq 15, 3) := by decide +kernel
theorem dX8_key_19 : decode cX8_key 19 = .ok (.iconst (-1), 1) := by decide +kernel
theorem dX8_key_20 : decode cX8_key 20 = .ok (.ireturn, 1) := by decide +kernel
theorem dX8_key_7 : decode cX8_key 7 = .ok (.aload_n 0, 1) := by decide +kernel
theorem dX8_key_8 : decode cX8_key 8 = .ok (.getfield 9, 3) := by decide +kernel
theorem dX8_key_11 : decode cX8_key 11 = .ok (.bipush 19, 2) := by decide +kernel
theorem dX8_key_13 : decode cX8_key 13 = .ok (.iaload, 1) := by decide +kernel
theorem dX8_key_14 : decode cX8_key 14 = .ok (.bipush 16, 2) := by decide +kernel
theorem dX8_key_16 : decode cX8_key 16 = .ok (.if_icmp .lt 5, 3) := by decide +kernel
theorem dX8_key_21 : decode cX8_key 21 = .ok (.aload_n 0, 1) := by decide +kernel
theorem dX8_key_22 : decode cX8_key 22 = .ok (.getfield 21, 3) := by decide +kernel
theorem dX8_key_25 : decode cX8_key 25 = .ok (.iload_n 1, 1) := by decide +kernel
theorem dX8_key_26 : decode cX8_key 26 = .ok (.invokevirtual 124, 3) := by decide +kernel
theorem dX8_key_29 : decode cX8_key 29 = .ok (.aload_n 0, 1) := by decide +kernel
theorem dX8_key_30 : decode cX8_key 30 = .ok (.getfield 28, 3) := by decide +kernel
theorem dX8_key_33 : decode cX8_key 33 = .ok (.invokevirtual 121, 3) := by decide +kernel
theorem dX8_key_36 : decode cX8_key 36 = .ok (.aload_n 0, 1) := by decide +kernel
theorem dX8_key_37 : decode cX8_key 37 = .ok (.getfield 9, 3) := by decide +kernel
theorem dX8_key_40 : decode cX8_key 40 = .ok (.bipush 19, 2) := by decide +kernel
theorem dX8_key_42 : decode cX8_key 42 = .ok (.iaload, 1) := by decide +kernel
theorem dX8_key_43 : decode cX8_key 43 = .ok (.ireturn, 1) := by decide +kernel
theorem dX8_strip_0 : decode cX8_strip 0 = .ok (.iload_n 1, 1) := by decide +kernel
theorem dX8_strip_1 : decode cX8_strip 1 = .ok (.ifCond .lt 26, 3) := by decide +kernel
theorem dX8_strip_27 : decode cX8_strip 27 = .ok (.iconst (-1), 1) := by decide +kernel
theorem dX8_strip_28 : decode cX8_strip 28 = .ok (.ireturn, 1) := by decide +kernel
theorem dX8_strip_4 : decode cX8_strip 4 = .ok (.iload_n 1, 1) := by decide +kernel
theorem dX8_strip_5 : decode cX8_strip 5 = .ok (.aload_n 0, 1) := by decide +kernel
theorem dX8_strip_6 : decode cX8_strip 6 = .ok (.getfield 9, 3) := by decide +kernel
theorem dX8_strip_9 : decode cX8_strip 9 = .ok (.bipush 32, 2) := by decide +kernel
theorem dX8_strip_11 : decode cX8_strip 11 = .ok (.iaload, 1) := by decide +kernel
theorem dX8_strip_12 : decode cX8_strip 12 = .ok (.if_icmp .ge 15, 3) := by decide +kernel
theorem dX8_strip_15 : decode cX8_strip 15 = .ok (.aload_n 0, 1) := by decide +kernel
theorem dX8_strip_16 : decode cX8_strip 16 = .ok (.getfield 21, 3) := by decide +kernel
theorem dX8_strip_19 : decode cX8_strip 19 = .ok (.getfield 171, 3) := by decide +kernel
theorem dX8_strip_22 : decode cX8_strip 22 = .ok (.iload_n 1, 1) := by decide +kernel
theorem dX8_strip_23 : decode cX8_strip 23 = .ok (.iaload, 1) := by decide +kernel
theorem dX8_strip_24 : decode cX8_strip 24 = .ok (.goto 4, 3) := by decide +kernel
theorem dX8_ring_0 : decode cX8_ring 0 = .ok (.iload_n 1, 1) := by decide +kernel
theorem dX8_ring_1 : decode cX8_ring 1 = .ok (.ifCond .lt 23, 3) := by decide +kernel
theorem dX8_ring_24 : decode cX8_ring 24 = .ok (.iconst (-1), 1) := by decide +kernel
theorem dX8_ring_25 : decode cX8_ring 25 = .ok (.ireturn, 1) := by decide +kernel
theorem dX8_ring_4 : decode cX8_ring 4 = .ok (.iload_n 1, 1) := by decide +kernel
theorem dX8_ring_5 : decode cX8_ring 5 = .ok (.aload_n 0, 1) := by decide +kernel
theorem dX8_ring_6 : decode cX8_ring 6 = .ok (.getfield 9, 3) := by decide +kernel
theorem dX8_ring_9 : decode cX8_ring 9 = .ok (.bipush 31, 2) := by decide +kernel
theorem dX8_ring_11 : decode cX8_ring 11 = .ok (.iaload, 1) := by decide +kernel
theorem dX8_ring_12 : decode cX8_ring 12 = .ok (.if_icmp .ge 12, 3) := by decide +kernel
theorem dX8_ring_15 : decode cX8_ring 15 = .ok (.iload_n 2, 1) := by decide +kernel
theorem dX8_ring_16 : decode cX8_ring 16 = .ok (.ifCond .lt 8, 3) := by decide +kernel
theorem dX8_ring_19 : decode cX8_ring 19 = .ok (.iload_n 2, 1) := by decide +kernel
theorem dX8_ring_20 : decode cX8_ring 20 = .ok (.iconst 2, 1) := by decide +kernel
theorem dX8_ring_21 : decode cX8_ring 21 = .ok (.if_icmp .le 5, 3) := by decide +kernel
theorem dX8_ring_26 : decode cX8_ring 26 = .ok (.aload_n 0, 1) := by decide +kernel
theorem dX8_ring_27 : decode cX8_ring 27 = .ok (.getfield 21, 3) := by decide +kernel
theorem dX8_ring_30 : decode cX8_ring 30 = .ok (.getfield 168, 3) := by decide +kernel
theorem dX8_ring_33 : decode cX8_ring 33 = .ok (.iconst 3, 1) := by decide +kernel
theorem dX8_ring_34 : decode cX8_ring 34 = .ok (.iload_n 1, 1) := by decide +kernel
theorem dX8_ring_35 : decode cX8_ring 35 = .ok (.imul, 1) := by decide +kernel
theorem dX8_ring_36 : decode cX8_ring 36 = .ok (.iload_n 2, 1) := by decide +kernel
theorem dX8_ring_37 : decode cX8_ring 37 = .ok (.iadd, 1) := by decide +kernel
theorem dX8_ring_38 : decode cX8_ring 38 = .ok (.iaload, 1) := by decide +kernel
theorem dX8_ring_39 : decode cX8_ring 39 = .ok (.ireturn, 1) := by decide +kernel
theorem dX8_device_0 : decode cX8_device 0 = .ok (.iload_n 1, 1) := by decide +kernel
theorem dX8_device_1 : decode cX8_device 1 = .ok (.ifCond .lt 19, 3) := by decide +kernel
theorem dX8_device_20 : decode cX8_device 20 = .ok (.iload_n 1, 1) := by decide +kernel
theorem dX8_device_21 : decode cX8_device 21 = .ok (.bipush 20, 2) := by decide +kernel
theorem dX8_device_23 : decode cX8_device 23 = .ok (.if_icmp .ne 11, 3) := by decide +kernel
theorem dX8_device_34 : decode cX8_device 34 = .ok (.iload_n 1, 1) := by decide +kernel
theorem dX8_device_35 : decode cX8_device 35 = .ok (.bipush 21, 2) := by decide +kernel
theorem dX8_device_37 : decode cX8_device 37 = .ok (.if_icmp .lt 23, 3) := by decide +kernel
theorem dX8_device_60 : decode cX8_device 60 = .ok (.iconst 0, 1) := by decide +kernel
theorem dX8_device_61 : decode cX8_device 61 = .ok (.ireturn, 1) := by decide +kernel
theorem dX8_device_40 : decode cX8_device 40 = .ok (.iload_n 1, 1) := by decide +kernel
theorem dX8_device_41 : decode cX8_device 41 = .ok (.bipush 37, 2) := by decide +kernel
theorem dX8_device_43 : decode cX8_device 43 = .ok (.if_icmp .ge 17, 3) := by decide +kernel
theorem dX8_device_46 : decode cX8_device 46 = .ok (.aload_n 0, 1) := by decide +kernel
theorem dX8_device_47 : decode cX8_device 47 = .ok (.getfield 21, 3) := by decide +kernel
theorem dX8_device_50 : decode cX8_device 50 = .ok (.iload_n 1, 1) := by decide +kernel
theorem dX8_device_51 : decode cX8_device 51 = .ok (.bipush 21, 2) := by decide +kernel
theorem dX8_device_53 : decode cX8_device 53 = .ok (.isub, 1) := by decide +kernel
theorem dX8_device_54 : decode cX8_device 54 = .ok (.invokevirtual 155, 3) := by decide +kernel
theorem dX8_device_57 : decode cX8_device 57 = .ok (.goto 4, 3) := by decide +kernel
theorem dX8_device_26 : decode cX8_device 26 = .ok (.aload_n 0, 1) := by decide +kernel
theorem dX8_device_27 : decode cX8_device 27 = .ok (.getfield 21, 3) := by decide +kernel
theorem dX8_device_30 : decode cX8_device 30 = .ok (.invokevirtual 151, 3) := by decide +kernel
theorem dX8_device_33 : decode cX8_device 33 = .ok (.ireturn, 1) := by decide +kernel
theorem dX8_device_4 : decode cX8_device 4 = .ok (.iload_n 1, 1) := by decide +kernel
theorem dX8_device_5 : decode cX8_device 5 = .ok (.bipush 20, 2) := by decide +kernel
theorem dX8_device_7 : decode cX8_device 7 = .ok (.if_icmp .ge 13, 3) := by decide +kernel
theorem dX8_device_10 : decode cX8_device 10 = .ok (.aload_n 0, 1) := by decide +kernel
theorem dX8_device_11 : decode cX8_device 11 = .ok (.getfield 9, 3) := by decide +kernel
theorem dX8_device_14 : decode cX8_device 14 = .ok (.bipush 8, 2) := by decide +kernel
theorem dX8_device_16 : decode cX8_device 16 = .ok (.iload_n 1, 1) := by decide +kernel
theorem dX8_device_17 : decode cX8_device 17 = .ok (.iadd, 1) := by decide +kernel
theorem dX8_device_18 : decode cX8_device 18 = .ok (.iaload, 1) := by decide +kernel
theorem dX8_device_19 : decode cX8_device 19 = .ok (.ireturn, 1) := by decide +kernel
theorem dX8_back_0 : decode cX8_back 0 = .ok (.iload_n 1, 1) := by decide +kernel
theorem dX8_back_1 : decode cX8_back 1 = .ok (.iconst 1, 1) := by decide +kernel
theorem dX8_back_2 : decode cX8_back 2 = .ok (.if_icmp .lt 14, 3) := by decide +kernel
theorem dX8_back_16 : decode cX8_back 16 = .ok (.iconst (-1), 1) := by decide +kernel
theorem dX8_back_17 : decode cX8_back 17 = .ok (.ireturn, 1) := by decide +kernel
theorem dX8_back_5 : decode cX8_back 5 = .ok (.iload_n 1, 1) := by decide +kernel
theorem dX8_back_6 : decode cX8_back 6 = .ok (.aload_n 0, 1) := by decide +kernel
theorem dX8_back_7 : decode cX8_back 7 = .ok (.getfield 28, 3) := by decide +kernel
theorem dX8_back_10 : decode cX8_back 10 = .ok (.getfield 141, 3) := by decide +kernel
theorem dX8_back_13 : decode cX8_back 13 = .ok (.if_icmp .le 5, 3) := by decide +kernel
theorem dX8_back_18 : decode cX8_back 18 = .ok (.iconst 0, 1) := by decide +kernel
theorem dX8_back_19 : decode cX8_back 19 = .ok (.istore_n 2, 1) := by decide +kernel
theorem dX8_back_20 : decode cX8_back 20 = .ok (.iload_n 2, 1) := by decide +kernel
theorem dX8_back_21 : decode cX8_back 21 = .ok (.iload_n 1, 1) := by decide +kernel
theorem dX8_back_22 : decode cX8_back 22 = .ok (.if_icmp .ge 31, 3) := by decide +kernel
theorem dX8_back_53 : decode cX8_back 53 = .ok (.iload_n 1, 1) := by decide +kernel
theorem dX8_back_54 : decode cX8_back 54 = .ok (.ireturn, 1) := by decide +kernel
theorem dX8_back_25 : decode cX8_back 25 = .ok (.aload_n 0, 1) := by decide +kernel
theorem dX8_back_26 : decode cX8_back 26 = .ok (.getfield 28, 3) := by decide +kernel
theorem dX8_back_29 : decode cX8_back 29 = .ok (.aload_n 0, 1) := by decide +kernel
theorem dX8_back_30 : decode cX8_back 30 = .ok (.getfield 9, 3) := by decide +kernel
theorem dX8_back_33 : decode cX8_back 33 = .ok (.aload_n 0, 1) := by decide +kernel
theorem dX8_back_34 : decode cX8_back 34 = .ok (.getfield 13, 3) := by decide +kernel
theorem dX8_back_37 : decode cX8_back 37 = .ok (.aload_n 0, 1) := by decide +kernel
theorem dX8_back_38 : decode cX8_back 38 = .ok (.getfield 37, 3) := by decide +kernel
theorem dX8_back_41 : decode cX8_back 41 = .ok (.getfield 144, 3) := by decide +kernel
theorem dX8_back_44 : decode cX8_back 44 = .ok (.invokevirtual 147, 3) := by decide +kernel
theorem dX8_back_47 : decode cX8_back 47 = .ok (.iinc 2 1, 3) := by decide +kernel
theorem dX8_back_50 : decode cX8_back 50 = .ok (.goto (-30), 3) := by decide +kernel
theorem dX8_codes_0 : decode cX8_codes 0 = .ok (.iload_n 1, 1) := by decide +kernel
theorem dX8_codes_1 : decode cX8_codes 1 = .ok (.ifCond .lt 22, 3) := by decide +kernel
theorem dX8_codes_23 : decode cX8_codes 23 = .ok (.iconst 0, 1) := by decide +kernel
theorem dX8_codes_24 : decode cX8_codes 24 = .ok (.ireturn, 1) := by decide +kernel
theorem dX8_codes_4 : decode cX8_codes 4 = .ok (.iload_n 1, 1) := by decide +kernel
theorem dX8_codes_5 : decode cX8_codes 5 = .ok (.sipush 256, 3) := by decide +kernel
theorem dX8_codes_8 : decode cX8_codes 8 = .ok (.if_icmp .gt 15, 3) := by decide +kernel
theorem dX8_codes_11 : decode cX8_codes 11 = .ok (.aload_n 0, 1) := by decide +kernel
theorem dX8_codes_12 : decode cX8_codes 12 = .ok (.getfield 37, 3) := by decide +kernel
theorem dX8_codes_15 : decode cX8_codes 15 = .ok (.getfield 144, 3) := by decide +kernel
theorem dX8_codes_18 : decode cX8_codes 18 = .ok (.iload_n 1, 1) := by decide +kernel
theorem dX8_codes_19 : decode cX8_codes 19 = .ok (.iaload, 1) := by decide +kernel
theorem dX8_codes_20 : decode cX8_codes 20 = .ok (.goto 4, 3) := by decide +kernel
/-! what the calls answer on a fresh object, in the class's own cases -/
def isA (a : Int32) : Int32 := if a < 0 then 0 else if 4096 ≤ a then 0 else 1
def isB (v : Int32) : Int32 := if v < 0 then 0 else if 255 < v then 0 else 1
theorem idx_of {x : Int32} {n : Nat} (hn : n < 2 ^ 31) (h0 : ¬ x < 0) (h : ¬ nI n ≤ x) : ∃ j : Nat, j < n ∧ x = nI j := by
  rcases pk_ix x hn with q | q | q
  · exact absurd q h0
  · exact absurd q h
  · exact q
theorem idx_le {x : Int32} {n : Nat} (hn : n < 2 ^ 30) (h0 : ¬ x < 0) (h : ¬ nI n < x) : ∃ j : Nat, j ≤ n ∧ x = nI j := by
  obtain ⟨j, hj, rfl⟩ := nI_of h0
  refine ⟨j, ?_, rfl⟩
  rcases Nat.lt_or_ge n j with q | q
  · exact absurd (nI_lt q hj) h
  · exact q
theorem isA_idx {a : Int32} (h : ¬ isA a = 0) : ∃ j : Nat, j < 4096 ∧ a = nI j := by
  unfold isA at h
  by_cases h0 : a < 0
  · rw [if_pos h0] at h; exact absurd rfl h
  · rw [if_neg h0] at h
    by_cases h1 : (4096 : Int32) ≤ a
    · rw [if_pos h1] at h; exact absurd rfl h
    · exact idx_of (n := 4096) (by decide) h0 h1
def fr_at (j : Nat) : Int32 := if j = 3 then 255 else if j = 5 then 4 else if j = 18 then 1 else 0
def sp_peek (a : Int32) : Int32 := if isA a = 0 then -1 else 0
def sp_poke (a v : Int32) : Int32 := if a < 0 then 0 else if 4080 ≤ a then 0 else if isB v = 0 then 0 else 1
def sp_drum (a v : Int32) : Int32 := if a < 0 then 0 else if 64 ≤ a then 0 else if isB v = 0 then 0 else 1
def sp_register (a : Int32) : Int32 := if a < 0 then 0 else if 7 < a then 0 else if a = 3 then 255 else if a = 5 then 4 else 0
theorem sp_reg_at : ∀ j, j ≤ 7 → fr_at j = if nI j = 3 then 255 else if nI j = 5 then 4 else (0 : Int32) := by decide
def sp_end (a : Int32) : Int32 := if a < 0 then -1 else if a ≤ 0 then a else -1
def sp_key (v : Int32) : Int32 := if isB v = 0 then -1 else 1
def sp_stop (a o : Int32) : Int32 := if isA a = 0 then -1 else if o = 0 then 0 else 1
theorem idx_37 {a : Int32} (h1 : ¬ a < 3) (h2 : ¬ 7 < a) : ∃ j : Nat, 3 ≤ j ∧ j ≤ 7 ∧ a = nI j := by
  have h0 : ¬ a < 0 := fun q => h1 (Int32.lt_trans q (by decide))
  obtain ⟨j, hj, rfl⟩ := idx_le (n := 7) (by decide) h0 h2
  refine ⟨j, ?_, hj, rfl⟩
  rcases Nat.lt_or_ge j 3 with q | q
  · exact absurd (nI_lt q (by decide)) h1
  · exact q
theorem idx_25 {a : Int32} {j : Nat} (h : a = nI j) : 28 + a - 3 = nI (25 + j) := by
  subst h
  show nI 28 + nI j - nI 3 = _
  rw [nI_add, pk_sub (by omega)]
  congr 1
  omega
theorem fr_hi {j : Nat} (h : 19 ≤ j) : (if j = 3 then 255 else if j = 5 then 4 else if j = 18 then 1 else (0 : Int32)) = 0 := by
  rw [if_neg (by omega), if_neg (by omega), if_neg (by omega)]
theorem not_le0 {a : Int32} (h : ¬ a < 1) : ¬ a ≤ 0 := fun q => h (Int32.lt_of_le_of_lt q (by decide))
def sp_device (a : Int32) : Int32 := if a < 0 then 0 else if 20 ≤ a then 0 else if a = 10 then 1 else 0
theorem sp_dev_at : ∀ j, j < 20 → fr_at (8 + j) = if nI j = 10 then 1 else (0 : Int32) := by decide
theorem idx_21 {a : Int32} (h : ¬ a < 21) : 0 ≤ a - 21 := by
  have h0 : ¬ a < 0 := fun q => h (Int32.lt_trans q (by decide))
  obtain ⟨j, hj, rfl⟩ := nI_of h0
  have h2 : 21 ≤ j := by
    rcases Nat.lt_or_ge j 21 with q | q
    · exact absurd (nI_lt q (by decide)) h
    · exact q
  show 0 ≤ nI j - nI 21
  rw [pk_sub h2]
  exact nI_pos' (by omega)
theorem isB_idx {v : Int32} (h : ¬ isB v = 0) : ∃ k : Nat, k < 256 ∧ v = nI k := by
  unfold isB at h
  by_cases h0 : v < 0
  · rw [if_pos h0] at h; exact absurd rfl h
  · rw [if_neg h0] at h
    by_cases h1 : (255 : Int32) < v
    · rw [if_pos h1] at h; exact absurd rfl h
    · obtain ⟨k, hk, e⟩ := idx_le (n := 255) (by decide) h0 h1
      exact ⟨k, by omega, e⟩
theorem not_neg {a : Int32} (h : ¬ a < 1) : ¬ a < 0 := fun q => h (Int32.lt_trans q (by decide))
theorem rng21 {a : Int32} (h1 : ¬ a < 21) (h2 : ¬ 37 ≤ a) : ∃ j : Nat, 21 ≤ j ∧ j < 37 ∧ a = nI j := by
  have h0 : ¬ a < 0 := fun q => h1 (Int32.lt_trans q (by decide))
  obtain ⟨j, hj, rfl⟩ := idx_of (n := 37) (by decide) h0 h2
  refine ⟨j, ?_, hj, rfl⟩
  rcases Nat.lt_or_ge j 21 with q | q
  · exact absurd (nI_lt q (by decide)) h1
  · exact q
set_option maxHeartbeats 4000000 in
set_option maxRecDepth 100000 in
theorem c_isAddress (l : Launch) (D : va_G) (cA cB : ClassId) (a : Int32)  : CI l yX8_isAddress cX8_isAddress 1 (some .boolean) 0 0 0 0 D cA cB [.int a] [] (fun r W1 => r = (isA a) ∧ W1 = []) := by
  refine mkI (lv0 := [(0, .int a)]) (by decide) (Nat.le_of_ble_eq_true rfl) rfl ?_
  intro p e s m below meth c A ls X hr hlocks hnm hE hA hP hD hS hl
  have hx := X.1
  have hb := X.2.1
  refine lv_iload_n hx hb dX8_isAddress_0 rfl (lv_at hl 0 rfl) ?_
  refine lv_if_lt (tgt := 15) hx hb dX8_isAddress_1 (by decide) (fun c_1 => ?_) (fun c_1 => ?_)
  · skip
    refine lv_iconst (v := 0) hx hb dX8_isAddress_15 (by decide) ?_
    exact endZ X hr rfl hlocks hP hD hS dX8_isAddress_16 ⟨(by unfold isA; rw [if_pos c_1]), rfl⟩
  · skip
    refine lv_iload_n hx hb dX8_isAddress_4 rfl (lv_at hl 0 rfl) ?_
    refine lv_sipush (v := 4096) hx hb dX8_isAddress_5 (by decide) ?_
    refine lv_icmp_ge (tgt := 15) hx hb dX8_isAddress_8 (by decide) (fun c_8 => ?_) (fun c_8 => ?_)
    · skip
      refine lv_iconst (v := 0) hx hb dX8_isAddress_15 (by decide) ?_
      exact endZ X hr rfl hlocks hP hD hS dX8_isAddress_16 ⟨(by unfold isA; rw [if_neg c_1, if_pos c_8]), rfl⟩
    · skip
      refine lv_iconst (v := 1) hx hb dX8_isAddress_11 (by decide) ?_
      refine lv_goto (tgt := 16) hx hb dX8_isAddress_12 (by decide) ?_
      exact endZ X hr rfl hlocks hP hD hS dX8_isAddress_16 ⟨(by unfold isA; rw [if_neg c_1, if_neg c_8]), rfl⟩
set_option maxHeartbeats 4000000 in
set_option maxRecDepth 100000 in
theorem c_isByte (l : Launch) (D : va_G) (cA cB : ClassId) (v : Int32)  : CI l yX8_isByte cX8_isByte 1 (some .boolean) 0 0 0 0 D cA cB [.int v] [] (fun r W1 => r = (isB v) ∧ W1 = []) := by
  refine mkI (lv0 := [(0, .int v)]) (by decide) (Nat.le_of_ble_eq_true rfl) rfl ?_
  intro p e s m below meth c A ls X hr hlocks hnm hE hA hP hD hS hl
  have hx := X.1
  have hb := X.2.1
  refine lv_iload_n hx hb dX8_isByte_0 rfl (lv_at hl 0 rfl) ?_
  refine lv_if_lt (tgt := 15) hx hb dX8_isByte_1 (by decide) (fun c_1 => ?_) (fun c_1 => ?_)
  · skip
    refine lv_iconst (v := 0) hx hb dX8_isByte_15 (by decide) ?_
    exact endZ X hr rfl hlocks hP hD hS dX8_isByte_16 ⟨(by unfold isB; rw [if_pos c_1]), rfl⟩
  · skip
    refine lv_iload_n hx hb dX8_isByte_4 rfl (lv_at hl 0 rfl) ?_
    refine lv_sipush (v := 255) hx hb dX8_isByte_5 (by decide) ?_
    refine lv_icmp_gt (tgt := 15) hx hb dX8_isByte_8 (by decide) (fun c_8 => ?_) (fun c_8 => ?_)
    · skip
      refine lv_iconst (v := 0) hx hb dX8_isByte_15 (by decide) ?_
      exact endZ X hr rfl hlocks hP hD hS dX8_isByte_16 ⟨(by unfold isB; rw [if_neg c_1, if_pos c_8]), rfl⟩
    · skip
      refine lv_iconst (v := 1) hx hb dX8_isByte_11 (by decide) ?_
      refine lv_goto (tgt := 16) hx hb dX8_isByte_12 (by decide) ?_
      exact endZ X hr rfl hlocks hP hD hS dX8_isByte_16 ⟨(by unfold isB; rw [if_neg c_1, if_neg c_8]), rfl⟩
set_option maxHeartbeats 4000000 in
set_option maxRecDepth 100000 in
theorem c_s_peek (l : Launch) (D : va_G) (cA cB : ClassId) (h0 : Nat) (hn : Nat) (hs : Nat) (hd : Nat) (hp : Nat) (qr : Nat) (qst : Nat) (qa : Nat) (qm : Nat) (qe : Nat) (hc : Nat) (h1 : Nat) (h2 : Nat) (h3 : Nat) (h4 : Nat) (he : Nat) (wy : Int32) (dn : Int32) (la : Nat) (ke : Nat) (f : Nat → Int32) (st : Nat → Int32) (pn : Nat → Int32) (wt : Nat → Int32) (rg : Nat → Int32) (pa : Nat → Int32) (en : Nat → Int32) (ct : Nat → Int32) (a : Int32) (hla : la < 256) (hke : ke < 257) (hf : okN f) (hst : ∀ j, j < 4096 → ∃ k : Nat, k < 256 ∧ st j = nI k) (hpn : ∀ j, j < 64 → ∃ k : Nat, k < 256 ∧ pn j = nI k) (hwt : ∀ j, j < 16 → ∃ k : Nat, k < 256 ∧ wt j = nI k) (hen : okE en) : CI l yX8_peek cX8_peek 2 (some .int) 1 20 0 0 D cA cB [.ref h0, .int a] [(h0, .inr (8, [.ref hn, .ref hs, .ref hd, .ref hp, .ref qr, .ref qst, .ref qa, .ref qm, .ref qe])), (qr, .inr (4, [.ref hn, .ref hs, .ref hd, .ref hp, .ref hc, .int wy, .int dn])), (hd, .inr (1, [.ref hn, .ref h1, .ref h2, .ref h3, .ref h4])), (hp, .inr (3, [.ref he, .int (nI la), .int (nI ke)])), (hn, .inl (cA, 34, .inl f)), (hs, .inl (cA, 4096, .inl st)), (h1, .inl (cA, 64, .inl pn)), (h2, .inl (cA, 16, .inl wt)), (h3, .inl (cA, 900, .inl rg)), (h4, .inl (cA, 200, .inl pa)), (he, .inl (cA, 10752, .inl en)), (hc, .inl (cA, 257, .inl ct))] (fun r W1 => ∃ (wy2 : Int32) (dn2 : Int32) (la2 : Nat) (ke2 : Nat) (f2 : Nat → Int32) (st2 : Nat → Int32) (pn2 : Nat → Int32) (wt2 : Nat → Int32) (rg2 : Nat → Int32) (pa2 : Nat → Int32) (en2 : Nat → Int32) (ct2 : Nat → Int32) (rv : Int32), r = rv ∧ (la2 < 256) ∧ (ke2 < 257) ∧ (okN f2) ∧ (∀ j, j < 4096 → ∃ k : Nat, k < 256 ∧ st2 j = nI k) ∧ (∀ j, j < 64 → ∃ k : Nat, k < 256 ∧ pn2 j = nI k) ∧ (∀ j, j < 16 → ∃ k : Nat, k < 256 ∧ wt2 j = nI k) ∧ (okE en2) ∧ W1 = [(h0, .inr (8, [.ref hn, .ref hs, .ref hd, .ref hp, .ref qr, .ref qst, .ref qa, .ref qm, .ref qe])), (qr, .inr (4, [.ref hn, .ref hs, .ref hd, .ref hp, .ref hc, .int wy2, .int dn2])), (hd, .inr (1, [.ref hn, .ref h1, .ref h2, .ref h3, .ref h4])), (hp, .inr (3, [.ref he, .int (nI la2), .int (nI ke2)])), (hn, .inl (cA, 34, .inl f2)), (hs, .inl (cA, 4096, .inl st2)), (h1, .inl (cA, 64, .inl pn2)), (h2, .inl (cA, 16, .inl wt2)), (h3, .inl (cA, 900, .inl rg2)), (h4, .inl (cA, 200, .inl pa2)), (he, .inl (cA, 10752, .inl en2)), (hc, .inl (cA, 257, .inl ct2))]) := by
  refine mkI (lv0 := [(0, .ref h0), (1, .int a)]) (by decide) (Nat.le_of_ble_eq_true rfl) rfl ?_
  intro p e s m below meth c A ls X hr hlocks hnm hE hA hP hD hS hl
  have hx := X.1
  have hb := X.2.1
  refine lv_iload_n hx hb dX8_peek_0 rfl (lv_at hl 1 rfl) ?_
  refine kSi (n3 := 1) (As := [.int a]) (rest := []) X hl.1 hE hP hD hS hA [] [(h0, .inr (8, [.ref hn, .ref hs, .ref hd, .ref hp, .ref qr, .ref qst, .ref qa, .ref qm, .ref qe])), (qr, .inr (4, [.ref hn, .ref hs, .ref hd, .ref hp, .ref hc, .int wy, .int dn])), (hd, .inr (1, [.ref hn, .ref h1, .ref h2, .ref h3, .ref h4])), (hp, .inr (3, [.ref he, .int (nI la), .int (nI ke)])), (hn, .inl (cA, 34, .inl f)), (hs, .inl (cA, 4096, .inl st)), (h1, .inl (cA, 64, .inl pn)), (h2, .inl (cA, 16, .inl wt)), (h3, .inl (cA, 900, .inl rg)), (h4, .inl (cA, 200, .inl pa)), (he, .inl (cA, 10752, .inl en)), (hc, .inl (cA, 257, .inl ct))] [] [0, 1, 2, 3, 4, 5, 6, 7, 8, 9, 10, 11] rfl rfl rfl (by decide +kernel) (by decide +kernel) (by decide +kernel) (c_isAddress l D cA cB a ) w_311 w_107 w_310 w_312 (by decide +kernel) rfl rfl (Nat.le_of_ble_eq_true rfl) ⟨(Nat.le_of_ble_eq_true rfl), (Nat.le_of_ble_eq_true rfl)⟩ ⟨(Nat.le_of_ble_eq_true rfl), (Nat.le_of_ble_eq_true rfl)⟩ dX8_peek_1 (fun r W1 H locs hw hP hD hS => ?_)
  obtain ⟨rfl, rfl⟩ := hw
  have hP : va_P D classes [(h0, .inr (8, [.ref hn, .ref hs, .ref hd, .ref hp, .ref qr, .ref qst, .ref qa, .ref qm, .ref qe])), (qr, .inr (4, [.ref hn, .ref hs, .ref hd, .ref hp, .ref hc, .int wy, .int dn])), (hd, .inr (1, [.ref hn, .ref h1, .ref h2, .ref h3, .ref h4])), (hp, .inr (3, [.ref he, .int (nI la), .int (nI ke)])), (hn, .inl (cA, 34, .inl f)), (hs, .inl (cA, 4096, .inl st)), (h1, .inl (cA, 64, .inl pn)), (h2, .inl (cA, 16, .inl wt)), (h3, .inl (cA, 900, .inl rg)), (h4, .inl (cA, 200, .inl pa)), (he, .inl (cA, 10752, .inl en)), (hc, .inl (cA, 257, .inl ct))] H := hP
  have hD : va_D A [(h0, .inr (8, [.ref hn, .ref hs, .ref hd, .ref hp, .ref qr, .ref qst, .ref qa, .ref qm, .ref qe])), (qr, .inr (4, [.ref hn, .ref hs, .ref hd, .ref hp, .ref hc, .int wy, .int dn])), (hd, .inr (1, [.ref hn, .ref h1, .ref h2, .ref h3, .ref h4])), (hp, .inr (3, [.ref he, .int (nI la), .int (nI ke)])), (hn, .inl (cA, 34, .inl f)), (hs, .inl (cA, 4096, .inl st)), (h1, .inl (cA, 64, .inl pn)), (h2, .inl (cA, 16, .inl wt)), (h3, .inl (cA, 900, .inl rg)), (h4, .inl (cA, 200, .inl pa)), (he, .inl (cA, 10752, .inl en)), (hc, .inl (cA, 257, .inl ct))] := hD
  refine lv_if_eq (tgt := 16) hx hb dX8_peek_4 (by decide) (fun c_4 => ?_) (fun c_4 => ?_)
  · skip
    refine lv_iconst (v := (-1)) hx hb dX8_peek_16 (by decide) ?_
    exact endI X hr hlocks hP hD hS dX8_peek_17 ⟨wy, dn, la, ke, f, st, pn, wt, rg, pa, en, ct, (-1), rfl, (by omega), (by omega), hf, hst, hpn, hwt, hen, rfl⟩
  · skip
    obtain ⟨j, hj, ej⟩ := isA_idx c_4
    rw [ej] at hl
    refine lv_aload_n hx hb dX8_peek_7 rfl (lv_at hl 0 rfl) ?_
    refine k_get (C := RX8) (T := TX8) (N := 9) (ci := 8) (v := .ref hs) X hE hP 0 rfl rfl iX8 1 (by decide) w_313 rfl dX8_peek_8 ?_
    refine lv_iload_n hx hb dX8_peek_11 rfl (lv_at hl 1 rfl) ?_
    obtain ⟨k_1, hk_1, ek_1⟩ := hst j (by omega)
    refine k_ald (v := nI k_1) X hE hP 5 rfl j rfl (by omega) (by decide) ek_1 dX8_peek_12 ?_
    refine lv_goto (tgt := 17) hx hb dX8_peek_13 (by decide) ?_
    exact endI X hr hlocks hP hD hS dX8_peek_17 ⟨wy, dn, la, ke, f, st, pn, wt, rg, pa, en, ct, (nI k_1), rfl, (by omega), (by omega), hf, hst, hpn, hwt, hen, rfl⟩
set_option maxHeartbeats 4000000 in
set_option maxRecDepth 100000 in
theorem c_s_restart (l : Launch) (D : va_G) (cA cB : ClassId) (h0 : Nat) (hn : Nat) (hs : Nat) (hd : Nat) (hp : Nat) (qr : Nat) (qst : Nat) (qa : Nat) (qm : Nat) (qe : Nat) (hc : Nat) (h1 : Nat) (h2 : Nat) (h3 : Nat) (h4 : Nat) (he : Nat) (wy : Int32) (dn : Int32) (la : Nat) (ke : Nat) (f : Nat → Int32) (st : Nat → Int32) (pn : Nat → Int32) (wt : Nat → Int32) (rg : Nat → Int32) (pa : Nat → Int32) (en : Nat → Int32) (ct : Nat → Int32) (hla : la < 256) (hke : ke < 257) (hf : okN f) (hst : ∀ j, j < 4096 → ∃ k : Nat, k < 256 ∧ st j = nI k) (hpn : ∀ j, j < 64 → ∃ k : Nat, k < 256 ∧ pn j = nI k) (hwt : ∀ j, j < 16 → ∃ k : Nat, k < 256 ∧ wt j = nI k) (hen : okE en) : CV l yX8_restart cX8_restart 1 none 4 82 0 0 D cA cB [.ref h0] [(h0, .inr (8, [.ref hn, .ref hs, .ref hd, .ref hp, .ref qr, .ref qst, .ref qa, .ref qm, .ref qe])), (qr, .inr (4, [.ref hn, .ref hs, .ref hd, .ref hp, .ref hc, .int wy, .int dn])), (hd, .inr (1, [.ref hn, .ref h1, .ref h2, .ref h3, .ref h4])), (hp, .inr (3, [.ref he, .int (nI la), .int (nI ke)])), (hn, .inl (cA, 34, .inl f)), (hs, .inl (cA, 4096, .inl st)), (h1, .inl (cA, 64, .inl pn)), (h2, .inl (cA, 16, .inl wt)), (h3, .inl (cA, 900, .inl rg)), (h4, .inl (cA, 200, .inl pa)), (he, .inl (cA, 10752, .inl en)), (hc, .inl (cA, 257, .inl ct))] (fun W1 => ∃ (wy2 : Int32) (dn2 : Int32) (la2 : Nat) (ke2 : Nat) (f2 : Nat → Int32) (st2 : Nat → Int32) (pn2 : Nat → Int32) (wt2 : Nat → Int32) (rg2 : Nat → Int32) (pa2 : Nat → Int32) (en2 : Nat → Int32) (ct2 : Nat → Int32), (la2 < 256) ∧ (ke2 < 257) ∧ (okN f2) ∧ (∀ j, j < 4096 → ∃ k : Nat, k < 256 ∧ st2 j = nI k) ∧ (∀ j, j < 64 → ∃ k : Nat, k < 256 ∧ pn2 j = nI k) ∧ (∀ j, j < 16 → ∃ k : Nat, k < 256 ∧ wt2 j = nI k) ∧ (okE en2) ∧ W1 = [(h0, .inr (8, [.ref hn, .ref hs, .ref hd, .ref hp, .ref qr, .ref qst, .ref qa, .ref qm, .ref qe])), (qr, .inr (4, [.ref hn, .ref hs, .ref hd, .ref hp, .ref hc, .int wy2, .int dn2])), (hd, .inr (1, [.ref hn, .ref h1, .ref h2, .ref h3, .ref h4])), (hp, .inr (3, [.ref he, .int (nI la2), .int (nI ke2)])), (hn, .inl (cA, 34, .inl f2)), (hs, .inl (cA, 4096, .inl st2)), (h1, .inl (cA, 64, .inl pn2)), (h2, .inl (cA, 16, .inl wt2)), (h3, .inl (cA, 900, .inl rg2)), (h4, .inl (cA, 200, .inl pa2)), (he, .inl (cA, 10752, .inl en2)), (hc, .inl (cA, 257, .inl ct2))]) := by
  refine mkV (lv0 := [(0, .ref h0)]) (by decide) (Nat.le_of_ble_eq_true rfl) rfl ?_
  intro p e s m below meth c A ls X hr hlocks hnm hE hA hP hD hS hl
  have hx := X.1
  have hb := X.2.1
  refine lv_aload_n hx hb dX8_restart_0 rfl (lv_at hl 0 rfl) ?_
  refine k_get (C := RX8) (T := TX8) (N := 9) (ci := 8) (v := .ref qr) X hE hP 0 rfl rfl iX8 4 (by decide) w_314 rfl dX8_restart_1 ?_
  refine kVv (n3 := 0) (As := []) (rest := []) X hl.1 hE hP hD hS hA [(qr, .inr (4, [.ref hn, .ref hs, .ref hd, .ref hp, .ref hc, .int wy, .int dn])), (hp, .inr (3, [.ref he, .int (nI la), .int (nI ke)])), (hn, .inl (cA, 34, .inl f)), (hs, .inl (cA, 4096, .inl st)), (he, .inl (cA, 10752, .inl en)), (hc, .inl (cA, 257, .inl ct))] [(h0, .inr (8, [.ref hn, .ref hs, .ref hd, .ref hp, .ref qr, .ref qst, .ref qa, .ref qm, .ref qe])), (hd, .inr (1, [.ref hn, .ref h1, .ref h2, .ref h3, .ref h4])), (h1, .inl (cA, 64, .inl pn)), (h2, .inl (cA, 16, .inl wt)), (h3, .inl (cA, 900, .inl rg)), (h4, .inl (cA, 200, .inl pa))] [1, 3, 4, 5, 10, 11] [0, 2, 6, 7, 8, 9] rfl rfl rfl (by decide +kernel) (by decide +kernel) (by decide +kernel) (c_s_beginAnew l D cA cB qr hn hs hd hp hc he wy dn la ke f st en ct (by first | assumption | decide | rfl | omega) (by first | assumption | decide | rfl | omega) hf hst hen) w_316 w_66 w_315 w_317 w_318 0 (ci := 4) (T := TX4) (N := 7) rfl rfl (by decide +kernel) rfl rfl (Nat.le_of_ble_eq_true rfl) ⟨(Nat.le_of_ble_eq_true rfl), (Nat.le_of_ble_eq_true rfl)⟩ ⟨(Nat.le_of_ble_eq_true rfl), (Nat.le_of_ble_eq_true rfl)⟩ dX8_restart_4 (fun W1 H locs hw hP hD hS => ?_)
  obtain ⟨wy2_1, dn2_2, la2_3, ke2_4, f2_5, st2_6, en2_7, ct2_8, hf_9, hf_10, hf_11, hf_12, hf_13, rfl⟩ := hw
  have hP : va_P D classes [(h0, .inr (8, [.ref hn, .ref hs, .ref hd, .ref hp, .ref qr, .ref qst, .ref qa, .ref qm, .ref qe])), (hd, .inr (1, [.ref hn, .ref h1, .ref h2, .ref h3, .ref h4])), (h1, .inl (cA, 64, .inl pn)), (h2, .inl (cA, 16, .inl wt)), (h3, .inl (cA, 900, .inl rg)), (h4, .inl (cA, 200, .inl pa)), (qr, .inr (4, [.ref hn, .ref hs, .ref hd, .ref hp, .ref hc, .int wy2_1, .int dn2_2])), (hp, .inr (3, [.ref he, .int (nI la2_3), .int (nI ke2_4)])), (hn, .inl (cA, 34, .inl f2_5)), (hs, .inl (cA, 4096, .inl st2_6)), (he, .inl (cA, 10752, .inl en2_7)), (hc, .inl (cA, 257, .inl ct2_8))] H := hP
  have hD : va_D A [(h0, .inr (8, [.ref hn, .ref hs, .ref hd, .ref hp, .ref qr, .ref qst, .ref qa, .ref qm, .ref qe])), (hd, .inr (1, [.ref hn, .ref h1, .ref h2, .ref h3, .ref h4])), (h1, .inl (cA, 64, .inl pn)), (h2, .inl (cA, 16, .inl wt)), (h3, .inl (cA, 900, .inl rg)), (h4, .inl (cA, 200, .inl pa)), (qr, .inr (4, [.ref hn, .ref hs, .ref hd, .ref hp, .ref hc, .int wy2_1, .int dn2_2])), (hp, .inr (3, [.ref he, .int (nI la2_3), .int (nI ke2_4)])), (hn, .inl (cA, 34, .inl f2_5)), (hs, .inl (cA, 4096, .inl st2_6)), (he, .inl (cA, 10752, .inl en2_7)), (hc, .inl (cA, 257, .inl ct2_8))] := hD
  have hP : va_P D classes [(h0, .inr (8, [.ref hn, .ref hs, .ref hd, .ref hp, .ref qr, .ref qst, .ref qa, .ref qm, .ref qe])), (qr, .inr (4, [.ref hn, .ref hs, .ref hd, .ref hp, .ref hc, .int wy2_1, .int dn2_2])), (hd, .inr (1, [.ref hn, .ref h1, .ref h2, .ref h3, .ref h4])), (hp, .inr (3, [.ref he, .int (nI la2_3), .int (nI ke2_4)])), (hn, .inl (cA, 34, .inl f2_5)), (hs, .inl (cA, 4096, .inl st2_6)), (h1, .inl (cA, 64, .inl pn)), (h2, .inl (cA, 16, .inl wt)), (h3, .inl (cA, 900, .inl rg)), (h4, .inl (cA, 200, .inl pa)), (he, .inl (cA, 10752, .inl en2_7)), (hc, .inl (cA, 257, .inl ct2_8))] _ := hP.sub [0, 6, 1, 7, 8, 9, 2, 3, 4, 5, 10, 11] rfl
  have hD : va_D A [(h0, .inr (8, [.ref hn, .ref hs, .ref hd, .ref hp, .ref qr, .ref qst, .ref qa, .ref qm, .ref qe])), (qr, .inr (4, [.ref hn, .ref hs, .ref hd, .ref hp, .ref hc, .int wy2_1, .int dn2_2])), (hd, .inr (1, [.ref hn, .ref h1, .ref h2, .ref h3, .ref h4])), (hp, .inr (3, [.ref he, .int (nI la2_3), .int (nI ke2_4)])), (hn, .inl (cA, 34, .inl f2_5)), (hs, .inl (cA, 4096, .inl st2_6)), (h1, .inl (cA, 64, .inl pn)), (h2, .inl (cA, 16, .inl wt)), (h3, .inl (cA, 900, .inl rg)), (h4, .inl (cA, 200, .inl pa)), (he, .inl (cA, 10752, .inl en2_7)), (hc, .inl (cA, 257, .inl ct2_8))] := hD.sub [0, 6, 1, 7, 8, 9, 2, 3, 4, 5, 10, 11] (by decide) rfl
  exact endV X hr hlocks hP hD hS dX8_restart_7 ⟨wy2_1, dn2_2, la2_3, ke2_4, f2_5, st2_6, pn, wt, rg, pa, en2_7, ct2_8, (by omega), (by omega), hf_11, hf_12, hpn, hwt, hf_13, rfl⟩
set_option maxHeartbeats 4000000 in
set_option maxRecDepth 100000 in
theorem c_s_run (l : Launch) (D : va_G) (cA cB : ClassId) (h0 : Nat) (hn : Nat) (hs : Nat) (hd : Nat) (hp : Nat) (qr : Nat) (qst : Nat) (qa : Nat) (qm : Nat) (qe : Nat) (hc : Nat) (h1 : Nat) (h2 : Nat) (h3 : Nat) (h4 : Nat) (he : Nat) (qsp : Nat) (wy : Int32) (dn : Int32) (la : Nat) (ke : Nat) (cn : Nat) (f : Nat → Int32) (st : Nat → Int32) (pn : Nat → Int32) (wt : Nat → Int32) (rg : Nat → Int32) (pa : Nat → Int32) (en : Nat → Int32) (ct : Nat → Int32) (sg : Nat → Int32) (a : Int32) (hla : la < 256) (hke : ke < 257) (hcn : cn < 17) (hf : okN f) (hst : ∀ j, j < 4096 → ∃ k : Nat, k < 256 ∧ st j = nI k) (hpn : ∀ j, j < 64 → ∃ k : Nat, k < 256 ∧ pn j = nI k) (hwt : ∀ j, j < 16 → ∃ k : Nat, k < 256 ∧ wt j = nI k) (hen : okE en) : CI l yX8_run cX8_run 2 (some .int) 7 158 0 0 D cA cB [.ref h0, .int a] [(h0, .inr (8, [.ref hn, .ref hs, .ref hd, .ref hp, .ref qr, .ref qst, .ref qa, .ref qm, .ref qe])), (qr, .inr (4, [.ref hn, .ref hs, .ref hd, .ref hp, .ref hc, .int wy, .int dn])), (hd, .inr (1, [.ref hn, .ref h1, .ref h2, .ref h3, .ref h4])), (hp, .inr (3, [.ref he, .int (nI la), .int (nI ke)])), (qst, .inr (6, [.ref qsp, .int (nI cn)])), (hn, .inl (cA, 34, .inl f)), (hs, .inl (cA, 4096, .inl st)), (h1, .inl (cA, 64, .inl pn)), (h2, .inl (cA, 16, .inl wt)), (h3, .inl (cA, 900, .inl rg)), (h4, .inl (cA, 200, .inl pa)), (he, .inl (cA, 10752, .inl en)), (hc, .inl (cA, 257, .inl ct)), (qsp, .inl (cA, 16, .inl sg))] (fun r W1 => ∃ (wy2 : Int32) (dn2 : Int32) (la2 : Nat) (ke2 : Nat) (f2 : Nat → Int32) (st2 : Nat → Int32) (pn2 : Nat → Int32) (wt2 : Nat → Int32) (rg2 : Nat → Int32) (pa2 : Nat → Int32) (en2 : Nat → Int32) (ct2 : Nat → Int32) (rv : Int32), r = rv ∧ (la2 < 256) ∧ (ke2 < 257) ∧ (okN f2) ∧ (∀ j, j < 4096 → ∃ k : Nat, k < 256 ∧ st2 j = nI k) ∧ (∀ j, j < 64 → ∃ k : Nat, k < 256 ∧ pn2 j = nI k) ∧ (∀ j, j < 16 → ∃ k : Nat, k < 256 ∧ wt2 j = nI k) ∧ (okE en2) ∧ W1 = [(h0, .inr (8, [.ref hn, .ref hs, .ref hd, .ref hp, .ref qr, .ref qst, .ref qa, .ref qm, .ref qe])), (qr, .inr (4, [.ref hn, .ref hs, .ref hd, .ref hp, .ref hc, .int wy2, .int dn2])), (hd, .inr (1, [.ref hn, .ref h1, .ref h2, .ref h3, .ref h4])), (hp, .inr (3, [.ref he, .int (nI la2), .int (nI ke2)])), (qst, .inr (6, [.ref qsp, .int (nI cn)])), (hn, .inl (cA, 34, .inl f2)), (hs, .inl (cA, 4096, .inl st2)), (h1, .inl (cA, 64, .inl pn2)), (h2, .inl (cA, 16, .inl wt2)), (h3, .inl (cA, 900, .inl rg2)), (h4, .inl (cA, 200, .inl pa2)), (he, .inl (cA, 10752, .inl en2)), (hc, .inl (cA, 257, .inl ct2)), (qsp, .inl (cA, 16, .inl sg))]) := by
  refine mkI (lv0 := [(0, .ref h0), (1, .int a)]) (by decide) (Nat.le_of_ble_eq_true rfl) rfl ?_
  intro p e s m below meth c A ls X hr hlocks hnm hE hA hP hD hS hl
  have hx := X.1
  have hb := X.2.1
  refine qW (fun Q9 hQ9 => ?_)
  refine lv_iload_n hx hb dX8_run_0 rfl (lv_at hl 1 rfl) ?_
  refine lv_iconst (v := 1) hx hb dX8_run_1 (by decide) ?_
  refine lv_icmp_lt (tgt := 12) hx hb dX8_run_2 (by decide) (fun c_2 => ?_) (fun c_2 => ?_)
  · skip
    refine lv_iconst (v := (-1)) hx hb dX8_run_12 (by decide) ?_
    rw [hQ9]
    exact endI X hr hlocks hP hD hS dX8_run_13 ⟨wy, dn, la, ke, f, st, pn, wt, rg, pa, en, ct, (-1), rfl, hla, hke, hf, hst, hpn, hwt, hen, rfl⟩
  · skip
    refine lv_iload_n hx hb dX8_run_5 rfl (lv_at hl 1 rfl) ?_
    refine lv_sipush (v := 2000) hx hb dX8_run_6 (by decide) ?_
    refine lv_icmp_le (tgt := 14) hx hb dX8_run_9 (by decide) (fun c_9 => ?_) (fun c_9 => ?_)
    · skip
      obtain ⟨j, hj, ej⟩ := idx_le (n := 2000) (by decide) (fun q => c_2 (Int32.lt_trans q (by decide))) (Int32.not_lt.mpr c_9)
      rw [ej] at hl
      refine lv_aload_n hx hb dX8_run_14 rfl (lv_at hl 0 rfl) ?_
      refine k_get (C := RX8) (T := TX8) (N := 9) (ci := 8) (v := .ref qr) X hE hP 0 rfl rfl iX8 4 (by decide) w_314 rfl dX8_run_15 ?_
      refine lv_iload_n hx hb dX8_run_18 rfl (lv_at hl 1 rfl) ?_
      refine lv_aload_n hx hb dX8_run_19 rfl (lv_at hl 0 rfl) ?_
      refine k_get (C := RX8) (T := TX8) (N := 9) (ci := 8) (v := .ref qst) X hE hP 0 rfl rfl iX8 5 (by decide) w_319 rfl dX8_run_20 ?_
      refine kVi (n3 := 2) (As := [.int (nI j), .ref qst]) (rest := []) X hl.1 hE hP hD hS hA [(qr, .inr (4, [.ref hn, .ref hs, .ref hd, .ref hp, .ref hc, .int wy, .int dn])), (hd, .inr (1, [.ref hn, .ref h1, .ref h2, .ref h3, .ref h4])), (hp, .inr (3, [.ref he, .int (nI la), .int (nI ke)])), (qst, .inr (6, [.ref qsp, .int (nI cn)])), (hn, .inl (cA, 34, .inl f)), (hs, .inl (cA, 4096, .inl st)), (h1, .inl (cA, 64, .inl pn)), (h2, .inl (cA, 16, .inl wt)), (h3, .inl (cA, 900, .inl rg)), (h4, .inl (cA, 200, .inl pa)), (he, .inl (cA, 10752, .inl en)), (hc, .inl (cA, 257, .inl ct)), (qsp, .inl (cA, 16, .inl sg))] [(h0, .inr (8, [.ref hn, .ref hs, .ref hd, .ref hp, .ref qr, .ref qst, .ref qa, .ref qm, .ref qe]))] [1, 2, 3, 4, 5, 6, 7, 8, 9, 10, 11, 12, 13] [0] rfl rfl rfl (by decide +kernel) (by decide +kernel) (by decide +kernel) (c_s_doSteps l D cA cB qr hn hs hd hp hc h1 h2 h3 h4 he qst qsp wy dn la ke cn f st pn wt rg pa en ct sg j hla hke hcn hf hst hpn hwt hen (by first | assumption | omega | decide | rfl)) w_321 w_66 w_320 w_322 w_323 0 (ci := 4) (T := TX4) (N := 7) rfl rfl (by decide +kernel) rfl rfl (Nat.le_of_ble_eq_true rfl) ⟨(Nat.le_of_ble_eq_true rfl), (Nat.le_of_ble_eq_true rfl)⟩ ⟨(Nat.le_of_ble_eq_true rfl), (Nat.le_of_ble_eq_true rfl)⟩ dX8_run_23 (fun r W1 H locs hw hP hD hS => ?_)
      obtain ⟨wy2_1, dn2_2, la2_3, ke2_4, f2_5, st2_6, pn2_7, wt2_8, rg2_9, pa2_10, en2_11, ct2_12, rv_13, er_21, hf_14, hf_15, hf_16, hf_17, hf_18, hf_19, hf_20, rfl⟩ := hw
      have hP : va_P D classes [(h0, .inr (8, [.ref hn, .ref hs, .ref hd, .ref hp, .ref qr, .ref qst, .ref qa, .ref qm, .ref qe])), (qr, .inr (4, [.ref hn, .ref hs, .ref hd, .ref hp, .ref hc, .int wy2_1, .int dn2_2])), (hd, .inr (1, [.ref hn, .ref h1, .ref h2, .ref h3, .ref h4])), (hp, .inr (3, [.ref he, .int (nI la2_3), .int (nI ke2_4)])), (qst, .inr (6, [.ref qsp, .int (nI cn)])), (hn, .inl (cA, 34, .inl f2_5)), (hs, .inl (cA, 4096, .inl st2_6)), (h1, .inl (cA, 64, .inl pn2_7)), (h2, .inl (cA, 16, .inl wt2_8)), (h3, .inl (cA, 900, .inl rg2_9)), (h4, .inl (cA, 200, .inl pa2_10)), (he, .inl (cA, 10752, .inl en2_11)), (hc, .inl (cA, 257, .inl ct2_12)), (qsp, .inl (cA, 16, .inl sg))] H := hP
      have hD : va_D A [(h0, .inr (8, [.ref hn, .ref hs, .ref hd, .ref hp, .ref qr, .ref qst, .ref qa, .ref qm, .ref qe])), (qr, .inr (4, [.ref hn, .ref hs, .ref hd, .ref hp, .ref hc, .int wy2_1, .int dn2_2])), (hd, .inr (1, [.ref hn, .ref h1, .ref h2, .ref h3, .ref h4])), (hp, .inr (3, [.ref he, .int (nI la2_3), .int (nI ke2_4)])), (qst, .inr (6, [.ref qsp, .int (nI cn)])), (hn, .inl (cA, 34, .inl f2_5)), (hs, .inl (cA, 4096, .inl st2_6)), (h1, .inl (cA, 64, .inl pn2_7)), (h2, .inl (cA, 16, .inl wt2_8)), (h3, .inl (cA, 900, .inl rg2_9)), (h4, .inl (cA, 200, .inl pa2_10)), (he, .inl (cA, 10752, .inl en2_11)), (hc, .inl (cA, 257, .inl ct2_12)), (qsp, .inl (cA, 16, .inl sg))] := hD
      refine tk (y := rv_13) er_21 ?_
      rw [hQ9]
      exact endI X hr hlocks hP hD hS dX8_run_26 ⟨wy2_1, dn2_2, la2_3, ke2_4, f2_5, st2_6, pn2_7, wt2_8, rg2_9, pa2_10, en2_11, ct2_12, rv_13, rfl, hf_14, hf_15, hf_16, hf_17, hf_18, hf_19, hf_20, rfl⟩
    · skip
      refine lv_iconst (v := (-1)) hx hb dX8_run_12 (by decide) ?_
      rw [hQ9]
      exact endI X hr hlocks hP hD hS dX8_run_13 ⟨wy, dn, la, ke, f, st, pn, wt, rg, pa, en, ct, (-1), rfl, hla, hke, hf, hst, hpn, hwt, hen, rfl⟩
set_option maxHeartbeats 4000000 in
set_option maxRecDepth 100000 in
theorem c_s_register (l : Launch) (D : va_G) (cA cB : ClassId) (h0 : Nat) (hn : Nat) (hs : Nat) (hd : Nat) (hp : Nat) (qr : Nat) (qst : Nat) (qa : Nat) (qm : Nat) (qe : Nat) (hc : Nat) (h1 : Nat) (h2 : Nat) (h3 : Nat) (h4 : Nat) (he : Nat) (wy : Int32) (dn : Int32) (la : Nat) (ke : Nat) (f : Nat → Int32) (st : Nat → Int32) (pn : Nat → Int32) (wt : Nat → Int32) (rg : Nat → Int32) (pa : Nat → Int32) (en : Nat → Int32) (ct : Nat → Int32) (a : Int32) (hla : la < 256) (hke : ke < 257) (hf : okN f) (hst : ∀ j, j < 4096 → ∃ k : Nat, k < 256 ∧ st j = nI k) (hpn : ∀ j, j < 64 → ∃ k : Nat, k < 256 ∧ pn j = nI k) (hwt : ∀ j, j < 16 → ∃ k : Nat, k < 256 ∧ wt j = nI k) (hen : okE en) : CI l yX8_register cX8_register 2 (some .int) 0 0 0 0 D cA cB [.ref h0, .int a] [(h0, .inr (8, [.ref hn, .ref hs, .ref hd, .ref hp, .ref qr, .ref qst, .ref qa, .ref qm, .ref qe])), (qr, .inr (4, [.ref hn, .ref hs, .ref hd, .ref hp, .ref hc, .int wy, .int dn])), (hd, .inr (1, [.ref hn, .ref h1, .ref h2, .ref h3, .ref h4])), (hp, .inr (3, [.ref he, .int (nI la), .int (nI ke)])), (hn, .inl (cA, 34, .inl f)), (hs, .inl (cA, 4096, .inl st)), (h1, .inl (cA, 64, .inl pn)), (h2, .inl (cA, 16, .inl wt)), (h3, .inl (cA, 900, .inl rg)), (h4, .inl (cA, 200, .inl pa)), (he, .inl (cA, 10752, .inl en)), (hc, .inl (cA, 257, .inl ct))] (fun r W1 => ∃ (wy2 : Int32) (dn2 : Int32) (la2 : Nat) (ke2 : Nat) (f2 : Nat → Int32) (st2 : Nat → Int32) (pn2 : Nat → Int32) (wt2 : Nat → Int32) (rg2 : Nat → Int32) (pa2 : Nat → Int32) (en2 : Nat → Int32) (ct2 : Nat → Int32) (rv : Int32), r = rv ∧ (la2 < 256) ∧ (ke2 < 257) ∧ (okN f2) ∧ (∀ j, j < 4096 → ∃ k : Nat, k < 256 ∧ st2 j = nI k) ∧ (∀ j, j < 64 → ∃ k : Nat, k < 256 ∧ pn2 j = nI k) ∧ (∀ j, j < 16 → ∃ k : Nat, k < 256 ∧ wt2 j = nI k) ∧ (okE en2) ∧ W1 = [(h0, .inr (8, [.ref hn, .ref hs, .ref hd, .ref hp, .ref qr, .ref qst, .ref qa, .ref qm, .ref qe])), (qr, .inr (4, [.ref hn, .ref hs, .ref hd, .ref hp, .ref hc, .int wy2, .int dn2])), (hd, .inr (1, [.ref hn, .ref h1, .ref h2, .ref h3, .ref h4])), (hp, .inr (3, [.ref he, .int (nI la2), .int (nI ke2)])), (hn, .inl (cA, 34, .inl f2)), (hs, .inl (cA, 4096, .inl st2)), (h1, .inl (cA, 64, .inl pn2)), (h2, .inl (cA, 16, .inl wt2)), (h3, .inl (cA, 900, .inl rg2)), (h4, .inl (cA, 200, .inl pa2)), (he, .inl (cA, 10752, .inl en2)), (hc, .inl (cA, 257, .inl ct2))]) := by
  refine mkI (lv0 := [(0, .ref h0), (1, .int a)]) (by decide) (Nat.le_of_ble_eq_true rfl) rfl ?_
  intro p e s m below meth c A ls X hr hlocks hnm hE hA hP hD hS hl
  have hx := X.1
  have hb := X.2.1
  refine lv_iload_n hx hb dX8_register_0 rfl (lv_at hl 1 rfl) ?_
  refine lv_if_lt (tgt := 19) hx hb dX8_register_1 (by decide) (fun c_1 => ?_) (fun c_1 => ?_)
  · skip
    refine lv_iconst (v := 0) hx hb dX8_register_19 (by decide) ?_
    exact endI X hr hlocks hP hD hS dX8_register_20 ⟨wy, dn, la, ke, f, st, pn, wt, rg, pa, en, ct, 0, rfl, (by omega), (by omega), hf, hst, hpn, hwt, hen, rfl⟩
  · skip
    refine lv_iload_n hx hb dX8_register_4 rfl (lv_at hl 1 rfl) ?_
    refine lv_bipush (v := 7) hx hb dX8_register_5 (by decide) ?_
    refine lv_icmp_gt (tgt := 19) hx hb dX8_register_7 (by decide) (fun c_7 => ?_) (fun c_7 => ?_)
    · skip
      refine lv_iconst (v := 0) hx hb dX8_register_19 (by decide) ?_
      exact endI X hr hlocks hP hD hS dX8_register_20 ⟨wy, dn, la, ke, f, st, pn, wt, rg, pa, en, ct, 0, rfl, (by omega), (by omega), hf, hst, hpn, hwt, hen, rfl⟩
    · skip
      obtain ⟨j, hj, ej⟩ := idx_le (n := 7) (by decide) c_1 c_7
      rw [ej] at hl
      refine lv_aload_n hx hb dX8_register_10 rfl (lv_at hl 0 rfl) ?_
      refine k_get (C := RX8) (T := TX8) (N := 9) (ci := 8) (v := .ref hn) X hE hP 0 rfl rfl iX8 0 (by decide) w_324 rfl dX8_register_11 ?_
      refine lv_iload_n hx hb dX8_register_14 rfl (lv_at hl 1 rfl) ?_
      refine k_ald (v := f j) X hE hP 4 rfl j rfl (by omega) (by decide) rfl dX8_register_15 ?_
      refine lv_goto (tgt := 20) hx hb dX8_register_16 (by decide) ?_
      exact endI X hr hlocks hP hD hS dX8_register_20 ⟨wy, dn, la, ke, f, st, pn, wt, rg, pa, en, ct, (f j), rfl, (by omega), (by omega), hf, hst, hpn, hwt, hen, rfl⟩
set_option maxHeartbeats 4000000 in
set_option maxRecDepth 100000 in
theorem c_s_poke (l : Launch) (D : va_G) (cA cB : ClassId) (h0 : Nat) (hn : Nat) (hs : Nat) (hd : Nat) (hp : Nat) (qr : Nat) (qst : Nat) (qa : Nat) (qm : Nat) (qe : Nat) (hc : Nat) (h1 : Nat) (h2 : Nat) (h3 : Nat) (h4 : Nat) (he : Nat) (wy : Int32) (dn : Int32) (la : Nat) (ke : Nat) (f : Nat → Int32) (st : Nat → Int32) (pn : Nat → Int32) (wt : Nat → Int32) (rg : Nat → Int32) (pa : Nat → Int32) (en : Nat → Int32) (ct : Nat → Int32) (a : Int32) (v : Int32) (hla : la < 256) (hke : ke < 257) (hf : okN f) (hst : ∀ j, j < 4096 → ∃ k : Nat, k < 256 ∧ st j = nI k) (hpn : ∀ j, j < 64 → ∃ k : Nat, k < 256 ∧ pn j = nI k) (hwt : ∀ j, j < 16 → ∃ k : Nat, k < 256 ∧ wt j = nI k) (hen : okE en) : CI l yX8_poke cX8_poke 3 (some .boolean) 1 20 0 0 D cA cB [.ref h0, .int a, .int v] [(h0, .inr (8, [.ref hn, .ref hs, .ref hd, .ref hp, .ref qr, .ref qst, .ref qa, .ref qm, .ref qe])), (qr, .inr (4, [.ref hn, .ref hs, .ref hd, .ref hp, .ref hc, .int wy, .int dn])), (hd, .inr (1, [.ref hn, .ref h1, .ref h2, .ref h3, .ref h4])), (hp, .inr (3, [.ref he, .int (nI la), .int (nI ke)])), (hn, .inl (cA, 34, .inl f)), (hs, .inl (cA, 4096, .inl st)), (h1, .inl (cA, 64, .inl pn)), (h2, .inl (cA, 16, .inl wt)), (h3, .inl (cA, 900, .inl rg)), (h4, .inl (cA, 200, .inl pa)), (he, .inl (cA, 10752, .inl en)), (hc, .inl (cA, 257, .inl ct))] (fun r W1 => ∃ (wy2 : Int32) (dn2 : Int32) (la2 : Nat) (ke2 : Nat) (f2 : Nat → Int32) (st2 : Nat → Int32) (pn2 : Nat → Int32) (wt2 : Nat → Int32) (rg2 : Nat → Int32) (pa2 : Nat → Int32) (en2 : Nat → Int32) (ct2 : Nat → Int32) (rv : Int32), r = rv ∧ (la2 < 256) ∧ (ke2 < 257) ∧ (okN f2) ∧ (∀ j, j < 4096 → ∃ k : Nat, k < 256 ∧ st2 j = nI k) ∧ (∀ j, j < 64 → ∃ k : Nat, k < 256 ∧ pn2 j = nI k) ∧ (∀ j, j < 16 → ∃ k : Nat, k < 256 ∧ wt2 j = nI k) ∧ (okE en2) ∧ (rv = (sp_poke a v)) ∧ W1 = [(h0, .inr (8, [.ref hn, .ref hs, .ref hd, .ref hp, .ref qr, .ref qst, .ref qa, .ref qm, .ref qe])), (qr, .inr (4, [.ref hn, .ref hs, .ref hd, .ref hp, .ref hc, .int wy2, .int dn2])), (hd, .inr (1, [.ref hn, .ref h1, .ref h2, .ref h3, .ref h4])), (hp, .inr (3, [.ref he, .int (nI la2), .int (nI ke2)])), (hn, .inl (cA, 34, .inl f2)), (hs, .inl (cA, 4096, .inl st2)), (h1, .inl (cA, 64, .inl pn2)), (h2, .inl (cA, 16, .inl wt2)), (h3, .inl (cA, 900, .inl rg2)), (h4, .inl (cA, 200, .inl pa2)), (he, .inl (cA, 10752, .inl en2)), (hc, .inl (cA, 257, .inl ct2))]) := by
  refine mkI (lv0 := [(0, .ref h0), (1, .int a), (2, .int v)]) (by decide) (Nat.le_of_ble_eq_true rfl) rfl ?_
  intro p e s m below meth c A ls X hr hlocks hnm hE hA hP hD hS hl
  have hx := X.1
  have hb := X.2.1
  refine lv_iload_n hx hb dX8_poke_0 rfl (lv_at hl 1 rfl) ?_
  refine lv_if_lt (tgt := 18) hx hb dX8_poke_1 (by decide) (fun c_1 => ?_) (fun c_1 => ?_)
  · skip
    refine lv_iconst (v := 0) hx hb dX8_poke_18 (by decide) ?_
    exact endZ X hr rfl hlocks hP hD hS dX8_poke_19 ⟨wy, dn, la, ke, f, st, pn, wt, rg, pa, en, ct, 0, rfl, (by omega), (by omega), hf, hst, hpn, hwt, hen, (by unfold sp_poke; rw [if_pos c_1]), rfl⟩
  · skip
    refine lv_iload_n hx hb dX8_poke_4 rfl (lv_at hl 1 rfl) ?_
    refine lv_sipush (v := 4080) hx hb dX8_poke_5 (by decide) ?_
    refine lv_icmp_ge (tgt := 18) hx hb dX8_poke_8 (by decide) (fun c_8 => ?_) (fun c_8 => ?_)
    · skip
      refine lv_iconst (v := 0) hx hb dX8_poke_18 (by decide) ?_
      exact endZ X hr rfl hlocks hP hD hS dX8_poke_19 ⟨wy, dn, la, ke, f, st, pn, wt, rg, pa, en, ct, 0, rfl, (by omega), (by omega), hf, hst, hpn, hwt, hen, (by unfold sp_poke; rw [if_neg c_1, if_pos c_8]), rfl⟩
    · skip
      refine lv_iload_n hx hb dX8_poke_11 rfl (lv_at hl 2 rfl) ?_
      refine kSi (n3 := 1) (As := [.int v]) (rest := []) X hl.1 hE hP hD hS hA [] [(h0, .inr (8, [.ref hn, .ref hs, .ref hd, .ref hp, .ref qr, .ref qst, .ref qa, .ref qm, .ref qe])), (qr, .inr (4, [.ref hn, .ref hs, .ref hd, .ref hp, .ref hc, .int wy, .int dn])), (hd, .inr (1, [.ref hn, .ref h1, .ref h2, .ref h3, .ref h4])), (hp, .inr (3, [.ref he, .int (nI la), .int (nI ke)])), (hn, .inl (cA, 34, .inl f)), (hs, .inl (cA, 4096, .inl st)), (h1, .inl (cA, 64, .inl pn)), (h2, .inl (cA, 16, .inl wt)), (h3, .inl (cA, 900, .inl rg)), (h4, .inl (cA, 200, .inl pa)), (he, .inl (cA, 10752, .inl en)), (hc, .inl (cA, 257, .inl ct))] [] [0, 1, 2, 3, 4, 5, 6, 7, 8, 9, 10, 11] rfl rfl rfl (by decide +kernel) (by decide +kernel) (by decide +kernel) (c_isByte l D cA cB v ) w_326 w_107 w_325 w_327 (by decide +kernel) rfl rfl (Nat.le_of_ble_eq_true rfl) ⟨(Nat.le_of_ble_eq_true rfl), (Nat.le_of_ble_eq_true rfl)⟩ ⟨(Nat.le_of_ble_eq_true rfl), (Nat.le_of_ble_eq_true rfl)⟩ dX8_poke_12 (fun r W1 H locs hw hP hD hS => ?_)
      obtain ⟨rfl, rfl⟩ := hw
      have hP : va_P D classes [(h0, .inr (8, [.ref hn, .ref hs, .ref hd, .ref hp, .ref qr, .ref qst, .ref qa, .ref qm, .ref qe])), (qr, .inr (4, [.ref hn, .ref hs, .ref hd, .ref hp, .ref hc, .int wy, .int dn])), (hd, .inr (1, [.ref hn, .ref h1, .ref h2, .ref h3, .ref h4])), (hp, .inr (3, [.ref he, .int (nI la), .int (nI ke)])), (hn, .inl (cA, 34, .inl f)), (hs, .inl (cA, 4096, .inl st)), (h1, .inl (cA, 64, .inl pn)), (h2, .inl (cA, 16, .inl wt)), (h3, .inl (cA, 900, .inl rg)), (h4, .inl (cA, 200, .inl pa)), (he, .inl (cA, 10752, .inl en)), (hc, .inl (cA, 257, .inl ct))] H := hP
      have hD : va_D A [(h0, .inr (8, [.ref hn, .ref hs, .ref hd, .ref hp, .ref qr, .ref qst, .ref qa, .ref qm, .ref qe])), (qr, .inr (4, [.ref hn, .ref hs, .ref hd, .ref hp, .ref hc, .int wy, .int dn])), (hd, .inr (1, [.ref hn, .ref h1, .ref h2, .ref h3, .ref h4])), (hp, .inr (3, [.ref he, .int (nI la), .int (nI ke)])), (hn, .inl (cA, 34, .inl f)), (hs, .inl (cA, 4096, .inl st)), (h1, .inl (cA, 64, .inl pn)), (h2, .inl (cA, 16, .inl wt)), (h3, .inl (cA, 900, .inl rg)), (h4, .inl (cA, 200, .inl pa)), (he, .inl (cA, 10752, .inl en)), (hc, .inl (cA, 257, .inl ct))] := hD
      refine lv_if_ne (tgt := 20) hx hb dX8_poke_15 (by decide) (fun c_15 => ?_) (fun c_15 => ?_)
      · skip
        obtain ⟨j, hj, ej⟩ := idx_of (n := 4080) (by decide) c_1 c_8
        rw [ej] at hl
        obtain ⟨jv, hjv, ejv⟩ := isB_idx c_15
        rw [ejv] at hl
        refine lv_aload_n hx hb dX8_poke_20 rfl (lv_at hl 0 rfl) ?_
        refine k_get (C := RX8) (T := TX8) (N := 9) (ci := 8) (v := .ref hs) X hE hP 0 rfl rfl iX8 1 (by decide) w_313 rfl dX8_poke_21 ?_
        refine lv_iload_n hx hb dX8_poke_24 rfl (lv_at hl 1 rfl) ?_
        refine lv_iload_n hx hb dX8_poke_25 rfl (lv_at hl 2 rfl) ?_
        refine k_ast X hE hP hD hS 5 rfl j rfl (by omega) (by decide) [(h0, .inr (8, [.ref hn, .ref hs, .ref hd, .ref hp, .ref qr, .ref qst, .ref qa, .ref qm, .ref qe])), (qr, .inr (4, [.ref hn, .ref hs, .ref hd, .ref hp, .ref hc, .int wy, .int dn])), (hd, .inr (1, [.ref hn, .ref h1, .ref h2, .ref h3, .ref h4])), (hp, .inr (3, [.ref he, .int (nI la), .int (nI ke)])), (hn, .inl (cA, 34, .inl f)), (hs, .inl (cA, 4096, .inl (upd st j (nI jv)))), (h1, .inl (cA, 64, .inl pn)), (h2, .inl (cA, 16, .inl wt)), (h3, .inl (cA, 900, .inl rg)), (h4, .inl (cA, 200, .inl pa)), (he, .inl (cA, 10752, .inl en)), (hc, .inl (cA, 257, .inl ct))] rfl dX8_poke_26 (fun H locs hP hD hS => ?_)
        obtain ⟨g_1, eg_1⟩ : ∃ z, z = upd st j (nI jv) := ⟨_, rfl⟩
        rw [← eg_1] at hP hD
        have hg_1 := okB_upd hst j (nI jv) ⟨jv, by omega, rfl⟩
        rw [← eg_1] at hg_1
        have hP : va_P D classes [(h0, .inr (8, [.ref hn, .ref hs, .ref hd, .ref hp, .ref qr, .ref qst, .ref qa, .ref qm, .ref qe])), (qr, .inr (4, [.ref hn, .ref hs, .ref hd, .ref hp, .ref hc, .int wy, .int dn])), (hd, .inr (1, [.ref hn, .ref h1, .ref h2, .ref h3, .ref h4])), (hp, .inr (3, [.ref he, .int (nI la), .int (nI ke)])), (hn, .inl (cA, 34, .inl f)), (hs, .inl (cA, 4096, .inl g_1)), (h1, .inl (cA, 64, .inl pn)), (h2, .inl (cA, 16, .inl wt)), (h3, .inl (cA, 900, .inl rg)), (h4, .inl (cA, 200, .inl pa)), (he, .inl (cA, 10752, .inl en)), (hc, .inl (cA, 257, .inl ct))] H := hP
        have hD : va_D A [(h0, .inr (8, [.ref hn, .ref hs, .ref hd, .ref hp, .ref qr, .ref qst, .ref qa, .ref qm, .ref qe])), (qr, .inr (4, [.ref hn, .ref hs, .ref hd, .ref hp, .ref hc, .int wy, .int dn])), (hd, .inr (1, [.ref hn, .ref h1, .ref h2, .ref h3, .ref h4])), (hp, .inr (3, [.ref he, .int (nI la), .int (nI ke)])), (hn, .inl (cA, 34, .inl f)), (hs, .inl (cA, 4096, .inl g_1)), (h1, .inl (cA, 64, .inl pn)), (h2, .inl (cA, 16, .inl wt)), (h3, .inl (cA, 900, .inl rg)), (h4, .inl (cA, 200, .inl pa)), (he, .inl (cA, 10752, .inl en)), (hc, .inl (cA, 257, .inl ct))] := hD
        refine lv_aload_n hx hb dX8_poke_27 rfl (lv_at hl 0 rfl) ?_
        refine k_get (C := RX8) (T := TX8) (N := 9) (ci := 8) (v := .ref hp) X hE hP 0 rfl rfl iX8 3 (by decide) w_328 rfl dX8_poke_28 ?_
        refine kVv (n3 := 0) (As := []) (rest := []) X hl.1 hE hP hD hS hA [(hp, .inr (3, [.ref he, .int (nI la), .int (nI ke)])), (he, .inl (cA, 10752, .inl en))] [(h0, .inr (8, [.ref hn, .ref hs, .ref hd, .ref hp, .ref qr, .ref qst, .ref qa, .ref qm, .ref qe])), (qr, .inr (4, [.ref hn, .ref hs, .ref hd, .ref hp, .ref hc, .int wy, .int dn])), (hd, .inr (1, [.ref hn, .ref h1, .ref h2, .ref h3, .ref h4])), (hn, .inl (cA, 34, .inl f)), (hs, .inl (cA, 4096, .inl g_1)), (h1, .inl (cA, 64, .inl pn)), (h2, .inl (cA, 16, .inl wt)), (h3, .inl (cA, 900, .inl rg)), (h4, .inl (cA, 200, .inl pa)), (hc, .inl (cA, 257, .inl ct))] [3, 10] [0, 1, 2, 4, 5, 6, 7, 8, 9, 11] rfl rfl rfl (by decide +kernel) (by decide +kernel) (by decide +kernel) (c_s_forget l D cA cB hp he la ke en (by first | assumption | decide | rfl | omega) (by first | assumption | decide | rfl | omega) hen) w_290 w_164 w_329 w_291 w_292 0 (ci := 3) (T := TX3) (N := 3) rfl rfl (by decide +kernel) rfl rfl (Nat.le_of_ble_eq_true rfl) ⟨(Nat.le_of_ble_eq_true rfl), (Nat.le_of_ble_eq_true rfl)⟩ ⟨(Nat.le_of_ble_eq_true rfl), (Nat.le_of_ble_eq_true rfl)⟩ dX8_poke_31 (fun W1 H locs hw hP hD hS => ?_)
        obtain ⟨la2_2, ke2_3, en2_4, hf_5, hf_6, hf_7, rfl⟩ := hw
        have hP : va_P D classes [(h0, .inr (8, [.ref hn, .ref hs, .ref hd, .ref hp, .ref qr, .ref qst, .ref qa, .ref qm, .ref qe])), (qr, .inr (4, [.ref hn, .ref hs, .ref hd, .ref hp, .ref hc, .int wy, .int dn])), (hd, .inr (1, [.ref hn, .ref h1, .ref h2, .ref h3, .ref h4])), (hn, .inl (cA, 34, .inl f)), (hs, .inl (cA, 4096, .inl g_1)), (h1, .inl (cA, 64, .inl pn)), (h2, .inl (cA, 16, .inl wt)), (h3, .inl (cA, 900, .inl rg)), (h4, .inl (cA, 200, .inl pa)), (hc, .inl (cA, 257, .inl ct)), (hp, .inr (3, [.ref he, .int (nI la2_2), .int (nI ke2_3)])), (he, .inl (cA, 10752, .inl en2_4))] H := hP
        have hD : va_D A [(h0, .inr (8, [.ref hn, .ref hs, .ref hd, .ref hp, .ref qr, .ref qst, .ref qa, .ref qm, .ref qe])), (qr, .inr (4, [.ref hn, .ref hs, .ref hd, .ref hp, .ref hc, .int wy, .int dn])), (hd, .inr (1, [.ref hn, .ref h1, .ref h2, .ref h3, .ref h4])), (hn, .inl (cA, 34, .inl f)), (hs, .inl (cA, 4096, .inl g_1)), (h1, .inl (cA, 64, .inl pn)), (h2, .inl (cA, 16, .inl wt)), (h3, .inl (cA, 900, .inl rg)), (h4, .inl (cA, 200, .inl pa)), (hc, .inl (cA, 257, .inl ct)), (hp, .inr (3, [.ref he, .int (nI la2_2), .int (nI ke2_3)])), (he, .inl (cA, 10752, .inl en2_4))] := hD
        refine lv_iconst (v := 1) hx hb dX8_poke_34 (by decide) ?_
        have hP : va_P D classes [(h0, .inr (8, [.ref hn, .ref hs, .ref hd, .ref hp, .ref qr, .ref qst, .ref qa, .ref qm, .ref qe])), (qr, .inr (4, [.ref hn, .ref hs, .ref hd, .ref hp, .ref hc, .int wy, .int dn])), (hd, .inr (1, [.ref hn, .ref h1, .ref h2, .ref h3, .ref h4])), (hp, .inr (3, [.ref he, .int (nI la2_2), .int (nI ke2_3)])), (hn, .inl (cA, 34, .inl f)), (hs, .inl (cA, 4096, .inl g_1)), (h1, .inl (cA, 64, .inl pn)), (h2, .inl (cA, 16, .inl wt)), (h3, .inl (cA, 900, .inl rg)), (h4, .inl (cA, 200, .inl pa)), (he, .inl (cA, 10752, .inl en2_4)), (hc, .inl (cA, 257, .inl ct))] _ := hP.sub [0, 1, 2, 10, 3, 4, 5, 6, 7, 8, 11, 9] rfl
        have hD : va_D A [(h0, .inr (8, [.ref hn, .ref hs, .ref hd, .ref hp, .ref qr, .ref qst, .ref qa, .ref qm, .ref qe])), (qr, .inr (4, [.ref hn, .ref hs, .ref hd, .ref hp, .ref hc, .int wy, .int dn])), (hd, .inr (1, [.ref hn, .ref h1, .ref h2, .ref h3, .ref h4])), (hp, .inr (3, [.ref he, .int (nI la2_2), .int (nI ke2_3)])), (hn, .inl (cA, 34, .inl f)), (hs, .inl (cA, 4096, .inl g_1)), (h1, .inl (cA, 64, .inl pn)), (h2, .inl (cA, 16, .inl wt)), (h3, .inl (cA, 900, .inl rg)), (h4, .inl (cA, 200, .inl pa)), (he, .inl (cA, 10752, .inl en2_4)), (hc, .inl (cA, 257, .inl ct))] := hD.sub [0, 1, 2, 10, 3, 4, 5, 6, 7, 8, 11, 9] (by decide) rfl
        exact endZ X hr rfl hlocks hP hD hS dX8_poke_35 ⟨wy, dn, la2_2, ke2_3, f, g_1, pn, wt, rg, pa, en2_4, ct, 1, rfl, (by omega), (by omega), hf, hg_1, hpn, hwt, hf_7, (by unfold sp_poke; rw [if_neg c_1, if_neg c_8, if_neg c_15]), rfl⟩
      · skip
        refine lv_iconst (v := 0) hx hb dX8_poke_18 (by decide) ?_
        exact endZ X hr rfl hlocks hP hD hS dX8_poke_19 ⟨wy, dn, la, ke, f, st, pn, wt, rg, pa, en, ct, 0, rfl, (by omega), (by omega), hf, hst, hpn, hwt, hen, (by unfold sp_poke; rw [if_neg c_1, if_neg c_8, if_pos c_15]), rfl⟩
set_option maxHeartbeats 4000000 in
set_option maxRecDepth 100000 in
theorem c_s_drum (l : Launch) (D : va_G) (cA cB : ClassId) (h0 : Nat) (hn : Nat) (hs : Nat) (hd : Nat) (hp : Nat) (qr : Nat) (qst : Nat) (qa : Nat) (qm : Nat) (qe : Nat) (hc : Nat) (h1 : Nat) (h2 : Nat) (h3 : Nat) (h4 : Nat) (he : Nat) (wy : Int32) (dn : Int32) (la : Nat) (ke : Nat) (f : Nat → Int32) (st : Nat → Int32) (pn : Nat → Int32) (wt : Nat → Int32) (rg : Nat → Int32) (pa : Nat → Int32) (en : Nat → Int32) (ct : Nat → Int32) (a : Int32) (v : Int32) (hla : la < 256) (hke : ke < 257) (hf : okN f) (hst : ∀ j, j < 4096 → ∃ k : Nat, k < 256 ∧ st j = nI k) (hpn : ∀ j, j < 64 → ∃ k : Nat, k < 256 ∧ pn j = nI k) (hwt : ∀ j, j < 16 → ∃ k : Nat, k < 256 ∧ wt j = nI k) (hen : okE en) : CI l yX8_drum cX8_drum 3 (some .boolean) 1 20 0 0 D cA cB [.ref h0, .int a, .int v] [(h0, .inr (8, [.ref hn, .ref hs, .ref hd, .ref hp, .ref qr, .ref qst, .ref qa, .ref qm, .ref qe])), (qr, .inr (4, [.ref hn, .ref hs, .ref hd, .ref hp, .ref hc, .int wy, .int dn])), (hd, .inr (1, [.ref hn, .ref h1, .ref h2, .ref h3, .ref h4])), (hp, .inr (3, [.ref he, .int (nI la), .int (nI ke)])), (hn, .inl (cA, 34, .inl f)), (hs, .inl (cA, 4096, .inl st)), (h1, .inl (cA, 64, .inl pn)), (h2, .inl (cA, 16, .inl wt)), (h3, .inl (cA, 900, .inl rg)), (h4, .inl (cA, 200, .inl pa)), (he, .inl (cA, 10752, .inl en)), (hc, .inl (cA, 257, .inl ct))] (fun r W1 => ∃ (wy2 : Int32) (dn2 : Int32) (la2 : Nat) (ke2 : Nat) (f2 : Nat → Int32) (st2 : Nat → Int32) (pn2 : Nat → Int32) (wt2 : Nat → Int32) (rg2 : Nat → Int32) (pa2 : Nat → Int32) (en2 : Nat → Int32) (ct2 : Nat → Int32) (rv : Int32), r = rv ∧ (la2 < 256) ∧ (ke2 < 257) ∧ (okN f2) ∧ (∀ j, j < 4096 → ∃ k : Nat, k < 256 ∧ st2 j = nI k) ∧ (∀ j, j < 64 → ∃ k : Nat, k < 256 ∧ pn2 j = nI k) ∧ (∀ j, j < 16 → ∃ k : Nat, k < 256 ∧ wt2 j = nI k) ∧ (okE en2) ∧ (rv = (sp_drum a v)) ∧ W1 = [(h0, .inr (8, [.ref hn, .ref hs, .ref hd, .ref hp, .ref qr, .ref qst, .ref qa, .ref qm, .ref qe])), (qr, .inr (4, [.ref hn, .ref hs, .ref hd, .ref hp, .ref hc, .int wy2, .int dn2])), (hd, .inr (1, [.ref hn, .ref h1, .ref h2, .ref h3, .ref h4])), (hp, .inr (3, [.ref he, .int (nI la2), .int (nI ke2)])), (hn, .inl (cA, 34, .inl f2)), (hs, .inl (cA, 4096, .inl st2)), (h1, .inl (cA, 64, .inl pn2)), (h2, .inl (cA, 16, .inl wt2)), (h3, .inl (cA, 900, .inl rg2)), (h4, .inl (cA, 200, .inl pa2)), (he, .inl (cA, 10752, .inl en2)), (hc, .inl (cA, 257, .inl ct2))]) := by
  refine mkI (lv0 := [(0, .ref h0), (1, .int a), (2, .int v)]) (by decide) (Nat.le_of_ble_eq_true rfl) rfl ?_
  intro p e s m below meth c A ls X hr hlocks hnm hE hA hP hD hS hl
  have hx := X.1
  have hb := X.2.1
  refine lv_iload_n hx hb dX8_drum_0 rfl (lv_at hl 1 rfl) ?_
  refine lv_if_lt (tgt := 17) hx hb dX8_drum_1 (by decide) (fun c_1 => ?_) (fun c_1 => ?_)
  · skip
    refine lv_iconst (v := 0) hx hb dX8_drum_17 (by decide) ?_
    exact endZ X hr rfl hlocks hP hD hS dX8_drum_18 ⟨wy, dn, la, ke, f, st, pn, wt, rg, pa, en, ct, 0, rfl, (by omega), (by omega), hf, hst, hpn, hwt, hen, (by unfold sp_drum; rw [if_pos c_1]), rfl⟩
  · skip
    refine lv_iload_n hx hb dX8_drum_4 rfl (lv_at hl 1 rfl) ?_
    refine lv_bipush (v := 64) hx hb dX8_drum_5 (by decide) ?_
    refine lv_icmp_ge (tgt := 17) hx hb dX8_drum_7 (by decide) (fun c_7 => ?_) (fun c_7 => ?_)
    · skip
      refine lv_iconst (v := 0) hx hb dX8_drum_17 (by decide) ?_
      exact endZ X hr rfl hlocks hP hD hS dX8_drum_18 ⟨wy, dn, la, ke, f, st, pn, wt, rg, pa, en, ct, 0, rfl, (by omega), (by omega), hf, hst, hpn, hwt, hen, (by unfold sp_drum; rw [if_neg c_1, if_pos c_7]), rfl⟩
    · skip
      refine lv_iload_n hx hb dX8_drum_10 rfl (lv_at hl 2 rfl) ?_
      refine kSi (n3 := 1) (As := [.int v]) (rest := []) X hl.1 hE hP hD hS hA [] [(h0, .inr (8, [.ref hn, .ref hs, .ref hd, .ref hp, .ref qr, .ref qst, .ref qa, .ref qm, .ref qe])), (qr, .inr (4, [.ref hn, .ref hs, .ref hd, .ref hp, .ref hc, .int wy, .int dn])), (hd, .inr (1, [.ref hn, .ref h1, .ref h2, .ref h3, .ref h4])), (hp, .inr (3, [.ref he, .int (nI la), .int (nI ke)])), (hn, .inl (cA, 34, .inl f)), (hs, .inl (cA, 4096, .inl st)), (h1, .inl (cA, 64, .inl pn)), (h2, .inl (cA, 16, .inl wt)), (h3, .inl (cA, 900, .inl rg)), (h4, .inl (cA, 200, .inl pa)), (he, .inl (cA, 10752, .inl en)), (hc, .inl (cA, 257, .inl ct))] [] [0, 1, 2, 3, 4, 5, 6, 7, 8, 9, 10, 11] rfl rfl rfl (by decide +kernel) (by decide +kernel) (by decide +kernel) (c_isByte l D cA cB v ) w_326 w_107 w_325 w_327 (by decide +kernel) rfl rfl (Nat.le_of_ble_eq_true rfl) ⟨(Nat.le_of_ble_eq_true rfl), (Nat.le_of_ble_eq_true rfl)⟩ ⟨(Nat.le_of_ble_eq_true rfl), (Nat.le_of_ble_eq_true rfl)⟩ dX8_drum_11 (fun r W1 H locs hw hP hD hS => ?_)
      obtain ⟨rfl, rfl⟩ := hw
      have hP : va_P D classes [(h0, .inr (8, [.ref hn, .ref hs, .ref hd, .ref hp, .ref qr, .ref qst, .ref qa, .ref qm, .ref qe])), (qr, .inr (4, [.ref hn, .ref hs, .ref hd, .ref hp, .ref hc, .int wy, .int dn])), (hd, .inr (1, [.ref hn, .ref h1, .ref h2, .ref h3, .ref h4])), (hp, .inr (3, [.ref he, .int (nI la), .int (nI ke)])), (hn, .inl (cA, 34, .inl f)), (hs, .inl (cA, 4096, .inl st)), (h1, .inl (cA, 64, .inl pn)), (h2, .inl (cA, 16, .inl wt)), (h3, .inl (cA, 900, .inl rg)), (h4, .inl (cA, 200, .inl pa)), (he, .inl (cA, 10752, .inl en)), (hc, .inl (cA, 257, .inl ct))] H := hP
      have hD : va_D A [(h0, .inr (8, [.ref hn, .ref hs, .ref hd, .ref hp, .ref qr, .ref qst, .ref qa, .ref qm, .ref qe])), (qr, .inr (4, [.ref hn, .ref hs, .ref hd, .ref hp, .ref hc, .int wy, .int dn])), (hd, .inr (1, [.ref hn, .ref h1, .ref h2, .ref h3, .ref h4])), (hp, .inr (3, [.ref he, .int (nI la), .int (nI ke)])), (hn, .inl (cA, 34, .inl f)), (hs, .inl (cA, 4096, .inl st)), (h1, .inl (cA, 64, .inl pn)), (h2, .inl (cA, 16, .inl wt)), (h3, .inl (cA, 900, .inl rg)), (h4, .inl (cA, 200, .inl pa)), (he, .inl (cA, 10752, .inl en)), (hc, .inl (cA, 257, .inl ct))] := hD
      refine lv_if_ne (tgt := 19) hx hb dX8_drum_14 (by decide) (fun c_14 => ?_) (fun c_14 => ?_)
      · skip
        obtain ⟨j, hj, ej⟩ := idx_of (n := 64) (by decide) c_1 c_7
        rw [ej] at hl
        obtain ⟨jv, hjv, ejv⟩ := isB_idx c_14
        rw [ejv] at hl
        refine lv_aload_n hx hb dX8_drum_19 rfl (lv_at hl 0 rfl) ?_
        refine k_get (C := RX8) (T := TX8) (N := 9) (ci := 8) (v := .ref hd) X hE hP 0 rfl rfl iX8 2 (by decide) w_330 rfl dX8_drum_20 ?_
        refine k_getN (C := RX1) (T := TX1) (N := 5) (ci := 1) (v := .ref h1) X hE hP 2 rfl rfl iX1 1 (by decide) nw_0 rfl dX8_drum_23 ?_
        refine lv_iload_n hx hb dX8_drum_26 rfl (lv_at hl 1 rfl) ?_
        refine lv_iload_n hx hb dX8_drum_27 rfl (lv_at hl 2 rfl) ?_
        refine k_ast X hE hP hD hS 6 rfl j rfl (by omega) (by decide) [(h0, .inr (8, [.ref hn, .ref hs, .ref hd, .ref hp, .ref qr, .ref qst, .ref qa, .ref qm, .ref qe])), (qr, .inr (4, [.ref hn, .ref hs, .ref hd, .ref hp, .ref hc, .int wy, .int dn])), (hd, .inr (1, [.ref hn, .ref h1, .ref h2, .ref h3, .ref h4])), (hp, .inr (3, [.ref he, .int (nI la), .int (nI ke)])), (hn, .inl (cA, 34, .inl f)), (hs, .inl (cA, 4096, .inl st)), (h1, .inl (cA, 64, .inl (upd pn j (nI jv)))), (h2, .inl (cA, 16, .inl wt)), (h3, .inl (cA, 900, .inl rg)), (h4, .inl (cA, 200, .inl pa)), (he, .inl (cA, 10752, .inl en)), (hc, .inl (cA, 257, .inl ct))] rfl dX8_drum_28 (fun H locs hP hD hS => ?_)
        obtain ⟨g_1, eg_1⟩ : ∃ z, z = upd pn j (nI jv) := ⟨_, rfl⟩
        rw [← eg_1] at hP hD
        have hg_1 := okB_upd hpn j (nI jv) ⟨jv, by omega, rfl⟩
        rw [← eg_1] at hg_1
        have hP : va_P D classes [(h0, .inr (8, [.ref hn, .ref hs, .ref hd, .ref hp, .ref qr, .ref qst, .ref qa, .ref qm, .ref qe])), (qr, .inr (4, [.ref hn, .ref hs, .ref hd, .ref hp, .ref hc, .int wy, .int dn])), (hd, .inr (1, [.ref hn, .ref h1, .ref h2, .ref h3, .ref h4])), (hp, .inr (3, [.ref he, .int (nI la), .int (nI ke)])), (hn, .inl (cA, 34, .inl f)), (hs, .inl (cA, 4096, .inl st)), (h1, .inl (cA, 64, .inl g_1)), (h2, .inl (cA, 16, .inl wt)), (h3, .inl (cA, 900, .inl rg)), (h4, .inl (cA, 200, .inl pa)), (he, .inl (cA, 10752, .inl en)), (hc, .inl (cA, 257, .inl ct))] H := hP
        have hD : va_D A [(h0, .inr (8, [.ref hn, .ref hs, .ref hd, .ref hp, .ref qr, .ref qst, .ref qa, .ref qm, .ref qe])), (qr, .inr (4, [.ref hn, .ref hs, .ref hd, .ref hp, .ref hc, .int wy, .int dn])), (hd, .inr (1, [.ref hn, .ref h1, .ref h2, .ref h3, .ref h4])), (hp, .inr (3, [.ref he, .int (nI la), .int (nI ke)])), (hn, .inl (cA, 34, .inl f)), (hs, .inl (cA, 4096, .inl st)), (h1, .inl (cA, 64, .inl g_1)), (h2, .inl (cA, 16, .inl wt)), (h3, .inl (cA, 900, .inl rg)), (h4, .inl (cA, 200, .inl pa)), (he, .inl (cA, 10752, .inl en)), (hc, .inl (cA, 257, .inl ct))] := hD
        refine lv_aload_n hx hb dX8_drum_29 rfl (lv_at hl 0 rfl) ?_
        refine k_get (C := RX8) (T := TX8) (N := 9) (ci := 8) (v := .ref hp) X hE hP 0 rfl rfl iX8 3 (by decide) w_328 rfl dX8_drum_30 ?_
        refine kVv (n3 := 0) (As := []) (rest := []) X hl.1 hE hP hD hS hA [(hp, .inr (3, [.ref he, .int (nI la), .int (nI ke)])), (he, .inl (cA, 10752, .inl en))] [(h0, .inr (8, [.ref hn, .ref hs, .ref hd, .ref hp, .ref qr, .ref qst, .ref qa, .ref qm, .ref qe])), (qr, .inr (4, [.ref hn, .ref hs, .ref hd, .ref hp, .ref hc, .int wy, .int dn])), (hd, .inr (1, [.ref hn, .ref h1, .ref h2, .ref h3, .ref h4])), (hn, .inl (cA, 34, .inl f)), (hs, .inl (cA, 4096, .inl st)), (h1, .inl (cA, 64, .inl g_1)), (h2, .inl (cA, 16, .inl wt)), (h3, .inl (cA, 900, .inl rg)), (h4, .inl (cA, 200, .inl pa)), (hc, .inl (cA, 257, .inl ct))] [3, 10] [0, 1, 2, 4, 5, 6, 7, 8, 9, 11] rfl rfl rfl (by decide +kernel) (by decide +kernel) (by decide +kernel) (c_s_forget l D cA cB hp he la ke en (by first | assumption | decide | rfl | omega) (by first | assumption | decide | rfl | omega) hen) w_290 w_164 w_329 w_291 w_292 0 (ci := 3) (T := TX3) (N := 3) rfl rfl (by decide +kernel) rfl rfl (Nat.le_of_ble_eq_true rfl) ⟨(Nat.le_of_ble_eq_true rfl), (Nat.le_of_ble_eq_true rfl)⟩ ⟨(Nat.le_of_ble_eq_true rfl), (Nat.le_of_ble_eq_true rfl)⟩ dX8_drum_33 (fun W1 H locs hw hP hD hS => ?_)
        obtain ⟨la2_2, ke2_3, en2_4, hf_5, hf_6, hf_7, rfl⟩ := hw
        have hP : va_P D classes [(h0, .inr (8, [.ref hn, .ref hs, .ref hd, .ref hp, .ref qr, .ref qst, .ref qa, .ref qm, .ref qe])), (qr, .inr (4, [.ref hn, .ref hs, .ref hd, .ref hp, .ref hc, .int wy, .int dn])), (hd, .inr (1, [.ref hn, .ref h1, .ref h2, .ref h3, .ref h4])), (hn, .inl (cA, 34, .inl f)), (hs, .inl (cA, 4096, .inl st)), (h1, .inl (cA, 64, .inl g_1)), (h2, .inl (cA, 16, .inl wt)), (h3, .inl (cA, 900, .inl rg)), (h4, .inl (cA, 200, .inl pa)), (hc, .inl (cA, 257, .inl ct)), (hp, .inr (3, [.ref he, .int (nI la2_2), .int (nI ke2_3)])), (he, .inl (cA, 10752, .inl en2_4))] H := hP
        have hD : va_D A [(h0, .inr (8, [.ref hn, .ref hs, .ref hd, .ref hp, .ref qr, .ref qst, .ref qa, .ref qm, .ref qe])), (qr, .inr (4, [.ref hn, .ref hs, .ref hd, .ref hp, .ref hc, .int wy, .int dn])), (hd, .inr (1, [.ref hn, .ref h1, .ref h2, .ref h3, .ref h4])), (hn, .inl (cA, 34, .inl f)), (hs, .inl (cA, 4096, .inl st)), (h1, .inl (cA, 64, .inl g_1)), (h2, .inl (cA, 16, .inl wt)), (h3, .inl (cA, 900, .inl rg)), (h4, .inl (cA, 200, .inl pa)), (hc, .inl (cA, 257, .inl ct)), (hp, .inr (3, [.ref he, .int (nI la2_2), .int (nI ke2_3)])), (he, .inl (cA, 10752, .inl en2_4))] := hD
        refine lv_iconst (v := 1) hx hb dX8_drum_36 (by decide) ?_
        have hP : va_P D classes [(h0, .inr (8, [.ref hn, .ref hs, .ref hd, .ref hp, .ref qr, .ref qst, .ref qa, .ref qm, .ref qe])), (qr, .inr (4, [.ref hn, .ref hs, .ref hd, .ref hp, .ref hc, .int wy, .int dn])), (hd, .inr (1, [.ref hn, .ref h1, .ref h2, .ref h3, .ref h4])), (hp, .inr (3, [.ref he, .int (nI la2_2), .int (nI ke2_3)])), (hn, .inl (cA, 34, .inl f)), (hs, .inl (cA, 4096, .inl st)), (h1, .inl (cA, 64, .inl g_1)), (h2, .inl (cA, 16, .inl wt)), (h3, .inl (cA, 900, .inl rg)), (h4, .inl (cA, 200, .inl pa)), (he, .inl (cA, 10752, .inl en2_4)), (hc, .inl (cA, 257, .inl ct))] _ := hP.sub [0, 1, 2, 10, 3, 4, 5, 6, 7, 8, 11, 9] rfl
        have hD : va_D A [(h0, .inr (8, [.ref hn, .ref hs, .ref hd, .ref hp, .ref qr, .ref qst, .ref qa, .ref qm, .ref qe])), (qr, .inr (4, [.ref hn, .ref hs, .ref hd, .ref hp, .ref hc, .int wy, .int dn])), (hd, .inr (1, [.ref hn, .ref h1, .ref h2, .ref h3, .ref h4])), (hp, .inr (3, [.ref he, .int (nI la2_2), .int (nI ke2_3)])), (hn, .inl (cA, 34, .inl f)), (hs, .inl (cA, 4096, .inl st)), (h1, .inl (cA, 64, .inl g_1)), (h2, .inl (cA, 16, .inl wt)), (h3, .inl (cA, 900, .inl rg)), (h4, .inl (cA, 200, .inl pa)), (he, .inl (cA, 10752, .inl en2_4)), (hc, .inl (cA, 257, .inl ct))] := hD.sub [0, 1, 2, 10, 3, 4, 5, 6, 7, 8, 11, 9] (by decide) rfl
        exact endZ X hr rfl hlocks hP hD hS dX8_drum_37 ⟨wy, dn, la2_2, ke2_3, f, st, g_1, wt, rg, pa, en2_4, ct, 1, rfl, (by omega), (by omega), hf, hst, hg_1, hwt, hf_7, (by unfold sp_drum; rw [if_neg c_1, if_neg c_7, if_neg c_14]), rfl⟩
      · skip
        refine lv_iconst (v := 0) hx hb dX8_drum_17 (by decide) ?_
        exact endZ X hr rfl hlocks hP hD hS dX8_drum_18 ⟨wy, dn, la, ke, f, st, pn, wt, rg, pa, en, ct, 0, rfl, (by omega), (by omega), hf, hst, hpn, hwt, hen, (by unfold sp_drum; rw [if_neg c_1, if_neg c_7, if_pos c_14]), rfl⟩
set_option maxHeartbeats 4000000 in
set_option maxRecDepth 100000 in
theorem c_s_key (l : Launch) (D : va_G) (cA cB : ClassId) (h0 : Nat) (hn : Nat) (hs : Nat) (hd : Nat) (hp : Nat) (qr : Nat) (qst : Nat) (qa : Nat) (qm : Nat) (qe : Nat) (hc : Nat) (h1 : Nat) (h2 : Nat) (h3 : Nat) (h4 : Nat) (he : Nat) (wy : Int32) (dn : Int32) (la : Nat) (ke : Nat) (f : Nat → Int32) (st : Nat → Int32) (pn : Nat → Int32) (wt : Nat → Int32) (rg : Nat → Int32) (pa : Nat → Int32) (en : Nat → Int32) (ct : Nat → Int32) (v : Int32) (hla : la < 256) (hke : ke < 257) (hf : okN f) (hst : ∀ j, j < 4096 → ∃ k : Nat, k < 256 ∧ st j = nI k) (hpn : ∀ j, j < 64 → ∃ k : Nat, k < 256 ∧ pn j = nI k) (hwt : ∀ j, j < 16 → ∃ k : Nat, k < 256 ∧ wt j = nI k) (hen : okE en) : CI l yX8_key cX8_key 2 (some .int) 1 21 0 0 D cA cB [.ref h0, .int v] [(h0, .inr (8, [.ref hn, .ref hs, .ref hd, .ref hp, .ref qr, .ref qst, .ref qa, .ref qm, .ref qe])), (qr, .inr (4, [.ref hn, .ref hs, .ref hd, .ref hp, .ref hc, .int wy, .int dn])), (hd, .inr (1, [.ref hn, .ref h1, .ref h2, .ref h3, .ref h4])), (hp, .inr (3, [.ref he, .int (nI la), .int (nI ke)])), (hn, .inl (cA, 34, .inl f)), (hs, .inl (cA, 4096, .inl st)), (h1, .inl (cA, 64, .inl pn)), (h2, .inl (cA, 16, .inl wt)), (h3, .inl (cA, 900, .inl rg)), (h4, .inl (cA, 200, .inl pa)), (he, .inl (cA, 10752, .inl en)), (hc, .inl (cA, 257, .inl ct))] (fun r W1 => ∃ (wy2 : Int32) (dn2 : Int32) (la2 : Nat) (ke2 : Nat) (f2 : Nat → Int32) (st2 : Nat → Int32) (pn2 : Nat → Int32) (wt2 : Nat → Int32) (rg2 : Nat → Int32) (pa2 : Nat → Int32) (en2 : Nat → Int32) (ct2 : Nat → Int32) (rv : Int32), r = rv ∧ (la2 < 256) ∧ (ke2 < 257) ∧ (okN f2) ∧ (∀ j, j < 4096 → ∃ k : Nat, k < 256 ∧ st2 j = nI k) ∧ (∀ j, j < 64 → ∃ k : Nat, k < 256 ∧ pn2 j = nI k) ∧ (∀ j, j < 16 → ∃ k : Nat, k < 256 ∧ wt2 j = nI k) ∧ (okE en2) ∧ W1 = [(h0, .inr (8, [.ref hn, .ref hs, .ref hd, .ref hp, .ref qr, .ref qst, .ref qa, .ref qm, .ref qe])), (qr, .inr (4, [.ref hn, .ref hs, .ref hd, .ref hp, .ref hc, .int wy2, .int dn2])), (hd, .inr (1, [.ref hn, .ref h1, .ref h2, .ref h3, .ref h4])), (hp, .inr (3, [.ref he, .int (nI la2), .int (nI ke2)])), (hn, .inl (cA, 34, .inl f2)), (hs, .inl (cA, 4096, .inl st2)), (h1, .inl (cA, 64, .inl pn2)), (h2, .inl (cA, 16, .inl wt2)), (h3, .inl (cA, 900, .inl rg2)), (h4, .inl (cA, 200, .inl pa2)), (he, .inl (cA, 10752, .inl en2)), (hc, .inl (cA, 257, .inl ct2))]) := by
  refine mkI (lv0 := [(0, .ref h0), (1, .int v)]) (by decide) (Nat.le_of_ble_eq_true rfl) rfl ?_
  intro p e s m below meth c A ls X hr hlocks hnm hE hA hP hD hS hl
  have hx := X.1
  have hb := X.2.1
  refine lv_iload_n hx hb dX8_key_0 rfl (lv_at hl 1 rfl) ?_
  refine kSi (n3 := 1) (As := [.int v]) (rest := []) X hl.1 hE hP hD hS hA [] [(h0, .inr (8, [.ref hn, .ref hs, .ref hd, .ref hp, .ref qr, .ref qst, .ref qa, .ref qm, .ref qe])), (qr, .inr (4, [.ref hn, .ref hs, .ref hd, .ref hp, .ref hc, .int wy, .int dn])), (hd, .inr (1, [.ref hn, .ref h1, .ref h2, .ref h3, .ref h4])), (hp, .inr (3, [.ref he, .int (nI la), .int (nI ke)])), (hn, .inl (cA, 34, .inl f)), (hs, .inl (cA, 4096, .inl st)), (h1, .inl (cA, 64, .inl pn)), (h2, .inl (cA, 16, .inl wt)), (h3, .inl (cA, 900, .inl rg)), (h4, .inl (cA, 200, .inl pa)), (he, .inl (cA, 10752, .inl en)), (hc, .inl (cA, 257, .inl ct))] [] [0, 1, 2, 3, 4, 5, 6, 7, 8, 9, 10, 11] rfl rfl rfl (by decide +kernel) (by decide +kernel) (by decide +kernel) (c_isByte l D cA cB v ) w_326 w_107 w_325 w_327 (by decide +kernel) rfl rfl (Nat.le_of_ble_eq_true rfl) ⟨(Nat.le_of_ble_eq_true rfl), (Nat.le_of_ble_eq_true rfl)⟩ ⟨(Nat.le_of_ble_eq_true rfl), (Nat.le_of_ble_eq_true rfl)⟩ dX8_key_1 (fun r W1 H locs hw hP hD hS => ?_)
  obtain ⟨rfl, rfl⟩ := hw
  have hP : va_P D classes [(h0, .inr (8, [.ref hn, .ref hs, .ref hd, .ref hp, .ref qr, .ref qst, .ref qa, .ref qm, .ref qe])), (qr, .inr (4, [.ref hn, .ref hs, .ref hd, .ref hp, .ref hc, .int wy, .int dn])), (hd, .inr (1, [.ref hn, .ref h1, .ref h2, .ref h3, .ref h4])), (hp, .inr (3, [.ref he, .int (nI la), .int (nI ke)])), (hn, .inl (cA, 34, .inl f)), (hs, .inl (cA, 4096, .inl st)), (h1, .inl (cA, 64, .inl pn)), (h2, .inl (cA, 16, .inl wt)), (h3, .inl (cA, 900, .inl rg)), (h4, .inl (cA, 200, .inl pa)), (he, .inl (cA, 10752, .inl en)), (hc, .inl (cA, 257, .inl ct))] H := hP
  have hD : va_D A [(h0, .inr (8, [.ref hn, .ref hs, .ref hd, .ref hp, .ref qr, .ref qst, .ref qa, .ref qm, .ref qe])), (qr, .inr (4, [.ref hn, .ref hs, .ref hd, .ref hp, .ref hc, .int wy, .int dn])), (hd, .inr (1, [.ref hn, .ref h1, .ref h2, .ref h3, .ref h4])), (hp, .inr (3, [.ref he, .int (nI la), .int (nI ke)])), (hn, .inl (cA, 34, .inl f)), (hs, .inl (cA, 4096, .inl st)), (h1, .inl (cA, 64, .inl pn)), (h2, .inl (cA, 16, .inl wt)), (h3, .inl (cA, 900, .inl rg)), (h4, .inl (cA, 200, .inl pa)), (he, .inl (cA, 10752, .inl en)), (hc, .inl (cA, 257, .inl ct))] := hD
  refine lv_if_eq (tgt := 19) hx hb dX8_key_4 (by decide) (fun c_4 => ?_) (fun c_4 => ?_)
  · skip
    refine lv_iconst (v := (-1)) hx hb dX8_key_19 (by decide) ?_
    exact endI X hr hlocks hP hD hS dX8_key_20 ⟨wy, dn, la, ke, f, st, pn, wt, rg, pa, en, ct, (-1), rfl, (by omega), (by omega), hf, hst, hpn, hwt, hen, rfl⟩
  · skip
    obtain ⟨jv, hjv, ejv⟩ := isB_idx c_4
    rw [ejv] at hl
    refine lv_aload_n hx hb dX8_key_7 rfl (lv_at hl 0 rfl) ?_
    refine k_get (C := RX8) (T := TX8) (N := 9) (ci := 8) (v := .ref hn) X hE hP 0 rfl rfl iX8 0 (by decide) w_324 rfl dX8_key_8 ?_
    refine lv_bipush (v := 19) hx hb dX8_key_11 (by decide) ?_
    obtain ⟨k_1, hk_1, ek_1⟩ := hf.at 19 17 (by decide) rfl
    refine k_ald (v := nI k_1) X hE hP 4 rfl 19 rfl (by decide) (by decide) ek_1 dX8_key_13 ?_
    refine lv_bipush (v := 16) hx hb dX8_key_14 (by decide) ?_
    refine lv_icmp_lt (tgt := 21) hx hb dX8_key_16 (by decide) (fun c_16_2 => ?_) (fun c_16_2 => ?_)
    · have nc_16_2 : k_1 < 16 := (nI_ltI (a := k_1) (b := 16) (by omega) (by omega)).mp c_16_2
      refine lv_aload_n hx hb dX8_key_21 rfl (lv_at hl 0 rfl) ?_
      refine k_get (C := RX8) (T := TX8) (N := 9) (ci := 8) (v := .ref hd) X hE hP 0 rfl rfl iX8 2 (by decide) w_330 rfl dX8_key_22 ?_
      refine lv_iload_n hx hb dX8_key_25 rfl (lv_at hl 1 rfl) ?_
      refine kVv (n3 := 1) (As := [.int (nI jv)]) (rest := []) X hl.1 hE hP hD hS hA [(hd, .inr (1, [.ref hn, .ref h1, .ref h2, .ref h3, .ref h4])), (hn, .inl (cA, 34, .inl f)), (h1, .inl (cA, 64, .inl pn)), (h2, .inl (cA, 16, .inl wt)), (h3, .inl (cA, 900, .inl rg)), (h4, .inl (cA, 200, .inl pa))] [(h0, .inr (8, [.ref hn, .ref hs, .ref hd, .ref hp, .ref qr, .ref qst, .ref qa, .ref qm, .ref qe])), (qr, .inr (4, [.ref hn, .ref hs, .ref hd, .ref hp, .ref hc, .int wy, .int dn])), (hp, .inr (3, [.ref he, .int (nI la), .int (nI ke)])), (hs, .inl (cA, 4096, .inl st)), (he, .inl (cA, 10752, .inl en)), (hc, .inl (cA, 257, .inl ct))] [2, 4, 6, 7, 8, 9] [0, 1, 3, 5, 10, 11] rfl rfl rfl (by decide +kernel) (by decide +kernel) (by decide +kernel) (c_s_addKey l D cA cB hd hn h1 h2 h3 h4 f pn wt rg pa jv hf hpn hwt (by first | assumption | decide | rfl | omega) ⟨k_1, by omega, ek_1⟩) w_332 w_9 w_331 w_333 w_334 0 (ci := 1) (T := TX1) (N := 5) rfl rfl (by decide +kernel) rfl rfl (Nat.le_of_ble_eq_true rfl) ⟨(Nat.le_of_ble_eq_true rfl), (Nat.le_of_ble_eq_true rfl)⟩ ⟨(Nat.le_of_ble_eq_true rfl), (Nat.le_of_ble_eq_true rfl)⟩ dX8_key_26 (fun W1 H locs hw hP hD hS => ?_)
      obtain ⟨f2_3, pn2_4, wt2_5, rg2_6, pa2_7, hf_8, hf_9, hf_10, rfl⟩ := hw
      have hP : va_P D classes [(h0, .inr (8, [.ref hn, .ref hs, .ref hd, .ref hp, .ref qr, .ref qst, .ref qa, .ref qm, .ref qe])), (qr, .inr (4, [.ref hn, .ref hs, .ref hd, .ref hp, .ref hc, .int wy, .int dn])), (hp, .inr (3, [.ref he, .int (nI la), .int (nI ke)])), (hs, .inl (cA, 4096, .inl st)), (he, .inl (cA, 10752, .inl en)), (hc, .inl (cA, 257, .inl ct)), (hd, .inr (1, [.ref hn, .ref h1, .ref h2, .ref h3, .ref h4])), (hn, .inl (cA, 34, .inl f2_3)), (h1, .inl (cA, 64, .inl pn2_4)), (h2, .inl (cA, 16, .inl wt2_5)), (h3, .inl (cA, 900, .inl rg2_6)), (h4, .inl (cA, 200, .inl pa2_7))] H := hP
      have hD : va_D A [(h0, .inr (8, [.ref hn, .ref hs, .ref hd, .ref hp, .ref qr, .ref qst, .ref qa, .ref qm, .ref qe])), (qr, .inr (4, [.ref hn, .ref hs, .ref hd, .ref hp, .ref hc, .int wy, .int dn])), (hp, .inr (3, [.ref he, .int (nI la), .int (nI ke)])), (hs, .inl (cA, 4096, .inl st)), (he, .inl (cA, 10752, .inl en)), (hc, .inl (cA, 257, .inl ct)), (hd, .inr (1, [.ref hn, .ref h1, .ref h2, .ref h3, .ref h4])), (hn, .inl (cA, 34, .inl f2_3)), (h1, .inl (cA, 64, .inl pn2_4)), (h2, .inl (cA, 16, .inl wt2_5)), (h3, .inl (cA, 900, .inl rg2_6)), (h4, .inl (cA, 200, .inl pa2_7))] := hD
      refine lv_aload_n hx hb dX8_key_29 rfl (lv_at hl 0 rfl) ?_
      refine k_get (C := RX8) (T := TX8) (N := 9) (ci := 8) (v := .ref hp) X hE hP 0 rfl rfl iX8 3 (by decide) w_328 rfl dX8_key_30 ?_
      refine kVv (n3 := 0) (As := []) (rest := []) X hl.1 hE hP hD hS hA [(hp, .inr (3, [.ref he, .int (nI la), .int (nI ke)])), (he, .inl (cA, 10752, .inl en))] [(h0, .inr (8, [.ref hn, .ref hs, .ref hd, .ref hp, .ref qr, .ref qst, .ref qa, .ref qm, .ref qe])), (qr, .inr (4, [.ref hn, .ref hs, .ref hd, .ref hp, .ref hc, .int wy, .int dn])), (hs, .inl (cA, 4096, .inl st)), (hc, .inl (cA, 257, .inl ct)), (hd, .inr (1, [.ref hn, .ref h1, .ref h2, .ref h3, .ref h4])), (hn, .inl (cA, 34, .inl f2_3)), (h1, .inl (cA, 64, .inl pn2_4)), (h2, .inl (cA, 16, .inl wt2_5)), (h3, .inl (cA, 900, .inl rg2_6)), (h4, .inl (cA, 200, .inl pa2_7))] [2, 4] [0, 1, 3, 5, 6, 7, 8, 9, 10, 11] rfl rfl rfl (by decide +kernel) (by decide +kernel) (by decide +kernel) (c_s_forget l D cA cB hp he la ke en (by first | assumption | decide | rfl | omega) (by first | assumption | decide | rfl | omega) hen) w_290 w_164 w_329 w_291 w_292 0 (ci := 3) (T := TX3) (N := 3) rfl rfl (by decide +kernel) rfl rfl (Nat.le_of_ble_eq_true rfl) ⟨(Nat.le_of_ble_eq_true rfl), (Nat.le_of_ble_eq_true rfl)⟩ ⟨(Nat.le_of_ble_eq_true rfl), (Nat.le_of_ble_eq_true rfl)⟩ dX8_key_33 (fun W1 H locs hw hP hD hS => ?_)
      obtain ⟨la2_11, ke2_12, en2_13, hf_14, hf_15, hf_16, rfl⟩ := hw
      have hP : va_P D classes [(h0, .inr (8, [.ref hn, .ref hs, .ref hd, .ref hp, .ref qr, .ref qst, .ref qa, .ref qm, .ref qe])), (qr, .inr (4, [.ref hn, .ref hs, .ref hd, .ref hp, .ref hc, .int wy, .int dn])), (hs, .inl (cA, 4096, .inl st)), (hc, .inl (cA, 257, .inl ct)), (hd, .inr (1, [.ref hn, .ref h1, .ref h2, .ref h3, .ref h4])), (hn, .inl (cA, 34, .inl f2_3)), (h1, .inl (cA, 64, .inl pn2_4)), (h2, .inl (cA, 16, .inl wt2_5)), (h3, .inl (cA, 900, .inl rg2_6)), (h4, .inl (cA, 200, .inl pa2_7)), (hp, .inr (3, [.ref he, .int (nI la2_11), .int (nI ke2_12)])), (he, .inl (cA, 10752, .inl en2_13))] H := hP
      have hD : va_D A [(h0, .inr (8, [.ref hn, .ref hs, .ref hd, .ref hp, .ref qr, .ref qst, .ref qa, .ref qm, .ref qe])), (qr, .inr (4, [.ref hn, .ref hs, .ref hd, .ref hp, .ref hc, .int wy, .int dn])), (hs, .inl (cA, 4096, .inl st)), (hc, .inl (cA, 257, .inl ct)), (hd, .inr (1, [.ref hn, .ref h1, .ref h2, .ref h3, .ref h4])), (hn, .inl (cA, 34, .inl f2_3)), (h1, .inl (cA, 64, .inl pn2_4)), (h2, .inl (cA, 16, .inl wt2_5)), (h3, .inl (cA, 900, .inl rg2_6)), (h4, .inl (cA, 200, .inl pa2_7)), (hp, .inr (3, [.ref he, .int (nI la2_11), .int (nI ke2_12)])), (he, .inl (cA, 10752, .inl en2_13))] := hD
      refine lv_aload_n hx hb dX8_key_36 rfl (lv_at hl 0 rfl) ?_
      refine k_get (C := RX8) (T := TX8) (N := 9) (ci := 8) (v := .ref hn) X hE hP 0 rfl rfl iX8 0 (by decide) w_324 rfl dX8_key_37 ?_
      refine lv_bipush (v := 19) hx hb dX8_key_40 (by decide) ?_
      obtain ⟨k_17, hk_17, ek_17⟩ := hf_8.at 19 17 (by decide) rfl
      refine k_ald (v := nI k_17) X hE hP 5 rfl 19 rfl (by decide) (by decide) ek_17 dX8_key_42 ?_
      have hP : va_P D classes [(h0, .inr (8, [.ref hn, .ref hs, .ref hd, .ref hp, .ref qr, .ref qst, .ref qa, .ref qm, .ref qe])), (qr, .inr (4, [.ref hn, .ref hs, .ref hd, .ref hp, .ref hc, .int wy, .int dn])), (hd, .inr (1, [.ref hn, .ref h1, .ref h2, .ref h3, .ref h4])), (hp, .inr (3, [.ref he, .int (nI la2_11), .int (nI ke2_12)])), (hn, .inl (cA, 34, .inl f2_3)), (hs, .inl (cA, 4096, .inl st)), (h1, .inl (cA, 64, .inl pn2_4)), (h2, .inl (cA, 16, .inl wt2_5)), (h3, .inl (cA, 900, .inl rg2_6)), (h4, .inl (cA, 200, .inl pa2_7)), (he, .inl (cA, 10752, .inl en2_13)), (hc, .inl (cA, 257, .inl ct))] _ := hP.sub [0, 1, 4, 10, 5, 2, 6, 7, 8, 9, 11, 3] rfl
      have hD : va_D A [(h0, .inr (8, [.ref hn, .ref hs, .ref hd, .ref hp, .ref qr, .ref qst, .ref qa, .ref qm, .ref qe])), (qr, .inr (4, [.ref hn, .ref hs, .ref hd, .ref hp, .ref hc, .int wy, .int dn])), (hd, .inr (1, [.ref hn, .ref h1, .ref h2, .ref h3, .ref h4])), (hp, .inr (3, [.ref he, .int (nI la2_11), .int (nI ke2_12)])), (hn, .inl (cA, 34, .inl f2_3)), (hs, .inl (cA, 4096, .inl st)), (h1, .inl (cA, 64, .inl pn2_4)), (h2, .inl (cA, 16, .inl wt2_5)), (h3, .inl (cA, 900, .inl rg2_6)), (h4, .inl (cA, 200, .inl pa2_7)), (he, .inl (cA, 10752, .inl en2_13)), (hc, .inl (cA, 257, .inl ct))] := hD.sub [0, 1, 4, 10, 5, 2, 6, 7, 8, 9, 11, 3] (by decide) rfl
      exact endI X hr hlocks hP hD hS dX8_key_43 ⟨wy, dn, la2_11, ke2_12, f2_3, st, pn2_4, wt2_5, rg2_6, pa2_7, en2_13, ct, (nI k_17), rfl, (by omega), (by omega), hf_8, hst, hf_9, hf_10, hf_16, rfl⟩
    · have nc_16_2 : 16 ≤ k_1 := Nat.not_lt.mp (fun q => c_16_2 ((nI_ltI (a := k_1) (b := 16) (by omega) (by omega)).mpr q))
      refine lv_iconst (v := (-1)) hx hb dX8_key_19 (by decide) ?_
      exact endI X hr hlocks hP hD hS dX8_key_20 ⟨wy, dn, la, ke, f, st, pn, wt, rg, pa, en, ct, (-1), rfl, (by omega), (by omega), hf, hst, hpn, hwt, hen, rfl⟩
set_option maxHeartbeats 4000000 in
set_option maxRecDepth 100000 in
theorem c_s_strip (l : Launch) (D : va_G) (cA cB : ClassId) (h0 : Nat) (hn : Nat) (hs : Nat) (hd : Nat) (hp : Nat) (qr : Nat) (qst : Nat) (qa : Nat) (qm : Nat) (qe : Nat) (hc : Nat) (h1 : Nat) (h2 : Nat) (h3 : Nat) (h4 : Nat) (he : Nat) (wy : Int32) (dn : Int32) (la : Nat) (ke : Nat) (f : Nat → Int32) (st : Nat → Int32) (pn : Nat → Int32) (wt : Nat → Int32) (rg : Nat → Int32) (pa : Nat → Int32) (en : Nat → Int32) (ct : Nat → Int32) (a : Int32) (hla : la < 256) (hke : ke < 257) (hf : okN f) (hst : ∀ j, j < 4096 → ∃ k : Nat, k < 256 ∧ st j = nI k) (hpn : ∀ j, j < 64 → ∃ k : Nat, k < 256 ∧ pn j = nI k) (hwt : ∀ j, j < 16 → ∃ k : Nat, k < 256 ∧ wt j = nI k) (hen : okE en) : CI l yX8_strip cX8_strip 2 (some .int) 0 0 0 0 D cA cB [.ref h0, .int a] [(h0, .inr (8, [.ref hn, .ref hs, .ref hd, .ref hp, .ref qr, .ref qst, .ref qa, .ref qm, .ref qe])), (qr, .inr (4, [.ref hn, .ref hs, .ref hd, .ref hp, .ref hc, .int wy, .int dn])), (hd, .inr (1, [.ref hn, .ref h1, .ref h2, .ref h3, .ref h4])), (hp, .inr (3, [.ref he, .int (nI la), .int (nI ke)])), (hn, .inl (cA, 34, .inl f)), (hs, .inl (cA, 4096, .inl st)), (h1, .inl (cA, 64, .inl pn)), (h2, .inl (cA, 16, .inl wt)), (h3, .inl (cA, 900, .inl rg)), (h4, .inl (cA, 200, .inl pa)), (he, .inl (cA, 10752, .inl en)), (hc, .inl (cA, 257, .inl ct))] (fun r W1 => ∃ (wy2 : Int32) (dn2 : Int32) (la2 : Nat) (ke2 : Nat) (f2 : Nat → Int32) (st2 : Nat → Int32) (pn2 : Nat → Int32) (wt2 : Nat → Int32) (rg2 : Nat → Int32) (pa2 : Nat → Int32) (en2 : Nat → Int32) (ct2 : Nat → Int32) (rv : Int32), r = rv ∧ (la2 < 256) ∧ (ke2 < 257) ∧ (okN f2) ∧ (∀ j, j < 4096 → ∃ k : Nat, k < 256 ∧ st2 j = nI k) ∧ (∀ j, j < 64 → ∃ k : Nat, k < 256 ∧ pn2 j = nI k) ∧ (∀ j, j < 16 → ∃ k : Nat, k < 256 ∧ wt2 j = nI k) ∧ (okE en2) ∧ W1 = [(h0, .inr (8, [.ref hn, .ref hs, .ref hd, .ref hp, .ref qr, .ref qst, .ref qa, .ref qm, .ref qe])), (qr, .inr (4, [.ref hn, .ref hs, .ref hd, .ref hp, .ref hc, .int wy2, .int dn2])), (hd, .inr (1, [.ref hn, .ref h1, .ref h2, .ref h3, .ref h4])), (hp, .inr (3, [.ref he, .int (nI la2), .int (nI ke2)])), (hn, .inl (cA, 34, .inl f2)), (hs, .inl (cA, 4096, .inl st2)), (h1, .inl (cA, 64, .inl pn2)), (h2, .inl (cA, 16, .inl wt2)), (h3, .inl (cA, 900, .inl rg2)), (h4, .inl (cA, 200, .inl pa2)), (he, .inl (cA, 10752, .inl en2)), (hc, .inl (cA, 257, .inl ct2))]) := by
  refine mkI (lv0 := [(0, .ref h0), (1, .int a)]) (by decide) (Nat.le_of_ble_eq_true rfl) rfl ?_
  intro p e s m below meth c A ls X hr hlocks hnm hE hA hP hD hS hl
  have hx := X.1
  have hb := X.2.1
  refine lv_iload_n hx hb dX8_strip_0 rfl (lv_at hl 1 rfl) ?_
  refine lv_if_lt (tgt := 27) hx hb dX8_strip_1 (by decide) (fun c_1 => ?_) (fun c_1 => ?_)
  · skip
    refine lv_iconst (v := (-1)) hx hb dX8_strip_27 (by decide) ?_
    exact endI X hr hlocks hP hD hS dX8_strip_28 ⟨wy, dn, la, ke, f, st, pn, wt, rg, pa, en, ct, (-1), rfl, (by omega), (by omega), hf, hst, hpn, hwt, hen, rfl⟩
  · skip
    obtain ⟨j, hj, ej⟩ := nI_of c_1
    rw [ej] at hl
    refine lv_iload_n hx hb dX8_strip_4 rfl (lv_at hl 1 rfl) ?_
    refine lv_aload_n hx hb dX8_strip_5 rfl (lv_at hl 0 rfl) ?_
    refine k_get (C := RX8) (T := TX8) (N := 9) (ci := 8) (v := .ref hn) X hE hP 0 rfl rfl iX8 0 (by decide) w_324 rfl dX8_strip_6 ?_
    refine lv_bipush (v := 32) hx hb dX8_strip_9 (by decide) ?_
    obtain ⟨k_1, hk_1, ek_1⟩ := hf.at 32 201 (by decide) rfl
    refine k_ald (v := nI k_1) X hE hP 4 rfl 32 rfl (by decide) (by decide) ek_1 dX8_strip_11 ?_
    refine lv_icmp_ge (tgt := 27) hx hb dX8_strip_12 (by decide) (fun c_12_2 => ?_) (fun c_12_2 => ?_)
    · have nc_12_2 : k_1 ≤ j := (nI_leI (a := k_1) (b := j) (by omega) (by omega)).mp c_12_2
      refine lv_iconst (v := (-1)) hx hb dX8_strip_27 (by decide) ?_
      exact endI X hr hlocks hP hD hS dX8_strip_28 ⟨wy, dn, la, ke, f, st, pn, wt, rg, pa, en, ct, (-1), rfl, (by omega), (by omega), hf, hst, hpn, hwt, hen, rfl⟩
    · have nc_12_2 : j < k_1 := Nat.not_le.mp (fun q => c_12_2 ((nI_leI (a := k_1) (b := j) (by omega) (by omega)).mpr q))
      refine lv_aload_n hx hb dX8_strip_15 rfl (lv_at hl 0 rfl) ?_
      refine k_get (C := RX8) (T := TX8) (N := 9) (ci := 8) (v := .ref hd) X hE hP 0 rfl rfl iX8 2 (by decide) w_330 rfl dX8_strip_16 ?_
      refine k_getN (C := RX1) (T := TX1) (N := 5) (ci := 1) (v := .ref h4) X hE hP 2 rfl rfl iX1 4 (by decide) nw_2 rfl dX8_strip_19 ?_
      refine lv_iload_n hx hb dX8_strip_22 rfl (lv_at hl 1 rfl) ?_
      refine k_ald (v := pa j) X hE hP 9 rfl j rfl (by omega) (by decide) rfl dX8_strip_23 ?_
      refine lv_goto (tgt := 28) hx hb dX8_strip_24 (by decide) ?_
      exact endI X hr hlocks hP hD hS dX8_strip_28 ⟨wy, dn, la, ke, f, st, pn, wt, rg, pa, en, ct, (pa j), rfl, (by omega), (by omega), hf, hst, hpn, hwt, hen, rfl⟩
set_option maxHeartbeats 4000000 in
set_option maxRecDepth 100000 in
theorem c_s_ring (l : Launch) (D : va_G) (cA cB : ClassId) (h0 : Nat) (hn : Nat) (hs : Nat) (hd : Nat) (hp : Nat) (qr : Nat) (qst : Nat) (qa : Nat) (qm : Nat) (qe : Nat) (hc : Nat) (h1 : Nat) (h2 : Nat) (h3 : Nat) (h4 : Nat) (he : Nat) (wy : Int32) (dn : Int32) (la : Nat) (ke : Nat) (f : Nat → Int32) (st : Nat → Int32) (pn : Nat → Int32) (wt : Nat → Int32) (rg : Nat → Int32) (pa : Nat → Int32) (en : Nat → Int32) (ct : Nat → Int32) (a : Int32) (v : Int32) (hla : la < 256) (hke : ke < 257) (hf : okN f) (hst : ∀ j, j < 4096 → ∃ k : Nat, k < 256 ∧ st j = nI k) (hpn : ∀ j, j < 64 → ∃ k : Nat, k < 256 ∧ pn j = nI k) (hwt : ∀ j, j < 16 → ∃ k : Nat, k < 256 ∧ wt j = nI k) (hen : okE en) : CI l yX8_ring cX8_ring 3 (some .int) 0 0 0 0 D cA cB [.ref h0, .int a, .int v] [(h0, .inr (8, [.ref hn, .ref hs, .ref hd, .ref hp, .ref qr, .ref qst, .ref qa, .ref qm, .ref qe])), (qr, .inr (4, [.ref hn, .ref hs, .ref hd, .ref hp, .ref hc, .int wy, .int dn])), (hd, .inr (1, [.ref hn, .ref h1, .ref h2, .ref h3, .ref h4])), (hp, .inr (3, [.ref he, .int (nI la), .int (nI ke)])), (hn, .inl (cA, 34, .inl f)), (hs, .inl (cA, 4096, .inl st)), (h1, .inl (cA, 64, .inl pn)), (h2, .inl (cA, 16, .inl wt)), (h3, .inl (cA, 900, .inl rg)), (h4, .inl (cA, 200, .inl pa)), (he, .inl (cA, 10752, .inl en)), (hc, .inl (cA, 257, .inl ct))] (fun r W1 => ∃ (wy2 : Int32) (dn2 : Int32) (la2 : Nat) (ke2 : Nat) (f2 : Nat → Int32) (st2 : Nat → Int32) (pn2 : Nat → Int32) (wt2 : Nat → Int32) (rg2 : Nat → Int32) (pa2 : Nat → Int32) (en2 : Nat → Int32) (ct2 : Nat → Int32) (rv : Int32), r = rv ∧ (la2 < 256) ∧ (ke2 < 257) ∧ (okN f2) ∧ (∀ j, j < 4096 → ∃ k : Nat, k < 256 ∧ st2 j = nI k) ∧ (∀ j, j < 64 → ∃ k : Nat, k < 256 ∧ pn2 j = nI k) ∧ (∀ j, j < 16 → ∃ k : Nat, k < 256 ∧ wt2 j = nI k) ∧ (okE en2) ∧ W1 = [(h0, .inr (8, [.ref hn, .ref hs, .ref hd, .ref hp, .ref qr, .ref qst, .ref qa, .ref qm, .ref qe])), (qr, .inr (4, [.ref hn, .ref hs, .ref hd, .ref hp, .ref hc, .int wy2, .int dn2])), (hd, .inr (1, [.ref hn, .ref h1, .ref h2, .ref h3, .ref h4])), (hp, .inr (3, [.ref he, .int (nI la2), .int (nI ke2)])), (hn, .inl (cA, 34, .inl f2)), (hs, .inl (cA, 4096, .inl st2)), (h1, .inl (cA, 64, .inl pn2)), (h2, .inl (cA, 16, .inl wt2)), (h3, .inl (cA, 900, .inl rg2)), (h4, .inl (cA, 200, .inl pa2)), (he, .inl (cA, 10752, .inl en2)), (hc, .inl (cA, 257, .inl ct2))]) := by
  refine mkI (lv0 := [(0, .ref h0), (1, .int a), (2, .int v)]) (by decide) (Nat.le_of_ble_eq_true rfl) rfl ?_
  intro p e s m below meth c A ls X hr hlocks hnm hE hA hP hD hS hl
  have hx := X.1
  have hb := X.2.1
  refine lv_iload_n hx hb dX8_ring_0 rfl (lv_at hl 1 rfl) ?_
  refine lv_if_lt (tgt := 24) hx hb dX8_ring_1 (by decide) (fun c_1 => ?_) (fun c_1 => ?_)
  · skip
    refine lv_iconst (v := (-1)) hx hb dX8_ring_24 (by decide) ?_
    exact endI X hr hlocks hP hD hS dX8_ring_25 ⟨wy, dn, la, ke, f, st, pn, wt, rg, pa, en, ct, (-1), rfl, (by omega), (by omega), hf, hst, hpn, hwt, hen, rfl⟩
  · skip
    obtain ⟨j, hj, ej⟩ := nI_of c_1
    rw [ej] at hl
    refine lv_iload_n hx hb dX8_ring_4 rfl (lv_at hl 1 rfl) ?_
    refine lv_aload_n hx hb dX8_ring_5 rfl (lv_at hl 0 rfl) ?_
    refine k_get (C := RX8) (T := TX8) (N := 9) (ci := 8) (v := .ref hn) X hE hP 0 rfl rfl iX8 0 (by decide) w_324 rfl dX8_ring_6 ?_
    refine lv_bipush (v := 31) hx hb dX8_ring_9 (by decide) ?_
    obtain ⟨k_1, hk_1, ek_1⟩ := hf.at 31 301 (by decide) rfl
    refine k_ald (v := nI k_1) X hE hP 4 rfl 31 rfl (by decide) (by decide) ek_1 dX8_ring_11 ?_
    refine lv_icmp_ge (tgt := 24) hx hb dX8_ring_12 (by decide) (fun c_12_2 => ?_) (fun c_12_2 => ?_)
    · have nc_12_2 : k_1 ≤ j := (nI_leI (a := k_1) (b := j) (by omega) (by omega)).mp c_12_2
      refine lv_iconst (v := (-1)) hx hb dX8_ring_24 (by decide) ?_
      exact endI X hr hlocks hP hD hS dX8_ring_25 ⟨wy, dn, la, ke, f, st, pn, wt, rg, pa, en, ct, (-1), rfl, (by omega), (by omega), hf, hst, hpn, hwt, hen, rfl⟩
    · have nc_12_2 : j < k_1 := Nat.not_le.mp (fun q => c_12_2 ((nI_leI (a := k_1) (b := j) (by omega) (by omega)).mpr q))
      refine lv_iload_n hx hb dX8_ring_15 rfl (lv_at hl 2 rfl) ?_
      refine lv_if_lt (tgt := 24) hx hb dX8_ring_16 (by decide) (fun c_16 => ?_) (fun c_16 => ?_)
      · skip
        refine lv_iconst (v := (-1)) hx hb dX8_ring_24 (by decide) ?_
        exact endI X hr hlocks hP hD hS dX8_ring_25 ⟨wy, dn, la, ke, f, st, pn, wt, rg, pa, en, ct, (-1), rfl, (by omega), (by omega), hf, hst, hpn, hwt, hen, rfl⟩
      · skip
        obtain ⟨jv, hjv, ejv⟩ := nI_of c_16
        rw [ejv] at hl
        refine lv_iload_n hx hb dX8_ring_19 rfl (lv_at hl 2 rfl) ?_
        refine lv_iconst (v := 2) hx hb dX8_ring_20 (by decide) ?_
        refine lv_icmp_le (tgt := 26) hx hb dX8_ring_21 (by decide) (fun c_21_3 => ?_) (fun c_21_3 => ?_)
        · have nc_21_3 : jv ≤ 2 := (nI_leI (a := jv) (b := 2) (by omega) (by omega)).mp c_21_3
          refine lv_aload_n hx hb dX8_ring_26 rfl (lv_at hl 0 rfl) ?_
          refine k_get (C := RX8) (T := TX8) (N := 9) (ci := 8) (v := .ref hd) X hE hP 0 rfl rfl iX8 2 (by decide) w_330 rfl dX8_ring_27 ?_
          refine k_getN (C := RX1) (T := TX1) (N := 5) (ci := 1) (v := .ref h3) X hE hP 2 rfl rfl iX1 3 (by decide) nw_1 rfl dX8_ring_30 ?_
          refine lv_iconst (v := 3) hx hb dX8_ring_33 (by decide) ?_
          refine lv_iload_n hx hb dX8_ring_34 rfl (lv_at hl 1 rfl) ?_
          refine lv_imul hx hb dX8_ring_35 ?_
          refine tk (y := nI (3 * j)) (pk_mul 3 j) ?_
          refine lv_iload_n hx hb dX8_ring_36 rfl (lv_at hl 2 rfl) ?_
          refine lv_iadd hx hb dX8_ring_37 ?_
          refine tk (y := nI (3 * j + jv)) (nI_add _ _) ?_
          refine k_ald (v := rg (3 * j + jv)) X hE hP 8 rfl (3 * j + jv) rfl (by omega) (by decide) rfl dX8_ring_38 ?_
          exact endI X hr hlocks hP hD hS dX8_ring_39 ⟨wy, dn, la, ke, f, st, pn, wt, rg, pa, en, ct, (rg (3 * j + jv)), rfl, (by omega), (by omega), hf, hst, hpn, hwt, hen, rfl⟩
        · have nc_21_3 : 2 < jv := Nat.not_le.mp (fun q => c_21_3 ((nI_leI (a := jv) (b := 2) (by omega) (by omega)).mpr q))
          refine lv_iconst (v := (-1)) hx hb dX8_ring_24 (by decide) ?_
          exact endI X hr hlocks hP hD hS dX8_ring_25 ⟨wy, dn, la, ke, f, st, pn, wt, rg, pa, en, ct, (-1), rfl, (by omega), (by omega), hf, hst, hpn, hwt, hen, rfl⟩
set_option maxHeartbeats 4000000 in
set_option maxRecDepth 100000 in
theorem c_s_device (l : Launch) (D : va_G) (cA cB : ClassId) (h0 : Nat) (hn : Nat) (hs : Nat) (hd : Nat) (hp : Nat) (qr : Nat) (qst : Nat) (qa : Nat) (qm : Nat) (qe : Nat) (hc : Nat) (h1 : Nat) (h2 : Nat) (h3 : Nat) (h4 : Nat) (he : Nat) (wy : Int32) (dn : Int32) (la : Nat) (ke : Nat) (f : Nat → Int32) (st : Nat → Int32) (pn : Nat → Int32) (wt : Nat → Int32) (rg : Nat → Int32) (pa : Nat → Int32) (en : Nat → Int32) (ct : Nat → Int32) (a : Int32) (hla : la < 256) (hke : ke < 257) (hf : okN f) (hst : ∀ j, j < 4096 → ∃ k : Nat, k < 256 ∧ st j = nI k) (hpn : ∀ j, j < 64 → ∃ k : Nat, k < 256 ∧ pn j = nI k) (hwt : ∀ j, j < 16 → ∃ k : Nat, k < 256 ∧ wt j = nI k) (hen : okE en) : CI l yX8_device cX8_device 2 (some .int) 1 21 0 0 D cA cB [.ref h0, .int a] [(h0, .inr (8, [.ref hn, .ref hs, .ref hd, .ref hp, .ref qr, .ref qst, .ref qa, .ref qm, .ref qe])), (qr, .inr (4, [.ref hn, .ref hs, .ref hd, .ref hp, .ref hc, .int wy, .int dn])), (hd, .inr (1, [.ref hn, .ref h1, .ref h2, .ref h3, .ref h4])), (hp, .inr (3, [.ref he, .int (nI la), .int (nI ke)])), (hn, .inl (cA, 34, .inl f)), (hs, .inl (cA, 4096, .inl st)), (h1, .inl (cA, 64, .inl pn)), (h2, .inl (cA, 16, .inl wt)), (h3, .inl (cA, 900, .inl rg)), (h4, .inl (cA, 200, .inl pa)), (he, .inl (cA, 10752, .inl en)), (hc, .inl (cA, 257, .inl ct))] (fun r W1 => ∃ (wy2 : Int32) (dn2 : Int32) (la2 : Nat) (ke2 : Nat) (f2 : Nat → Int32) (st2 : Nat → Int32) (pn2 : Nat → Int32) (wt2 : Nat → Int32) (rg2 : Nat → Int32) (pa2 : Nat → Int32) (en2 : Nat → Int32) (ct2 : Nat → Int32) (rv : Int32), r = rv ∧ (la2 < 256) ∧ (ke2 < 257) ∧ (okN f2) ∧ (∀ j, j < 4096 → ∃ k : Nat, k < 256 ∧ st2 j = nI k) ∧ (∀ j, j < 64 → ∃ k : Nat, k < 256 ∧ pn2 j = nI k) ∧ (∀ j, j < 16 → ∃ k : Nat, k < 256 ∧ wt2 j = nI k) ∧ (okE en2) ∧ W1 = [(h0, .inr (8, [.ref hn, .ref hs, .ref hd, .ref hp, .ref qr, .ref qst, .ref qa, .ref qm, .ref qe])), (qr, .inr (4, [.ref hn, .ref hs, .ref hd, .ref hp, .ref hc, .int wy2, .int dn2])), (hd, .inr (1, [.ref hn, .ref h1, .ref h2, .ref h3, .ref h4])), (hp, .inr (3, [.ref he, .int (nI la2), .int (nI ke2)])), (hn, .inl (cA, 34, .inl f2)), (hs, .inl (cA, 4096, .inl st2)), (h1, .inl (cA, 64, .inl pn2)), (h2, .inl (cA, 16, .inl wt2)), (h3, .inl (cA, 900, .inl rg2)), (h4, .inl (cA, 200, .inl pa2)), (he, .inl (cA, 10752, .inl en2)), (hc, .inl (cA, 257, .inl ct2))]) := by
  refine mkI (lv0 := [(0, .ref h0), (1, .int a)]) (by decide) (Nat.le_of_ble_eq_true rfl) rfl ?_
  intro p e s m below meth c A ls X hr hlocks hnm hE hA hP hD hS hl
  have hx := X.1
  have hb := X.2.1
  refine lv_iload_n hx hb dX8_device_0 rfl (lv_at hl 1 rfl) ?_
  refine lv_if_lt (tgt := 20) hx hb dX8_device_1 (by decide) (fun c_1 => ?_) (fun c_1 => ?_)
  · skip
    refine lv_iload_n hx hb dX8_device_20 rfl (lv_at hl 1 rfl) ?_
    refine lv_bipush (v := 20) hx hb dX8_device_21 (by decide) ?_
    refine lv_icmp_ne (tgt := 34) hx hb dX8_device_23 (by decide) (fun c_23 => ?_) (fun c_23 => ?_)
    · skip
      refine lv_iload_n hx hb dX8_device_34 rfl (lv_at hl 1 rfl) ?_
      refine lv_bipush (v := 21) hx hb dX8_device_35 (by decide) ?_
      refine lv_icmp_lt (tgt := 60) hx hb dX8_device_37 (by decide) (fun c_37 => ?_) (fun c_37 => ?_)
      · skip
        refine lv_iconst (v := 0) hx hb dX8_device_60 (by decide) ?_
        exact endI X hr hlocks hP hD hS dX8_device_61 ⟨wy, dn, la, ke, f, st, pn, wt, rg, pa, en, ct, 0, rfl, (by omega), (by omega), hf, hst, hpn, hwt, hen, rfl⟩
      · skip
        refine lv_iload_n hx hb dX8_device_40 rfl (lv_at hl 1 rfl) ?_
        refine lv_bipush (v := 37) hx hb dX8_device_41 (by decide) ?_
        refine lv_icmp_ge (tgt := 60) hx hb dX8_device_43 (by decide) (fun c_43 => ?_) (fun c_43 => ?_)
        · skip
          refine lv_iconst (v := 0) hx hb dX8_device_60 (by decide) ?_
          exact endI X hr hlocks hP hD hS dX8_device_61 ⟨wy, dn, la, ke, f, st, pn, wt, rg, pa, en, ct, 0, rfl, (by omega), (by omega), hf, hst, hpn, hwt, hen, rfl⟩
        · skip
          obtain ⟨j, hj0, hj, ej⟩ := rng21 c_37 c_43
          rw [ej] at hl
          refine lv_aload_n hx hb dX8_device_46 rfl (lv_at hl 0 rfl) ?_
          refine k_get (C := RX8) (T := TX8) (N := 9) (ci := 8) (v := .ref hd) X hE hP 0 rfl rfl iX8 2 (by decide) w_330 rfl dX8_device_47 ?_
          refine lv_iload_n hx hb dX8_device_50 rfl (lv_at hl 1 rfl) ?_
          refine lv_bipush (v := 21) hx hb dX8_device_51 (by decide) ?_
          refine lv_isub hx hb dX8_device_53 ?_
          refine tk (y := nI (j - 21)) (pk_sub (a := j) (b := 21) (by omega)) ?_
          refine kVi (n3 := 1) (As := [.int (nI (j - 21))]) (rest := []) X hl.1 hE hP hD hS hA [(hd, .inr (1, [.ref hn, .ref h1, .ref h2, .ref h3, .ref h4])), (hn, .inl (cA, 34, .inl f)), (h1, .inl (cA, 64, .inl pn)), (h2, .inl (cA, 16, .inl wt)), (h3, .inl (cA, 900, .inl rg)), (h4, .inl (cA, 200, .inl pa))] [(h0, .inr (8, [.ref hn, .ref hs, .ref hd, .ref hp, .ref qr, .ref qst, .ref qa, .ref qm, .ref qe])), (qr, .inr (4, [.ref hn, .ref hs, .ref hd, .ref hp, .ref hc, .int wy, .int dn])), (hp, .inr (3, [.ref he, .int (nI la), .int (nI ke)])), (hs, .inl (cA, 4096, .inl st)), (he, .inl (cA, 10752, .inl en)), (hc, .inl (cA, 257, .inl ct))] [2, 4, 6, 7, 8, 9] [0, 1, 3, 5, 10, 11] rfl rfl rfl (by decide +kernel) (by decide +kernel) (by decide +kernel) (c_s_keyAt l D cA cB hd hn h1 h2 h3 h4 f pn wt rg pa (j - 21) hf hpn hwt (by first | assumption | decide | rfl | omega)) w_336 w_9 w_335 w_337 w_338 0 (ci := 1) (T := TX1) (N := 5) rfl rfl (by decide +kernel) rfl rfl (Nat.le_of_ble_eq_true rfl) ⟨(Nat.le_of_ble_eq_true rfl), (Nat.le_of_ble_eq_true rfl)⟩ ⟨(Nat.le_of_ble_eq_true rfl), (Nat.le_of_ble_eq_true rfl)⟩ dX8_device_54 (fun r W1 H locs hw hP hD hS => ?_)
          obtain ⟨f2_1, pn2_2, wt2_3, rg2_4, pa2_5, rk_6, rfl, hf_7, hf_8, hf_9, hf_10, rfl⟩ := hw
          have hP : va_P D classes [(h0, .inr (8, [.ref hn, .ref hs, .ref hd, .ref hp, .ref qr, .ref qst, .ref qa, .ref qm, .ref qe])), (qr, .inr (4, [.ref hn, .ref hs, .ref hd, .ref hp, .ref hc, .int wy, .int dn])), (hp, .inr (3, [.ref he, .int (nI la), .int (nI ke)])), (hs, .inl (cA, 4096, .inl st)), (he, .inl (cA, 10752, .inl en)), (hc, .inl (cA, 257, .inl ct)), (hd, .inr (1, [.ref hn, .ref h1, .ref h2, .ref h3, .ref h4])), (hn, .inl (cA, 34, .inl f2_1)), (h1, .inl (cA, 64, .inl pn2_2)), (h2, .inl (cA, 16, .inl wt2_3)), (h3, .inl (cA, 900, .inl rg2_4)), (h4, .inl (cA, 200, .inl pa2_5))] H := hP
          have hD : va_D A [(h0, .inr (8, [.ref hn, .ref hs, .ref hd, .ref hp, .ref qr, .ref qst, .ref qa, .ref qm, .ref qe])), (qr, .inr (4, [.ref hn, .ref hs, .ref hd, .ref hp, .ref hc, .int wy, .int dn])), (hp, .inr (3, [.ref he, .int (nI la), .int (nI ke)])), (hs, .inl (cA, 4096, .inl st)), (he, .inl (cA, 10752, .inl en)), (hc, .inl (cA, 257, .inl ct)), (hd, .inr (1, [.ref hn, .ref h1, .ref h2, .ref h3, .ref h4])), (hn, .inl (cA, 34, .inl f2_1)), (h1, .inl (cA, 64, .inl pn2_2)), (h2, .inl (cA, 16, .inl wt2_3)), (h3, .inl (cA, 900, .inl rg2_4)), (h4, .inl (cA, 200, .inl pa2_5))] := hD
          refine lv_goto (tgt := 61) hx hb dX8_device_57 (by decide) ?_
          have hP : va_P D classes [(h0, .inr (8, [.ref hn, .ref hs, .ref hd, .ref hp, .ref qr, .ref qst, .ref qa, .ref qm, .ref qe])), (qr, .inr (4, [.ref hn, .ref hs, .ref hd, .ref hp, .ref hc, .int wy, .int dn])), (hd, .inr (1, [.ref hn, .ref h1, .ref h2, .ref h3, .ref h4])), (hp, .inr (3, [.ref he, .int (nI la), .int (nI ke)])), (hn, .inl (cA, 34, .inl f2_1)), (hs, .inl (cA, 4096, .inl st)), (h1, .inl (cA, 64, .inl pn2_2)), (h2, .inl (cA, 16, .inl wt2_3)), (h3, .inl (cA, 900, .inl rg2_4)), (h4, .inl (cA, 200, .inl pa2_5)), (he, .inl (cA, 10752, .inl en)), (hc, .inl (cA, 257, .inl ct))] _ := hP.sub [0, 1, 6, 2, 7, 3, 8, 9, 10, 11, 4, 5] rfl
          have hD : va_D A [(h0, .inr (8, [.ref hn, .ref hs, .ref hd, .ref hp, .ref qr, .ref qst, .ref qa, .ref qm, .ref qe])), (qr, .inr (4, [.ref hn, .ref hs, .ref hd, .ref hp, .ref hc, .int wy, .int dn])), (hd, .inr (1, [.ref hn, .ref h1, .ref h2, .ref h3, .ref h4])), (hp, .inr (3, [.ref he, .int (nI la), .int (nI ke)])), (hn, .inl (cA, 34, .inl f2_1)), (hs, .inl (cA, 4096, .inl st)), (h1, .inl (cA, 64, .inl pn2_2)), (h2, .inl (cA, 16, .inl wt2_3)), (h3, .inl (cA, 900, .inl rg2_4)), (h4, .inl (cA, 200, .inl pa2_5)), (he, .inl (cA, 10752, .inl en)), (hc, .inl (cA, 257, .inl ct))] := hD.sub [0, 1, 6, 2, 7, 3, 8, 9, 10, 11, 4, 5] (by decide) rfl
          exact endI X hr hlocks hP hD hS dX8_device_61 ⟨wy, dn, la, ke, f2_1, st, pn2_2, wt2_3, rg2_4, pa2_5, en, ct, (nI rk_6), rfl, (by omega), (by omega), hf_7, hst, hf_8, hf_9, hen, rfl⟩
    · skip
      refine lv_aload_n hx hb dX8_device_26 rfl (lv_at hl 0 rfl) ?_
      refine k_get (C := RX8) (T := TX8) (N := 9) (ci := 8) (v := .ref hd) X hE hP 0 rfl rfl iX8 2 (by decide) w_330 rfl dX8_device_27 ?_
      refine kVi (n3 := 0) (As := []) (rest := []) X hl.1 hE hP hD hS hA [(hd, .inr (1, [.ref hn, .ref h1, .ref h2, .ref h3, .ref h4])), (hn, .inl (cA, 34, .inl f)), (h1, .inl (cA, 64, .inl pn)), (h2, .inl (cA, 16, .inl wt)), (h3, .inl (cA, 900, .inl rg)), (h4, .inl (cA, 200, .inl pa))] [(h0, .inr (8, [.ref hn, .ref hs, .ref hd, .ref hp, .ref qr, .ref qst, .ref qa, .ref qm, .ref qe])), (qr, .inr (4, [.ref hn, .ref hs, .ref hd, .ref hp, .ref hc, .int wy, .int dn])), (hp, .inr (3, [.ref he, .int (nI la), .int (nI ke)])), (hs, .inl (cA, 4096, .inl st)), (he, .inl (cA, 10752, .inl en)), (hc, .inl (cA, 257, .inl ct))] [2, 4, 6, 7, 8, 9] [0, 1, 3, 5, 10, 11] rfl rfl rfl (by decide +kernel) (by decide +kernel) (by decide +kernel) (c_s_pinsOfRow l D cA cB hd hn h1 h2 h3 h4 f pn wt rg pa hf hpn hwt) w_8 w_9 w_339 w_10 w_11 0 (ci := 1) (T := TX1) (N := 5) rfl rfl (by decide +kernel) rfl rfl (Nat.le_of_ble_eq_true rfl) ⟨(Nat.le_of_ble_eq_true rfl), (Nat.le_of_ble_eq_true rfl)⟩ ⟨(Nat.le_of_ble_eq_true rfl), (Nat.le_of_ble_eq_true rfl)⟩ dX8_device_30 (fun r W1 H locs hw hP hD hS => ?_)
      obtain ⟨f2_11, pn2_12, wt2_13, rg2_14, pa2_15, rk_16, rfl, hf_17, hf_18, hf_19, hf_20, rfl⟩ := hw
      have hP : va_P D classes [(h0, .inr (8, [.ref hn, .ref hs, .ref hd, .ref hp, .ref qr, .ref qst, .ref qa, .ref qm, .ref qe])), (qr, .inr (4, [.ref hn, .ref hs, .ref hd, .ref hp, .ref hc, .int wy, .int dn])), (hp, .inr (3, [.ref he, .int (nI la), .int (nI ke)])), (hs, .inl (cA, 4096, .inl st)), (he, .inl (cA, 10752, .inl en)), (hc, .inl (cA, 257, .inl ct)), (hd, .inr (1, [.ref hn, .ref h1, .ref h2, .ref h3, .ref h4])), (hn, .inl (cA, 34, .inl f2_11)), (h1, .inl (cA, 64, .inl pn2_12)), (h2, .inl (cA, 16, .inl wt2_13)), (h3, .inl (cA, 900, .inl rg2_14)), (h4, .inl (cA, 200, .inl pa2_15))] H := hP
      have hD : va_D A [(h0, .inr (8, [.ref hn, .ref hs, .ref hd, .ref hp, .ref qr, .ref qst, .ref qa, .ref qm, .ref qe])), (qr, .inr (4, [.ref hn, .ref hs, .ref hd, .ref hp, .ref hc, .int wy, .int dn])), (hp, .inr (3, [.ref he, .int (nI la), .int (nI ke)])), (hs, .inl (cA, 4096, .inl st)), (he, .inl (cA, 10752, .inl en)), (hc, .inl (cA, 257, .inl ct)), (hd, .inr (1, [.ref hn, .ref h1, .ref h2, .ref h3, .ref h4])), (hn, .inl (cA, 34, .inl f2_11)), (h1, .inl (cA, 64, .inl pn2_12)), (h2, .inl (cA, 16, .inl wt2_13)), (h3, .inl (cA, 900, .inl rg2_14)), (h4, .inl (cA, 200, .inl pa2_15))] := hD
      have hP : va_P D classes [(h0, .inr (8, [.ref hn, .ref hs, .ref hd, .ref hp, .ref qr, .ref qst, .ref qa, .ref qm, .ref qe])), (qr, .inr (4, [.ref hn, .ref hs, .ref hd, .ref hp, .ref hc, .int wy, .int dn])), (hd, .inr (1, [.ref hn, .ref h1, .ref h2, .ref h3, .ref h4])), (hp, .inr (3, [.ref he, .int (nI la), .int (nI ke)])), (hn, .inl (cA, 34, .inl f2_11)), (hs, .inl (cA, 4096, .inl st)), (h1, .inl (cA, 64, .inl pn2_12)), (h2, .inl (cA, 16, .inl wt2_13)), (h3, .inl (cA, 900, .inl rg2_14)), (h4, .inl (cA, 200, .inl pa2_15)), (he, .inl (cA, 10752, .inl en)), (hc, .inl (cA, 257, .inl ct))] _ := hP.sub [0, 1, 6, 2, 7, 3, 8, 9, 10, 11, 4, 5] rfl
      have hD : va_D A [(h0, .inr (8, [.ref hn, .ref hs, .ref hd, .ref hp, .ref qr, .ref qst, .ref qa, .ref qm, .ref qe])), (qr, .inr (4, [.ref hn, .ref hs, .ref hd, .ref hp, .ref hc, .int wy, .int dn])), (hd, .inr (1, [.ref hn, .ref h1, .ref h2, .ref h3, .ref h4])), (hp, .inr (3, [.ref he, .int (nI la), .int (nI ke)])), (hn, .inl (cA, 34, .inl f2_11)), (hs, .inl (cA, 4096, .inl st)), (h1, .inl (cA, 64, .inl pn2_12)), (h2, .inl (cA, 16, .inl wt2_13)), (h3, .inl (cA, 900, .inl rg2_14)), (h4, .inl (cA, 200, .inl pa2_15)), (he, .inl (cA, 10752, .inl en)), (hc, .inl (cA, 257, .inl ct))] := hD.sub [0, 1, 6, 2, 7, 3, 8, 9, 10, 11, 4, 5] (by decide) rfl
      exact endI X hr hlocks hP hD hS dX8_device_33 ⟨wy, dn, la, ke, f2_11, st, pn2_12, wt2_13, rg2_14, pa2_15, en, ct, (nI rk_16), rfl, (by omega), (by omega), hf_17, hst, hf_18, hf_19, hen, rfl⟩
  · skip
    refine lv_iload_n hx hb dX8_device_4 rfl (lv_at hl 1 rfl) ?_
    refine lv_bipush (v := 20) hx hb dX8_device_5 (by decide) ?_
    refine lv_icmp_ge (tgt := 20) hx hb dX8_device_7 (by decide) (fun c_7 => ?_) (fun c_7 => ?_)
    · skip
      refine lv_iload_n hx hb dX8_device_20 rfl (lv_at hl 1 rfl) ?_
      refine lv_bipush (v := 20) hx hb dX8_device_21 (by decide) ?_
      refine lv_icmp_ne (tgt := 34) hx hb dX8_device_23 (by decide) (fun c_23 => ?_) (fun c_23 => ?_)
      · skip
        refine lv_iload_n hx hb dX8_device_34 rfl (lv_at hl 1 rfl) ?_
        refine lv_bipush (v := 21) hx hb dX8_device_35 (by decide) ?_
        refine lv_icmp_lt (tgt := 60) hx hb dX8_device_37 (by decide) (fun c_37 => ?_) (fun c_37 => ?_)
        · skip
          refine lv_iconst (v := 0) hx hb dX8_device_60 (by decide) ?_
          exact endI X hr hlocks hP hD hS dX8_device_61 ⟨wy, dn, la, ke, f, st, pn, wt, rg, pa, en, ct, 0, rfl, (by omega), (by omega), hf, hst, hpn, hwt, hen, rfl⟩
        · skip
          refine lv_iload_n hx hb dX8_device_40 rfl (lv_at hl 1 rfl) ?_
          refine lv_bipush (v := 37) hx hb dX8_device_41 (by decide) ?_
          refine lv_icmp_ge (tgt := 60) hx hb dX8_device_43 (by decide) (fun c_43 => ?_) (fun c_43 => ?_)
          · skip
            refine lv_iconst (v := 0) hx hb dX8_device_60 (by decide) ?_
            exact endI X hr hlocks hP hD hS dX8_device_61 ⟨wy, dn, la, ke, f, st, pn, wt, rg, pa, en, ct, 0, rfl, (by omega), (by omega), hf, hst, hpn, hwt, hen, rfl⟩
          · skip
            obtain ⟨j, hj0, hj, ej⟩ := rng21 c_37 c_43
            rw [ej] at hl
            refine lv_aload_n hx hb dX8_device_46 rfl (lv_at hl 0 rfl) ?_
            refine k_get (C := RX8) (T := TX8) (N := 9) (ci := 8) (v := .ref hd) X hE hP 0 rfl rfl iX8 2 (by decide) w_330 rfl dX8_device_47 ?_
            refine lv_iload_n hx hb dX8_device_50 rfl (lv_at hl 1 rfl) ?_
            refine lv_bipush (v := 21) hx hb dX8_device_51 (by decide) ?_
            refine lv_isub hx hb dX8_device_53 ?_
            refine tk (y := nI (j - 21)) (pk_sub (a := j) (b := 21) (by omega)) ?_
            refine kVi (n3 := 1) (As := [.int (nI (j - 21))]) (rest := []) X hl.1 hE hP hD hS hA [(hd, .inr (1, [.ref hn, .ref h1, .ref h2, .ref h3, .ref h4])), (hn, .inl (cA, 34, .inl f)), (h1, .inl (cA, 64, .inl pn)), (h2, .inl (cA, 16, .inl wt)), (h3, .inl (cA, 900, .inl rg)), (h4, .inl (cA, 200, .inl pa))] [(h0, .inr (8, [.ref hn, .ref hs, .ref hd, .ref hp, .ref qr, .ref qst, .ref qa, .ref qm, .ref qe])), (qr, .inr (4, [.ref hn, .ref hs, .ref hd, .ref hp, .ref hc, .int wy, .int dn])), (hp, .inr (3, [.ref he, .int (nI la), .int (nI ke)])), (hs, .inl (cA, 4096, .inl st)), (he, .inl (cA, 10752, .inl en)), (hc, .inl (cA, 257, .inl ct))] [2, 4, 6, 7, 8, 9] [0, 1, 3, 5, 10, 11] rfl rfl rfl (by decide +kernel) (by decide +kernel) (by decide +kernel) (c_s_keyAt l D cA cB hd hn h1 h2 h3 h4 f pn wt rg pa (j - 21) hf hpn hwt (by first | assumption | decide | rfl | omega)) w_336 w_9 w_335 w_337 w_338 0 (ci := 1) (T := TX1) (N := 5) rfl rfl (by decide +kernel) rfl rfl (Nat.le_of_ble_eq_true rfl) ⟨(Nat.le_of_ble_eq_true rfl), (Nat.le_of_ble_eq_true rfl)⟩ ⟨(Nat.le_of_ble_eq_true rfl), (Nat.le_of_ble_eq_true rfl)⟩ dX8_device_54 (fun r W1 H locs hw hP hD hS => ?_)
            obtain ⟨f2_21, pn2_22, wt2_23, rg2_24, pa2_25, rk_26, rfl, hf_27, hf_28, hf_29, hf_30, rfl⟩ := hw
            have hP : va_P D classes [(h0, .inr (8, [.ref hn, .ref hs, .ref hd, .ref hp, .ref qr, .ref qst, .ref qa, .ref qm, .ref qe])), (qr, .inr (4, [.ref hn, .ref hs, .ref hd, .ref hp, .ref hc, .int wy, .int dn])), (hp, .inr (3, [.ref he, .int (nI la), .int (nI ke)])), (hs, .inl (cA, 4096, .inl st)), (he, .inl (cA, 10752, .inl en)), (hc, .inl (cA, 257, .inl ct)), (hd, .inr (1, [.ref hn, .ref h1, .ref h2, .ref h3, .ref h4])), (hn, .inl (cA, 34, .inl f2_21)), (h1, .inl (cA, 64, .inl pn2_22)), (h2, .inl (cA, 16, .inl wt2_23)), (h3, .inl (cA, 900, .inl rg2_24)), (h4, .inl (cA, 200, .inl pa2_25))] H := hP
            have hD : va_D A [(h0, .inr (8, [.ref hn, .ref hs, .ref hd, .ref hp, .ref qr, .ref qst, .ref qa, .ref qm, .ref qe])), (qr, .inr (4, [.ref hn, .ref hs, .ref hd, .ref hp, .ref hc, .int wy, .int dn])), (hp, .inr (3, [.ref he, .int (nI la), .int (nI ke)])), (hs, .inl (cA, 4096, .inl st)), (he, .inl (cA, 10752, .inl en)), (hc, .inl (cA, 257, .inl ct)), (hd, .inr (1, [.ref hn, .ref h1, .ref h2, .ref h3, .ref h4])), (hn, .inl (cA, 34, .inl f2_21)), (h1, .inl (cA, 64, .inl pn2_22)), (h2, .inl (cA, 16, .inl wt2_23)), (h3, .inl (cA, 900, .inl rg2_24)), (h4, .inl (cA, 200, .inl pa2_25))] := hD
            refine lv_goto (tgt := 61) hx hb dX8_device_57 (by decide) ?_
            have hP : va_P D classes [(h0, .inr (8, [.ref hn, .ref hs, .ref hd, .ref hp, .ref qr, .ref qst, .ref qa, .ref qm, .ref qe])), (qr, .inr (4, [.ref hn, .ref hs, .ref hd, .ref hp, .ref hc, .int wy, .int dn])), (hd, .inr (1, [.ref hn, .ref h1, .ref h2, .ref h3, .ref h4])), (hp, .inr (3, [.ref he, .int (nI la), .int (nI ke)])), (hn, .inl (cA, 34, .inl f2_21)), (hs, .inl (cA, 4096, .inl st)), (h1, .inl (cA, 64, .inl pn2_22)), (h2, .inl (cA, 16, .inl wt2_23)), (h3, .inl (cA, 900, .inl rg2_24)), (h4, .inl (cA, 200, .inl pa2_25)), (he, .inl (cA, 10752, .inl en)), (hc, .inl (cA, 257, .inl ct))] _ := hP.sub [0, 1, 6, 2, 7, 3, 8, 9, 10, 11, 4, 5] rfl
            have hD : va_D A [(h0, .inr (8, [.ref hn, .ref hs, .ref hd, .ref hp, .ref qr, .ref qst, .ref qa, .ref qm, .ref qe])), (qr, .inr (4, [.ref hn, .ref hs, .ref hd, .ref hp, .ref hc, .int wy, .int dn])), (hd, .inr (1, [.ref hn, .ref h1, .ref h2, .ref h3, .ref h4])), (hp, .inr (3, [.ref he, .int (nI la), .int (nI ke)])), (hn, .inl (cA, 34, .inl f2_21)), (hs, .inl (cA, 4096, .inl st)), (h1, .inl (cA, 64, .inl pn2_22)), (h2, .inl (cA, 16, .inl wt2_23)), (h3, .inl (cA, 900, .inl rg2_24)), (h4, .inl (cA, 200, .inl pa2_25)), (he, .inl (cA, 10752, .inl en)), (hc, .inl (cA, 257, .inl ct))] := hD.sub [0, 1, 6, 2, 7, 3, 8, 9, 10, 11, 4, 5] (by decide) rfl
            exact endI X hr hlocks hP hD hS dX8_device_61 ⟨wy, dn, la, ke, f2_21, st, pn2_22, wt2_23, rg2_24, pa2_25, en, ct, (nI rk_26), rfl, (by omega), (by omega), hf_27, hst, hf_28, hf_29, hen, rfl⟩
      · skip
        refine lv_aload_n hx hb dX8_device_26 rfl (lv_at hl 0 rfl) ?_
        refine k_get (C := RX8) (T := TX8) (N := 9) (ci := 8) (v := .ref hd) X hE hP 0 rfl rfl iX8 2 (by decide) w_330 rfl dX8_device_27 ?_
        refine kVi (n3 := 0) (As := []) (rest := []) X hl.1 hE hP hD hS hA [(hd, .inr (1, [.ref hn, .ref h1, .ref h2, .ref h3, .ref h4])), (hn, .inl (cA, 34, .inl f)), (h1, .inl (cA, 64, .inl pn)), (h2, .inl (cA, 16, .inl wt)), (h3, .inl (cA, 900, .inl rg)), (h4, .inl (cA, 200, .inl pa))] [(h0, .inr (8, [.ref hn, .ref hs, .ref hd, .ref hp, .ref qr, .ref qst, .ref qa, .ref qm, .ref qe])), (qr, .inr (4, [.ref hn, .ref hs, .ref hd, .ref hp, .ref hc, .int wy, .int dn])), (hp, .inr (3, [.ref he, .int (nI la), .int (nI ke)])), (hs, .inl (cA, 4096, .inl st)), (he, .inl (cA, 10752, .inl en)), (hc, .inl (cA, 257, .inl ct))] [2, 4, 6, 7, 8, 9] [0, 1, 3, 5, 10, 11] rfl rfl rfl (by decide +kernel) (by decide +kernel) (by decide +kernel) (c_s_pinsOfRow l D cA cB hd hn h1 h2 h3 h4 f pn wt rg pa hf hpn hwt) w_8 w_9 w_339 w_10 w_11 0 (ci := 1) (T := TX1) (N := 5) rfl rfl (by decide +kernel) rfl rfl (Nat.le_of_ble_eq_true rfl) ⟨(Nat.le_of_ble_eq_true rfl), (Nat.le_of_ble_eq_true rfl)⟩ ⟨(Nat.le_of_ble_eq_true rfl), (Nat.le_of_ble_eq_true rfl)⟩ dX8_device_30 (fun r W1 H locs hw hP hD hS => ?_)
        obtain ⟨f2_31, pn2_32, wt2_33, rg2_34, pa2_35, rk_36, rfl, hf_37, hf_38, hf_39, hf_40, rfl⟩ := hw
        have hP : va_P D classes [(h0, .inr (8, [.ref hn, .ref hs, .ref hd, .ref hp, .ref qr, .ref qst, .ref qa, .ref qm, .ref qe])), (qr, .inr (4, [.ref hn, .ref hs, .ref hd, .ref hp, .ref hc, .int wy, .int dn])), (hp, .inr (3, [.ref he, .int (nI la), .int (nI ke)])), (hs, .inl (cA, 4096, .inl st)), (he, .inl (cA, 10752, .inl en)), (hc, .inl (cA, 257, .inl ct)), (hd, .inr (1, [.ref hn, .ref h1, .ref h2, .ref h3, .ref h4])), (hn, .inl (cA, 34, .inl f2_31)), (h1, .inl (cA, 64, .inl pn2_32)), (h2, .inl (cA, 16, .inl wt2_33)), (h3, .inl (cA, 900, .inl rg2_34)), (h4, .inl (cA, 200, .inl pa2_35))] H := hP
        have hD : va_D A [(h0, .inr (8, [.ref hn, .ref hs, .ref hd, .ref hp, .ref qr, .ref qst, .ref qa, .ref qm, .ref qe])), (qr, .inr (4, [.ref hn, .ref hs, .ref hd, .ref hp, .ref hc, .int wy, .int dn])), (hp, .inr (3, [.ref he, .int (nI la), .int (nI ke)])), (hs, .inl (cA, 4096, .inl st)), (he, .inl (cA, 10752, .inl en)), (hc, .inl (cA, 257, .inl ct)), (hd, .inr (1, [.ref hn, .ref h1, .ref h2, .ref h3, .ref h4])), (hn, .inl (cA, 34, .inl f2_31)), (h1, .inl (cA, 64, .inl pn2_32)), (h2, .inl (cA, 16, .inl wt2_33)), (h3, .inl (cA, 900, .inl rg2_34)), (h4, .inl (cA, 200, .inl pa2_35))] := hD
        have hP : va_P D classes [(h0, .inr (8, [.ref hn, .ref hs, .ref hd, .ref hp, .ref qr, .ref qst, .ref qa, .ref qm, .ref qe])), (qr, .inr (4, [.ref hn, .ref hs, .ref hd, .ref hp, .ref hc, .int wy, .int dn])), (hd, .inr (1, [.ref hn, .ref h1, .ref h2, .ref h3, .ref h4])), (hp, .inr (3, [.ref he, .int (nI la), .int (nI ke)])), (hn, .inl (cA, 34, .inl f2_31)), (hs, .inl (cA, 4096, .inl st)), (h1, .inl (cA, 64, .inl pn2_32)), (h2, .inl (cA, 16, .inl wt2_33)), (h3, .inl (cA, 900, .inl rg2_34)), (h4, .inl (cA, 200, .inl pa2_35)), (he, .inl (cA, 10752, .inl en)), (hc, .inl (cA, 257, .inl ct))] _ := hP.sub [0, 1, 6, 2, 7, 3, 8, 9, 10, 11, 4, 5] rfl
        have hD : va_D A [(h0, .inr (8, [.ref hn, .ref hs, .ref hd, .ref hp, .ref qr, .ref qst, .ref qa, .ref qm, .ref qe])), (qr, .inr (4, [.ref hn, .ref hs, .ref hd, .ref hp, .ref hc, .int wy, .int dn])), (hd, .inr (1, [.ref hn, .ref h1, .ref h2, .ref h3, .ref h4])), (hp, .inr (3, [.ref he, .int (nI la), .int (nI ke)])), (hn, .inl (cA, 34, .inl f2_31)), (hs, .inl (cA, 4096, .inl st)), (h1, .inl (cA, 64, .inl pn2_32)), (h2, .inl (cA, 16, .inl wt2_33)), (h3, .inl (cA, 900, .inl rg2_34)), (h4, .inl (cA, 200, .inl pa2_35)), (he, .inl (cA, 10752, .inl en)), (hc, .inl (cA, 257, .inl ct))] := hD.sub [0, 1, 6, 2, 7, 3, 8, 9, 10, 11, 4, 5] (by decide) rfl
        exact endI X hr hlocks hP hD hS dX8_device_33 ⟨wy, dn, la, ke, f2_31, st, pn2_32, wt2_33, rg2_34, pa2_35, en, ct, (nI rk_36), rfl, (by omega), (by omega), hf_37, hst, hf_38, hf_39, hen, rfl⟩
    · skip
      obtain ⟨j, hj, ej⟩ := idx_of (n := 20) (by decide) c_1 c_7
      rw [ej] at hl
      refine lv_aload_n hx hb dX8_device_10 rfl (lv_at hl 0 rfl) ?_
      refine k_get (C := RX8) (T := TX8) (N := 9) (ci := 8) (v := .ref hn) X hE hP 0 rfl rfl iX8 0 (by decide) w_324 rfl dX8_device_11 ?_
      refine lv_bipush (v := 8) hx hb dX8_device_14 (by decide) ?_
      refine lv_iload_n hx hb dX8_device_16 rfl (lv_at hl 1 rfl) ?_
      refine lv_iadd hx hb dX8_device_17 ?_
      refine tk (y := nI (8 + j)) (nI_add 8 j) ?_
      refine k_ald (v := f (8 + j)) X hE hP 4 rfl (8 + j) rfl (by omega) (by decide) rfl dX8_device_18 ?_
      exact endI X hr hlocks hP hD hS dX8_device_19 ⟨wy, dn, la, ke, f, st, pn, wt, rg, pa, en, ct, (f (8 + j)), rfl, (by omega), (by omega), hf, hst, hpn, hwt, hen, rfl⟩
set_option maxHeartbeats 4000000 in
set_option maxRecDepth 100000 in
theorem c_s_back (l : Launch) (D : va_G) (cA cB : ClassId) (h0 : Nat) (hn : Nat) (hs : Nat) (hd : Nat) (hp : Nat) (qr : Nat) (qst : Nat) (qa : Nat) (qm : Nat) (qe : Nat) (hc : Nat) (h1 : Nat) (h2 : Nat) (h3 : Nat) (h4 : Nat) (he : Nat) (wy : Int32) (dn : Int32) (la : Nat) (ke : Nat) (f : Nat → Int32) (st : Nat → Int32) (pn : Nat → Int32) (wt : Nat → Int32) (rg : Nat → Int32) (pa : Nat → Int32) (en : Nat → Int32) (ct : Nat → Int32) (a : Int32) (hla : la < 256) (hke : ke < 257) (hf : okN f) (hst : ∀ j, j < 4096 → ∃ k : Nat, k < 256 ∧ st j = nI k) (hpn : ∀ j, j < 64 → ∃ k : Nat, k < 256 ∧ pn j = nI k) (hwt : ∀ j, j < 16 → ∃ k : Nat, k < 256 ∧ wt j = nI k) (hen : okE en) : CI l yX8_back cX8_back 3 (some .int) 2 65 0 0 D cA cB [.ref h0, .int a] [(h0, .inr (8, [.ref hn, .ref hs, .ref hd, .ref hp, .ref qr, .ref qst, .ref qa, .ref qm, .ref qe])), (qr, .inr (4, [.ref hn, .ref hs, .ref hd, .ref hp, .ref hc, .int wy, .int dn])), (hd, .inr (1, [.ref hn, .ref h1, .ref h2, .ref h3, .ref h4])), (hp, .inr (3, [.ref he, .int (nI la), .int (nI ke)])), (hn, .inl (cA, 34, .inl f)), (hs, .inl (cA, 4096, .inl st)), (h1, .inl (cA, 64, .inl pn)), (h2, .inl (cA, 16, .inl wt)), (h3, .inl (cA, 900, .inl rg)), (h4, .inl (cA, 200, .inl pa)), (he, .inl (cA, 10752, .inl en)), (hc, .inl (cA, 257, .inl ct))] (fun r W1 => ∃ (wy2 : Int32) (dn2 : Int32) (la2 : Nat) (ke2 : Nat) (f2 : Nat → Int32) (st2 : Nat → Int32) (pn2 : Nat → Int32) (wt2 : Nat → Int32) (rg2 : Nat → Int32) (pa2 : Nat → Int32) (en2 : Nat → Int32) (ct2 : Nat → Int32) (rv : Int32), r = rv ∧ (la2 < 256) ∧ (ke2 < 257) ∧ (okN f2) ∧ (∀ j, j < 4096 → ∃ k : Nat, k < 256 ∧ st2 j = nI k) ∧ (∀ j, j < 64 → ∃ k : Nat, k < 256 ∧ pn2 j = nI k) ∧ (∀ j, j < 16 → ∃ k : Nat, k < 256 ∧ wt2 j = nI k) ∧ (okE en2) ∧ W1 = [(h0, .inr (8, [.ref hn, .ref hs, .ref hd, .ref hp, .ref qr, .ref qst, .ref qa, .ref qm, .ref qe])), (qr, .inr (4, [.ref hn, .ref hs, .ref hd, .ref hp, .ref hc, .int wy2, .int dn2])), (hd, .inr (1, [.ref hn, .ref h1, .ref h2, .ref h3, .ref h4])), (hp, .inr (3, [.ref he, .int (nI la2), .int (nI ke2)])), (hn, .inl (cA, 34, .inl f2)), (hs, .inl (cA, 4096, .inl st2)), (h1, .inl (cA, 64, .inl pn2)), (h2, .inl (cA, 16, .inl wt2)), (h3, .inl (cA, 900, .inl rg2)), (h4, .inl (cA, 200, .inl pa2)), (he, .inl (cA, 10752, .inl en2)), (hc, .inl (cA, 257, .inl ct2))]) := by
  refine mkI (lv0 := [(0, .ref h0), (1, .int a)]) (by decide) (Nat.le_of_ble_eq_true rfl) rfl ?_
  intro p e s m below meth c A ls X hr hlocks hnm hE hA hP hD hS hl
  have hx := X.1
  have hb := X.2.1
  refine lv_iload_n hx hb dX8_back_0 rfl (lv_at hl 1 rfl) ?_
  refine lv_iconst (v := 1) hx hb dX8_back_1 (by decide) ?_
  refine lv_icmp_lt (tgt := 16) hx hb dX8_back_2 (by decide) (fun c_2 => ?_) (fun c_2 => ?_)
  · skip
    refine lv_iconst (v := (-1)) hx hb dX8_back_16 (by decide) ?_
    exact endI X hr hlocks hP hD hS dX8_back_17 ⟨wy, dn, la, ke, f, st, pn, wt, rg, pa, en, ct, (-1), rfl, (by omega), (by omega), hf, hst, hpn, hwt, hen, rfl⟩
  · skip
    obtain ⟨j, hj, ej⟩ := nI_of (not_neg c_2)
    rw [ej] at hl
    refine lv_iload_n hx hb dX8_back_5 rfl (lv_at hl 1 rfl) ?_
    refine lv_aload_n hx hb dX8_back_6 rfl (lv_at hl 0 rfl) ?_
    refine k_get (C := RX8) (T := TX8) (N := 9) (ci := 8) (v := .ref hp) X hE hP 0 rfl rfl iX8 3 (by decide) w_328 rfl dX8_back_7 ?_
    refine k_getN (C := RX3) (T := TX3) (N := 3) (ci := 3) (v := .int (nI ke)) X hE hP 3 rfl rfl iX3 2 (by decide) nw_4 rfl dX8_back_10 ?_
    refine lv_icmp_le (tgt := 18) hx hb dX8_back_13 (by decide) (fun c_13_1 => ?_) (fun c_13_1 => ?_)
    · have nc_13_1 : j ≤ ke := (nI_leI (a := j) (b := ke) (by omega) (by omega)).mp c_13_1
      refine lv_iconst (v := 0) hx hb dX8_back_18 (by decide) ?_
      refine lv_istore_n (lv' := [(2, .int 0), (0, .ref h0), (1, .int (nI j))]) hx hb dX8_back_19 rfl hl (by decide) rfl (fun ls hl => ?_)
      have loop_20 : ∀ (n : Nat) (i : Nat) (lav : Nat) (kev : Nat) (fv : Nat → Int32) (stv : Nat → Int32) (enw : Nat → Int32) (ctv : Nat → Int32), (i ≤ j) → (lav < 256) → (kev < 257) → (okN fv) → (∀ j, j < 4096 → ∃ k : Nat, k < 256 ∧ stv j = nI k) → (okE enw) → (j ≤ kev + i) → j < i + n → ∀ (H : Heap) (locs : List Loc), va_P D classes [(h0, .inr (8, [.ref hn, .ref hs, .ref hd, .ref hp, .ref qr, .ref qst, .ref qa, .ref qm, .ref qe])), (qr, .inr (4, [.ref hn, .ref hs, .ref hd, .ref hp, .ref hc, .int wy, .int dn])), (hd, .inr (1, [.ref hn, .ref h1, .ref h2, .ref h3, .ref h4])), (hp, .inr (3, [.ref he, .int (nI lav), .int (nI kev)])), (hn, .inl (cA, 34, .inl fv)), (hs, .inl (cA, 4096, .inl stv)), (h1, .inl (cA, 64, .inl pn)), (h2, .inl (cA, 16, .inl wt)), (h3, .inl (cA, 900, .inl rg)), (h4, .inl (cA, 200, .inl pa)), (he, .inl (cA, 10752, .inl enw)), (hc, .inl (cA, 257, .inl ctv))] H → va_D A [(h0, .inr (8, [.ref hn, .ref hs, .ref hd, .ref hp, .ref qr, .ref qst, .ref qa, .ref qm, .ref qe])), (qr, .inr (4, [.ref hn, .ref hs, .ref hd, .ref hp, .ref hc, .int wy, .int dn])), (hd, .inr (1, [.ref hn, .ref h1, .ref h2, .ref h3, .ref h4])), (hp, .inr (3, [.ref he, .int (nI lav), .int (nI kev)])), (hn, .inl (cA, 34, .inl fv)), (hs, .inl (cA, 4096, .inl stv)), (h1, .inl (cA, 64, .inl pn)), (h2, .inl (cA, 16, .inl wt)), (h3, .inl (cA, 900, .inl rg)), (h4, .inl (cA, 200, .inl pa)), (he, .inl (cA, 10752, .inl enw)), (hc, .inl (cA, 257, .inl ctv))] → va_S A s.heap H locs → ∀ ls : Array Slot, lv_has ls 3 [(0, .ref h0), (1, .int (nI j)), (2, .int (nI i))] → W p l e { frames := 2, cells := 0, slots := 0, locals := 65 } s m (List.toArray [.ref h0, .int a]) below meth c H locs 0 0 (MQ below (QI D (fun r W1 => ∃ (wy2 : Int32) (dn2 : Int32) (la2 : Nat) (ke2 : Nat) (f2 : Nat → Int32) (st2 : Nat → Int32) (pn2 : Nat → Int32) (wt2 : Nat → Int32) (rg2 : Nat → Int32) (pa2 : Nat → Int32) (en2 : Nat → Int32) (ct2 : Nat → Int32) (rv : Int32), r = rv ∧ (la2 < 256) ∧ (ke2 < 257) ∧ (okN f2) ∧ (∀ j, j < 4096 → ∃ k : Nat, k < 256 ∧ st2 j = nI k) ∧ (∀ j, j < 64 → ∃ k : Nat, k < 256 ∧ pn2 j = nI k) ∧ (∀ j, j < 16 → ∃ k : Nat, k < 256 ∧ wt2 j = nI k) ∧ (okE en2) ∧ W1 = [(h0, .inr (8, [.ref hn, .ref hs, .ref hd, .ref hp, .ref qr, .ref qst, .ref qa, .ref qm, .ref qe])), (qr, .inr (4, [.ref hn, .ref hs, .ref hd, .ref hp, .ref hc, .int wy2, .int dn2])), (hd, .inr (1, [.ref hn, .ref h1, .ref h2, .ref h3, .ref h4])), (hp, .inr (3, [.ref he, .int (nI la2), .int (nI ke2)])), (hn, .inl (cA, 34, .inl f2)), (hs, .inl (cA, 4096, .inl st2)), (h1, .inl (cA, 64, .inl pn2)), (h2, .inl (cA, 16, .inl wt2)), (h3, .inl (cA, 900, .inl rg2)), (h4, .inl (cA, 200, .inl pa2)), (he, .inl (cA, 10752, .inl en2)), (hc, .inl (cA, 257, .inl ct2))]) A) (List.toArray [.ref h0, .int a]) s 0 0 A) (F0 m 20 ls []) := by
        intro n
        induction n with
        | zero => intro i lav kev fv stv enw ctv hi hlav hkev hfv hstv henw hq0 hfuel; exact absurd hfuel (by omega)
        | succ n ih =>
          intro i lav kev fv stv enw ctv hi hlav hkev hfv hstv henw hq0 hfuel H locs hP hD hS ls hl
          refine lv_iload_n hx hb dX8_back_20 rfl (lv_at hl 2 rfl) ?_
          refine lv_iload_n hx hb dX8_back_21 rfl (lv_at hl 1 rfl) ?_
          refine lv_icmp_ge (tgt := 53) hx hb dX8_back_22 (by decide) (fun c_22_2 => ?_) (fun c_22_2 => ?_)
          · have nc_22_2 : j ≤ i := (nI_leI (a := j) (b := i) (by omega) (by omega)).mp c_22_2
            refine lv_iload_n hx hb dX8_back_53 rfl (lv_at hl 1 rfl) ?_
            exact endI X hr hlocks hP hD hS dX8_back_54 ⟨wy, dn, lav, kev, fv, stv, pn, wt, rg, pa, enw, ctv, (nI j), rfl, (by omega), (by omega), hfv, hstv, hpn, hwt, henw, rfl⟩
          · have nc_22_2 : i < j := Nat.not_le.mp (fun q => c_22_2 ((nI_leI (a := j) (b := i) (by omega) (by omega)).mpr q))
            refine lv_aload_n hx hb dX8_back_25 rfl (lv_at hl 0 rfl) ?_
            refine k_get (C := RX8) (T := TX8) (N := 9) (ci := 8) (v := .ref hp) X hE hP 0 rfl rfl iX8 3 (by decide) w_328 rfl dX8_back_26 ?_
            refine lv_aload_n hx hb dX8_back_29 rfl (lv_at hl 0 rfl) ?_
            refine k_get (C := RX8) (T := TX8) (N := 9) (ci := 8) (v := .ref hn) X hE hP 0 rfl rfl iX8 0 (by decide) w_324 rfl dX8_back_30 ?_
            refine lv_aload_n hx hb dX8_back_33 rfl (lv_at hl 0 rfl) ?_
            refine k_get (C := RX8) (T := TX8) (N := 9) (ci := 8) (v := .ref hs) X hE hP 0 rfl rfl iX8 1 (by decide) w_313 rfl dX8_back_34 ?_
            refine lv_aload_n hx hb dX8_back_37 rfl (lv_at hl 0 rfl) ?_
            refine k_get (C := RX8) (T := TX8) (N := 9) (ci := 8) (v := .ref qr) X hE hP 0 rfl rfl iX8 4 (by decide) w_314 rfl dX8_back_38 ?_
            refine k_getN (C := RX4) (T := TX4) (N := 7) (ci := 4) (v := .ref hc) X hE hP 1 rfl rfl iX4 4 (by decide) nw_5 rfl dX8_back_41 ?_
            refine kVv (n3 := 3) (As := [.ref hn, .ref hs, .ref hc]) (rest := []) X hl.1 hE hP hD hS hA [(hp, .inr (3, [.ref he, .int (nI lav), .int (nI kev)])), (he, .inl (cA, 10752, .inl enw)), (hn, .inl (cA, 34, .inl fv)), (hs, .inl (cA, 4096, .inl stv)), (hc, .inl (cA, 257, .inl ctv))] [(h0, .inr (8, [.ref hn, .ref hs, .ref hd, .ref hp, .ref qr, .ref qst, .ref qa, .ref qm, .ref qe])), (qr, .inr (4, [.ref hn, .ref hs, .ref hd, .ref hp, .ref hc, .int wy, .int dn])), (hd, .inr (1, [.ref hn, .ref h1, .ref h2, .ref h3, .ref h4])), (h1, .inl (cA, 64, .inl pn)), (h2, .inl (cA, 16, .inl wt)), (h3, .inl (cA, 900, .inl rg)), (h4, .inl (cA, 200, .inl pa))] [3, 10, 4, 5, 11] [0, 1, 2, 6, 7, 8, 9] rfl rfl rfl (by decide +kernel) (by decide +kernel) (by decide +kernel) (c_s_takeBack l D cA cB hp he hn hs hc lav kev enw fv stv ctv (by first | assumption | decide | rfl | omega) (by first | assumption | decide | rfl | omega) henw hfv hstv (by first | assumption | decide | rfl | omega)) w_341 w_164 w_340 w_342 w_343 0 (ci := 3) (T := TX3) (N := 3) rfl rfl (by decide +kernel) rfl rfl (Nat.le_of_ble_eq_true rfl) ⟨(Nat.le_of_ble_eq_true rfl), (Nat.le_of_ble_eq_true rfl)⟩ ⟨(Nat.le_of_ble_eq_true rfl), (Nat.le_of_ble_eq_true rfl)⟩ dX8_back_44 (fun W1 H locs hw hP hD hS => ?_)
            obtain ⟨la2_3, ke2_4, en2_5, f2_6, st2_7, ct2_8, hf_9, hf_10, hf_11, hf_12, hf_13, hf_14, rfl⟩ := hw
            have hP : va_P D classes [(h0, .inr (8, [.ref hn, .ref hs, .ref hd, .ref hp, .ref qr, .ref qst, .ref qa, .ref qm, .ref qe])), (qr, .inr (4, [.ref hn, .ref hs, .ref hd, .ref hp, .ref hc, .int wy, .int dn])), (hd, .inr (1, [.ref hn, .ref h1, .ref h2, .ref h3, .ref h4])), (h1, .inl (cA, 64, .inl pn)), (h2, .inl (cA, 16, .inl wt)), (h3, .inl (cA, 900, .inl rg)), (h4, .inl (cA, 200, .inl pa)), (hp, .inr (3, [.ref he, .int (nI la2_3), .int (nI ke2_4)])), (he, .inl (cA, 10752, .inl en2_5)), (hn, .inl (cA, 34, .inl f2_6)), (hs, .inl (cA, 4096, .inl st2_7)), (hc, .inl (cA, 257, .inl ct2_8))] H := hP
            have hD : va_D A [(h0, .inr (8, [.ref hn, .ref hs, .ref hd, .ref hp, .ref qr, .ref qst, .ref qa, .ref qm, .ref qe])), (qr, .inr (4, [.ref hn, .ref hs, .ref hd, .ref hp, .ref hc, .int wy, .int dn])), (hd, .inr (1, [.ref hn, .ref h1, .ref h2, .ref h3, .ref h4])), (h1, .inl (cA, 64, .inl pn)), (h2, .inl (cA, 16, .inl wt)), (h3, .inl (cA, 900, .inl rg)), (h4, .inl (cA, 200, .inl pa)), (hp, .inr (3, [.ref he, .int (nI la2_3), .int (nI ke2_4)])), (he, .inl (cA, 10752, .inl en2_5)), (hn, .inl (cA, 34, .inl f2_6)), (hs, .inl (cA, 4096, .inl st2_7)), (hc, .inl (cA, 257, .inl ct2_8))] := hD
            refine lv_iinc (v := nI (i + 1)) (lv' := [(2, .int (nI (i + 1))), (0, .ref h0), (1, .int (nI j))]) hx hb dX8_back_47 hl (k := 2) rfl (nI_1 i) (by decide) rfl (fun ls hl => ?_)
            refine lv_goto (tgt := 20) hx hb dX8_back_50 (by decide) ?_
            exact ih (i + 1) la2_3 ke2_4 f2_6 st2_7 en2_5 ct2_8 (by omega) (by omega) (by omega) hf_12 hf_13 hf_11 (by omega) (by omega) _ _ (hP.sub [0, 1, 2, 7, 9, 10, 3, 4, 5, 6, 8, 11] rfl) (hD.sub [0, 1, 2, 7, 9, 10, 3, 4, 5, 6, 8, 11] (by decide) rfl) hS ls (lv_sub hl [1, 2, 0] rfl)
      exact loop_20 (j + 1) 0 la ke f st en ct (by omega) (by omega) (by omega) hf hst hen (by omega) (by omega) _ _ hP hD hS ls (lv_sub hl [1, 2, 0] rfl)
    · have nc_13_1 : ke < j := Nat.not_le.mp (fun q => c_13_1 ((nI_leI (a := j) (b := ke) (by omega) (by omega)).mpr q))
      refine lv_iconst (v := (-1)) hx hb dX8_back_16 (by decide) ?_
      exact endI X hr hlocks hP hD hS dX8_back_17 ⟨wy, dn, la, ke, f, st, pn, wt, rg, pa, en, ct, (-1), rfl, (by omega), (by omega), hf, hst, hpn, hwt, hen, rfl⟩
set_option maxHeartbeats 4000000 in
set_option maxRecDepth 100000 in
theorem c_s_codes (l : Launch) (D : va_G) (cA cB : ClassId) (h0 : Nat) (hn : Nat) (hs : Nat) (hd : Nat) (hp : Nat) (qr : Nat) (qst : Nat) (qa : Nat) (qm : Nat) (qe : Nat) (hc : Nat) (h1 : Nat) (h2 : Nat) (h3 : Nat) (h4 : Nat) (he : Nat) (wy : Int32) (dn : Int32) (la : Nat) (ke : Nat) (f : Nat → Int32) (st : Nat → Int32) (pn : Nat → Int32) (wt : Nat → Int32) (rg : Nat → Int32) (pa : Nat → Int32) (en : Nat → Int32) (ct : Nat → Int32) (a : Int32) (hla : la < 256) (hke : ke < 257) (hf : okN f) (hst : ∀ j, j < 4096 → ∃ k : Nat, k < 256 ∧ st j = nI k) (hpn : ∀ j, j < 64 → ∃ k : Nat, k < 256 ∧ pn j = nI k) (hwt : ∀ j, j < 16 → ∃ k : Nat, k < 256 ∧ wt j = nI k) (hen : okE en) : CI l yX8_codes cX8_codes 2 (some .int) 0 0 0 0 D cA cB [.ref h0, .int a] [(h0, .inr (8, [.ref hn, .ref hs, .ref hd, .ref hp, .ref qr, .ref qst, .ref qa, .ref qm, .ref qe])), (qr, .inr (4, [.ref hn, .ref hs, .ref hd, .ref hp, .ref hc, .int wy, .int dn])), (hd, .inr (1, [.ref hn, .ref h1, .ref h2, .ref h3, .ref h4])), (hp, .inr (3, [.ref he, .int (nI la), .int (nI ke)])), (hn, .inl (cA, 34, .inl f)), (hs, .inl (cA, 4096, .inl st)), (h1, .inl (cA, 64, .inl pn)), (h2, .inl (cA, 16, .inl wt)), (h3, .inl (cA, 900, .inl rg)), (h4, .inl (cA, 200, .inl pa)), (he, .inl (cA, 10752, .inl en)), (hc, .inl (cA, 257, .inl ct))] (fun r W1 => ∃ (wy2 : Int32) (dn2 : Int32) (la2 : Nat) (ke2 : Nat) (f2 : Nat → Int32) (st2 : Nat → Int32) (pn2 : Nat → Int32) (wt2 : Nat → Int32) (rg2 : Nat → Int32) (pa2 : Nat → Int32) (en2 : Nat → Int32) (ct2 : Nat → Int32) (rv : Int32), r = rv ∧ (la2 < 256) ∧ (ke2 < 257) ∧ (okN f2) ∧ (∀ j, j < 4096 → ∃ k : Nat, k < 256 ∧ st2 j = nI k) ∧ (∀ j, j < 64 → ∃ k : Nat, k < 256 ∧ pn2 j = nI k) ∧ (∀ j, j < 16 → ∃ k : Nat, k < 256 ∧ wt2 j = nI k) ∧ (okE en2) ∧ W1 = [(h0, .inr (8, [.ref hn, .ref hs, .ref hd, .ref hp, .ref qr, .ref qst, .ref qa, .ref qm, .ref qe])), (qr, .inr (4, [.ref hn, .ref hs, .ref hd, .ref hp, .ref hc, .int wy2, .int dn2])), (hd, .inr (1, [.ref hn, .ref h1, .ref h2, .ref h3, .ref h4])), (hp, .inr (3, [.ref he, .int (nI la2), .int (nI ke2)])), (hn, .inl (cA, 34, .inl f2)), (hs, .inl (cA, 4096, .inl st2)), (h1, .inl (cA, 64, .inl pn2)), (h2, .inl (cA, 16, .inl wt2)), (h3, .inl (cA, 900, .inl rg2)), (h4, .inl (cA, 200, .inl pa2)), (he, .inl (cA, 10752, .inl en2)), (hc, .inl (cA, 257, .inl ct2))]) := by
  refine mkI (lv0 := [(0, .ref h0), (1, .int a)]) (by decide) (Nat.le_of_ble_eq_true rfl) rfl ?_
  intro p e s m below meth c A ls X hr hlocks hnm hE hA hP hD hS hl
  have hx := X.1
  have hb := X.2.1
  refine lv_iload_n hx hb dX8_codes_0 rfl (lv_at hl 1 rfl) ?_
  refine lv_if_lt (tgt := 23) hx hb dX8_codes_1 (by decide) (fun c_1 => ?_) (fun c_1 => ?_)
  · skip
    refine lv_iconst (v := 0) hx hb dX8_codes_23 (by decide) ?_
    exact endI X hr hlocks hP hD hS dX8_codes_24 ⟨wy, dn, la, ke, f, st, pn, wt, rg, pa, en, ct, 0, rfl, (by omega), (by omega), hf, hst, hpn, hwt, hen, rfl⟩
  · skip
    refine lv_iload_n hx hb dX8_codes_4 rfl (lv_at hl 1 rfl) ?_
    refine lv_sipush (v := 256) hx hb dX8_codes_5 (by decide) ?_
    refine lv_icmp_gt (tgt := 23) hx hb dX8_codes_8 (by decide) (fun c_8 => ?_) (fun c_8 => ?_)
    · skip
      refine lv_iconst (v := 0) hx hb dX8_codes_23 (by decide) ?_
      exact endI X hr hlocks hP hD hS dX8_codes_24 ⟨wy, dn, la, ke, f, st, pn, wt, rg, pa, en, ct, 0, rfl, (by omega), (by omega), hf, hst, hpn, hwt, hen, rfl⟩
    · skip
      obtain ⟨j, hj, ej⟩ := idx_le (n := 256) (by decide) c_1 c_8
      rw [ej] at hl
      refine lv_aload_n hx hb dX8_codes_11 rfl (lv_at hl 0 rfl) ?_
      refine k_get (C := RX8) (T := TX8) (N := 9) (ci := 8) (v := .ref qr) X hE hP 0 rfl rfl iX8 4 (by decide) w_314 rfl dX8_codes_12 ?_
      refine k_getN (C := RX4) (T := TX4) (N := 7) (ci := 4) (v := .ref hc) X hE hP 1 rfl rfl iX4 4 (by decide) nw_5 rfl dX8_codes_15 ?_
      refine lv_iload_n hx hb dX8_codes_18 rfl (lv_at hl 1 rfl) ?_
      refine k_ald (v := ct j) X hE hP 11 rfl j rfl (by omega) (by decide) rfl dX8_codes_19 ?_
      refine lv_goto (tgt := 24) hx hb dX8_codes_20 (by decide) ?_
      exact endI X hr hlocks hP hD hS dX8_codes_24 ⟨wy, dn, la, ke, f, st, pn, wt, rg, pa, en, ct, (ct j), rfl, (by omega), (by omega), hf, hst, hpn, hwt, hen, rfl⟩
