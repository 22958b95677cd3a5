def RJ7 : String := "java/util/Arrays"
abbrev cJ7_fill_53178 : ByteArray := prog_18_method_103_code
def yJ7_fill_53178 : MethodName := ⟨RJ7, "fill", "([II)V"⟩
abbrev cX3_forget : ByteArray := prog_5_method_2_code
def yX3_forget : MethodName := ⟨RX3, "forget", "()V"⟩
abbrev cX4_byteAt : ByteArray := prog_6_method_12_code
def yX4_byteAt : MethodName := ⟨RX4, "byteAt", "(I)I"⟩
abbrev cX4_placeAt : ByteArray := prog_6_method_17_code
def yX4_placeAt : MethodName := ⟨RX4, "placeAt", "(I)I"⟩
abbrev cX4_start : ByteArray := prog_6_method_3_code
def yX4_start : MethodName := ⟨RX4, "start", "()V"⟩
abbrev cX4_beginAnew : ByteArray := prog_6_method_2_code
def yX4_beginAnew : MethodName := ⟨RX4, "beginAnew", "()V"⟩
set_option maxRecDepth 100000 in
theorem w_41 : (Cond.fieldLink "BelfryBox$Past" 15 "BelfryBox$Past" "kept" "I" : Cond) ∈ gw := List.mem_filter.mpr ⟨List.mem_append_right _ (tb1 (List.mem_of_getElem? (i := 61) rfl)), rfl⟩
set_option maxRecDepth 100000 in
theorem w_42 : (Cond.methodLink "BelfryBox$Processor" 66 yX4_byteAt : Cond) ∈ gw := List.mem_filter.mpr ⟨List.mem_append_right _ (tb2 (List.mem_of_getElem? (i := 38) rfl)), rfl⟩
set_option maxRecDepth 100000 in
theorem w_43 : (Cond.code yX4_byteAt prog_6_method_12_code 2 (Option.some Jvm.ClassFile.FieldType.int) : Cond) ∈ gw := List.mem_filter.mpr ⟨List.mem_append_right _ (tb2 (List.mem_of_getElem? (i := 41) rfl)), rfl⟩
set_option maxRecDepth 100000 in
theorem w_44 : (Cond.initialized "BelfryBox$Processor" : Cond) ∈ gw := List.mem_filter.mpr ⟨List.mem_append_right _ (tb1 (List.mem_of_getElem? (i := 4) rfl)), rfl⟩
set_option maxRecDepth 100000 in
theorem w_45 : (Cond.instanceMethod yX4_byteAt : Cond) ∈ gw := List.mem_filter.mpr ⟨List.mem_append_right _ (tb2 (List.mem_of_getElem? (i := 40) rfl)), rfl⟩
set_option maxRecDepth 100000 in
theorem w_46 : (Cond.selects "BelfryBox$Processor" yX4_byteAt yX4_byteAt : Cond) ∈ gw := List.mem_filter.mpr ⟨List.mem_append_left _ (List.mem_map.mpr ⟨(⟨"BelfryBox$Processor", "byteAt", "(I)I"⟩, 7), sl1 (List.mem_of_getElem? (i := 2) rfl), rfl⟩), rfl⟩
set_option maxRecDepth 100000 in
theorem w_47 : (Cond.methodLink "BelfryBox$Processor" 43 yX4_placeAt : Cond) ∈ gw := List.mem_filter.mpr ⟨List.mem_append_right _ (tb2 (List.mem_of_getElem? (i := 34) rfl)), rfl⟩
set_option maxRecDepth 100000 in
theorem w_48 : (Cond.code yX4_placeAt prog_6_method_17_code 2 (Option.some Jvm.ClassFile.FieldType.int) : Cond) ∈ gw := List.mem_filter.mpr ⟨List.mem_append_right _ (tb2 (List.mem_of_getElem? (i := 37) rfl)), rfl⟩
set_option maxRecDepth 100000 in
theorem w_49 : (Cond.instanceMethod yX4_placeAt : Cond) ∈ gw := List.mem_filter.mpr ⟨List.mem_append_right _ (tb2 (List.mem_of_getElem? (i := 36) rfl)), rfl⟩
set_option maxRecDepth 100000 in
theorem w_50 : (Cond.selects "BelfryBox$Processor" yX4_placeAt yX4_placeAt : Cond) ∈ gw := List.mem_filter.mpr ⟨List.mem_append_left _ (List.mem_map.mpr ⟨(⟨"BelfryBox$Processor", "placeAt", "(I)I"⟩, 7), sl1 (List.mem_of_getElem? (i := 1) rfl), rfl⟩), rfl⟩
set_option maxRecDepth 100000 in
theorem w_51 : (Cond.methodLink "BelfryBox$Processor" 29 yJ7_fill_53178 : Cond) ∈ gw := List.mem_filter.mpr ⟨List.mem_append_right _ (tb2 (List.mem_of_getElem? (i := 27) rfl)), rfl⟩
set_option maxRecDepth 100000 in
theorem w_52 : (Cond.code yJ7_fill_53178 prog_18_method_103_code 4 (Option.none : Option Jvm.ClassFile.FieldType) : Cond) ∈ gw := List.mem_filter.mpr ⟨List.mem_append_right _ (tb2 (List.mem_of_getElem? (i := 29) rfl)), rfl⟩
set_option maxRecDepth 100000 in
theorem w_53 : (Cond.initialized "java/util/Arrays" : Cond) ∈ gw := List.mem_filter.mpr ⟨List.mem_append_right _ (tb1 (List.mem_of_getElem? (i := 10) rfl)), rfl⟩
set_option maxRecDepth 100000 in
theorem w_54 : (Cond.static yJ7_fill_53178 : Cond) ∈ gw := List.mem_filter.mpr ⟨List.mem_append_right _ (tb2 (List.mem_of_getElem? (i := 28) rfl)), rfl⟩
set_option maxRecDepth 100000 in
theorem w_55 : (Cond.methodLink "BelfryBox$Processor" 35 yX4_start : Cond) ∈ gw := List.mem_filter.mpr ⟨List.mem_append_right _ (tb2 (List.mem_of_getElem? (i := 30) rfl)), rfl⟩
set_option maxRecDepth 100000 in
theorem w_56 : (Cond.code yX4_start prog_6_method_3_code 1 (Option.none : Option Jvm.ClassFile.FieldType) : Cond) ∈ gw := List.mem_filter.mpr ⟨List.mem_append_right _ (tb2 (List.mem_of_getElem? (i := 33) rfl)), rfl⟩
set_option maxRecDepth 100000 in
theorem w_57 : (Cond.instanceMethod yX4_start : Cond) ∈ gw := List.mem_filter.mpr ⟨List.mem_append_right _ (tb2 (List.mem_of_getElem? (i := 32) rfl)), rfl⟩
set_option maxRecDepth 100000 in
theorem w_58 : (Cond.selects "BelfryBox$Processor" yX4_start yX4_start : Cond) ∈ gw := List.mem_filter.mpr ⟨List.mem_append_left _ (List.mem_map.mpr ⟨(⟨"BelfryBox$Processor", "start", "()V"⟩, 7), sl1 (List.mem_of_getElem? (i := 0) rfl), rfl⟩), rfl⟩
set_option maxRecDepth 100000 in
theorem w_59 : (Cond.methodLink "BelfryBox$Processor" 38 yX3_forget : Cond) ∈ gw := List.mem_filter.mpr ⟨List.mem_append_right _ (tb2 (List.mem_of_getElem? (i := 42) rfl)), rfl⟩
set_option maxRecDepth 100000 in
theorem w_60 : (Cond.code yX3_forget prog_5_method_2_code 1 (Option.none : Option Jvm.ClassFile.FieldType) : Cond) ∈ gw := List.mem_filter.mpr ⟨List.mem_append_right _ (tb2 (List.mem_of_getElem? (i := 45) rfl)), rfl⟩
set_option maxRecDepth 100000 in
theorem w_61 : (Cond.initialized "BelfryBox$Past" : Cond) ∈ gw := List.mem_filter.mpr ⟨List.mem_append_right _ (tb1 (List.mem_of_getElem? (i := 3) rfl)), rfl⟩
set_option maxRecDepth 100000 in
theorem w_62 : (Cond.instanceMethod yX3_forget : Cond) ∈ gw := List.mem_filter.mpr ⟨List.mem_append_right _ (tb2 (List.mem_of_getElem? (i := 43) rfl)), rfl⟩
set_option maxRecDepth 100000 in
theorem w_63 : (Cond.selects "BelfryBox$Past" yX3_forget yX3_forget : Cond) ∈ gw := List.mem_filter.mpr ⟨List.mem_append_right _ (tb2 (List.mem_of_getElem? (i := 44) rfl)), rfl⟩
theorem dJ7_fill_53178_0 : decode cJ7_fill_53178 0 = .ok (.iconst 0, 1) := by decide +kernel
theorem dJ7_fill_53178_1 : decode cJ7_fill_53178 1 = .ok (.istore_n 2, 1) := by decide +kernel
theorem dJ7_fill_53178_2 : decode cJ7_fill_53178 2 = .ok (.aload_n 0, 1) := by decide +kernel
theorem dJ7_fill_53178_3 : decode cJ7_fill_53178 3 = .ok (.arraylength, 1) := by decide +kernel
theorem dJ7_fill_53178_4 : decode cJ7_fill_53178 4 = .ok (.istore_n 3, 1) := by decide +kernel
theorem dJ7_fill_53178_5 : decode cJ7_fill_53178 5 = .ok (.iload_n 2, 1) := by decide +kernel
theorem dJ7_fill_53178_6 : decode cJ7_fill_53178 6 = .ok (.iload_n 3, 1) := by decide +kernel
theorem dJ7_fill_53178_7 : decode cJ7_fill_53178 7 = .ok (.if_icmp .ge 13, 3) := by decide +kernel
theorem dJ7_fill_53178_20 : decode cJ7_fill_53178 20 = .ok (.return_, 1) := by decide +kernel
theorem dJ7_fill_53178_10 : decode cJ7_fill_53178 10 = .ok (.aload_n 0, 1) := by decide +kernel
theorem dJ7_fill_53178_11 : decode cJ7_fill_53178 11 = .ok (.iload_n 2, 1) := by decide +kernel
theorem dJ7_fill_53178_12 : decode cJ7_fill_53178 12 = .ok (.iload_n 1, 1) := by decide +kernel
theorem dJ7_fill_53178_13 : decode cJ7_fill_53178 13 = .ok (.iastore, 1) := by decide +kernel
theorem dJ7_fill_53178_14 : decode cJ7_fill_53178 14 = .ok (.iinc 2 1, 3) := by decide +kernel
theorem dJ7_fill_53178_17 : decode cJ7_fill_53178 17 = .ok (.goto (-12), 3) := by decide +kernel
theorem dX3_forget_0 : decode cX3_forget 0 = .ok (.aload_n 0, 1) := by decide +kernel
theorem dX3_forget_1 : decode cX3_forget 1 = .ok (.iconst 0, 1) := by decide +kernel
theorem dX3_forget_2 : decode cX3_forget 2 = .ok (.putfield 15, 3) := by decide +kernel
theorem dX3_forget_5 : decode cX3_forget 5 = .ok (.return_, 1) := by decide +kernel
theorem dX4_byteAt_0 : decode cX4_byteAt 0 = .ok (.aload_n 0, 1) := by decide +kernel
theorem dX4_byteAt_1 : decode cX4_byteAt 1 = .ok (.getfield 18, 3) := by decide +kernel
theorem dX4_byteAt_4 : decode cX4_byteAt 4 = .ok (.iload_n 1, 1) := by decide +kernel
theorem dX4_byteAt_5 : decode cX4_byteAt 5 = .ok (.sipush 4095, 3) := by decide +kernel
theorem dX4_byteAt_8 : decode cX4_byteAt 8 = .ok (.iand, 1) := by decide +kernel
theorem dX4_byteAt_9 : decode cX4_byteAt 9 = .ok (.iaload, 1) := by decide +kernel
theorem dX4_byteAt_10 : decode cX4_byteAt 10 = .ok (.ireturn, 1) := by decide +kernel
theorem dX4_placeAt_0 : decode cX4_placeAt 0 = .ok (.aload_n 0, 1) := by decide +kernel
theorem dX4_placeAt_1 : decode cX4_placeAt 1 = .ok (.iload_n 1, 1) := by decide +kernel
theorem dX4_placeAt_2 : decode cX4_placeAt 2 = .ok (.invokevirtual 66, 3) := by decide +kernel
theorem dX4_placeAt_5 : decode cX4_placeAt 5 = .ok (.sipush 256, 3) := by decide +kernel
theorem dX4_placeAt_8 : decode cX4_placeAt 8 = .ok (.aload_n 0, 1) := by decide +kernel
theorem dX4_placeAt_9 : decode cX4_placeAt 9 = .ok (.iload_n 1, 1) := by decide +kernel
theorem dX4_placeAt_10 : decode cX4_placeAt 10 = .ok (.iconst 1, 1) := by decide +kernel
theorem dX4_placeAt_11 : decode cX4_placeAt 11 = .ok (.iadd, 1) := by decide +kernel
theorem dX4_placeAt_12 : decode cX4_placeAt 12 = .ok (.invokevirtual 66, 3) := by decide +kernel
theorem dX4_placeAt_15 : decode cX4_placeAt 15 = .ok (.imul, 1) := by decide +kernel
theorem dX4_placeAt_16 : decode cX4_placeAt 16 = .ok (.iadd, 1) := by decide +kernel
theorem dX4_placeAt_17 : decode cX4_placeAt 17 = .ok (.sipush 4095, 3) := by decide +kernel
theorem dX4_placeAt_20 : decode cX4_placeAt 20 = .ok (.iand, 1) := by decide +kernel
theorem dX4_placeAt_21 : decode cX4_placeAt 21 = .ok (.ireturn, 1) := by decide +kernel
theorem dX4_start_0 : decode cX4_start 0 = .ok (.aload_n 0, 1) := by decide +kernel
theorem dX4_start_1 : decode cX4_start 1 = .ok (.getfield 15, 3) := by decide +kernel
theorem dX4_start_4 : decode cX4_start 4 = .ok (.iconst 0, 1) := by decide +kernel
theorem dX4_start_5 : decode cX4_start 5 = .ok (.iconst 0, 1) := by decide +kernel
theorem dX4_start_6 : decode cX4_start 6 = .ok (.iastore, 1) := by decide +kernel
theorem dX4_start_7 : decode cX4_start 7 = .ok (.aload_n 0, 1) := by decide +kernel
theorem dX4_start_8 : decode cX4_start 8 = .ok (.getfield 15, 3) := by decide +kernel
theorem dX4_start_11 : decode cX4_start 11 = .ok (.iconst 1, 1) := by decide +kernel
theorem dX4_start_12 : decode cX4_start 12 = .ok (.iconst 0, 1) := by decide +kernel
theorem dX4_start_13 : decode cX4_start 13 = .ok (.iastore, 1) := by decide +kernel
theorem dX4_start_14 : decode cX4_start 14 = .ok (.aload_n 0, 1) := by decide +kernel
theorem dX4_start_15 : decode cX4_start 15 = .ok (.getfield 15, 3) := by decide +kernel
theorem dX4_start_18 : decode cX4_start 18 = .ok (.iconst 2, 1) := by decide +kernel
theorem dX4_start_19 : decode cX4_start 19 = .ok (.iconst 0, 1) := by decide +kernel
theorem dX4_start_20 : decode cX4_start 20 = .ok (.iastore, 1) := by decide +kernel
theorem dX4_start_21 : decode cX4_start 21 = .ok (.aload_n 0, 1) := by decide +kernel
theorem dX4_start_22 : decode cX4_start 22 = .ok (.getfield 15, 3) := by decide +kernel
theorem dX4_start_25 : decode cX4_start 25 = .ok (.iconst 3, 1) := by decide +kernel
theorem dX4_start_26 : decode cX4_start 26 = .ok (.sipush 255, 3) := by decide +kernel
theorem dX4_start_29 : decode cX4_start 29 = .ok (.iastore, 1) := by decide +kernel
theorem dX4_start_30 : decode cX4_start 30 = .ok (.aload_n 0, 1) := by decide +kernel
theorem dX4_start_31 : decode cX4_start 31 = .ok (.getfield 15, 3) := by decide +kernel
theorem dX4_start_34 : decode cX4_start 34 = .ok (.iconst 5, 1) := by decide +kernel
theorem dX4_start_35 : decode cX4_start 35 = .ok (.iconst 4, 1) := by decide +kernel
theorem dX4_start_36 : decode cX4_start 36 = .ok (.iastore, 1) := by decide +kernel
theorem dX4_start_37 : decode cX4_start 37 = .ok (.aload_n 0, 1) := by decide +kernel
theorem dX4_start_38 : decode cX4_start 38 = .ok (.getfield 15, 3) := by decide +kernel
theorem dX4_start_41 : decode cX4_start 41 = .ok (.iconst 4, 1) := by decide +kernel
theorem dX4_start_42 : decode cX4_start 42 = .ok (.aload_n 0, 1) := by decide +kernel
theorem dX4_start_43 : decode cX4_start 43 = .ok (.sipush 4078, 3) := by decide +kernel
theorem dX4_start_46 : decode cX4_start 46 = .ok (.invokevirtual 43, 3) := by decide +kernel
theorem dX4_start_49 : decode cX4_start 49 = .ok (.iastore, 1) := by decide +kernel
theorem dX4_start_50 : decode cX4_start 50 = .ok (.aload_n 0, 1) := by decide +kernel
theorem dX4_start_51 : decode cX4_start 51 = .ok (.getfield 15, 3) := by decide +kernel
theorem dX4_start_54 : decode cX4_start 54 = .ok (.bipush 6, 2) := by decide +kernel
theorem dX4_start_56 : decode cX4_start 56 = .ok (.iconst 0, 1) := by decide +kernel
theorem dX4_start_57 : decode cX4_start 57 = .ok (.iastore, 1) := by decide +kernel
theorem dX4_start_58 : decode cX4_start 58 = .ok (.return_, 1) := by decide +kernel
theorem dX4_beginAnew_0 : decode cX4_beginAnew 0 = .ok (.aload_n 0, 1) := by decide +kernel
theorem dX4_beginAnew_1 : decode cX4_beginAnew 1 = .ok (.getfield 15, 3) := by decide +kernel
theorem dX4_beginAnew_4 : decode cX4_beginAnew 4 = .ok (.iconst 0, 1) := by decide +kernel
theorem dX4_beginAnew_5 : decode cX4_beginAnew 5 = .ok (.invokestatic 29, 3) := by decide +kernel
theorem dX4_beginAnew_8 : decode cX4_beginAnew 8 = .ok (.aload_n 0, 1) := by decide +kernel
theorem dX4_beginAnew_9 : decode cX4_beginAnew 9 = .ok (.getfield 15, 3) := by decide +kernel
theorem dX4_beginAnew_12 : decode cX4_beginAnew 12 = .ok (.bipush 18, 2) := by decide +kernel
theorem dX4_beginAnew_14 : decode cX4_beginAnew 14 = .ok (.iconst 1, 1) := by decide +kernel
theorem dX4_beginAnew_15 : decode cX4_beginAnew 15 = .ok (.iastore, 1) := by decide +kernel
theorem dX4_beginAnew_16 : decode cX4_beginAnew 16 = .ok (.aload_n 0, 1) := by decide +kernel
theorem dX4_beginAnew_17 : decode cX4_beginAnew 17 = .ok (.invokevirtual 35, 3) := by decide +kernel
theorem dX4_beginAnew_20 : decode cX4_beginAnew 20 = .ok (.aload_n 0, 1) := by decide +kernel
theorem dX4_beginAnew_21 : decode cX4_beginAnew 21 = .ok (.getfield 9, 3) := by decide +kernel
theorem dX4_beginAnew_24 : decode cX4_beginAnew 24 = .ok (.iconst 0, 1) := by decide +kernel
theorem dX4_beginAnew_25 : decode cX4_beginAnew 25 = .ok (.invokestatic 29, 3) := by decide +kernel
theorem dX4_beginAnew_28 : decode cX4_beginAnew 28 = .ok (.aload_n 0, 1) := by decide +kernel
theorem dX4_beginAnew_29 : decode cX4_beginAnew 29 = .ok (.getfield 25, 3) := by decide +kernel
theorem dX4_beginAnew_32 : decode cX4_beginAnew 32 = .ok (.invokevirtual 38, 3) := by decide +kernel
theorem dX4_beginAnew_35 : decode cX4_beginAnew 35 = .ok (.return_, 1) := by decide +kernel
set_option maxHeartbeats 4000000 in
set_option maxRecDepth 100000 in
theorem c_fill (l : Launch) (D : va_G) (cA cB : ClassId) (h0 : Nat) (nn : Nat) (v : Int32) (f : Nat → Int32) (hn : nn < 2 ^ 31) : CV l yJ7_fill_53178 cJ7_fill_53178 4 none 0 0 0 0 D cA cB [.ref h0, .int v] [(h0, .inl (cA, nn, .inl f))] (fun W1 => ∃ (g : Nat → Int32), (∀ j, j < nn → g j = v) ∧ W1 = [(h0, .inl (cA, nn, .inl g))]) := by
  refine mkV (lv0 := [(0, .ref h0), (1, .int v)]) (by decide) (Nat.le_of_ble_eq_true rfl) rfl ?_
  intro p e s m below meth c A ls X hr hlocks hnm hE hA hP hD hS hl
  have hx := X.1
  have hb := X.2.1
  refine lv_iconst (v := 0) hx hb dJ7_fill_53178_0 (by decide) ?_
  refine lv_istore_n (lv' := [(2, .int 0), (0, .ref h0), (1, .int v)]) hx hb dJ7_fill_53178_1 rfl hl (by decide) rfl (fun ls hl => ?_)
  refine lv_aload_n hx hb dJ7_fill_53178_2 rfl (lv_at hl 1 rfl) ?_
  refine k_len (v := nI nn) X hE hP 0 rfl rfl dJ7_fill_53178_3 ?_
  refine lv_istore_n (lv' := [(3, .int (nI nn)), (2, .int 0), (0, .ref h0), (1, .int v)]) hx hb dJ7_fill_53178_4 rfl hl (by decide) rfl (fun ls hl => ?_)
  have loop_5 : ∀ (n : Nat) (k : Nat) (g : Nat → Int32), (k ≤ nn) → (∀ j, j < k → g j = v) → nn < k + n → ∀ (H : Heap) (locs : List Loc), va_P D classes [(h0, .inl (cA, nn, .inl g))] H → va_D A [(h0, .inl (cA, nn, .inl g))] → va_S A s.heap H locs → ∀ ls : Array Slot, lv_has ls 4 [(0, .ref h0), (1, .int v), (2, .int (nI k)), (3, .int (nI nn))] → W p l e { frames := 0, cells := 0, slots := 0, locals := 0 } s m (List.toArray [.ref h0, .int v]) below meth c H locs 0 0 (MQ below (QV D (fun W1 => ∃ (g : Nat → Int32), (∀ j, j < nn → g j = v) ∧ W1 = [(h0, .inl (cA, nn, .inl g))]) A) (List.toArray [.ref h0, .int v]) s 0 0 A) (F0 m 5 ls []) := by
    intro n
    induction n with
    | zero => intro k g hk hg hfuel; exact absurd hfuel (by omega)
    | succ n ih =>
      intro k g hk hg hfuel H locs hP hD hS ls hl
      refine lv_iload_n hx hb dJ7_fill_53178_5 rfl (lv_at hl 2 rfl) ?_
      refine lv_iload_n hx hb dJ7_fill_53178_6 rfl (lv_at hl 3 rfl) ?_
      refine lv_icmp_ge (tgt := 20) hx hb dJ7_fill_53178_7 (by decide) (fun c_7 => ?_) (fun c_7 => ?_)
      · skip
        exact endV X hr hlocks hP hD hS dJ7_fill_53178_20 ⟨g, (fun j hj => hg j (by have := (nI_leI hn (by omega)).mp c_7; omega)), rfl⟩
      · skip
        have hlt : k < nn := by rcases Nat.lt_or_ge k nn with q | q; exact q; exact absurd (nI_le q (by omega)) c_7
        refine lv_aload_n hx hb dJ7_fill_53178_10 rfl (lv_at hl 0 rfl) ?_
        refine lv_iload_n hx hb dJ7_fill_53178_11 rfl (lv_at hl 2 rfl) ?_
        refine lv_iload_n hx hb dJ7_fill_53178_12 rfl (lv_at hl 1 rfl) ?_
        refine k_ast X hE hP hD hS 0 rfl k rfl hlt hn [(h0, .inl (cA, nn, .inl (upd g k v)))] rfl dJ7_fill_53178_13 (fun H locs hP hD hS => ?_)
        refine lv_iinc (v := nI (k + 1)) (lv' := [(2, .int (nI (k + 1))), (0, .ref h0), (1, .int v), (3, .int (nI nn))]) hx hb dJ7_fill_53178_14 hl (k := 2) rfl (nI_1 k) (by decide) rfl (fun ls hl => ?_)
        refine lv_goto (tgt := 5) hx hb dJ7_fill_53178_17 (by decide) ?_
        exact ih (k + 1) (upd g k v) (by omega) (fun j hj => by rcases Nat.lt_or_eq_of_le (Nat.le_of_lt_succ hj) with q | q; exact (pk_un (by omega)).trans (hg j q); exact (by subst q; exact pk_us)) (by omega) _ _ (hP.sub [0] rfl) (hD.sub [0] (by decide) rfl) hS ls (lv_sub hl [1, 2, 0, 3] rfl)
  exact loop_5 (nn + 1) 0 f (Nat.zero_le _) (fun j h => absurd h (by omega)) (by omega) _ _ hP hD hS ls (lv_sub hl [2, 3, 1, 0] rfl)
set_option maxHeartbeats 4000000 in
set_option maxRecDepth 100000 in
theorem c_Past_forget (l : Launch) (D : va_G) (cA cB : ClassId) (h0 : Nat) (he : Nat) (la : Int32) (ke : Int32)  : CV l yX3_forget cX3_forget 1 none 0 0 0 0 D cA cB [.ref h0] [(h0, .inr (3, [.ref he, .int la, .int ke]))] (fun W1 => W1 = [(h0, .inr (3, [.ref he, .int la, .int 0]))]) := by
  refine mkV (lv0 := [(0, .ref h0)]) (by decide) (Nat.le_of_ble_eq_true rfl) rfl ?_
  intro p e s m below meth c A ls X hr hlocks hnm hE hA hP hD hS hl
  have hx := X.1
  have hb := X.2.1
  refine lv_aload_n hx hb dX3_forget_0 rfl (lv_at hl 0 rfl) ?_
  refine lv_iconst (v := 0) hx hb dX3_forget_1 (by decide) ?_
  refine k_put (C := RX3) (T := TX3) (N := 3) (ci := 3) (v := .int 0) (ty := .int) X hE hP hD hS 0 rfl rfl iX3 tyX3 tyX3_ok nmX3 2 (by decide) w_41 rfl (by decide +kernel) rfl rfl (Nat.le_of_ble_eq_true rfl) [(h0, .inr (3, [.ref he, .int la, .int 0]))] rfl dX3_forget_2 (fun H locs hP hD hS => ?_)
  exact endV X hr hlocks hP hD hS dX3_forget_5 rfl
set_option maxHeartbeats 4000000 in
set_option maxRecDepth 100000 in
theorem c_byteAt (l : Launch) (D : va_G) (cA cB : ClassId) (h0 : Nat) (hn : Nat) (hs : Nat) (hd : Nat) (hp : Nat) (hc : Nat) (wy : Int32) (dn : Int32) (x : Int32) (j : Nat) (st : Nat → Int32) (hj : x &&& 4095 = nI j) (hjn : j < 4096) : CI l yX4_byteAt cX4_byteAt 2 (some .int) 0 0 0 0 D cA cB [.ref h0, .int x] [(h0, .inr (4, [.ref hn, .ref hs, .ref hd, .ref hp, .ref hc, .int wy, .int dn])), (hs, .inl (cA, 4096, .inl st))] (fun r W1 => r = st j ∧ W1 = [(h0, .inr (4, [.ref hn, .ref hs, .ref hd, .ref hp, .ref hc, .int wy, .int dn])), (hs, .inl (cA, 4096, .inl st))]) := by
  refine mkI (lv0 := [(0, .ref h0), (1, .int x)]) (by decide) (Nat.le_of_ble_eq_true rfl) rfl ?_
  intro p e s m below meth c A ls X hr hlocks hnm hE hA hP hD hS hl
  have hx := X.1
  have hb := X.2.1
  refine lv_aload_n hx hb dX4_byteAt_0 rfl (lv_at hl 0 rfl) ?_
  refine k_get (C := RX4) (T := TX4) (N := 7) (ci := 4) (v := .ref hs) X hE hP 0 rfl rfl iX4 1 (by decide) w_26 rfl dX4_byteAt_1 ?_
  refine lv_iload_n hx hb dX4_byteAt_4 rfl (lv_at hl 1 rfl) ?_
  refine lv_sipush (v := 4095) hx hb dX4_byteAt_5 (by decide) ?_
  refine lv_iand hx hb dX4_byteAt_8 ?_
  refine k_ald (v := st j) X hE hP 1 rfl j hj hjn (by decide) rfl dX4_byteAt_9 ?_
  exact endI X hr hlocks hP hD hS dX4_byteAt_10 ⟨rfl, rfl⟩
set_option maxHeartbeats 4000000 in
set_option maxRecDepth 100000 in
theorem c_placeAt_4078 (l : Launch) (D : va_G) (cA cB : ClassId) (h0 : Nat) (hn : Nat) (hs : Nat) (hd : Nat) (hp : Nat) (hc : Nat) (wy : Int32) (dn : Int32) (st : Nat → Int32)  : CI l yX4_placeAt cX4_placeAt 2 (some .int) 1 21 0 0 D cA cB [.ref h0, .int 4078] [(h0, .inr (4, [.ref hn, .ref hs, .ref hd, .ref hp, .ref hc, .int wy, .int dn])), (hs, .inl (cA, 4096, .inl st))] (fun r W1 => r = ((st 4078) + (256 * (st 4079))) &&& 4095 ∧ W1 = [(h0, .inr (4, [.ref hn, .ref hs, .ref hd, .ref hp, .ref hc, .int wy, .int dn])), (hs, .inl (cA, 4096, .inl st))]) := by
  refine mkI (lv0 := [(0, .ref h0), (1, .int 4078)]) (by decide) (Nat.le_of_ble_eq_true rfl) rfl ?_
  intro p e s m below meth c A ls X hr hlocks hnm hE hA hP hD hS hl
  have hx := X.1
  have hb := X.2.1
  refine lv_aload_n hx hb dX4_placeAt_0 rfl (lv_at hl 0 rfl) ?_
  refine lv_iload_n hx hb dX4_placeAt_1 rfl (lv_at hl 1 rfl) ?_
  refine kVi (n3 := 1) (As := [.int 4078]) (rest := []) X hl.1 hE hP hD hS hA [(h0, .inr (4, [.ref hn, .ref hs, .ref hd, .ref hp, .ref hc, .int wy, .int dn])), (hs, .inl (cA, 4096, .inl st))] [] [0, 1] [] rfl rfl rfl (by decide) (by decide) (by decide) (c_byteAt l D cA cB h0 hn hs hd hp hc wy dn 4078 4078 st (by first | assumption | decide | rfl | omega) (by first | assumption | decide | rfl | omega)) w_43 w_44 w_42 w_45 w_46 0 (ci := 4) (T := TX4) (N := 7) rfl rfl (by decide +kernel) rfl rfl (Nat.le_of_ble_eq_true rfl) ⟨(Nat.le_of_ble_eq_true rfl), (Nat.le_of_ble_eq_true rfl)⟩ ⟨(Nat.le_of_ble_eq_true rfl), (Nat.le_of_ble_eq_true rfl)⟩ dX4_placeAt_2 (fun r W1 H locs hw hP hD hS => ?_)
  obtain ⟨rfl, rfl⟩ := hw
  have hP : va_P D classes [(h0, .inr (4, [.ref hn, .ref hs, .ref hd, .ref hp, .ref hc, .int wy, .int dn])), (hs, .inl (cA, 4096, .inl st))] H := hP
  have hD : va_D A [(h0, .inr (4, [.ref hn, .ref hs, .ref hd, .ref hp, .ref hc, .int wy, .int dn])), (hs, .inl (cA, 4096, .inl st))] := hD
  refine lv_sipush (v := 256) hx hb dX4_placeAt_5 (by decide) ?_
  refine lv_aload_n hx hb dX4_placeAt_8 rfl (lv_at hl 0 rfl) ?_
  refine lv_iload_n hx hb dX4_placeAt_9 rfl (lv_at hl 1 rfl) ?_
  refine lv_iconst (v := 1) hx hb dX4_placeAt_10 (by decide) ?_
  refine lv_iadd hx hb dX4_placeAt_11 ?_
  refine tk (y := 4079) (by decide) ?_
  refine kVi (n3 := 1) (As := [.int 4079]) (rest := [.int 256, .int (st 4078)]) X hl.1 hE hP hD hS hA [(h0, .inr (4, [.ref hn, .ref hs, .ref hd, .ref hp, .ref hc, .int wy, .int dn])), (hs, .inl (cA, 4096, .inl st))] [] [0, 1] [] rfl rfl rfl (by decide) (by decide) (by decide) (c_byteAt l D cA cB h0 hn hs hd hp hc wy dn 4079 4079 st (by first | assumption | decide | rfl | omega) (by first | assumption | decide | rfl | omega)) w_43 w_44 w_42 w_45 w_46 0 (ci := 4) (T := TX4) (N := 7) rfl rfl (by decide +kernel) rfl rfl (Nat.le_of_ble_eq_true rfl) ⟨(Nat.le_of_ble_eq_true rfl), (Nat.le_of_ble_eq_true rfl)⟩ ⟨(Nat.le_of_ble_eq_true rfl), (Nat.le_of_ble_eq_true rfl)⟩ dX4_placeAt_12 (fun r W1 H locs hw hP hD hS => ?_)
  obtain ⟨rfl, rfl⟩ := hw
  have hP : va_P D classes [(h0, .inr (4, [.ref hn, .ref hs, .ref hd, .ref hp, .ref hc, .int wy, .int dn])), (hs, .inl (cA, 4096, .inl st))] H := hP
  have hD : va_D A [(h0, .inr (4, [.ref hn, .ref hs, .ref hd, .ref hp, .ref hc, .int wy, .int dn])), (hs, .inl (cA, 4096, .inl st))] := hD
  refine lv_imul hx hb dX4_placeAt_15 ?_
  refine lv_iadd hx hb dX4_placeAt_16 ?_
  refine lv_sipush (v := 4095) hx hb dX4_placeAt_17 (by decide) ?_
  refine lv_iand hx hb dX4_placeAt_20 ?_
  exact endI X hr hlocks hP hD hS dX4_placeAt_21 ⟨rfl, rfl⟩
set_option maxHeartbeats 4000000 in
set_option maxRecDepth 100000 in
theorem c_start (l : Launch) (D : va_G) (cA cB : ClassId) (h0 : Nat) (hn : Nat) (hs : Nat) (hd : Nat) (hp : Nat) (hc : Nat) (wy : Int32) (dn : Int32) (f : Nat → Int32) (st : Nat → Int32)  : CV l yX4_start cX4_start 1 none 2 42 0 0 D cA cB [.ref h0] [(h0, .inr (4, [.ref hn, .ref hs, .ref hd, .ref hp, .ref hc, .int wy, .int dn])), (hn, .inl (cA, 34, .inl f)), (hs, .inl (cA, 4096, .inl st))] (fun W1 => W1 = [(h0, .inr (4, [.ref hn, .ref hs, .ref hd, .ref hp, .ref hc, .int wy, .int dn])), (hn, .inl (cA, 34, .inl (upd (upd (upd (upd (upd (upd (upd f 0 0) 1 0) 2 0) 3 255) 5 4) 4 (((st 4078) + (256 * (st 4079))) &&& 4095)) 6 0))), (hs, .inl (cA, 4096, .inl st))]) := by
  refine mkV (lv0 := [(0, .ref h0)]) (by decide) (Nat.le_of_ble_eq_true rfl) rfl ?_
  intro p e s m below meth c A ls X hr hlocks hnm hE hA hP hD hS hl
  have hx := X.1
  have hb := X.2.1
  refine lv_aload_n hx hb dX4_start_0 rfl (lv_at hl 0 rfl) ?_
  refine k_get (C := RX4) (T := TX4) (N := 7) (ci := 4) (v := .ref hn) X hE hP 0 rfl rfl iX4 0 (by decide) w_25 rfl dX4_start_1 ?_
  refine lv_iconst (v := 0) hx hb dX4_start_4 (by decide) ?_
  refine lv_iconst (v := 0) hx hb dX4_start_5 (by decide) ?_
  refine k_ast X hE hP hD hS 1 rfl 0 rfl (by decide) (by decide) [(h0, .inr (4, [.ref hn, .ref hs, .ref hd, .ref hp, .ref hc, .int wy, .int dn])), (hn, .inl (cA, 34, .inl (upd f 0 0))), (hs, .inl (cA, 4096, .inl st))] rfl dX4_start_6 (fun H locs hP hD hS => ?_)
  refine lv_aload_n hx hb dX4_start_7 rfl (lv_at hl 0 rfl) ?_
  refine k_get (C := RX4) (T := TX4) (N := 7) (ci := 4) (v := .ref hn) X hE hP 0 rfl rfl iX4 0 (by decide) w_25 rfl dX4_start_8 ?_
  refine lv_iconst (v := 1) hx hb dX4_start_11 (by decide) ?_
  refine lv_iconst (v := 0) hx hb dX4_start_12 (by decide) ?_
  refine k_ast X hE hP hD hS 1 rfl 1 rfl (by decide) (by decide) [(h0, .inr (4, [.ref hn, .ref hs, .ref hd, .ref hp, .ref hc, .int wy, .int dn])), (hn, .inl (cA, 34, .inl (upd (upd f 0 0) 1 0))), (hs, .inl (cA, 4096, .inl st))] rfl dX4_start_13 (fun H locs hP hD hS => ?_)
  refine lv_aload_n hx hb dX4_start_14 rfl (lv_at hl 0 rfl) ?_
  refine k_get (C := RX4) (T := TX4) (N := 7) (ci := 4) (v := .ref hn) X hE hP 0 rfl rfl iX4 0 (by decide) w_25 rfl dX4_start_15 ?_
  refine lv_iconst (v := 2) hx hb dX4_start_18 (by decide) ?_
  refine lv_iconst (v := 0) hx hb dX4_start_19 (by decide) ?_
  refine k_ast X hE hP hD hS 1 rfl 2 rfl (by decide) (by decide) [(h0, .inr (4, [.ref hn, .ref hs, .ref hd, .ref hp, .ref hc, .int wy, .int dn])), (hn, .inl (cA, 34, .inl (upd (upd (upd f 0 0) 1 0) 2 0))), (hs, .inl (cA, 4096, .inl st))] rfl dX4_start_20 (fun H locs hP hD hS => ?_)
  refine lv_aload_n hx hb dX4_start_21 rfl (lv_at hl 0 rfl) ?_
  refine k_get (C := RX4) (T := TX4) (N := 7) (ci := 4) (v := .ref hn) X hE hP 0 rfl rfl iX4 0 (by decide) w_25 rfl dX4_start_22 ?_
  refine lv_iconst (v := 3) hx hb dX4_start_25 (by decide) ?_
  refine lv_sipush (v := 255) hx hb dX4_start_26 (by decide) ?_
  refine k_ast X hE hP hD hS 1 rfl 3 rfl (by decide) (by decide) [(h0, .inr (4, [.ref hn, .ref hs, .ref hd, .ref hp, .ref hc, .int wy, .int dn])), (hn, .inl (cA, 34, .inl (upd (upd (upd (upd f 0 0) 1 0) 2 0) 3 255))), (hs, .inl (cA, 4096, .inl st))] rfl dX4_start_29 (fun H locs hP hD hS => ?_)
  refine lv_aload_n hx hb dX4_start_30 rfl (lv_at hl 0 rfl) ?_
  refine k_get (C := RX4) (T := TX4) (N := 7) (ci := 4) (v := .ref hn) X hE hP 0 rfl rfl iX4 0 (by decide) w_25 rfl dX4_start_31 ?_
  refine lv_iconst (v := 5) hx hb dX4_start_34 (by decide) ?_
  refine lv_iconst (v := 4) hx hb dX4_start_35 (by decide) ?_
  refine k_ast X hE hP hD hS 1 rfl 5 rfl (by decide) (by decide) [(h0, .inr (4, [.ref hn, .ref hs, .ref hd, .ref hp, .ref hc, .int wy, .int dn])), (hn, .inl (cA, 34, .inl (upd (upd (upd (upd (upd f 0 0) 1 0) 2 0) 3 255) 5 4))), (hs, .inl (cA, 4096, .inl st))] rfl dX4_start_36 (fun H locs hP hD hS => ?_)
  refine lv_aload_n hx hb dX4_start_37 rfl (lv_at hl 0 rfl) ?_
  refine k_get (C := RX4) (T := TX4) (N := 7) (ci := 4) (v := .ref hn) X hE hP 0 rfl rfl iX4 0 (by decide) w_25 rfl dX4_start_38 ?_
  refine lv_iconst (v := 4) hx hb dX4_start_41 (by decide) ?_
  refine lv_aload_n hx hb dX4_start_42 rfl (lv_at hl 0 rfl) ?_
  refine lv_sipush (v := 4078) hx hb dX4_start_43 (by decide) ?_
  refine kVi (n3 := 1) (As := [.int 4078]) (rest := [.int 4, .ref hn]) X hl.1 hE hP hD hS hA [(h0, .inr (4, [.ref hn, .ref hs, .ref hd, .ref hp, .ref hc, .int wy, .int dn])), (hs, .inl (cA, 4096, .inl st))] [(hn, .inl (cA, 34, .inl (upd (upd (upd (upd (upd f 0 0) 1 0) 2 0) 3 255) 5 4)))] [0, 2] [1] rfl rfl rfl (by decide) (by decide) (by decide) (c_placeAt_4078 l D cA cB h0 hn hs hd hp hc wy dn st ) w_48 w_44 w_47 w_49 w_50 0 (ci := 4) (T := TX4) (N := 7) rfl rfl (by decide +kernel) rfl rfl (Nat.le_of_ble_eq_true rfl) ⟨(Nat.le_of_ble_eq_true rfl), (Nat.le_of_ble_eq_true rfl)⟩ ⟨(Nat.le_of_ble_eq_true rfl), (Nat.le_of_ble_eq_true rfl)⟩ dX4_start_46 (fun r W1 H locs hw hP hD hS => ?_)
  obtain ⟨rfl, rfl⟩ := hw
  have hP : va_P D classes [(hn, .inl (cA, 34, .inl (upd (upd (upd (upd (upd f 0 0) 1 0) 2 0) 3 255) 5 4))), (h0, .inr (4, [.ref hn, .ref hs, .ref hd, .ref hp, .ref hc, .int wy, .int dn])), (hs, .inl (cA, 4096, .inl st))] H := hP
  have hD : va_D A [(hn, .inl (cA, 34, .inl (upd (upd (upd (upd (upd f 0 0) 1 0) 2 0) 3 255) 5 4))), (h0, .inr (4, [.ref hn, .ref hs, .ref hd, .ref hp, .ref hc, .int wy, .int dn])), (hs, .inl (cA, 4096, .inl st))] := hD
  refine k_ast X hE hP hD hS 0 rfl 4 rfl (by decide) (by decide) [(hn, .inl (cA, 34, .inl (upd (upd (upd (upd (upd (upd f 0 0) 1 0) 2 0) 3 255) 5 4) 4 (((st 4078) + (256 * (st 4079))) &&& 4095)))), (h0, .inr (4, [.ref hn, .ref hs, .ref hd, .ref hp, .ref hc, .int wy, .int dn])), (hs, .inl (cA, 4096, .inl st))] rfl dX4_start_49 (fun H locs hP hD hS => ?_)
  refine lv_aload_n hx hb dX4_start_50 rfl (lv_at hl 0 rfl) ?_
  refine k_get (C := RX4) (T := TX4) (N := 7) (ci := 4) (v := .ref hn) X hE hP 1 rfl rfl iX4 0 (by decide) w_25 rfl dX4_start_51 ?_
  refine lv_bipush (v := 6) hx hb dX4_start_54 (by decide) ?_
  refine lv_iconst (v := 0) hx hb dX4_start_56 (by decide) ?_
  refine k_ast X hE hP hD hS 0 rfl 6 rfl (by decide) (by decide) [(hn, .inl (cA, 34, .inl (upd (upd (upd (upd (upd (upd (upd f 0 0) 1 0) 2 0) 3 255) 5 4) 4 (((st 4078) + (256 * (st 4079))) &&& 4095)) 6 0))), (h0, .inr (4, [.ref hn, .ref hs, .ref hd, .ref hp, .ref hc, .int wy, .int dn])), (hs, .inl (cA, 4096, .inl st))] rfl dX4_start_57 (fun H locs hP hD hS => ?_)
  have hP : va_P D classes [(h0, .inr (4, [.ref hn, .ref hs, .ref hd, .ref hp, .ref hc, .int wy, .int dn])), (hn, .inl (cA, 34, .inl (upd (upd (upd (upd (upd (upd (upd f 0 0) 1 0) 2 0) 3 255) 5 4) 4 (((st 4078) + (256 * (st 4079))) &&& 4095)) 6 0))), (hs, .inl (cA, 4096, .inl st))] _ := hP.sub [1, 0, 2] rfl
  have hD : va_D A [(h0, .inr (4, [.ref hn, .ref hs, .ref hd, .ref hp, .ref hc, .int wy, .int dn])), (hn, .inl (cA, 34, .inl (upd (upd (upd (upd (upd (upd (upd f 0 0) 1 0) 2 0) 3 255) 5 4) 4 (((st 4078) + (256 * (st 4079))) &&& 4095)) 6 0))), (hs, .inl (cA, 4096, .inl st))] := hD.sub [1, 0, 2] (by decide) rfl
  exact endV X hr hlocks hP hD hS dX4_start_58 rfl
set_option maxHeartbeats 4000000 in
set_option maxRecDepth 100000 in
theorem c_beginAnew (l : Launch) (D : va_G) (cA cB : ClassId) (h0 : Nat) (hn : Nat) (hs : Nat) (hd : Nat) (hp : Nat) (hc : Nat) (wy : Int32) (dn : Int32) (he : Nat) (la : Int32) (ke : Int32) (f : Nat → Int32) (st : Nat → Int32) (ct : Nat → Int32)  : CV l yX4_beginAnew cX4_beginAnew 1 none 3 62 0 0 D cA cB [.ref h0] [(h0, .inr (4, [.ref hn, .ref hs, .ref hd, .ref hp, .ref hc, .int wy, .int dn])), (hn, .inl (cA, 34, .inl f)), (hs, .inl (cA, 4096, .inl st)), (hc, .inl (cA, 257, .inl ct)), (hp, .inr (3, [.ref he, .int la, .int ke]))] (fun W1 => ∃ (g : Nat → Int32) (g2 : Nat → Int32), (∀ j, j < 34 → g j = 0) ∧ (∀ j, j < 257 → g2 j = 0) ∧ W1 = [(h0, .inr (4, [.ref hn, .ref hs, .ref hd, .ref hp, .ref hc, .int wy, .int dn])), (hn, .inl (cA, 34, .inl (upd (upd (upd (upd (upd (upd (upd (upd g 18 1) 0 0) 1 0) 2 0) 3 255) 5 4) 4 (((st 4078) + (256 * (st 4079))) &&& 4095)) 6 0))), (hs, .inl (cA, 4096, .inl st)), (hc, .inl (cA, 257, .inl g2)), (hp, .inr (3, [.ref he, .int la, .int 0]))]) := by
  refine mkV (lv0 := [(0, .ref h0)]) (by decide) (Nat.le_of_ble_eq_true rfl) rfl ?_
  intro p e s m below meth c A ls X hr hlocks hnm hE hA hP hD hS hl
  have hx := X.1
  have hb := X.2.1
  refine lv_aload_n hx hb dX4_beginAnew_0 rfl (lv_at hl 0 rfl) ?_
  refine k_get (C := RX4) (T := TX4) (N := 7) (ci := 4) (v := .ref hn) X hE hP 0 rfl rfl iX4 0 (by decide) w_25 rfl dX4_beginAnew_1 ?_
  refine lv_iconst (v := 0) hx hb dX4_beginAnew_4 (by decide) ?_
  refine kSv (n3 := 2) (As := [.ref hn, .int 0]) (rest := []) X hl.1 hE hP hD hS hA [(hn, .inl (cA, 34, .inl f))] [(h0, .inr (4, [.ref hn, .ref hs, .ref hd, .ref hp, .ref hc, .int wy, .int dn])), (hs, .inl (cA, 4096, .inl st)), (hc, .inl (cA, 257, .inl ct)), (hp, .inr (3, [.ref he, .int la, .int ke]))] [1] [0, 2, 3, 4] rfl rfl rfl (by decide) (by decide) (by decide) (c_fill l D cA cB hn 34 0 f (by first | assumption | decide | rfl | omega)) w_52 w_53 w_51 w_54 (by decide +kernel) rfl rfl (Nat.le_of_ble_eq_true rfl) ⟨(Nat.le_of_ble_eq_true rfl), (Nat.le_of_ble_eq_true rfl)⟩ ⟨(Nat.le_of_ble_eq_true rfl), (Nat.le_of_ble_eq_true rfl)⟩ dX4_beginAnew_5 (fun W1 H locs hw hP hD hS => ?_)
  obtain ⟨g_1, hf_2, rfl⟩ := hw
  have hP : va_P D classes [(h0, .inr (4, [.ref hn, .ref hs, .ref hd, .ref hp, .ref hc, .int wy, .int dn])), (hs, .inl (cA, 4096, .inl st)), (hc, .inl (cA, 257, .inl ct)), (hp, .inr (3, [.ref he, .int la, .int ke])), (hn, .inl (cA, 34, .inl g_1))] H := hP
  have hD : va_D A [(h0, .inr (4, [.ref hn, .ref hs, .ref hd, .ref hp, .ref hc, .int wy, .int dn])), (hs, .inl (cA, 4096, .inl st)), (hc, .inl (cA, 257, .inl ct)), (hp, .inr (3, [.ref he, .int la, .int ke])), (hn, .inl (cA, 34, .inl g_1))] := hD
  refine lv_aload_n hx hb dX4_beginAnew_8 rfl (lv_at hl 0 rfl) ?_
  refine k_get (C := RX4) (T := TX4) (N := 7) (ci := 4) (v := .ref hn) X hE hP 0 rfl rfl iX4 0 (by decide) w_25 rfl dX4_beginAnew_9 ?_
  refine lv_bipush (v := 18) hx hb dX4_beginAnew_12 (by decide) ?_
  refine lv_iconst (v := 1) hx hb dX4_beginAnew_14 (by decide) ?_
  refine k_ast X hE hP hD hS 4 rfl 18 rfl (by decide) (by decide) [(h0, .inr (4, [.ref hn, .ref hs, .ref hd, .ref hp, .ref hc, .int wy, .int dn])), (hs, .inl (cA, 4096, .inl st)), (hc, .inl (cA, 257, .inl ct)), (hp, .inr (3, [.ref he, .int la, .int ke])), (hn, .inl (cA, 34, .inl (upd g_1 18 1)))] rfl dX4_beginAnew_15 (fun H locs hP hD hS => ?_)
  refine lv_aload_n hx hb dX4_beginAnew_16 rfl (lv_at hl 0 rfl) ?_
  refine kVv (n3 := 0) (As := []) (rest := []) X hl.1 hE hP hD hS hA [(h0, .inr (4, [.ref hn, .ref hs, .ref hd, .ref hp, .ref hc, .int wy, .int dn])), (hn, .inl (cA, 34, .inl (upd g_1 18 1))), (hs, .inl (cA, 4096, .inl st))] [(hc, .inl (cA, 257, .inl ct)), (hp, .inr (3, [.ref he, .int la, .int ke]))] [0, 4, 1] [2, 3] rfl rfl rfl (by decide) (by decide) (by decide) (c_start l D cA cB h0 hn hs hd hp hc wy dn (upd g_1 18 1) st ) w_56 w_44 w_55 w_57 w_58 0 (ci := 4) (T := TX4) (N := 7) rfl rfl (by decide +kernel) rfl rfl (Nat.le_of_ble_eq_true rfl) ⟨(Nat.le_of_ble_eq_true rfl), (Nat.le_of_ble_eq_true rfl)⟩ ⟨(Nat.le_of_ble_eq_true rfl), (Nat.le_of_ble_eq_true rfl)⟩ dX4_beginAnew_17 (fun W1 H locs hw hP hD hS => ?_)
  obtain rfl := hw
  have hP : va_P D classes [(hc, .inl (cA, 257, .inl ct)), (hp, .inr (3, [.ref he, .int la, .int ke])), (h0, .inr (4, [.ref hn, .ref hs, .ref hd, .ref hp, .ref hc, .int wy, .int dn])), (hn, .inl (cA, 34, .inl (upd (upd (upd (upd (upd (upd (upd (upd g_1 18 1) 0 0) 1 0) 2 0) 3 255) 5 4) 4 (((st 4078) + (256 * (st 4079))) &&& 4095)) 6 0))), (hs, .inl (cA, 4096, .inl st))] H := hP
  have hD : va_D A [(hc, .inl (cA, 257, .inl ct)), (hp, .inr (3, [.ref he, .int la, .int ke])), (h0, .inr (4, [.ref hn, .ref hs, .ref hd, .ref hp, .ref hc, .int wy, .int dn])), (hn, .inl (cA, 34, .inl (upd (upd (upd (upd (upd (upd (upd (upd g_1 18 1) 0 0) 1 0) 2 0) 3 255) 5 4) 4 (((st 4078) + (256 * (st 4079))) &&& 4095)) 6 0))), (hs, .inl (cA, 4096, .inl st))] := hD
  refine lv_aload_n hx hb dX4_beginAnew_20 rfl (lv_at hl 0 rfl) ?_
  refine k_get (C := RX4) (T := TX4) (N := 7) (ci := 4) (v := .ref hc) X hE hP 2 rfl rfl iX4 4 (by decide) w_24 rfl dX4_beginAnew_21 ?_
  refine lv_iconst (v := 0) hx hb dX4_beginAnew_24 (by decide) ?_
  refine kSv (n3 := 2) (As := [.ref hc, .int 0]) (rest := []) X hl.1 hE hP hD hS hA [(hc, .inl (cA, 257, .inl ct))] [(hp, .inr (3, [.ref he, .int la, .int ke])), (h0, .inr (4, [.ref hn, .ref hs, .ref hd, .ref hp, .ref hc, .int wy, .int dn])), (hn, .inl (cA, 34, .inl (upd (upd (upd (upd (upd (upd (upd (upd g_1 18 1) 0 0) 1 0) 2 0) 3 255) 5 4) 4 (((st 4078) + (256 * (st 4079))) &&& 4095)) 6 0))), (hs, .inl (cA, 4096, .inl st))] [0] [1, 2, 3, 4] rfl rfl rfl (by decide) (by decide) (by decide) (c_fill l D cA cB hc 257 0 ct (by first | assumption | decide | rfl | omega)) w_52 w_53 w_51 w_54 (by decide +kernel) rfl rfl (Nat.le_of_ble_eq_true rfl) ⟨(Nat.le_of_ble_eq_true rfl), (Nat.le_of_ble_eq_true rfl)⟩ ⟨(Nat.le_of_ble_eq_true rfl), (Nat.le_of_ble_eq_true rfl)⟩ dX4_beginAnew_25 (fun W1 H locs hw hP hD hS => ?_)
  obtain ⟨g_3, hf_4, rfl⟩ := hw
  have hP : va_P D classes [(hp, .inr (3, [.ref he, .int la, .int ke])), (h0, .inr (4, [.ref hn, .ref hs, .ref hd, .ref hp, .ref hc, .int wy, .int dn])), (hn, .inl (cA, 34, .inl (upd (upd (upd (upd (upd (upd (upd (upd g_1 18 1) 0 0) 1 0) 2 0) 3 255) 5 4) 4 (((st 4078) + (256 * (st 4079))) &&& 4095)) 6 0))), (hs, .inl (cA, 4096, .inl st)), (hc, .inl (cA, 257, .inl g_3))] H := hP
  have hD : va_D A [(hp, .inr (3, [.ref he, .int la, .int ke])), (h0, .inr (4, [.ref hn, .ref hs, .ref hd, .ref hp, .ref hc, .int wy, .int dn])), (hn, .inl (cA, 34, .inl (upd (upd (upd (upd (upd (upd (upd (upd g_1 18 1) 0 0) 1 0) 2 0) 3 255) 5 4) 4 (((st 4078) + (256 * (st 4079))) &&& 4095)) 6 0))), (hs, .inl (cA, 4096, .inl st)), (hc, .inl (cA, 257, .inl g_3))] := hD
  refine lv_aload_n hx hb dX4_beginAnew_28 rfl (lv_at hl 0 rfl) ?_
  refine k_get (C := RX4) (T := TX4) (N := 7) (ci := 4) (v := .ref hp) X hE hP 1 rfl rfl iX4 3 (by decide) w_28 rfl dX4_beginAnew_29 ?_
  refine kVv (n3 := 0) (As := []) (rest := []) X hl.1 hE hP hD hS hA [(hp, .inr (3, [.ref he, .int la, .int ke]))] [(h0, .inr (4, [.ref hn, .ref hs, .ref hd, .ref hp, .ref hc, .int wy, .int dn])), (hn, .inl (cA, 34, .inl (upd (upd (upd (upd (upd (upd (upd (upd g_1 18 1) 0 0) 1 0) 2 0) 3 255) 5 4) 4 (((st 4078) + (256 * (st 4079))) &&& 4095)) 6 0))), (hs, .inl (cA, 4096, .inl st)), (hc, .inl (cA, 257, .inl g_3))] [0] [1, 2, 3, 4] rfl rfl rfl (by decide) (by decide) (by decide) (c_Past_forget l D cA cB hp he la ke ) w_60 w_61 w_59 w_62 w_63 0 (ci := 3) (T := TX3) (N := 3) rfl rfl (by decide +kernel) rfl rfl (Nat.le_of_ble_eq_true rfl) ⟨(Nat.le_of_ble_eq_true rfl), (Nat.le_of_ble_eq_true rfl)⟩ ⟨(Nat.le_of_ble_eq_true rfl), (Nat.le_of_ble_eq_true rfl)⟩ dX4_beginAnew_32 (fun W1 H locs hw hP hD hS => ?_)
  obtain rfl := hw
  have hP : va_P D classes [(h0, .inr (4, [.ref hn, .ref hs, .ref hd, .ref hp, .ref hc, .int wy, .int dn])), (hn, .inl (cA, 34, .inl (upd (upd (upd (upd (upd (upd (upd (upd g_1 18 1) 0 0) 1 0) 2 0) 3 255) 5 4) 4 (((st 4078) + (256 * (st 4079))) &&& 4095)) 6 0))), (hs, .inl (cA, 4096, .inl st)), (hc, .inl (cA, 257, .inl g_3)), (hp, .inr (3, [.ref he, .int la, .int 0]))] H := hP
  have hD : va_D A [(h0, .inr (4, [.ref hn, .ref hs, .ref hd, .ref hp, .ref hc, .int wy, .int dn])), (hn, .inl (cA, 34, .inl (upd (upd (upd (upd (upd (upd (upd (upd g_1 18 1) 0 0) 1 0) 2 0) 3 255) 5 4) 4 (((st 4078) + (256 * (st 4079))) &&& 4095)) 6 0))), (hs, .inl (cA, 4096, .inl st)), (hc, .inl (cA, 257, .inl g_3)), (hp, .inr (3, [.ref he, .int la, .int 0]))] := hD
  exact endV X hr hlocks hP hD hS dX4_beginAnew_35 ⟨g_1, g_3, hf_2, hf_4, rfl⟩
