abbrev cX6_init : ByteArray := prog_8_method_1_code
def yX6_init : MethodName := ⟨RX6, "<init>", "()V"⟩
abbrev cX3_init : ByteArray := prog_5_method_1_code
def yX3_init : MethodName := ⟨RX3, "<init>", "()V"⟩
abbrev cX5_init : ByteArray := prog_7_method_1_code
def yX5_init : MethodName := ⟨RX5, "<init>", "()V"⟩
abbrev cX7_init : ByteArray := prog_9_method_1_code
def yX7_init : MethodName := ⟨RX7, "<init>", "()V"⟩
abbrev cX2_init : ByteArray := prog_4_method_1_code
def yX2_init : MethodName := ⟨RX2, "<init>", "()V"⟩
abbrev cX1_init : ByteArray := prog_3_method_1_code
def yX1_init : MethodName := ⟨RX1, "<init>", "([I)V"⟩
abbrev cX4_init : ByteArray := prog_6_method_1_code
def yX4_init : MethodName := ⟨RX4, "<init>", "([I[ILBelfryBox$Devices;LBelfryBox$Past;)V"⟩
abbrev cX0_init : ByteArray := prog_2_method_1_code
def yX0_init : MethodName := ⟨RX0, "<init>", "(LBelfryBox$Tape;)V"⟩
set_option maxRecDepth 100000 in
theorem w_1030 : (Cond.methodLink "BelfryBox$Stops" 3 ⟨"java/lang/Object", "<init>", "()V"⟩ : Cond) ∈ gw := List.mem_filter.mpr ⟨List.mem_append_right _ (tb1 (List.mem_of_getElem? (i := 106) rfl)), rfl⟩
set_option maxRecDepth 100000 in
theorem w_1031 : (Cond.instanceMethod ⟨"java/lang/Object", "<init>", "()V"⟩ : Cond) ∈ gw := List.mem_filter.mpr ⟨List.mem_append_right _ (tb1 (List.mem_of_getElem? (i := 25) rfl)), rfl⟩
set_option maxRecDepth 100000 in
theorem w_1032 : (Cond.code ⟨"java/lang/Object", "<init>", "()V"⟩ object_method_1_code 1 (Option.none : Option Jvm.ClassFile.FieldType) : Cond) ∈ gw := List.mem_filter.mpr ⟨List.mem_append_right _ (tb1 (List.mem_of_getElem? (i := 26) rfl)), rfl⟩
set_option maxRecDepth 100000 in
theorem w_1033 : (Cond.arrayClass Jvm.ClassFile.FieldType.int : Cond) ∈ gw := List.mem_filter.mpr ⟨List.mem_append_right _ (tb1 (List.mem_of_getElem? (i := 52) rfl)), rfl⟩
set_option maxRecDepth 100000 in
theorem w_1034 : (Cond.methodLink "BelfryBox$Past" 5 ⟨"java/lang/Object", "<init>", "()V"⟩ : Cond) ∈ gw := List.mem_filter.mpr ⟨List.mem_append_right _ (tb1 (List.mem_of_getElem? (i := 58) rfl)), rfl⟩
set_option maxRecDepth 100000 in
theorem w_1035 : (Cond.methodLink "BelfryBox$Reader" 3 ⟨"java/lang/Object", "<init>", "()V"⟩ : Cond) ∈ gw := List.mem_filter.mpr ⟨List.mem_append_right _ (tb2 (List.mem_of_getElem? (i := 13) rfl)), rfl⟩
set_option maxRecDepth 100000 in
theorem w_1036 : (Cond.methodLink "BelfryBox$Tape" 3 ⟨"java/lang/Object", "<init>", "()V"⟩ : Cond) ∈ gw := List.mem_filter.mpr ⟨List.mem_append_right _ (tb1 (List.mem_of_getElem? (i := 120) rfl)), rfl⟩
set_option maxRecDepth 100000 in
theorem w_1037 : (Cond.methodLink "BelfryBox$Names" 3 ⟨"java/lang/Object", "<init>", "()V"⟩ : Cond) ∈ gw := List.mem_filter.mpr ⟨List.mem_append_right _ (tb1 (List.mem_of_getElem? (i := 170) rfl)), rfl⟩
set_option maxRecDepth 100000 in
theorem w_1038 : (Cond.methodLink "BelfryBox$Devices" 3 ⟨"java/lang/Object", "<init>", "()V"⟩ : Cond) ∈ gw := List.mem_filter.mpr ⟨List.mem_append_right _ (tb1 (List.mem_of_getElem? (i := 32) rfl)), rfl⟩
set_option maxRecDepth 100000 in
theorem w_1039 : (Cond.methodLink "BelfryBox$Processor" 3 ⟨"java/lang/Object", "<init>", "()V"⟩ : Cond) ∈ gw := List.mem_filter.mpr ⟨List.mem_append_right _ (tb1 (List.mem_of_getElem? (i := 75) rfl)), rfl⟩
set_option maxRecDepth 100000 in
theorem w_1040 : (Cond.methodLink "BelfryBox$Assembler" 3 ⟨"java/lang/Object", "<init>", "()V"⟩ : Cond) ∈ gw := List.mem_filter.mpr ⟨List.mem_append_right _ (tb1 (List.mem_of_getElem? (i := 164) rfl)), rfl⟩
set_option maxRecDepth 100000 in
theorem w_1041 : (Cond.classLink "BelfryBox$Assembler" 15 "BelfryBox$Names" : Cond) ∈ gw := List.mem_filter.mpr ⟨List.mem_append_right _ (tb1 (List.mem_of_getElem? (i := 165) rfl)), rfl⟩
set_option maxRecDepth 100000 in
theorem w_1042 : (Cond.instantiable "BelfryBox$Names" 5 : Cond) ∈ gw := List.mem_filter.mpr ⟨List.mem_append_right _ (tb1 (List.mem_of_getElem? (i := 166) rfl)), rfl⟩
set_option maxRecDepth 100000 in
theorem w_1043 : (Cond.code yX2_init prog_4_method_1_code 1 (Option.none : Option Jvm.ClassFile.FieldType) : Cond) ∈ gw := List.mem_filter.mpr ⟨List.mem_append_right _ (tb1 (List.mem_of_getElem? (i := 169) rfl)), rfl⟩
set_option maxRecDepth 100000 in
theorem w_1044 : (Cond.instanceMethod yX2_init : Cond) ∈ gw := List.mem_filter.mpr ⟨List.mem_append_right _ (tb1 (List.mem_of_getElem? (i := 168) rfl)), rfl⟩
theorem nw_21 : (Cond.methodLinkNest "BelfryBox$Assembler" 17 yX2_init "BelfryBox" : Cond) ∈ nests := List.mem_of_getElem? (i := 21) rfl
theorem dX6_init_0 : decode cX6_init 0 = .ok (.aload_n 0, 1) := by decide +kernel
theorem dX6_init_1 : decode cX6_init 1 = .ok (.invokespecial 3, 3) := by decide +kernel
theorem dX6_init_4 : decode cX6_init 4 = .ok (.aload_n 0, 1) := by decide +kernel
theorem dX6_init_5 : decode cX6_init 5 = .ok (.bipush 16, 2) := by decide +kernel
theorem dX6_init_7 : decode cX6_init 7 = .ok (.newarray .int, 2) := by decide +kernel
theorem dX6_init_9 : decode cX6_init 9 = .ok (.putfield 11, 3) := by decide +kernel
theorem dX6_init_12 : decode cX6_init 12 = .ok (.return_, 1) := by decide +kernel
theorem dX3_init_0 : decode cX3_init 0 = .ok (.aload_n 0, 1) := by decide +kernel
theorem dX3_init_1 : decode cX3_init 1 = .ok (.invokespecial 5, 3) := by decide +kernel
theorem dX3_init_4 : decode cX3_init 4 = .ok (.aload_n 0, 1) := by decide +kernel
theorem dX3_init_5 : decode cX3_init 5 = .ok (.sipush 10752, 3) := by decide +kernel
theorem dX3_init_8 : decode cX3_init 8 = .ok (.newarray .int, 2) := by decide +kernel
theorem dX3_init_10 : decode cX3_init 10 = .ok (.putfield 11, 3) := by decide +kernel
theorem dX3_init_13 : decode cX3_init 13 = .ok (.return_, 1) := by decide +kernel
theorem dX5_init_0 : decode cX5_init 0 = .ok (.aload_n 0, 1) := by decide +kernel
theorem dX5_init_1 : decode cX5_init 1 = .ok (.invokespecial 3, 3) := by decide +kernel
theorem dX5_init_4 : decode cX5_init 4 = .ok (.aload_n 0, 1) := by decide +kernel
theorem dX5_init_5 : decode cX5_init 5 = .ok (.bipush 16, 2) := by decide +kernel
theorem dX5_init_7 : decode cX5_init 7 = .ok (.newarray .int, 2) := by decide +kernel
theorem dX5_init_9 : decode cX5_init 9 = .ok (.putfield 11, 3) := by decide +kernel
theorem dX5_init_12 : decode cX5_init 12 = .ok (.return_, 1) := by decide +kernel
theorem dX7_init_0 : decode cX7_init 0 = .ok (.aload_n 0, 1) := by decide +kernel
theorem dX7_init_1 : decode cX7_init 1 = .ok (.invokespecial 3, 3) := by decide +kernel
theorem dX7_init_4 : decode cX7_init 4 = .ok (.aload_n 0, 1) := by decide +kernel
theorem dX7_init_5 : decode cX7_init 5 = .ok (.sipush 6000, 3) := by decide +kernel
theorem dX7_init_8 : decode cX7_init 8 = .ok (.newarray .int, 2) := by decide +kernel
theorem dX7_init_10 : decode cX7_init 10 = .ok (.putfield 11, 3) := by decide +kernel
theorem dX7_init_13 : decode cX7_init 13 = .ok (.return_, 1) := by decide +kernel
theorem dX2_init_0 : decode cX2_init 0 = .ok (.aload_n 0, 1) := by decide +kernel
theorem dX2_init_1 : decode cX2_init 1 = .ok (.invokespecial 3, 3) := by decide +kernel
theorem dX2_init_4 : decode cX2_init 4 = .ok (.aload_n 0, 1) := by decide +kernel
theorem dX2_init_5 : decode cX2_init 5 = .ok (.bipush 60, 2) := by decide +kernel
theorem dX2_init_7 : decode cX2_init 7 = .ok (.newarray .int, 2) := by decide +kernel
theorem dX2_init_9 : decode cX2_init 9 = .ok (.putfield 11, 3) := by decide +kernel
theorem dX2_init_12 : decode cX2_init 12 = .ok (.aload_n 0, 1) := by decide +kernel
theorem dX2_init_13 : decode cX2_init 13 = .ok (.bipush 60, 2) := by decide +kernel
theorem dX2_init_15 : decode cX2_init 15 = .ok (.newarray .int, 2) := by decide +kernel
theorem dX2_init_17 : decode cX2_init 17 = .ok (.putfield 15, 3) := by decide +kernel
theorem dX2_init_20 : decode cX2_init 20 = .ok (.aload_n 0, 1) := by decide +kernel
theorem dX2_init_21 : decode cX2_init 21 = .ok (.bipush 60, 2) := by decide +kernel
theorem dX2_init_23 : decode cX2_init 23 = .ok (.newarray .int, 2) := by decide +kernel
theorem dX2_init_25 : decode cX2_init 25 = .ok (.putfield 18, 3) := by decide +kernel
theorem dX2_init_28 : decode cX2_init 28 = .ok (.aload_n 0, 1) := by decide +kernel
theorem dX2_init_29 : decode cX2_init 29 = .ok (.bipush 60, 2) := by decide +kernel
theorem dX2_init_31 : decode cX2_init 31 = .ok (.newarray .int, 2) := by decide +kernel
theorem dX2_init_33 : decode cX2_init 33 = .ok (.putfield 21, 3) := by decide +kernel
theorem dX2_init_36 : decode cX2_init 36 = .ok (.return_, 1) := by decide +kernel
theorem dX1_init_0 : decode cX1_init 0 = .ok (.aload_n 0, 1) := by decide +kernel
theorem dX1_init_1 : decode cX1_init 1 = .ok (.invokespecial 3, 3) := by decide +kernel
theorem dX1_init_4 : decode cX1_init 4 = .ok (.aload_n 0, 1) := by decide +kernel
theorem dX1_init_5 : decode cX1_init 5 = .ok (.bipush 64, 2) := by decide +kernel
theorem dX1_init_7 : decode cX1_init 7 = .ok (.newarray .int, 2) := by decide +kernel
theorem dX1_init_9 : decode cX1_init 9 = .ok (.putfield 9, 3) := by decide +kernel
theorem dX1_init_12 : decode cX1_init 12 = .ok (.aload_n 0, 1) := by decide +kernel
theorem dX1_init_13 : decode cX1_init 13 = .ok (.bipush 16, 2) := by decide +kernel
theorem dX1_init_15 : decode cX1_init 15 = .ok (.newarray .int, 2) := by decide +kernel
theorem dX1_init_17 : decode cX1_init 17 = .ok (.putfield 15, 3) := by decide +kernel
theorem dX1_init_20 : decode cX1_init 20 = .ok (.aload_n 0, 1) := by decide +kernel
theorem dX1_init_21 : decode cX1_init 21 = .ok (.sipush 900, 3) := by decide +kernel
theorem dX1_init_24 : decode cX1_init 24 = .ok (.newarray .int, 2) := by decide +kernel
theorem dX1_init_26 : decode cX1_init 26 = .ok (.putfield 18, 3) := by decide +kernel
theorem dX1_init_29 : decode cX1_init 29 = .ok (.aload_n 0, 1) := by decide +kernel
theorem dX1_init_30 : decode cX1_init 30 = .ok (.sipush 200, 3) := by decide +kernel
theorem dX1_init_33 : decode cX1_init 33 = .ok (.newarray .int, 2) := by decide +kernel
theorem dX1_init_35 : decode cX1_init 35 = .ok (.putfield 21, 3) := by decide +kernel
theorem dX1_init_38 : decode cX1_init 38 = .ok (.aload_n 0, 1) := by decide +kernel
theorem dX1_init_39 : decode cX1_init 39 = .ok (.aload_n 1, 1) := by decide +kernel
theorem dX1_init_40 : decode cX1_init 40 = .ok (.putfield 24, 3) := by decide +kernel
theorem dX1_init_43 : decode cX1_init 43 = .ok (.return_, 1) := by decide +kernel
theorem dX4_init_0 : decode cX4_init 0 = .ok (.aload_n 0, 1) := by decide +kernel
theorem dX4_init_1 : decode cX4_init 1 = .ok (.invokespecial 3, 3) := by decide +kernel
theorem dX4_init_4 : decode cX4_init 4 = .ok (.aload_n 0, 1) := by decide +kernel
theorem dX4_init_5 : decode cX4_init 5 = .ok (.sipush 257, 3) := by decide +kernel
theorem dX4_init_8 : decode cX4_init 8 = .ok (.newarray .int, 2) := by decide +kernel
theorem dX4_init_10 : decode cX4_init 10 = .ok (.putfield 9, 3) := by decide +kernel
theorem dX4_init_13 : decode cX4_init 13 = .ok (.aload_n 0, 1) := by decide +kernel
theorem dX4_init_14 : decode cX4_init 14 = .ok (.aload_n 1, 1) := by decide +kernel
theorem dX4_init_15 : decode cX4_init 15 = .ok (.putfield 15, 3) := by decide +kernel
theorem dX4_init_18 : decode cX4_init 18 = .ok (.aload_n 0, 1) := by decide +kernel
theorem dX4_init_19 : decode cX4_init 19 = .ok (.aload_n 2, 1) := by decide +kernel
theorem dX4_init_20 : decode cX4_init 20 = .ok (.putfield 18, 3) := by decide +kernel
theorem dX4_init_23 : decode cX4_init 23 = .ok (.aload_n 0, 1) := by decide +kernel
theorem dX4_init_24 : decode cX4_init 24 = .ok (.aload_n 3, 1) := by decide +kernel
theorem dX4_init_25 : decode cX4_init 25 = .ok (.putfield 21, 3) := by decide +kernel
theorem dX4_init_28 : decode cX4_init 28 = .ok (.aload_n 0, 1) := by decide +kernel
theorem dX4_init_29 : decode cX4_init 29 = .ok (.aload 4, 2) := by decide +kernel
theorem dX4_init_31 : decode cX4_init 31 = .ok (.putfield 25, 3) := by decide +kernel
theorem dX4_init_34 : decode cX4_init 34 = .ok (.return_, 1) := by decide +kernel
theorem dX0_init_0 : decode cX0_init 0 = .ok (.aload_n 0, 1) := by decide +kernel
theorem dX0_init_1 : decode cX0_init 1 = .ok (.invokespecial 3, 3) := by decide +kernel
theorem dX0_init_4 : decode cX0_init 4 = .ok (.aload_n 0, 1) := by decide +kernel
theorem dX0_init_5 : decode cX0_init 5 = .ok (.sipush 4096, 3) := by decide +kernel
theorem dX0_init_8 : decode cX0_init 8 = .ok (.newarray .int, 2) := by decide +kernel
theorem dX0_init_10 : decode cX0_init 10 = .ok (.putfield 9, 3) := by decide +kernel
theorem dX0_init_13 : decode cX0_init 13 = .ok (.aload_n 0, 1) := by decide +kernel
theorem dX0_init_14 : decode cX0_init 14 = .ok (.new 15, 3) := by decide +kernel
theorem dX0_init_17 : decode cX0_init 17 = .ok (.dup, 1) := by decide +kernel
theorem dX0_init_18 : decode cX0_init 18 = .ok (.invokespecial 17, 3) := by decide +kernel
theorem dX0_init_21 : decode cX0_init 21 = .ok (.putfield 18, 3) := by decide +kernel
theorem dX0_init_24 : decode cX0_init 24 = .ok (.aload_n 0, 1) := by decide +kernel
theorem dX0_init_25 : decode cX0_init 25 = .ok (.new 15, 3) := by decide +kernel
theorem dX0_init_28 : decode cX0_init 28 = .ok (.dup, 1) := by decide +kernel
theorem dX0_init_29 : decode cX0_init 29 = .ok (.invokespecial 17, 3) := by decide +kernel
theorem dX0_init_32 : decode cX0_init 32 = .ok (.putfield 22, 3) := by decide +kernel
theorem dX0_init_35 : decode cX0_init 35 = .ok (.aload_n 0, 1) := by decide +kernel
theorem dX0_init_36 : decode cX0_init 36 = .ok (.iconst (-1), 1) := by decide +kernel
theorem dX0_init_37 : decode cX0_init 37 = .ok (.putfield 25, 3) := by decide +kernel
theorem dX0_init_40 : decode cX0_init 40 = .ok (.aload_n 0, 1) := by decide +kernel
theorem dX0_init_41 : decode cX0_init 41 = .ok (.iconst (-1), 1) := by decide +kernel
theorem dX0_init_42 : decode cX0_init 42 = .ok (.putfield 29, 3) := by decide +kernel
theorem dX0_init_45 : decode cX0_init 45 = .ok (.aload_n 0, 1) := by decide +kernel
theorem dX0_init_46 : decode cX0_init 46 = .ok (.aload_n 1, 1) := by decide +kernel
theorem dX0_init_47 : decode cX0_init 47 = .ok (.putfield 32, 3) := by decide +kernel
theorem dX0_init_50 : decode cX0_init 50 = .ok (.return_, 1) := by decide +kernel
set_option maxHeartbeats 4000000 in
set_option maxRecDepth 100000 in
theorem c_Stops_init (l : Launch) (D : va_G) (cA cB : ClassId) (h0 : Nat)  : CV l yX6_init cX6_init 1 none 1 12 1 16 D cA cB [.ref h0] [(h0, .inr (6, [.null, .int 0]))] (fun W1 => ∃ (qp : Nat), W1 = [(h0, .inr (6, [.ref qp, .int 0])), (qp, .inl (cA, 16, .inl (fun _ => 0)))]) := by
  refine mkV (lv0 := [(0, .ref h0)]) (by decide) (Nat.le_of_ble_eq_true rfl) rfl ?_
  intro p e s m below meth c A ls X hr hlocks hnm hE hA hP hD hS hl
  have hx := X.1
  have hb := X.2.1
  refine lv_aload_n hx hb dX6_init_0 rfl (lv_at hl 0 rfl) ?_
  refine k_obj X w_1030 w_1031 w_1032 hl.1 (Nat.le_of_ble_eq_true rfl) (Nat.le_of_ble_eq_true rfl) dX6_init_1 ?_
  refine lv_aload_n hx hb dX6_init_4 rfl (lv_at hl 0 rfl) ?_
  refine lv_bipush (v := 16) hx hb dX6_init_5 (by decide) ?_
  refine k_newa X w_1033 hE hP hD hS hA 16 rfl (by decide) (by decide) (by decide) dX6_init_7 (fun qa_1 H hP hD hS => ?_)
  have hP : va_P D classes [(h0, .inr (6, [.null, .int 0])), (qa_1, .inl (cA, 16, .inl (fun _ => 0)))] H := hP
  have hD : va_D A [(h0, .inr (6, [.null, .int 0])), (qa_1, .inl (cA, 16, .inl (fun _ => 0)))] := hD
  refine k_putF (C := RX6) (T := TX6) (N := 2) (ci := 6) (v := .ref qa_1) (ty := (.array .int)) X hE hP hD hS 0 rfl rfl iX6 tyX6 tyX6_ok nmX6 0 (by decide) w_294 rfl hnm rfl (by decide +kernel) rfl rfl (Nat.le_of_ble_eq_true rfl) [(h0, .inr (6, [.ref qa_1, .int 0])), (qa_1, .inl (cA, 16, .inl (fun _ => 0)))] rfl dX6_init_9 (fun H locs hP hD hS => ?_)
  exact endV X hr hlocks hP hD hS dX6_init_12 ⟨qa_1, rfl⟩
set_option maxHeartbeats 4000000 in
set_option maxRecDepth 100000 in
theorem c_Past_init (l : Launch) (D : va_G) (cA cB : ClassId) (h0 : Nat)  : CV l yX3_init cX3_init 1 none 1 12 1 10752 D cA cB [.ref h0] [(h0, .inr (3, [.null, .int 0, .int 0]))] (fun W1 => ∃ (qe : Nat), W1 = [(h0, .inr (3, [.ref qe, .int 0, .int 0])), (qe, .inl (cA, 10752, .inl (fun _ => 0)))]) := by
  refine mkV (lv0 := [(0, .ref h0)]) (by decide) (Nat.le_of_ble_eq_true rfl) rfl ?_
  intro p e s m below meth c A ls X hr hlocks hnm hE hA hP hD hS hl
  have hx := X.1
  have hb := X.2.1
  refine lv_aload_n hx hb dX3_init_0 rfl (lv_at hl 0 rfl) ?_
  refine k_obj X w_1034 w_1031 w_1032 hl.1 (Nat.le_of_ble_eq_true rfl) (Nat.le_of_ble_eq_true rfl) dX3_init_1 ?_
  refine lv_aload_n hx hb dX3_init_4 rfl (lv_at hl 0 rfl) ?_
  refine lv_sipush (v := 10752) hx hb dX3_init_5 (by decide) ?_
  refine k_newa X w_1033 hE hP hD hS hA 10752 rfl (by decide) (by decide) (by decide) dX3_init_8 (fun qa_1 H hP hD hS => ?_)
  have hP : va_P D classes [(h0, .inr (3, [.null, .int 0, .int 0])), (qa_1, .inl (cA, 10752, .inl (fun _ => 0)))] H := hP
  have hD : va_D A [(h0, .inr (3, [.null, .int 0, .int 0])), (qa_1, .inl (cA, 10752, .inl (fun _ => 0)))] := hD
  refine k_putF (C := RX3) (T := TX3) (N := 3) (ci := 3) (v := .ref qa_1) (ty := (.array .int)) X hE hP hD hS 0 rfl rfl iX3 tyX3 tyX3_ok nmX3 0 (by decide) w_54 rfl hnm rfl (by decide +kernel) rfl rfl (Nat.le_of_ble_eq_true rfl) [(h0, .inr (3, [.ref qa_1, .int 0, .int 0])), (qa_1, .inl (cA, 10752, .inl (fun _ => 0)))] rfl dX3_init_10 (fun H locs hP hD hS => ?_)
  exact endV X hr hlocks hP hD hS dX3_init_13 ⟨qa_1, rfl⟩
set_option maxHeartbeats 4000000 in
set_option maxRecDepth 100000 in
theorem c_Reader_init (l : Launch) (D : va_G) (cA cB : ClassId) (h0 : Nat)  : CV l yX5_init cX5_init 1 none 1 12 1 16 D cA cB [.ref h0] [(h0, .inr (5, [.null, .int 0]))] (fun W1 => ∃ (ql : Nat), W1 = [(h0, .inr (5, [.ref ql, .int 0])), (ql, .inl (cA, 16, .inl (fun _ => 0)))]) := by
  refine mkV (lv0 := [(0, .ref h0)]) (by decide) (Nat.le_of_ble_eq_true rfl) rfl ?_
  intro p e s m below meth c A ls X hr hlocks hnm hE hA hP hD hS hl
  have hx := X.1
  have hb := X.2.1
  refine lv_aload_n hx hb dX5_init_0 rfl (lv_at hl 0 rfl) ?_
  refine k_obj X w_1035 w_1031 w_1032 hl.1 (Nat.le_of_ble_eq_true rfl) (Nat.le_of_ble_eq_true rfl) dX5_init_1 ?_
  refine lv_aload_n hx hb dX5_init_4 rfl (lv_at hl 0 rfl) ?_
  refine lv_bipush (v := 16) hx hb dX5_init_5 (by decide) ?_
  refine k_newa X w_1033 hE hP hD hS hA 16 rfl (by decide) (by decide) (by decide) dX5_init_7 (fun qa_1 H hP hD hS => ?_)
  have hP : va_P D classes [(h0, .inr (5, [.null, .int 0])), (qa_1, .inl (cA, 16, .inl (fun _ => 0)))] H := hP
  have hD : va_D A [(h0, .inr (5, [.null, .int 0])), (qa_1, .inl (cA, 16, .inl (fun _ => 0)))] := hD
  refine k_putF (C := RX5) (T := TX5) (N := 2) (ci := 5) (v := .ref qa_1) (ty := (.array .int)) X hE hP hD hS 0 rfl rfl iX5 tyX5 tyX5_ok nmX5 0 (by decide) w_406 rfl hnm rfl (by decide +kernel) rfl rfl (Nat.le_of_ble_eq_true rfl) [(h0, .inr (5, [.ref qa_1, .int 0])), (qa_1, .inl (cA, 16, .inl (fun _ => 0)))] rfl dX5_init_9 (fun H locs hP hD hS => ?_)
  exact endV X hr hlocks hP hD hS dX5_init_12 ⟨qa_1, rfl⟩
set_option maxHeartbeats 4000000 in
set_option maxRecDepth 100000 in
theorem c_Tape_init (l : Launch) (D : va_G) (cA cB : ClassId) (h0 : Nat)  : CV l yX7_init cX7_init 1 none 1 12 1 6000 D cA cB [.ref h0] [(h0, .inr (7, [.null, .int 0, .int 0, .int 0, .int 0, .int 0, .int 0, .int 0, .int 0]))] (fun W1 => ∃ (qb : Nat), W1 = [(h0, .inr (7, [.ref qb, .int 0, .int 0, .int 0, .int 0, .int 0, .int 0, .int 0, .int 0])), (qb, .inl (cA, 6000, .inl (fun _ => 0)))]) := by
  refine mkV (lv0 := [(0, .ref h0)]) (by decide) (Nat.le_of_ble_eq_true rfl) rfl ?_
  intro p e s m below meth c A ls X hr hlocks hnm hE hA hP hD hS hl
  have hx := X.1
  have hb := X.2.1
  refine lv_aload_n hx hb dX7_init_0 rfl (lv_at hl 0 rfl) ?_
  refine k_obj X w_1036 w_1031 w_1032 hl.1 (Nat.le_of_ble_eq_true rfl) (Nat.le_of_ble_eq_true rfl) dX7_init_1 ?_
  refine lv_aload_n hx hb dX7_init_4 rfl (lv_at hl 0 rfl) ?_
  refine lv_sipush (v := 6000) hx hb dX7_init_5 (by decide) ?_
  refine k_newa X w_1033 hE hP hD hS hA 6000 rfl (by decide) (by decide) (by decide) dX7_init_8 (fun qa_1 H hP hD hS => ?_)
  have hP : va_P D classes [(h0, .inr (7, [.null, .int 0, .int 0, .int 0, .int 0, .int 0, .int 0, .int 0, .int 0])), (qa_1, .inl (cA, 6000, .inl (fun _ => 0)))] H := hP
  have hD : va_D A [(h0, .inr (7, [.null, .int 0, .int 0, .int 0, .int 0, .int 0, .int 0, .int 0, .int 0])), (qa_1, .inl (cA, 6000, .inl (fun _ => 0)))] := hD
  refine k_putF (C := RX7) (T := TX7) (N := 9) (ci := 7) (v := .ref qa_1) (ty := (.array .int)) X hE hP hD hS 0 rfl rfl iX7 tyX7 tyX7_ok nmX7 0 (by decide) w_368 rfl hnm rfl (by decide +kernel) rfl rfl (Nat.le_of_ble_eq_true rfl) [(h0, .inr (7, [.ref qa_1, .int 0, .int 0, .int 0, .int 0, .int 0, .int 0, .int 0, .int 0])), (qa_1, .inl (cA, 6000, .inl (fun _ => 0)))] rfl dX7_init_10 (fun H locs hP hD hS => ?_)
  exact endV X hr hlocks hP hD hS dX7_init_13 ⟨qa_1, rfl⟩
set_option maxHeartbeats 4000000 in
set_option maxRecDepth 100000 in
theorem c_Names_init (l : Launch) (D : va_G) (cA cB : ClassId) (h0 : Nat)  : CV l yX2_init cX2_init 1 none 1 12 4 240 D cA cB [.ref h0] [(h0, .inr (2, [.null, .null, .null, .null, .int 0]))] (fun W1 => ∃ (qa : Nat) (qb : Nat) (qc : Nat) (qd : Nat), W1 = [(h0, .inr (2, [.ref qa, .ref qb, .ref qc, .ref qd, .int 0])), (qa, .inl (cA, 60, .inl (fun _ => 0))), (qb, .inl (cA, 60, .inl (fun _ => 0))), (qc, .inl (cA, 60, .inl (fun _ => 0))), (qd, .inl (cA, 60, .inl (fun _ => 0)))]) := by
  refine mkV (lv0 := [(0, .ref h0)]) (by decide) (Nat.le_of_ble_eq_true rfl) rfl ?_
  intro p e s m below meth c A ls X hr hlocks hnm hE hA hP hD hS hl
  have hx := X.1
  have hb := X.2.1
  refine lv_aload_n hx hb dX2_init_0 rfl (lv_at hl 0 rfl) ?_
  refine k_obj X w_1037 w_1031 w_1032 hl.1 (Nat.le_of_ble_eq_true rfl) (Nat.le_of_ble_eq_true rfl) dX2_init_1 ?_
  refine lv_aload_n hx hb dX2_init_4 rfl (lv_at hl 0 rfl) ?_
  refine lv_bipush (v := 60) hx hb dX2_init_5 (by decide) ?_
  refine k_newa X w_1033 hE hP hD hS hA 60 rfl (by decide) (by decide) (by decide) dX2_init_7 (fun qa_1 H hP hD hS => ?_)
  have hP : va_P D classes [(h0, .inr (2, [.null, .null, .null, .null, .int 0])), (qa_1, .inl (cA, 60, .inl (fun _ => 0)))] H := hP
  have hD : va_D A [(h0, .inr (2, [.null, .null, .null, .null, .int 0])), (qa_1, .inl (cA, 60, .inl (fun _ => 0)))] := hD
  refine k_putF (C := RX2) (T := TX2) (N := 5) (ci := 2) (v := .ref qa_1) (ty := (.array .int)) X hE hP hD hS 0 rfl rfl iX2 tyX2 tyX2_ok nmX2 0 (by decide) w_357 rfl hnm rfl (by decide +kernel) rfl rfl (Nat.le_of_ble_eq_true rfl) [(h0, .inr (2, [.ref qa_1, .null, .null, .null, .int 0])), (qa_1, .inl (cA, 60, .inl (fun _ => 0)))] rfl dX2_init_9 (fun H locs hP hD hS => ?_)
  refine lv_aload_n hx hb dX2_init_12 rfl (lv_at hl 0 rfl) ?_
  refine lv_bipush (v := 60) hx hb dX2_init_13 (by decide) ?_
  refine k_newa X w_1033 hE hP hD hS hA 60 rfl (by decide) (by decide) (by decide) dX2_init_15 (fun qa_2 H hP hD hS => ?_)
  have hP : va_P D classes [(h0, .inr (2, [.ref qa_1, .null, .null, .null, .int 0])), (qa_1, .inl (cA, 60, .inl (fun _ => 0))), (qa_2, .inl (cA, 60, .inl (fun _ => 0)))] H := hP
  have hD : va_D A [(h0, .inr (2, [.ref qa_1, .null, .null, .null, .int 0])), (qa_1, .inl (cA, 60, .inl (fun _ => 0))), (qa_2, .inl (cA, 60, .inl (fun _ => 0)))] := hD
  refine k_putF (C := RX2) (T := TX2) (N := 5) (ci := 2) (v := .ref qa_2) (ty := (.array .int)) X hE hP hD hS 0 rfl rfl iX2 tyX2 tyX2_ok nmX2 1 (by decide) w_404 rfl hnm rfl (by decide +kernel) rfl rfl (Nat.le_of_ble_eq_true rfl) [(h0, .inr (2, [.ref qa_1, .ref qa_2, .null, .null, .int 0])), (qa_1, .inl (cA, 60, .inl (fun _ => 0))), (qa_2, .inl (cA, 60, .inl (fun _ => 0)))] rfl dX2_init_17 (fun H locs hP hD hS => ?_)
  refine lv_aload_n hx hb dX2_init_20 rfl (lv_at hl 0 rfl) ?_
  refine lv_bipush (v := 60) hx hb dX2_init_21 (by decide) ?_
  refine k_newa X w_1033 hE hP hD hS hA 60 rfl (by decide) (by decide) (by decide) dX2_init_23 (fun qa_3 H hP hD hS => ?_)
  have hP : va_P D classes [(h0, .inr (2, [.ref qa_1, .ref qa_2, .null, .null, .int 0])), (qa_1, .inl (cA, 60, .inl (fun _ => 0))), (qa_2, .inl (cA, 60, .inl (fun _ => 0))), (qa_3, .inl (cA, 60, .inl (fun _ => 0)))] H := hP
  have hD : va_D A [(h0, .inr (2, [.ref qa_1, .ref qa_2, .null, .null, .int 0])), (qa_1, .inl (cA, 60, .inl (fun _ => 0))), (qa_2, .inl (cA, 60, .inl (fun _ => 0))), (qa_3, .inl (cA, 60, .inl (fun _ => 0)))] := hD
  refine k_putF (C := RX2) (T := TX2) (N := 5) (ci := 2) (v := .ref qa_3) (ty := (.array .int)) X hE hP hD hS 0 rfl rfl iX2 tyX2 tyX2_ok nmX2 2 (by decide) w_356 rfl hnm rfl (by decide +kernel) rfl rfl (Nat.le_of_ble_eq_true rfl) [(h0, .inr (2, [.ref qa_1, .ref qa_2, .ref qa_3, .null, .int 0])), (qa_1, .inl (cA, 60, .inl (fun _ => 0))), (qa_2, .inl (cA, 60, .inl (fun _ => 0))), (qa_3, .inl (cA, 60, .inl (fun _ => 0)))] rfl dX2_init_25 (fun H locs hP hD hS => ?_)
  refine lv_aload_n hx hb dX2_init_28 rfl (lv_at hl 0 rfl) ?_
  refine lv_bipush (v := 60) hx hb dX2_init_29 (by decide) ?_
  refine k_newa X w_1033 hE hP hD hS hA 60 rfl (by decide) (by decide) (by decide) dX2_init_31 (fun qa_4 H hP hD hS => ?_)
  have hP : va_P D classes [(h0, .inr (2, [.ref qa_1, .ref qa_2, .ref qa_3, .null, .int 0])), (qa_1, .inl (cA, 60, .inl (fun _ => 0))), (qa_2, .inl (cA, 60, .inl (fun _ => 0))), (qa_3, .inl (cA, 60, .inl (fun _ => 0))), (qa_4, .inl (cA, 60, .inl (fun _ => 0)))] H := hP
  have hD : va_D A [(h0, .inr (2, [.ref qa_1, .ref qa_2, .ref qa_3, .null, .int 0])), (qa_1, .inl (cA, 60, .inl (fun _ => 0))), (qa_2, .inl (cA, 60, .inl (fun _ => 0))), (qa_3, .inl (cA, 60, .inl (fun _ => 0))), (qa_4, .inl (cA, 60, .inl (fun _ => 0)))] := hD
  refine k_putF (C := RX2) (T := TX2) (N := 5) (ci := 2) (v := .ref qa_4) (ty := (.array .int)) X hE hP hD hS 0 rfl rfl iX2 tyX2 tyX2_ok nmX2 3 (by decide) w_358 rfl hnm rfl (by decide +kernel) rfl rfl (Nat.le_of_ble_eq_true rfl) [(h0, .inr (2, [.ref qa_1, .ref qa_2, .ref qa_3, .ref qa_4, .int 0])), (qa_1, .inl (cA, 60, .inl (fun _ => 0))), (qa_2, .inl (cA, 60, .inl (fun _ => 0))), (qa_3, .inl (cA, 60, .inl (fun _ => 0))), (qa_4, .inl (cA, 60, .inl (fun _ => 0)))] rfl dX2_init_33 (fun H locs hP hD hS => ?_)
  exact endV X hr hlocks hP hD hS dX2_init_36 ⟨qa_1, qa_2, qa_3, qa_4, rfl⟩
set_option maxHeartbeats 4000000 in
set_option maxRecDepth 100000 in
theorem c_Devices_init (l : Launch) (D : va_G) (cA cB : ClassId) (h0 : Nat) (h1 : Nat)  : CV l yX1_init cX1_init 2 none 1 12 4 1180 D cA cB [.ref h0, .ref h1] [(h0, .inr (1, [.null, .null, .null, .null, .null]))] (fun W1 => ∃ (qa : Nat) (qb : Nat) (qc : Nat) (qd : Nat), W1 = [(h0, .inr (1, [.ref h1, .ref qa, .ref qb, .ref qc, .ref qd])), (qa, .inl (cA, 64, .inl (fun _ => 0))), (qb, .inl (cA, 16, .inl (fun _ => 0))), (qc, .inl (cA, 900, .inl (fun _ => 0))), (qd, .inl (cA, 200, .inl (fun _ => 0)))]) := by
  refine mkV (lv0 := [(0, .ref h0), (1, .ref h1)]) (by decide) (Nat.le_of_ble_eq_true rfl) rfl ?_
  intro p e s m below meth c A ls X hr hlocks hnm hE hA hP hD hS hl
  have hx := X.1
  have hb := X.2.1
  refine lv_aload_n hx hb dX1_init_0 rfl (lv_at hl 0 rfl) ?_
  refine k_obj X w_1038 w_1031 w_1032 hl.1 (Nat.le_of_ble_eq_true rfl) (Nat.le_of_ble_eq_true rfl) dX1_init_1 ?_
  refine lv_aload_n hx hb dX1_init_4 rfl (lv_at hl 0 rfl) ?_
  refine lv_bipush (v := 64) hx hb dX1_init_5 (by decide) ?_
  refine k_newa X w_1033 hE hP hD hS hA 64 rfl (by decide) (by decide) (by decide) dX1_init_7 (fun qa_1 H hP hD hS => ?_)
  have hP : va_P D classes [(h0, .inr (1, [.null, .null, .null, .null, .null])), (qa_1, .inl (cA, 64, .inl (fun _ => 0)))] H := hP
  have hD : va_D A [(h0, .inr (1, [.null, .null, .null, .null, .null])), (qa_1, .inl (cA, 64, .inl (fun _ => 0)))] := hD
  refine k_putF (C := RX1) (T := TX1) (N := 5) (ci := 1) (v := .ref qa_1) (ty := (.array .int)) X hE hP hD hS 0 rfl rfl iX1 tyX1 tyX1_ok nmX1 1 (by decide) w_2 rfl hnm rfl (by decide +kernel) rfl rfl (Nat.le_of_ble_eq_true rfl) [(h0, .inr (1, [.null, .ref qa_1, .null, .null, .null])), (qa_1, .inl (cA, 64, .inl (fun _ => 0)))] rfl dX1_init_9 (fun H locs hP hD hS => ?_)
  refine lv_aload_n hx hb dX1_init_12 rfl (lv_at hl 0 rfl) ?_
  refine lv_bipush (v := 16) hx hb dX1_init_13 (by decide) ?_
  refine k_newa X w_1033 hE hP hD hS hA 16 rfl (by decide) (by decide) (by decide) dX1_init_15 (fun qa_2 H hP hD hS => ?_)
  have hP : va_P D classes [(h0, .inr (1, [.null, .ref qa_1, .null, .null, .null])), (qa_1, .inl (cA, 64, .inl (fun _ => 0))), (qa_2, .inl (cA, 16, .inl (fun _ => 0)))] H := hP
  have hD : va_D A [(h0, .inr (1, [.null, .ref qa_1, .null, .null, .null])), (qa_1, .inl (cA, 64, .inl (fun _ => 0))), (qa_2, .inl (cA, 16, .inl (fun _ => 0)))] := hD
  refine k_putF (C := RX1) (T := TX1) (N := 5) (ci := 1) (v := .ref qa_2) (ty := (.array .int)) X hE hP hD hS 0 rfl rfl iX1 tyX1 tyX1_ok nmX1 2 (by decide) w_3 rfl hnm rfl (by decide +kernel) rfl rfl (Nat.le_of_ble_eq_true rfl) [(h0, .inr (1, [.null, .ref qa_1, .ref qa_2, .null, .null])), (qa_1, .inl (cA, 64, .inl (fun _ => 0))), (qa_2, .inl (cA, 16, .inl (fun _ => 0)))] rfl dX1_init_17 (fun H locs hP hD hS => ?_)
  refine lv_aload_n hx hb dX1_init_20 rfl (lv_at hl 0 rfl) ?_
  refine lv_sipush (v := 900) hx hb dX1_init_21 (by decide) ?_
  refine k_newa X w_1033 hE hP hD hS hA 900 rfl (by decide) (by decide) (by decide) dX1_init_24 (fun qa_3 H hP hD hS => ?_)
  have hP : va_P D classes [(h0, .inr (1, [.null, .ref qa_1, .ref qa_2, .null, .null])), (qa_1, .inl (cA, 64, .inl (fun _ => 0))), (qa_2, .inl (cA, 16, .inl (fun _ => 0))), (qa_3, .inl (cA, 900, .inl (fun _ => 0)))] H := hP
  have hD : va_D A [(h0, .inr (1, [.null, .ref qa_1, .ref qa_2, .null, .null])), (qa_1, .inl (cA, 64, .inl (fun _ => 0))), (qa_2, .inl (cA, 16, .inl (fun _ => 0))), (qa_3, .inl (cA, 900, .inl (fun _ => 0)))] := hD
  refine k_putF (C := RX1) (T := TX1) (N := 5) (ci := 1) (v := .ref qa_3) (ty := (.array .int)) X hE hP hD hS 0 rfl rfl iX1 tyX1 tyX1_ok nmX1 3 (by decide) w_5 rfl hnm rfl (by decide +kernel) rfl rfl (Nat.le_of_ble_eq_true rfl) [(h0, .inr (1, [.null, .ref qa_1, .ref qa_2, .ref qa_3, .null])), (qa_1, .inl (cA, 64, .inl (fun _ => 0))), (qa_2, .inl (cA, 16, .inl (fun _ => 0))), (qa_3, .inl (cA, 900, .inl (fun _ => 0)))] rfl dX1_init_26 (fun H locs hP hD hS => ?_)
  refine lv_aload_n hx hb dX1_init_29 rfl (lv_at hl 0 rfl) ?_
  refine lv_sipush (v := 200) hx hb dX1_init_30 (by decide) ?_
  refine k_newa X w_1033 hE hP hD hS hA 200 rfl (by decide) (by decide) (by decide) dX1_init_33 (fun qa_4 H hP hD hS => ?_)
  have hP : va_P D classes [(h0, .inr (1, [.null, .ref qa_1, .ref qa_2, .ref qa_3, .null])), (qa_1, .inl (cA, 64, .inl (fun _ => 0))), (qa_2, .inl (cA, 16, .inl (fun _ => 0))), (qa_3, .inl (cA, 900, .inl (fun _ => 0))), (qa_4, .inl (cA, 200, .inl (fun _ => 0)))] H := hP
  have hD : va_D A [(h0, .inr (1, [.null, .ref qa_1, .ref qa_2, .ref qa_3, .null])), (qa_1, .inl (cA, 64, .inl (fun _ => 0))), (qa_2, .inl (cA, 16, .inl (fun _ => 0))), (qa_3, .inl (cA, 900, .inl (fun _ => 0))), (qa_4, .inl (cA, 200, .inl (fun _ => 0)))] := hD
  refine k_putF (C := RX1) (T := TX1) (N := 5) (ci := 1) (v := .ref qa_4) (ty := (.array .int)) X hE hP hD hS 0 rfl rfl iX1 tyX1 tyX1_ok nmX1 4 (by decide) w_6 rfl hnm rfl (by decide +kernel) rfl rfl (Nat.le_of_ble_eq_true rfl) [(h0, .inr (1, [.null, .ref qa_1, .ref qa_2, .ref qa_3, .ref qa_4])), (qa_1, .inl (cA, 64, .inl (fun _ => 0))), (qa_2, .inl (cA, 16, .inl (fun _ => 0))), (qa_3, .inl (cA, 900, .inl (fun _ => 0))), (qa_4, .inl (cA, 200, .inl (fun _ => 0)))] rfl dX1_init_35 (fun H locs hP hD hS => ?_)
  refine lv_aload_n hx hb dX1_init_38 rfl (lv_at hl 0 rfl) ?_
  refine lv_aload_n hx hb dX1_init_39 rfl (lv_at hl 1 rfl) ?_
  refine k_putF (C := RX1) (T := TX1) (N := 5) (ci := 1) (v := .ref h1) (ty := (.array .int)) X hE hP hD hS 0 rfl rfl iX1 tyX1 tyX1_ok nmX1 0 (by decide) w_1 rfl hnm rfl (by decide +kernel) rfl rfl (Nat.le_of_ble_eq_true rfl) [(h0, .inr (1, [.ref h1, .ref qa_1, .ref qa_2, .ref qa_3, .ref qa_4])), (qa_1, .inl (cA, 64, .inl (fun _ => 0))), (qa_2, .inl (cA, 16, .inl (fun _ => 0))), (qa_3, .inl (cA, 900, .inl (fun _ => 0))), (qa_4, .inl (cA, 200, .inl (fun _ => 0)))] rfl dX1_init_40 (fun H locs hP hD hS => ?_)
  exact endV X hr hlocks hP hD hS dX1_init_43 ⟨qa_1, qa_2, qa_3, qa_4, rfl⟩
set_option maxHeartbeats 4000000 in
set_option maxRecDepth 100000 in
theorem c_Processor_init (l : Launch) (D : va_G) (cA cB : ClassId) (h0 : Nat) (h1 : Nat) (h2 : Nat) (h3 : Nat) (h4 : Nat)  : CV l yX4_init cX4_init 5 none 1 12 1 257 D cA cB [.ref h0, .ref h1, .ref h2, .ref h3, .ref h4] [(h0, .inr (4, [.null, .null, .null, .null, .null, .int 0, .int 0]))] (fun W1 => ∃ (qc : Nat), W1 = [(h0, .inr (4, [.ref h1, .ref h2, .ref h3, .ref h4, .ref qc, .int 0, .int 0])), (qc, .inl (cA, 257, .inl (fun _ => 0)))]) := by
  refine mkV (lv0 := [(0, .ref h0), (1, .ref h1), (2, .ref h2), (3, .ref h3), (4, .ref h4)]) (by decide) (Nat.le_of_ble_eq_true rfl) rfl ?_
  intro p e s m below meth c A ls X hr hlocks hnm hE hA hP hD hS hl
  have hx := X.1
  have hb := X.2.1
  refine lv_aload_n hx hb dX4_init_0 rfl (lv_at hl 0 rfl) ?_
  refine k_obj X w_1039 w_1031 w_1032 hl.1 (Nat.le_of_ble_eq_true rfl) (Nat.le_of_ble_eq_true rfl) dX4_init_1 ?_
  refine lv_aload_n hx hb dX4_init_4 rfl (lv_at hl 0 rfl) ?_
  refine lv_sipush (v := 257) hx hb dX4_init_5 (by decide) ?_
  refine k_newa X w_1033 hE hP hD hS hA 257 rfl (by decide) (by decide) (by decide) dX4_init_8 (fun qa_1 H hP hD hS => ?_)
  have hP : va_P D classes [(h0, .inr (4, [.null, .null, .null, .null, .null, .int 0, .int 0])), (qa_1, .inl (cA, 257, .inl (fun _ => 0)))] H := hP
  have hD : va_D A [(h0, .inr (4, [.null, .null, .null, .null, .null, .int 0, .int 0])), (qa_1, .inl (cA, 257, .inl (fun _ => 0)))] := hD
  refine k_putF (C := RX4) (T := TX4) (N := 7) (ci := 4) (v := .ref qa_1) (ty := (.array .int)) X hE hP hD hS 0 rfl rfl iX4 tyX4 tyX4_ok nmX4 4 (by decide) w_268 rfl hnm rfl (by decide +kernel) rfl rfl (Nat.le_of_ble_eq_true rfl) [(h0, .inr (4, [.null, .null, .null, .null, .ref qa_1, .int 0, .int 0])), (qa_1, .inl (cA, 257, .inl (fun _ => 0)))] rfl dX4_init_10 (fun H locs hP hD hS => ?_)
  refine lv_aload_n hx hb dX4_init_13 rfl (lv_at hl 0 rfl) ?_
  refine lv_aload_n hx hb dX4_init_14 rfl (lv_at hl 1 rfl) ?_
  refine k_putF (C := RX4) (T := TX4) (N := 7) (ci := 4) (v := .ref h1) (ty := (.array .int)) X hE hP hD hS 0 rfl rfl iX4 tyX4 tyX4_ok nmX4 0 (by decide) w_69 rfl hnm rfl (by decide +kernel) rfl rfl (Nat.le_of_ble_eq_true rfl) [(h0, .inr (4, [.ref h1, .null, .null, .null, .ref qa_1, .int 0, .int 0])), (qa_1, .inl (cA, 257, .inl (fun _ => 0)))] rfl dX4_init_15 (fun H locs hP hD hS => ?_)
  refine lv_aload_n hx hb dX4_init_18 rfl (lv_at hl 0 rfl) ?_
  refine lv_aload_n hx hb dX4_init_19 rfl (lv_at hl 2 rfl) ?_
  refine k_putF (C := RX4) (T := TX4) (N := 7) (ci := 4) (v := .ref h2) (ty := (.array .int)) X hE hP hD hS 0 rfl rfl iX4 tyX4 tyX4_ok nmX4 1 (by decide) w_63 rfl hnm rfl (by decide +kernel) rfl rfl (Nat.le_of_ble_eq_true rfl) [(h0, .inr (4, [.ref h1, .ref h2, .null, .null, .ref qa_1, .int 0, .int 0])), (qa_1, .inl (cA, 257, .inl (fun _ => 0)))] rfl dX4_init_20 (fun H locs hP hD hS => ?_)
  refine lv_aload_n hx hb dX4_init_23 rfl (lv_at hl 0 rfl) ?_
  refine lv_aload_n hx hb dX4_init_24 rfl (lv_at hl 3 rfl) ?_
  refine k_putF (C := RX4) (T := TX4) (N := 7) (ci := 4) (v := .ref h3) (ty := (.object "BelfryBox$Devices")) X hE hP hD hS 0 rfl rfl iX4 tyX4 tyX4_ok nmX4 2 (by decide) w_175 rfl hnm rfl (by decide +kernel) rfl rfl (Nat.le_of_ble_eq_true rfl) [(h0, .inr (4, [.ref h1, .ref h2, .ref h3, .null, .ref qa_1, .int 0, .int 0])), (qa_1, .inl (cA, 257, .inl (fun _ => 0)))] rfl dX4_init_25 (fun H locs hP hD hS => ?_)
  refine lv_aload_n hx hb dX4_init_28 rfl (lv_at hl 0 rfl) ?_
  refine lv_aload hx hb dX4_init_29 (lv_at hl 4 rfl) ?_
  refine k_putF (C := RX4) (T := TX4) (N := 7) (ci := 4) (v := .ref h4) (ty := (.object "BelfryBox$Past")) X hE hP hD hS 0 rfl rfl iX4 tyX4 tyX4_ok nmX4 3 (by decide) w_161 rfl hnm rfl (by decide +kernel) rfl rfl (Nat.le_of_ble_eq_true rfl) [(h0, .inr (4, [.ref h1, .ref h2, .ref h3, .ref h4, .ref qa_1, .int 0, .int 0])), (qa_1, .inl (cA, 257, .inl (fun _ => 0)))] rfl dX4_init_31 (fun H locs hP hD hS => ?_)
  exact endV X hr hlocks hP hD hS dX4_init_34 ⟨qa_1, rfl⟩
set_option maxHeartbeats 4000000 in
set_option maxRecDepth 100000 in
theorem c_Assembler_init (l : Launch) (D : va_G) (cA cB : ClassId) (h0 : Nat) (h1 : Nat)  : CV l yX0_init cX0_init 2 none 2 32 11 4586 D cA cB [.ref h0, .ref h1] [(h0, .inr (0, [.null, .null, .null, .null, .int 0, .int 0, .int 0, .int 0, .int 0, .int 0, .int 0, .int 0, .int 0, .int 0, .int 0, .int 0, .int 0, .int 0]))] (fun W1 => ∃ (qi : Nat) (qt : Nat) (qs : Nat) (qta : Nat) (qtb : Nat) (qtc : Nat) (qtd : Nat) (qsa : Nat) (qsb : Nat) (qsc : Nat) (qsd : Nat), W1 = [(h0, .inr (0, [.ref h1, .ref qi, .ref qt, .ref qs, .int (-1), .int (-1), .int 0, .int 0, .int 0, .int 0, .int 0, .int 0, .int 0, .int 0, .int 0, .int 0, .int 0, .int 0])), (qi, .inl (cA, 4096, .inl (fun _ => 0))), (qt, .inr (2, [.ref qta, .ref qtb, .ref qtc, .ref qtd, .int 0])), (qta, .inl (cA, 60, .inl (fun _ => 0))), (qtb, .inl (cA, 60, .inl (fun _ => 0))), (qtc, .inl (cA, 60, .inl (fun _ => 0))), (qtd, .inl (cA, 60, .inl (fun _ => 0))), (qs, .inr (2, [.ref qsa, .ref qsb, .ref qsc, .ref qsd, .int 0])), (qsa, .inl (cA, 60, .inl (fun _ => 0))), (qsb, .inl (cA, 60, .inl (fun _ => 0))), (qsc, .inl (cA, 60, .inl (fun _ => 0))), (qsd, .inl (cA, 60, .inl (fun _ => 0)))]) := by
  refine mkV (lv0 := [(0, .ref h0), (1, .ref h1)]) (by decide) (Nat.le_of_ble_eq_true rfl) rfl ?_
  intro p e s m below meth c A ls X hr hlocks hnm hE hA hP hD hS hl
  have hx := X.1
  have hb := X.2.1
  refine lv_aload_n hx hb dX0_init_0 rfl (lv_at hl 0 rfl) ?_
  refine k_obj X w_1040 w_1031 w_1032 hl.1 (Nat.le_of_ble_eq_true rfl) (Nat.le_of_ble_eq_true rfl) dX0_init_1 ?_
  refine lv_aload_n hx hb dX0_init_4 rfl (lv_at hl 0 rfl) ?_
  refine lv_sipush (v := 4096) hx hb dX0_init_5 (by decide) ?_
  refine k_newa X w_1033 hE hP hD hS hA 4096 rfl (by decide) (by decide) (by decide) dX0_init_8 (fun qa_1 H hP hD hS => ?_)
  have hP : va_P D classes [(h0, .inr (0, [.null, .null, .null, .null, .int 0, .int 0, .int 0, .int 0, .int 0, .int 0, .int 0, .int 0, .int 0, .int 0, .int 0, .int 0, .int 0, .int 0])), (qa_1, .inl (cA, 4096, .inl (fun _ => 0)))] H := hP
  have hD : va_D A [(h0, .inr (0, [.null, .null, .null, .null, .int 0, .int 0, .int 0, .int 0, .int 0, .int 0, .int 0, .int 0, .int 0, .int 0, .int 0, .int 0, .int 0, .int 0])), (qa_1, .inl (cA, 4096, .inl (fun _ => 0)))] := hD
  refine k_putF (C := RX0) (T := TX0) (N := 18) (ci := 0) (v := .ref qa_1) (ty := (.array .int)) X hE hP hD hS 0 rfl rfl iX0 tyX0 tyX0_ok nmX0 1 (by decide) w_393 rfl hnm rfl (by decide +kernel) rfl rfl (Nat.le_of_ble_eq_true rfl) [(h0, .inr (0, [.null, .ref qa_1, .null, .null, .int 0, .int 0, .int 0, .int 0, .int 0, .int 0, .int 0, .int 0, .int 0, .int 0, .int 0, .int 0, .int 0, .int 0])), (qa_1, .inl (cA, 4096, .inl (fun _ => 0)))] rfl dX0_init_10 (fun H locs hP hD hS => ?_)
  refine lv_aload_n hx hb dX0_init_13 rfl (lv_at hl 0 rfl) ?_
  refine k_new (C := RX2) (T := TX2) (N := 5) (ci := 2) (fs := [.null, .null, .null, .null, .int 0]) X hE hP hD hS hA rfl iX2 tyX2 tyX2_ok (fun j hj => by rcases (show j = 0 ∨ j = 1 ∨ j = 2 ∨ j = 3 ∨ j = 4 by omega) with rfl | rfl | rfl | rfl | rfl <;> rfl) w_1041 w_1042 w_362 (by decide) (by decide) dX0_init_14 (fun qo_2 H hP hD hS => ?_)
  have hP : va_P D classes [(h0, .inr (0, [.null, .ref qa_1, .null, .null, .int 0, .int 0, .int 0, .int 0, .int 0, .int 0, .int 0, .int 0, .int 0, .int 0, .int 0, .int 0, .int 0, .int 0])), (qa_1, .inl (cA, 4096, .inl (fun _ => 0))), (qo_2, .inr (2, [.null, .null, .null, .null, .int 0]))] H := hP
  have hD : va_D A [(h0, .inr (0, [.null, .ref qa_1, .null, .null, .int 0, .int 0, .int 0, .int 0, .int 0, .int 0, .int 0, .int 0, .int 0, .int 0, .int 0, .int 0, .int 0, .int 0])), (qa_1, .inl (cA, 4096, .inl (fun _ => 0))), (qo_2, .inr (2, [.null, .null, .null, .null, .int 0]))] := hD
  refine lv_dup hx hb dX0_init_17 rfl ?_
  refine kINv (n3 := 0) (As := []) (rest := [.ref qo_2, .ref h0]) X hl.1 hE hP hD hS hA [(qo_2, .inr (2, [.null, .null, .null, .null, .int 0]))] [(h0, .inr (0, [.null, .ref qa_1, .null, .null, .int 0, .int 0, .int 0, .int 0, .int 0, .int 0, .int 0, .int 0, .int 0, .int 0, .int 0, .int 0, .int 0, .int 0])), (qa_1, .inl (cA, 4096, .inl (fun _ => 0)))] [2] [0, 1] rfl rfl rfl (by decide +kernel) (by decide +kernel) (by decide +kernel) (c_Names_init l D cA cB qo_2 ) w_1043 w_362 nw_21 w_1044 rfl (by decide +kernel) rfl rfl (Nat.le_of_ble_eq_true rfl) ⟨(Nat.le_of_ble_eq_true rfl), (Nat.le_of_ble_eq_true rfl)⟩ ⟨(Nat.le_of_ble_eq_true rfl), (Nat.le_of_ble_eq_true rfl)⟩ dX0_init_18 (fun W1 H locs hw hP hD hS => ?_)
  obtain ⟨qa_3, qb_4, qc_5, qd_6, rfl⟩ := hw
  have hP : va_P D classes [(h0, .inr (0, [.null, .ref qa_1, .null, .null, .int 0, .int 0, .int 0, .int 0, .int 0, .int 0, .int 0, .int 0, .int 0, .int 0, .int 0, .int 0, .int 0, .int 0])), (qa_1, .inl (cA, 4096, .inl (fun _ => 0))), (qo_2, .inr (2, [.ref qa_3, .ref qb_4, .ref qc_5, .ref qd_6, .int 0])), (qa_3, .inl (cA, 60, .inl (fun _ => 0))), (qb_4, .inl (cA, 60, .inl (fun _ => 0))), (qc_5, .inl (cA, 60, .inl (fun _ => 0))), (qd_6, .inl (cA, 60, .inl (fun _ => 0)))] H := hP
  have hD : va_D A [(h0, .inr (0, [.null, .ref qa_1, .null, .null, .int 0, .int 0, .int 0, .int 0, .int 0, .int 0, .int 0, .int 0, .int 0, .int 0, .int 0, .int 0, .int 0, .int 0])), (qa_1, .inl (cA, 4096, .inl (fun _ => 0))), (qo_2, .inr (2, [.ref qa_3, .ref qb_4, .ref qc_5, .ref qd_6, .int 0])), (qa_3, .inl (cA, 60, .inl (fun _ => 0))), (qb_4, .inl (cA, 60, .inl (fun _ => 0))), (qc_5, .inl (cA, 60, .inl (fun _ => 0))), (qd_6, .inl (cA, 60, .inl (fun _ => 0)))] := hD
  refine k_put (C := RX0) (T := TX0) (N := 18) (ci := 0) (v := .ref qo_2) (ty := (.object "BelfryBox$Names")) X hE hP hD hS 0 rfl rfl iX0 tyX0 tyX0_ok nmX0 2 (by decide) w_400 rfl (by decide +kernel) rfl rfl (Nat.le_of_ble_eq_true rfl) [(h0, .inr (0, [.null, .ref qa_1, .ref qo_2, .null, .int 0, .int 0, .int 0, .int 0, .int 0, .int 0, .int 0, .int 0, .int 0, .int 0, .int 0, .int 0, .int 0, .int 0])), (qa_1, .inl (cA, 4096, .inl (fun _ => 0))), (qo_2, .inr (2, [.ref qa_3, .ref qb_4, .ref qc_5, .ref qd_6, .int 0])), (qa_3, .inl (cA, 60, .inl (fun _ => 0))), (qb_4, .inl (cA, 60, .inl (fun _ => 0))), (qc_5, .inl (cA, 60, .inl (fun _ => 0))), (qd_6, .inl (cA, 60, .inl (fun _ => 0)))] rfl dX0_init_21 (fun H locs hP hD hS => ?_)
  refine lv_aload_n hx hb dX0_init_24 rfl (lv_at hl 0 rfl) ?_
  refine k_new (C := RX2) (T := TX2) (N := 5) (ci := 2) (fs := [.null, .null, .null, .null, .int 0]) X hE hP hD hS hA rfl iX2 tyX2 tyX2_ok (fun j hj => by rcases (show j = 0 ∨ j = 1 ∨ j = 2 ∨ j = 3 ∨ j = 4 by omega) with rfl | rfl | rfl | rfl | rfl <;> rfl) w_1041 w_1042 w_362 (by decide) (by decide) dX0_init_25 (fun qo_7 H hP hD hS => ?_)
  have hP : va_P D classes [(h0, .inr (0, [.null, .ref qa_1, .ref qo_2, .null, .int 0, .int 0, .int 0, .int 0, .int 0, .int 0, .int 0, .int 0, .int 0, .int 0, .int 0, .int 0, .int 0, .int 0])), (qa_1, .inl (cA, 4096, .inl (fun _ => 0))), (qo_2, .inr (2, [.ref qa_3, .ref qb_4, .ref qc_5, .ref qd_6, .int 0])), (qa_3, .inl (cA, 60, .inl (fun _ => 0))), (qb_4, .inl (cA, 60, .inl (fun _ => 0))), (qc_5, .inl (cA, 60, .inl (fun _ => 0))), (qd_6, .inl (cA, 60, .inl (fun _ => 0))), (qo_7, .inr (2, [.null, .null, .null, .null, .int 0]))] H := hP
  have hD : va_D A [(h0, .inr (0, [.null, .ref qa_1, .ref qo_2, .null, .int 0, .int 0, .int 0, .int 0, .int 0, .int 0, .int 0, .int 0, .int 0, .int 0, .int 0, .int 0, .int 0, .int 0])), (qa_1, .inl (cA, 4096, .inl (fun _ => 0))), (qo_2, .inr (2, [.ref qa_3, .ref qb_4, .ref qc_5, .ref qd_6, .int 0])), (qa_3, .inl (cA, 60, .inl (fun _ => 0))), (qb_4, .inl (cA, 60, .inl (fun _ => 0))), (qc_5, .inl (cA, 60, .inl (fun _ => 0))), (qd_6, .inl (cA, 60, .inl (fun _ => 0))), (qo_7, .inr (2, [.null, .null, .null, .null, .int 0]))] := hD
  refine lv_dup hx hb dX0_init_28 rfl ?_
  refine kINv (n3 := 0) (As := []) (rest := [.ref qo_7, .ref h0]) X hl.1 hE hP hD hS hA [(qo_7, .inr (2, [.null, .null, .null, .null, .int 0]))] [(h0, .inr (0, [.null, .ref qa_1, .ref qo_2, .null, .int 0, .int 0, .int 0, .int 0, .int 0, .int 0, .int 0, .int 0, .int 0, .int 0, .int 0, .int 0, .int 0, .int 0])), (qa_1, .inl (cA, 4096, .inl (fun _ => 0))), (qo_2, .inr (2, [.ref qa_3, .ref qb_4, .ref qc_5, .ref qd_6, .int 0])), (qa_3, .inl (cA, 60, .inl (fun _ => 0))), (qb_4, .inl (cA, 60, .inl (fun _ => 0))), (qc_5, .inl (cA, 60, .inl (fun _ => 0))), (qd_6, .inl (cA, 60, .inl (fun _ => 0)))] [7] [0, 1, 2, 3, 4, 5, 6] rfl rfl rfl (by decide +kernel) (by decide +kernel) (by decide +kernel) (c_Names_init l D cA cB qo_7 ) w_1043 w_362 nw_21 w_1044 rfl (by decide +kernel) rfl rfl (Nat.le_of_ble_eq_true rfl) ⟨(Nat.le_of_ble_eq_true rfl), (Nat.le_of_ble_eq_true rfl)⟩ ⟨(Nat.le_of_ble_eq_true rfl), (Nat.le_of_ble_eq_true rfl)⟩ dX0_init_29 (fun W1 H locs hw hP hD hS => ?_)
  obtain ⟨qa_8, qb_9, qc_10, qd_11, rfl⟩ := hw
  have hP : va_P D classes [(h0, .inr (0, [.null, .ref qa_1, .ref qo_2, .null, .int 0, .int 0, .int 0, .int 0, .int 0, .int 0, .int 0, .int 0, .int 0, .int 0, .int 0, .int 0, .int 0, .int 0])), (qa_1, .inl (cA, 4096, .inl (fun _ => 0))), (qo_2, .inr (2, [.ref qa_3, .ref qb_4, .ref qc_5, .ref qd_6, .int 0])), (qa_3, .inl (cA, 60, .inl (fun _ => 0))), (qb_4, .inl (cA, 60, .inl (fun _ => 0))), (qc_5, .inl (cA, 60, .inl (fun _ => 0))), (qd_6, .inl (cA, 60, .inl (fun _ => 0))), (qo_7, .inr (2, [.ref qa_8, .ref qb_9, .ref qc_10, .ref qd_11, .int 0])), (qa_8, .inl (cA, 60, .inl (fun _ => 0))), (qb_9, .inl (cA, 60, .inl (fun _ => 0))), (qc_10, .inl (cA, 60, .inl (fun _ => 0))), (qd_11, .inl (cA, 60, .inl (fun _ => 0)))] H := hP
  have hD : va_D A [(h0, .inr (0, [.null, .ref qa_1, .ref qo_2, .null, .int 0, .int 0, .int 0, .int 0, .int 0, .int 0, .int 0, .int 0, .int 0, .int 0, .int 0, .int 0, .int 0, .int 0])), (qa_1, .inl (cA, 4096, .inl (fun _ => 0))), (qo_2, .inr (2, [.ref qa_3, .ref qb_4, .ref qc_5, .ref qd_6, .int 0])), (qa_3, .inl (cA, 60, .inl (fun _ => 0))), (qb_4, .inl (cA, 60, .inl (fun _ => 0))), (qc_5, .inl (cA, 60, .inl (fun _ => 0))), (qd_6, .inl (cA, 60, .inl (fun _ => 0))), (qo_7, .inr (2, [.ref qa_8, .ref qb_9, .ref qc_10, .ref qd_11, .int 0])), (qa_8, .inl (cA, 60, .inl (fun _ => 0))), (qb_9, .inl (cA, 60, .inl (fun _ => 0))), (qc_10, .inl (cA, 60, .inl (fun _ => 0))), (qd_11, .inl (cA, 60, .inl (fun _ => 0)))] := hD
  refine k_put (C := RX0) (T := TX0) (N := 18) (ci := 0) (v := .ref qo_7) (ty := (.object "BelfryBox$Names")) X hE hP hD hS 0 rfl rfl iX0 tyX0 tyX0_ok nmX0 3 (by decide) w_403 rfl (by decide +kernel) rfl rfl (Nat.le_of_ble_eq_true rfl) [(h0, .inr (0, [.null, .ref qa_1, .ref qo_2, .ref qo_7, .int 0, .int 0, .int 0, .int 0, .int 0, .int 0, .int 0, .int 0, .int 0, .int 0, .int 0, .int 0, .int 0, .int 0])), (qa_1, .inl (cA, 4096, .inl (fun _ => 0))), (qo_2, .inr (2, [.ref qa_3, .ref qb_4, .ref qc_5, .ref qd_6, .int 0])), (qa_3, .inl (cA, 60, .inl (fun _ => 0))), (qb_4, .inl (cA, 60, .inl (fun _ => 0))), (qc_5, .inl (cA, 60, .inl (fun _ => 0))), (qd_6, .inl (cA, 60, .inl (fun _ => 0))), (qo_7, .inr (2, [.ref qa_8, .ref qb_9, .ref qc_10, .ref qd_11, .int 0])), (qa_8, .inl (cA, 60, .inl (fun _ => 0))), (qb_9, .inl (cA, 60, .inl (fun _ => 0))), (qc_10, .inl (cA, 60, .inl (fun _ => 0))), (qd_11, .inl (cA, 60, .inl (fun _ => 0)))] rfl dX0_init_32 (fun H locs hP hD hS => ?_)
  refine lv_aload_n hx hb dX0_init_35 rfl (lv_at hl 0 rfl) ?_
  refine lv_iconst (v := (-1)) hx hb dX0_init_36 (by decide) ?_
  refine k_put (C := RX0) (T := TX0) (N := 18) (ci := 0) (v := .int (-1)) (ty := .int) X hE hP hD hS 0 rfl rfl iX0 tyX0 tyX0_ok nmX0 4 (by decide) w_384 rfl (by decide +kernel) rfl rfl (Nat.le_of_ble_eq_true rfl) [(h0, .inr (0, [.null, .ref qa_1, .ref qo_2, .ref qo_7, .int (-1), .int 0, .int 0, .int 0, .int 0, .int 0, .int 0, .int 0, .int 0, .int 0, .int 0, .int 0, .int 0, .int 0])), (qa_1, .inl (cA, 4096, .inl (fun _ => 0))), (qo_2, .inr (2, [.ref qa_3, .ref qb_4, .ref qc_5, .ref qd_6, .int 0])), (qa_3, .inl (cA, 60, .inl (fun _ => 0))), (qb_4, .inl (cA, 60, .inl (fun _ => 0))), (qc_5, .inl (cA, 60, .inl (fun _ => 0))), (qd_6, .inl (cA, 60, .inl (fun _ => 0))), (qo_7, .inr (2, [.ref qa_8, .ref qb_9, .ref qc_10, .ref qd_11, .int 0])), (qa_8, .inl (cA, 60, .inl (fun _ => 0))), (qb_9, .inl (cA, 60, .inl (fun _ => 0))), (qc_10, .inl (cA, 60, .inl (fun _ => 0))), (qd_11, .inl (cA, 60, .inl (fun _ => 0)))] rfl dX0_init_37 (fun H locs hP hD hS => ?_)
  refine lv_aload_n hx hb dX0_init_40 rfl (lv_at hl 0 rfl) ?_
  refine lv_iconst (v := (-1)) hx hb dX0_init_41 (by decide) ?_
  refine k_put (C := RX0) (T := TX0) (N := 18) (ci := 0) (v := .int (-1)) (ty := .int) X hE hP hD hS 0 rfl rfl iX0 tyX0 tyX0_ok nmX0 5 (by decide) w_385 rfl (by decide +kernel) rfl rfl (Nat.le_of_ble_eq_true rfl) [(h0, .inr (0, [.null, .ref qa_1, .ref qo_2, .ref qo_7, .int (-1), .int (-1), .int 0, .int 0, .int 0, .int 0, .int 0, .int 0, .int 0, .int 0, .int 0, .int 0, .int 0, .int 0])), (qa_1, .inl (cA, 4096, .inl (fun _ => 0))), (qo_2, .inr (2, [.ref qa_3, .ref qb_4, .ref qc_5, .ref qd_6, .int 0])), (qa_3, .inl (cA, 60, .inl (fun _ => 0))), (qb_4, .inl (cA, 60, .inl (fun _ => 0))), (qc_5, .inl (cA, 60, .inl (fun _ => 0))), (qd_6, .inl (cA, 60, .inl (fun _ => 0))), (qo_7, .inr (2, [.ref qa_8, .ref qb_9, .ref qc_10, .ref qd_11, .int 0])), (qa_8, .inl (cA, 60, .inl (fun _ => 0))), (qb_9, .inl (cA, 60, .inl (fun _ => 0))), (qc_10, .inl (cA, 60, .inl (fun _ => 0))), (qd_11, .inl (cA, 60, .inl (fun _ => 0)))] rfl dX0_init_42 (fun H locs hP hD hS => ?_)
  refine lv_aload_n hx hb dX0_init_45 rfl (lv_at hl 0 rfl) ?_
  refine lv_aload_n hx hb dX0_init_46 rfl (lv_at hl 1 rfl) ?_
  refine k_putF (C := RX0) (T := TX0) (N := 18) (ci := 0) (v := .ref h1) (ty := (.object "BelfryBox$Tape")) X hE hP hD hS 0 rfl rfl iX0 tyX0 tyX0_ok nmX0 0 (by decide) w_394 rfl hnm rfl (by decide +kernel) rfl rfl (Nat.le_of_ble_eq_true rfl) [(h0, .inr (0, [.ref h1, .ref qa_1, .ref qo_2, .ref qo_7, .int (-1), .int (-1), .int 0, .int 0, .int 0, .int 0, .int 0, .int 0, .int 0, .int 0, .int 0, .int 0, .int 0, .int 0])), (qa_1, .inl (cA, 4096, .inl (fun _ => 0))), (qo_2, .inr (2, [.ref qa_3, .ref qb_4, .ref qc_5, .ref qd_6, .int 0])), (qa_3, .inl (cA, 60, .inl (fun _ => 0))), (qb_4, .inl (cA, 60, .inl (fun _ => 0))), (qc_5, .inl (cA, 60, .inl (fun _ => 0))), (qd_6, .inl (cA, 60, .inl (fun _ => 0))), (qo_7, .inr (2, [.ref qa_8, .ref qb_9, .ref qc_10, .ref qd_11, .int 0])), (qa_8, .inl (cA, 60, .inl (fun _ => 0))), (qb_9, .inl (cA, 60, .inl (fun _ => 0))), (qc_10, .inl (cA, 60, .inl (fun _ => 0))), (qd_11, .inl (cA, 60, .inl (fun _ => 0)))] rfl dX0_init_47 (fun H locs hP hD hS => ?_)
  exact endV X hr hlocks hP hD hS dX0_init_50 ⟨qa_1, qo_2, qo_7, qa_3, qb_4, qc_5, qd_6, qa_8, qb_9, qc_10, qd_11, rfl⟩
