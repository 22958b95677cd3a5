abbrev cX3_forget : ByteArray := prog_5_method_2_code
def yX3_forget : MethodName := ⟨RX3, "forget", "()V"⟩
abbrev cX3_keepCode : ByteArray := prog_5_method_4_code
def yX3_keepCode : MethodName := ⟨RX3, "keepCode", "(I)V"⟩
abbrev cX3_keep : ByteArray := prog_5_method_3_code
def yX3_keep : MethodName := ⟨RX3, "keep", "([I)V"⟩
abbrev cJ9_min_7cf53 : ByteArray := prog_13_method_69_code
def yJ9_min_7cf53 : MethodName := ⟨RJ9, "min", "(II)I"⟩
abbrev cX3_keepByte : ByteArray := prog_5_method_5_code
def yX3_keepByte : MethodName := ⟨RX3, "keepByte", "(II)V"⟩
set_option maxRecDepth 100000 in
theorem w_53 : (Cond.fieldLink "BelfryBox$Past" 15 "BelfryBox$Past" "kept" "I" : Cond) ∈ gw := List.mem_filter.mpr ⟨List.mem_append_right _ (tb1 (List.mem_of_getElem? (i := 61) rfl)), rfl⟩
set_option maxRecDepth 100000 in
theorem w_54 : (Cond.fieldLink "BelfryBox$Past" 11 "BelfryBox$Past" "entries" "[I" : Cond) ∈ gw := List.mem_filter.mpr ⟨List.mem_append_right _ (tb1 (List.mem_of_getElem? (i := 59) rfl)), rfl⟩
set_option maxRecDepth 100000 in
theorem w_55 : (Cond.fieldLink "BelfryBox$Past" 19 "BelfryBox$Past" "latest" "I" : Cond) ∈ gw := List.mem_filter.mpr ⟨List.mem_append_right _ (tb1 (List.mem_of_getElem? (i := 60) rfl)), rfl⟩
set_option maxRecDepth 100000 in
theorem w_56 : (Cond.methodLink "BelfryBox$Past" 22 yJ9_min_7cf53 : Cond) ∈ gw := List.mem_filter.mpr ⟨List.mem_append_right _ (tb3 (List.mem_of_getElem? (i := 197) rfl)), rfl⟩
set_option maxRecDepth 100000 in
theorem w_57 : (Cond.static yJ9_min_7cf53 : Cond) ∈ gw := List.mem_filter.mpr ⟨List.mem_append_right _ (tb2 (List.mem_of_getElem? (i := 213) rfl)), rfl⟩
set_option maxRecDepth 100000 in
theorem w_58 : (Cond.code yJ9_min_7cf53 prog_13_method_69_code 2 (Option.some Jvm.ClassFile.FieldType.int) : Cond) ∈ gw := List.mem_filter.mpr ⟨List.mem_append_right _ (tb2 (List.mem_of_getElem? (i := 214) rfl)), rfl⟩
set_option maxRecDepth 100000 in
theorem w_59 : (Cond.methodLink "BelfryBox$Past" 28 ⟨"java/lang/System", "arraycopy", "(Ljava/lang/Object;ILjava/lang/Object;II)V"⟩ : Cond) ∈ gw := List.mem_filter.mpr ⟨List.mem_append_right _ (tb3 (List.mem_of_getElem? (i := 198) rfl)), rfl⟩
set_option maxRecDepth 100000 in
theorem w_60 : (Cond.native ⟨"java/lang/System", "arraycopy", "(Ljava/lang/Object;ILjava/lang/Object;II)V"⟩ : Cond) ∈ gw := List.mem_filter.mpr ⟨List.mem_append_right _ (tb3 (List.mem_of_getElem? (i := 110) rfl)), rfl⟩
set_option maxRecDepth 100000 in
theorem w_61 : (Cond.static ⟨"java/lang/System", "arraycopy", "(Ljava/lang/Object;ILjava/lang/Object;II)V"⟩ : Cond) ∈ gw := List.mem_filter.mpr ⟨List.mem_append_right _ (tb3 (List.mem_of_getElem? (i := 109) rfl)), rfl⟩
set_option maxRecDepth 100000 in
theorem w_62 : (Cond.initialized "java/lang/System" : Cond) ∈ gw := List.mem_filter.mpr ⟨List.mem_append_right _ (tb1 (List.mem_of_getElem? (i := 18) rfl)), rfl⟩
theorem dX3_forget_0 : decode cX3_forget 0 = .ok (.aload_n 0, 1) := by decide +kernel
theorem dX3_forget_1 : decode cX3_forget 1 = .ok (.iconst 0, 1) := by decide +kernel
theorem dX3_forget_2 : decode cX3_forget 2 = .ok (.putfield 15, 3) := by decide +kernel
theorem dX3_forget_5 : decode cX3_forget 5 = .ok (.return_, 1) := by decide +kernel
theorem dX3_keepCode_0 : decode cX3_keepCode 0 = .ok (.aload_n 0, 1) := by decide +kernel
theorem dX3_keepCode_1 : decode cX3_keepCode 1 = .ok (.getfield 11, 3) := by decide +kernel
theorem dX3_keepCode_4 : decode cX3_keepCode 4 = .ok (.aload_n 0, 1) := by decide +kernel
theorem dX3_keepCode_5 : decode cX3_keepCode 5 = .ok (.getfield 19, 3) := by decide +kernel
theorem dX3_keepCode_8 : decode cX3_keepCode 8 = .ok (.bipush 42, 2) := by decide +kernel
theorem dX3_keepCode_10 : decode cX3_keepCode 10 = .ok (.imul, 1) := by decide +kernel
theorem dX3_keepCode_11 : decode cX3_keepCode 11 = .ok (.bipush 34, 2) := by decide +kernel
theorem dX3_keepCode_13 : decode cX3_keepCode 13 = .ok (.iadd, 1) := by decide +kernel
theorem dX3_keepCode_14 : decode cX3_keepCode 14 = .ok (.iload_n 1, 1) := by decide +kernel
theorem dX3_keepCode_15 : decode cX3_keepCode 15 = .ok (.iastore, 1) := by decide +kernel
theorem dX3_keepCode_16 : decode cX3_keepCode 16 = .ok (.return_, 1) := by decide +kernel
theorem dX3_keep_0 : decode cX3_keep 0 = .ok (.aload_n 0, 1) := by decide +kernel
theorem dX3_keep_1 : decode cX3_keep 1 = .ok (.aload_n 0, 1) := by decide +kernel
theorem dX3_keep_2 : decode cX3_keep 2 = .ok (.getfield 19, 3) := by decide +kernel
theorem dX3_keep_5 : decode cX3_keep 5 = .ok (.iconst 1, 1) := by decide +kernel
theorem dX3_keep_6 : decode cX3_keep 6 = .ok (.iadd, 1) := by decide +kernel
theorem dX3_keep_7 : decode cX3_keep 7 = .ok (.sipush 256, 3) := by decide +kernel
theorem dX3_keep_10 : decode cX3_keep 10 = .ok (.irem, 1) := by decide +kernel
theorem dX3_keep_11 : decode cX3_keep 11 = .ok (.putfield 19, 3) := by decide +kernel
theorem dX3_keep_14 : decode cX3_keep 14 = .ok (.aload_n 0, 1) := by decide +kernel
theorem dX3_keep_15 : decode cX3_keep 15 = .ok (.aload_n 0, 1) := by decide +kernel
theorem dX3_keep_16 : decode cX3_keep 16 = .ok (.getfield 15, 3) := by decide +kernel
theorem dX3_keep_19 : decode cX3_keep 19 = .ok (.iconst 1, 1) := by decide +kernel
theorem dX3_keep_20 : decode cX3_keep 20 = .ok (.iadd, 1) := by decide +kernel
theorem dX3_keep_21 : decode cX3_keep 21 = .ok (.sipush 256, 3) := by decide +kernel
theorem dX3_keep_24 : decode cX3_keep 24 = .ok (.invokestatic 22, 3) := by decide +kernel
theorem dX3_keep_27 : decode cX3_keep 27 = .ok (.putfield 15, 3) := by decide +kernel
theorem dX3_keep_30 : decode cX3_keep 30 = .ok (.aload_n 1, 1) := by decide +kernel
theorem dX3_keep_31 : decode cX3_keep 31 = .ok (.iconst 0, 1) := by decide +kernel
theorem dX3_keep_32 : decode cX3_keep 32 = .ok (.aload_n 0, 1) := by decide +kernel
theorem dX3_keep_33 : decode cX3_keep 33 = .ok (.getfield 11, 3) := by decide +kernel
theorem dX3_keep_36 : decode cX3_keep 36 = .ok (.aload_n 0, 1) := by decide +kernel
theorem dX3_keep_37 : decode cX3_keep 37 = .ok (.getfield 19, 3) := by decide +kernel
theorem dX3_keep_40 : decode cX3_keep 40 = .ok (.bipush 42, 2) := by decide +kernel
theorem dX3_keep_42 : decode cX3_keep 42 = .ok (.imul, 1) := by decide +kernel
theorem dX3_keep_43 : decode cX3_keep 43 = .ok (.bipush 34, 2) := by decide +kernel
theorem dX3_keep_45 : decode cX3_keep 45 = .ok (.invokestatic 28, 3) := by decide +kernel
theorem dX3_keep_48 : decode cX3_keep 48 = .ok (.aload_n 0, 1) := by decide +kernel
theorem dX3_keep_49 : decode cX3_keep 49 = .ok (.getfield 11, 3) := by decide +kernel
theorem dX3_keep_52 : decode cX3_keep 52 = .ok (.aload_n 0, 1) := by decide +kernel
theorem dX3_keep_53 : decode cX3_keep 53 = .ok (.getfield 19, 3) := by decide +kernel
theorem dX3_keep_56 : decode cX3_keep 56 = .ok (.bipush 42, 2) := by decide +kernel
theorem dX3_keep_58 : decode cX3_keep 58 = .ok (.imul, 1) := by decide +kernel
theorem dX3_keep_59 : decode cX3_keep 59 = .ok (.bipush 35, 2) := by decide +kernel
theorem dX3_keep_61 : decode cX3_keep 61 = .ok (.iadd, 1) := by decide +kernel
theorem dX3_keep_62 : decode cX3_keep 62 = .ok (.iconst 0, 1) := by decide +kernel
theorem dX3_keep_63 : decode cX3_keep 63 = .ok (.iastore, 1) := by decide +kernel
theorem dX3_keep_64 : decode cX3_keep 64 = .ok (.return_, 1) := by decide +kernel
theorem dX3_keepByte_0 : decode cX3_keepByte 0 = .ok (.aload_n 0, 1) := by decide +kernel
theorem dX3_keepByte_1 : decode cX3_keepByte 1 = .ok (.getfield 19, 3) := by decide +kernel
theorem dX3_keepByte_4 : decode cX3_keepByte 4 = .ok (.bipush 42, 2) := by decide +kernel
theorem dX3_keepByte_6 : decode cX3_keepByte 6 = .ok (.imul, 1) := by decide +kernel
theorem dX3_keepByte_7 : decode cX3_keepByte 7 = .ok (.istore_n 3, 1) := by decide +kernel
theorem dX3_keepByte_8 : decode cX3_keepByte 8 = .ok (.aload_n 0, 1) := by decide +kernel
theorem dX3_keepByte_9 : decode cX3_keepByte 9 = .ok (.getfield 11, 3) := by decide +kernel
theorem dX3_keepByte_12 : decode cX3_keepByte 12 = .ok (.iload_n 3, 1) := by decide +kernel
theorem dX3_keepByte_13 : decode cX3_keepByte 13 = .ok (.bipush 35, 2) := by decide +kernel
theorem dX3_keepByte_15 : decode cX3_keepByte 15 = .ok (.iadd, 1) := by decide +kernel
theorem dX3_keepByte_16 : decode cX3_keepByte 16 = .ok (.iaload, 1) := by decide +kernel
theorem dX3_keepByte_17 : decode cX3_keepByte 17 = .ok (.istore 4, 2) := by decide +kernel
theorem dX3_keepByte_19 : decode cX3_keepByte 19 = .ok (.iload 4, 2) := by decide +kernel
theorem dX3_keepByte_21 : decode cX3_keepByte 21 = .ok (.iconst 3, 1) := by decide +kernel
theorem dX3_keepByte_22 : decode cX3_keepByte 22 = .ok (.if_icmp .ge 48, 3) := by decide +kernel
theorem dX3_keepByte_70 : decode cX3_keepByte 70 = .ok (.return_, 1) := by decide +kernel
theorem dX3_keepByte_25 : decode cX3_keepByte 25 = .ok (.aload_n 0, 1) := by decide +kernel
theorem dX3_keepByte_26 : decode cX3_keepByte 26 = .ok (.getfield 11, 3) := by decide +kernel
theorem dX3_keepByte_29 : decode cX3_keepByte 29 = .ok (.iload_n 3, 1) := by decide +kernel
theorem dX3_keepByte_30 : decode cX3_keepByte 30 = .ok (.bipush 36, 2) := by decide +kernel
theorem dX3_keepByte_32 : decode cX3_keepByte 32 = .ok (.iadd, 1) := by decide +kernel
theorem dX3_keepByte_33 : decode cX3_keepByte 33 = .ok (.iconst 2, 1) := by decide +kernel
theorem dX3_keepByte_34 : decode cX3_keepByte 34 = .ok (.iload 4, 2) := by decide +kernel
theorem dX3_keepByte_36 : decode cX3_keepByte 36 = .ok (.imul, 1) := by decide +kernel
theorem dX3_keepByte_37 : decode cX3_keepByte 37 = .ok (.iadd, 1) := by decide +kernel
theorem dX3_keepByte_38 : decode cX3_keepByte 38 = .ok (.iload_n 1, 1) := by decide +kernel
theorem dX3_keepByte_39 : decode cX3_keepByte 39 = .ok (.iastore, 1) := by decide +kernel
theorem dX3_keepByte_40 : decode cX3_keepByte 40 = .ok (.aload_n 0, 1) := by decide +kernel
theorem dX3_keepByte_41 : decode cX3_keepByte 41 = .ok (.getfield 11, 3) := by decide +kernel
theorem dX3_keepByte_44 : decode cX3_keepByte 44 = .ok (.iload_n 3, 1) := by decide +kernel
theorem dX3_keepByte_45 : decode cX3_keepByte 45 = .ok (.bipush 36, 2) := by decide +kernel
theorem dX3_keepByte_47 : decode cX3_keepByte 47 = .ok (.iadd, 1) := by decide +kernel
theorem dX3_keepByte_48 : decode cX3_keepByte 48 = .ok (.iconst 2, 1) := by decide +kernel
theorem dX3_keepByte_49 : decode cX3_keepByte 49 = .ok (.iload 4, 2) := by decide +kernel
theorem dX3_keepByte_51 : decode cX3_keepByte 51 = .ok (.imul, 1) := by decide +kernel
theorem dX3_keepByte_52 : decode cX3_keepByte 52 = .ok (.iadd, 1) := by decide +kernel
theorem dX3_keepByte_53 : decode cX3_keepByte 53 = .ok (.iconst 1, 1) := by decide +kernel
theorem dX3_keepByte_54 : decode cX3_keepByte 54 = .ok (.iadd, 1) := by decide +kernel
theorem dX3_keepByte_55 : decode cX3_keepByte 55 = .ok (.iload_n 2, 1) := by decide +kernel
theorem dX3_keepByte_56 : decode cX3_keepByte 56 = .ok (.iastore, 1) := by decide +kernel
theorem dX3_keepByte_57 : decode cX3_keepByte 57 = .ok (.aload_n 0, 1) := by decide +kernel
theorem dX3_keepByte_58 : decode cX3_keepByte 58 = .ok (.getfield 11, 3) := by decide +kernel
theorem dX3_keepByte_61 : decode cX3_keepByte 61 = .ok (.iload_n 3, 1) := by decide +kernel
theorem dX3_keepByte_62 : decode cX3_keepByte 62 = .ok (.bipush 35, 2) := by decide +kernel
theorem dX3_keepByte_64 : decode cX3_keepByte 64 = .ok (.iadd, 1) := by decide +kernel
theorem dX3_keepByte_65 : decode cX3_keepByte 65 = .ok (.iload 4, 2) := by decide +kernel
theorem dX3_keepByte_67 : decode cX3_keepByte 67 = .ok (.iconst 1, 1) := by decide +kernel
theorem dX3_keepByte_68 : decode cX3_keepByte 68 = .ok (.iadd, 1) := by decide +kernel
theorem dX3_keepByte_69 : decode cX3_keepByte 69 = .ok (.iastore, 1) := by decide +kernel
set_option maxHeartbeats 4000000 in
set_option maxRecDepth 100000 in
theorem c_s_forget (l : Launch) (D : va_G) (cA cB : ClassId) (h0 : Nat) (he : Nat) (la : Nat) (ke : Nat) (en : Nat → Int32) (hla : la < 256) (hke : ke < 257) (hen : okE en) : CV l yX3_forget cX3_forget 1 none 0 0 0 0 D cA cB [.ref h0] [(h0, .inr (3, [.ref he, .int (nI la), .int (nI ke)])), (he, .inl (cA, 10752, .inl en))] (fun W1 => ∃ (la2 : Nat) (ke2 : Nat) (en2 : Nat → Int32), (la2 < 256) ∧ (ke2 < 257) ∧ (okE en2) ∧ W1 = [(h0, .inr (3, [.ref he, .int (nI la2), .int (nI ke2)])), (he, .inl (cA, 10752, .inl en2))]) := by
  refine mkV (lv0 := [(0, .ref h0)]) (by decide) (Nat.le_of_ble_eq_true rfl) rfl ?_
  intro p e s m below meth c A ls X hr hlocks hnm hE hA hP hD hS hl
  have hx := X.1
  have hb := X.2.1
  refine lv_aload_n hx hb dX3_forget_0 rfl (lv_at hl 0 rfl) ?_
  refine lv_iconst (v := 0) hx hb dX3_forget_1 (by decide) ?_
  refine k_put (C := RX3) (T := TX3) (N := 3) (ci := 3) (v := .int 0) (ty := .int) X hE hP hD hS 0 rfl rfl iX3 tyX3 tyX3_ok nmX3 2 (by decide) w_53 rfl (by decide +kernel) rfl rfl (Nat.le_of_ble_eq_true rfl) [(h0, .inr (3, [.ref he, .int (nI la), .int 0])), (he, .inl (cA, 10752, .inl en))] rfl dX3_forget_2 (fun H locs hP hD hS => ?_)
  exact endV X hr hlocks hP hD hS dX3_forget_5 ⟨la, 0, en, (by omega), (by omega), hen, rfl⟩
set_option maxHeartbeats 4000000 in
set_option maxRecDepth 100000 in
theorem c_s_keepCode (l : Launch) (D : va_G) (cA cB : ClassId) (h0 : Nat) (he : Nat) (la : Nat) (ke : Nat) (en : Nat → Int32) (v : Nat) (hla : la < 256) (hke : ke < 257) (hen : okE en) (hv : v < 257) : CV l yX3_keepCode cX3_keepCode 2 none 0 0 0 0 D cA cB [.ref h0, .int (nI v)] [(h0, .inr (3, [.ref he, .int (nI la), .int (nI ke)])), (he, .inl (cA, 10752, .inl en))] (fun W1 => ∃ (la2 : Nat) (ke2 : Nat) (en2 : Nat → Int32), (la2 < 256) ∧ (ke2 < 257) ∧ (okE en2) ∧ W1 = [(h0, .inr (3, [.ref he, .int (nI la2), .int (nI ke2)])), (he, .inl (cA, 10752, .inl en2))]) := by
  refine mkV (lv0 := [(0, .ref h0), (1, .int (nI v))]) (by decide) (Nat.le_of_ble_eq_true rfl) rfl ?_
  intro p e s m below meth c A ls X hr hlocks hnm hE hA hP hD hS hl
  have hx := X.1
  have hb := X.2.1
  refine lv_aload_n hx hb dX3_keepCode_0 rfl (lv_at hl 0 rfl) ?_
  refine k_get (C := RX3) (T := TX3) (N := 3) (ci := 3) (v := .ref he) X hE hP 0 rfl rfl iX3 0 (by decide) w_54 rfl dX3_keepCode_1 ?_
  refine lv_aload_n hx hb dX3_keepCode_4 rfl (lv_at hl 0 rfl) ?_
  refine k_get (C := RX3) (T := TX3) (N := 3) (ci := 3) (v := .int (nI la)) X hE hP 0 rfl rfl iX3 1 (by decide) w_55 rfl dX3_keepCode_5 ?_
  refine lv_bipush (v := 42) hx hb dX3_keepCode_8 (by decide) ?_
  refine lv_imul hx hb dX3_keepCode_10 ?_
  refine tk (y := nI (la * 42)) (pk_mul la 42) ?_
  refine lv_bipush (v := 34) hx hb dX3_keepCode_11 (by decide) ?_
  refine lv_iadd hx hb dX3_keepCode_13 ?_
  refine tk (y := nI (la * 42 + 34)) (nI_add (la * 42) 34) ?_
  refine lv_iload_n hx hb dX3_keepCode_14 rfl (lv_at hl 1 rfl) ?_
  refine k_ast X hE hP hD hS 1 rfl (la * 42 + 34) rfl (by omega) (by decide) [(h0, .inr (3, [.ref he, .int (nI la), .int (nI ke)])), (he, .inl (cA, 10752, .inl (upd en (la * 42 + 34) (nI v))))] rfl dX3_keepCode_15 (fun H locs hP hD hS => ?_)
  obtain ⟨g_1, eg_1⟩ : ∃ z, z = upd en (la * 42 + 34) (nI v) := ⟨_, rfl⟩
  rw [← eg_1] at hP hD
  have hg_1 := okE_upd hen (la * 42 + 34) (nI v) la 34 (by decide) (by omega) (inR_of (k := v) rfl (by omega))
  rw [← eg_1] at hg_1
  have hP : va_P D classes [(h0, .inr (3, [.ref he, .int (nI la), .int (nI ke)])), (he, .inl (cA, 10752, .inl g_1))] H := hP
  have hD : va_D A [(h0, .inr (3, [.ref he, .int (nI la), .int (nI ke)])), (he, .inl (cA, 10752, .inl g_1))] := hD
  exact endV X hr hlocks hP hD hS dX3_keepCode_16 ⟨la, ke, g_1, (by omega), (by omega), hg_1, rfl⟩
set_option maxHeartbeats 4000000 in
set_option maxRecDepth 100000 in
theorem c_s_keep (l : Launch) (D : va_G) (cA cB : ClassId) (h0 : Nat) (he : Nat) (hn : Nat) (la : Nat) (ke : Nat) (en : Nat → Int32) (f : Nat → Int32) (hla : la < 256) (hke : ke < 257) (hen : okE en) (hf : okN f) : CV l yX3_keep cX3_keep 2 none 1 40 0 0 D cA cB [.ref h0, .ref hn] [(h0, .inr (3, [.ref he, .int (nI la), .int (nI ke)])), (he, .inl (cA, 10752, .inl en)), (hn, .inl (cA, 34, .inl f))] (fun W1 => ∃ (la2 : Nat) (ke2 : Nat) (en2 : Nat → Int32) (f2 : Nat → Int32), (la2 < 256) ∧ (ke2 < 257) ∧ (okE en2) ∧ (okN f2) ∧ W1 = [(h0, .inr (3, [.ref he, .int (nI la2), .int (nI ke2)])), (he, .inl (cA, 10752, .inl en2)), (hn, .inl (cA, 34, .inl f2))]) := by
  refine mkV (lv0 := [(0, .ref h0), (1, .ref hn)]) (by decide) (Nat.le_of_ble_eq_true rfl) rfl ?_
  intro p e s m below meth c A ls X hr hlocks hnm hE hA hP hD hS hl
  have hx := X.1
  have hb := X.2.1
  refine lv_aload_n hx hb dX3_keep_0 rfl (lv_at hl 0 rfl) ?_
  refine lv_aload_n hx hb dX3_keep_1 rfl (lv_at hl 0 rfl) ?_
  refine k_get (C := RX3) (T := TX3) (N := 3) (ci := 3) (v := .int (nI la)) X hE hP 0 rfl rfl iX3 1 (by decide) w_55 rfl dX3_keep_2 ?_
  refine lv_iconst (v := 1) hx hb dX3_keep_5 (by decide) ?_
  refine lv_iadd hx hb dX3_keep_6 ?_
  refine tk (y := nI (la + 1)) (nI_add la 1) ?_
  refine lv_sipush (v := 256) hx hb dX3_keep_7 (by decide) ?_
  refine lv_irem hx hb dX3_keep_10 (by decide) ?_
  refine tk (y := nI ((la + 1) % 256)) (pk_rem (a := la + 1) (d := 256) (by omega) (by decide) (by decide)) ?_
  refine k_put (C := RX3) (T := TX3) (N := 3) (ci := 3) (v := .int (nI ((la + 1) % 256))) (ty := .int) X hE hP hD hS 0 rfl rfl iX3 tyX3 tyX3_ok nmX3 1 (by decide) w_55 rfl (by decide +kernel) rfl rfl (Nat.le_of_ble_eq_true rfl) [(h0, .inr (3, [.ref he, .int (nI ((la + 1) % 256)), .int (nI ke)])), (he, .inl (cA, 10752, .inl en)), (hn, .inl (cA, 34, .inl f))] rfl dX3_keep_11 (fun H locs hP hD hS => ?_)
  refine lv_aload_n hx hb dX3_keep_14 rfl (lv_at hl 0 rfl) ?_
  refine lv_aload_n hx hb dX3_keep_15 rfl (lv_at hl 0 rfl) ?_
  refine k_get (C := RX3) (T := TX3) (N := 3) (ci := 3) (v := .int (nI ke)) X hE hP 0 rfl rfl iX3 2 (by decide) w_53 rfl dX3_keep_16 ?_
  refine lv_iconst (v := 1) hx hb dX3_keep_19 (by decide) ?_
  refine lv_iadd hx hb dX3_keep_20 ?_
  refine tk (y := nI (ke + 1)) (nI_add ke 1) ?_
  refine lv_sipush (v := 256) hx hb dX3_keep_21 (by decide) ?_
  refine va_mmin hx hb (X.2.2.1.trans hl.1.symm) X.2.2.2.1 (X.2.2.2.2 _ w_56) (X.2.2.2.2 _ w_57) (X.2.2.2.2 _ w_43) (X.2.2.2.2 _ w_58) (Nat.le_of_ble_eq_true rfl) (Nat.le_of_ble_eq_true rfl) (Nat.le_of_ble_eq_true rfl) (Nat.le_of_ble_eq_true rfl) dX3_keep_24 ?_
  refine tk (y := nI (min (ke + 1) 256)) (sf_min (a := ke + 1) (b := 256) (by omega) (by omega)) ?_
  refine k_put (C := RX3) (T := TX3) (N := 3) (ci := 3) (v := .int (nI (min (ke + 1) 256))) (ty := .int) X hE hP hD hS 0 rfl rfl iX3 tyX3 tyX3_ok nmX3 2 (by decide) w_53 rfl (by decide +kernel) rfl rfl (Nat.le_of_ble_eq_true rfl) [(h0, .inr (3, [.ref he, .int (nI ((la + 1) % 256)), .int (nI (min (ke + 1) 256))])), (he, .inl (cA, 10752, .inl en)), (hn, .inl (cA, 34, .inl f))] rfl dX3_keep_27 (fun H locs hP hD hS => ?_)
  refine lv_aload_n hx hb dX3_keep_30 rfl (lv_at hl 1 rfl) ?_
  refine lv_iconst (v := 0) hx hb dX3_keep_31 (by decide) ?_
  refine lv_aload_n hx hb dX3_keep_32 rfl (lv_at hl 0 rfl) ?_
  refine k_get (C := RX3) (T := TX3) (N := 3) (ci := 3) (v := .ref he) X hE hP 0 rfl rfl iX3 0 (by decide) w_54 rfl dX3_keep_33 ?_
  refine lv_aload_n hx hb dX3_keep_36 rfl (lv_at hl 0 rfl) ?_
  refine k_get (C := RX3) (T := TX3) (N := 3) (ci := 3) (v := .int (nI ((la + 1) % 256))) X hE hP 0 rfl rfl iX3 1 (by decide) w_55 rfl dX3_keep_37 ?_
  refine lv_bipush (v := 42) hx hb dX3_keep_40 (by decide) ?_
  refine lv_imul hx hb dX3_keep_42 ?_
  refine tk (y := nI (((la + 1) % 256) * 42)) (pk_mul ((la + 1) % 256) 42) ?_
  refine lv_bipush (v := 34) hx hb dX3_keep_43 (by decide) ?_
  refine va_copyi (ty := .int) hx hb (X.2.2.1.trans hl.1.symm) X.2.2.2.1 (X.2.2.2.2 _ w_59) (X.2.2.2.2 _ w_60) (X.2.2.2.2 _ w_61) (X.2.2.2.2 _ w_62) hE.1 hP hD hS 2 1 0 0 rfl rfl rfl rfl rfl (by decide) (nI_pos (by omega)) (by decide) (by decide) (by rw [nI_clamp (by omega)]; show _ + 34 ≤ 10752; omega) (fun _ _ => rfl) (Nat.le_of_ble_eq_true rfl) (Nat.le_of_ble_eq_true rfl) dX3_keep_45 (fun H locs hP hD hS => ?_)
  obtain ⟨g_1, eg_1⟩ : ∃ z, z = va_cpy f en (0 : Int32).toNatClampNeg (nI (((la + 1) % 256) * 42) : Int32).toNatClampNeg (34 : Int32).toNatClampNeg := ⟨_, rfl⟩
  rw [← eg_1] at hP hD
  have hP : va_P D classes [(h0, .inr (3, [.ref he, .int (nI ((la + 1) % 256)), .int (nI (min (ke + 1) 256))])), (he, .inl (cA, 10752, .inl g_1)), (hn, .inl (cA, 34, .inl f))] H := hP
  have hD : va_D A [(h0, .inr (3, [.ref he, .int (nI ((la + 1) % 256)), .int (nI (min (ke + 1) 256))])), (he, .inl (cA, 10752, .inl g_1)), (hn, .inl (cA, 34, .inl f))] := hD
  have hg_1 : okE g_1 := by rw [eg_1]; exact okE_cpy hf hen ((la + 1) % 256) rfl (nI_clamp (by omega)) rfl
  refine lv_aload_n hx hb dX3_keep_48 rfl (lv_at hl 0 rfl) ?_
  refine k_get (C := RX3) (T := TX3) (N := 3) (ci := 3) (v := .ref he) X hE hP 0 rfl rfl iX3 0 (by decide) w_54 rfl dX3_keep_49 ?_
  refine lv_aload_n hx hb dX3_keep_52 rfl (lv_at hl 0 rfl) ?_
  refine k_get (C := RX3) (T := TX3) (N := 3) (ci := 3) (v := .int (nI ((la + 1) % 256))) X hE hP 0 rfl rfl iX3 1 (by decide) w_55 rfl dX3_keep_53 ?_
  refine lv_bipush (v := 42) hx hb dX3_keep_56 (by decide) ?_
  refine lv_imul hx hb dX3_keep_58 ?_
  refine tk (y := nI (((la + 1) % 256) * 42)) (pk_mul ((la + 1) % 256) 42) ?_
  refine lv_bipush (v := 35) hx hb dX3_keep_59 (by decide) ?_
  refine lv_iadd hx hb dX3_keep_61 ?_
  refine tk (y := nI (((la + 1) % 256) * 42 + 35)) (nI_add (((la + 1) % 256) * 42) 35) ?_
  refine lv_iconst (v := 0) hx hb dX3_keep_62 (by decide) ?_
  refine k_ast X hE hP hD hS 1 rfl (((la + 1) % 256) * 42 + 35) rfl (by omega) (by decide) [(h0, .inr (3, [.ref he, .int (nI ((la + 1) % 256)), .int (nI (min (ke + 1) 256))])), (he, .inl (cA, 10752, .inl (upd g_1 (((la + 1) % 256) * 42 + 35) 0))), (hn, .inl (cA, 34, .inl f))] rfl dX3_keep_63 (fun H locs hP hD hS => ?_)
  obtain ⟨g_2, eg_2⟩ : ∃ z, z = upd g_1 (((la + 1) % 256) * 42 + 35) 0 := ⟨_, rfl⟩
  rw [← eg_2] at hP hD
  have hg_2 := okE_upd hg_1 (((la + 1) % 256) * 42 + 35) 0 ((la + 1) % 256) 35 (by decide) (by omega) (inR_of (k := 0) rfl (by decide))
  rw [← eg_2] at hg_2
  have hP : va_P D classes [(h0, .inr (3, [.ref he, .int (nI ((la + 1) % 256)), .int (nI (min (ke + 1) 256))])), (he, .inl (cA, 10752, .inl g_2)), (hn, .inl (cA, 34, .inl f))] H := hP
  have hD : va_D A [(h0, .inr (3, [.ref he, .int (nI ((la + 1) % 256)), .int (nI (min (ke + 1) 256))])), (he, .inl (cA, 10752, .inl g_2)), (hn, .inl (cA, 34, .inl f))] := hD
  exact endV X hr hlocks hP hD hS dX3_keep_64 ⟨((la + 1) % 256), (min (ke + 1) 256), g_2, f, (by omega), (by omega), hg_2, hf, rfl⟩
set_option maxHeartbeats 4000000 in
set_option maxRecDepth 100000 in
theorem c_s_keepByte (l : Launch) (D : va_G) (cA cB : ClassId) (h0 : Nat) (he : Nat) (la : Nat) (ke : Nat) (en : Nat → Int32) (a : Nat) (v : Nat) (hla : la < 256) (hke : ke < 257) (hen : okE en) (ha : a < 4096) (hv : v < 256) : CV l yX3_keepByte cX3_keepByte 5 none 0 0 0 0 D cA cB [.ref h0, .int (nI a), .int (nI v)] [(h0, .inr (3, [.ref he, .int (nI la), .int (nI ke)])), (he, .inl (cA, 10752, .inl en))] (fun W1 => ∃ (la2 : Nat) (ke2 : Nat) (en2 : Nat → Int32), (la2 < 256) ∧ (ke2 < 257) ∧ (okE en2) ∧ W1 = [(h0, .inr (3, [.ref he, .int (nI la2), .int (nI ke2)])), (he, .inl (cA, 10752, .inl en2))]) := by
  refine mkV (lv0 := [(0, .ref h0), (1, .int (nI a)), (2, .int (nI v))]) (by decide) (Nat.le_of_ble_eq_true rfl) rfl ?_
  intro p e s m below meth c A ls X hr hlocks hnm hE hA hP hD hS hl
  have hx := X.1
  have hb := X.2.1
  refine lv_aload_n hx hb dX3_keepByte_0 rfl (lv_at hl 0 rfl) ?_
  refine k_get (C := RX3) (T := TX3) (N := 3) (ci := 3) (v := .int (nI la)) X hE hP 0 rfl rfl iX3 1 (by decide) w_55 rfl dX3_keepByte_1 ?_
  refine lv_bipush (v := 42) hx hb dX3_keepByte_4 (by decide) ?_
  refine lv_imul hx hb dX3_keepByte_6 ?_
  refine tk (y := nI (la * 42)) (pk_mul la 42) ?_
  refine lv_istore_n (lv' := [(3, .int (nI (la * 42))), (0, .ref h0), (1, .int (nI a)), (2, .int (nI v))]) hx hb dX3_keepByte_7 rfl hl (by decide) rfl (fun ls hl => ?_)
  refine lv_aload_n hx hb dX3_keepByte_8 rfl (lv_at hl 1 rfl) ?_
  refine k_get (C := RX3) (T := TX3) (N := 3) (ci := 3) (v := .ref he) X hE hP 0 rfl rfl iX3 0 (by decide) w_54 rfl dX3_keepByte_9 ?_
  refine lv_iload_n hx hb dX3_keepByte_12 rfl (lv_at hl 0 rfl) ?_
  refine lv_bipush (v := 35) hx hb dX3_keepByte_13 (by decide) ?_
  refine lv_iadd hx hb dX3_keepByte_15 ?_
  refine tk (y := nI (la * 42 + 35)) (nI_add (la * 42) 35) ?_
  obtain ⟨k_1, hk_1, ek_1⟩ := hen.at (la * 42 + 35) la 35 4 (by omega) (by decide) (by omega) rfl
  refine k_ald (v := nI k_1) X hE hP 1 rfl (la * 42 + 35) rfl (by omega) (by decide) ek_1 dX3_keepByte_16 ?_
  refine lv_istore (lv' := [(4, .int (nI k_1)), (3, .int (nI (la * 42))), (0, .ref h0), (1, .int (nI a)), (2, .int (nI v))]) hx hb dX3_keepByte_17 hl (by decide) rfl (fun ls hl => ?_)
  refine lv_iload hx hb dX3_keepByte_19 (lv_at hl 0 rfl) ?_
  refine lv_iconst (v := 3) hx hb dX3_keepByte_21 (by decide) ?_
  refine lv_icmp_ge (tgt := 70) hx hb dX3_keepByte_22 (by decide) (fun c_22_2 => ?_) (fun c_22_2 => ?_)
  · have nc_22_2 : 3 ≤ k_1 := (nI_leI (a := 3) (b := k_1) (by omega) (by omega)).mp c_22_2
    exact endV X hr hlocks hP hD hS dX3_keepByte_70 ⟨la, ke, en, (by omega), (by omega), hen, rfl⟩
  · have nc_22_2 : k_1 < 3 := Nat.not_le.mp (fun q => c_22_2 ((nI_leI (a := 3) (b := k_1) (by omega) (by omega)).mpr q))
    refine lv_aload_n hx hb dX3_keepByte_25 rfl (lv_at hl 2 rfl) ?_
    refine k_get (C := RX3) (T := TX3) (N := 3) (ci := 3) (v := .ref he) X hE hP 0 rfl rfl iX3 0 (by decide) w_54 rfl dX3_keepByte_26 ?_
    refine lv_iload_n hx hb dX3_keepByte_29 rfl (lv_at hl 1 rfl) ?_
    refine lv_bipush (v := 36) hx hb dX3_keepByte_30 (by decide) ?_
    refine lv_iadd hx hb dX3_keepByte_32 ?_
    refine tk (y := nI (la * 42 + 36)) (nI_add (la * 42) 36) ?_
    refine lv_iconst (v := 2) hx hb dX3_keepByte_33 (by decide) ?_
    refine lv_iload hx hb dX3_keepByte_34 (lv_at hl 0 rfl) ?_
    refine lv_imul hx hb dX3_keepByte_36 ?_
    refine tk (y := nI (2 * k_1)) (pk_mul 2 k_1) ?_
    refine lv_iadd hx hb dX3_keepByte_37 ?_
    refine tk (y := nI (la * 42 + 36 + 2 * k_1)) (nI_add (la * 42 + 36) (2 * k_1)) ?_
    refine lv_iload_n hx hb dX3_keepByte_38 rfl (lv_at hl 3 rfl) ?_
    refine k_ast X hE hP hD hS 1 rfl (la * 42 + 36 + 2 * k_1) rfl (by omega) (by decide) [(h0, .inr (3, [.ref he, .int (nI la), .int (nI ke)])), (he, .inl (cA, 10752, .inl (upd en (la * 42 + 36 + 2 * k_1) (nI a))))] rfl dX3_keepByte_39 (fun H locs hP hD hS => ?_)
    obtain ⟨g_3, eg_3⟩ : ∃ z, z = upd en (la * 42 + 36 + 2 * k_1) (nI a) := ⟨_, rfl⟩
    rw [← eg_3] at hP hD
    have hg_3 := okE_upd hen (la * 42 + 36 + 2 * k_1) (nI a) la (36 + 2 * k_1) (by omega) (by omega) (inR_of (k := a) (bdE_a (by omega)) (by omega))
    rw [← eg_3] at hg_3
    have hP : va_P D classes [(h0, .inr (3, [.ref he, .int (nI la), .int (nI ke)])), (he, .inl (cA, 10752, .inl g_3))] H := hP
    have hD : va_D A [(h0, .inr (3, [.ref he, .int (nI la), .int (nI ke)])), (he, .inl (cA, 10752, .inl g_3))] := hD
    refine lv_aload_n hx hb dX3_keepByte_40 rfl (lv_at hl 2 rfl) ?_
    refine k_get (C := RX3) (T := TX3) (N := 3) (ci := 3) (v := .ref he) X hE hP 0 rfl rfl iX3 0 (by decide) w_54 rfl dX3_keepByte_41 ?_
    refine lv_iload_n hx hb dX3_keepByte_44 rfl (lv_at hl 1 rfl) ?_
    refine lv_bipush (v := 36) hx hb dX3_keepByte_45 (by decide) ?_
    refine lv_iadd hx hb dX3_keepByte_47 ?_
    refine tk (y := nI (la * 42 + 36)) (nI_add (la * 42) 36) ?_
    refine lv_iconst (v := 2) hx hb dX3_keepByte_48 (by decide) ?_
    refine lv_iload hx hb dX3_keepByte_49 (lv_at hl 0 rfl) ?_
    refine lv_imul hx hb dX3_keepByte_51 ?_
    refine tk (y := nI (2 * k_1)) (pk_mul 2 k_1) ?_
    refine lv_iadd hx hb dX3_keepByte_52 ?_
    refine tk (y := nI (la * 42 + 36 + 2 * k_1)) (nI_add (la * 42 + 36) (2 * k_1)) ?_
    refine lv_iconst (v := 1) hx hb dX3_keepByte_53 (by decide) ?_
    refine lv_iadd hx hb dX3_keepByte_54 ?_
    refine tk (y := nI (la * 42 + 36 + 2 * k_1 + 1)) (nI_add (la * 42 + 36 + 2 * k_1) 1) ?_
    refine lv_iload_n hx hb dX3_keepByte_55 rfl (lv_at hl 4 rfl) ?_
    refine k_ast X hE hP hD hS 1 rfl (la * 42 + 36 + 2 * k_1 + 1) rfl (by omega) (by decide) [(h0, .inr (3, [.ref he, .int (nI la), .int (nI ke)])), (he, .inl (cA, 10752, .inl (upd g_3 (la * 42 + 36 + 2 * k_1 + 1) (nI v))))] rfl dX3_keepByte_56 (fun H locs hP hD hS => ?_)
    obtain ⟨g_4, eg_4⟩ : ∃ z, z = upd g_3 (la * 42 + 36 + 2 * k_1 + 1) (nI v) := ⟨_, rfl⟩
    rw [← eg_4] at hP hD
    have hg_4 := okE_upd hg_3 (la * 42 + 36 + 2 * k_1 + 1) (nI v) la (37 + 2 * k_1) (by omega) (by omega) (inR_of (k := v) (bdE_b (by omega)) (by omega))
    rw [← eg_4] at hg_4
    have hP : va_P D classes [(h0, .inr (3, [.ref he, .int (nI la), .int (nI ke)])), (he, .inl (cA, 10752, .inl g_4))] H := hP
    have hD : va_D A [(h0, .inr (3, [.ref he, .int (nI la), .int (nI ke)])), (he, .inl (cA, 10752, .inl g_4))] := hD
    refine lv_aload_n hx hb dX3_keepByte_57 rfl (lv_at hl 2 rfl) ?_
    refine k_get (C := RX3) (T := TX3) (N := 3) (ci := 3) (v := .ref he) X hE hP 0 rfl rfl iX3 0 (by decide) w_54 rfl dX3_keepByte_58 ?_
    refine lv_iload_n hx hb dX3_keepByte_61 rfl (lv_at hl 1 rfl) ?_
    refine lv_bipush (v := 35) hx hb dX3_keepByte_62 (by decide) ?_
    refine lv_iadd hx hb dX3_keepByte_64 ?_
    refine tk (y := nI (la * 42 + 35)) (nI_add (la * 42) 35) ?_
    refine lv_iload hx hb dX3_keepByte_65 (lv_at hl 0 rfl) ?_
    refine lv_iconst (v := 1) hx hb dX3_keepByte_67 (by decide) ?_
    refine lv_iadd hx hb dX3_keepByte_68 ?_
    refine tk (y := nI (k_1 + 1)) (nI_add k_1 1) ?_
    refine k_ast X hE hP hD hS 1 rfl (la * 42 + 35) rfl (by omega) (by decide) [(h0, .inr (3, [.ref he, .int (nI la), .int (nI ke)])), (he, .inl (cA, 10752, .inl (upd g_4 (la * 42 + 35) (nI (k_1 + 1)))))] rfl dX3_keepByte_69 (fun H locs hP hD hS => ?_)
    obtain ⟨g_5, eg_5⟩ : ∃ z, z = upd g_4 (la * 42 + 35) (nI (k_1 + 1)) := ⟨_, rfl⟩
    rw [← eg_5] at hP hD
    have hg_5 := okE_upd hg_4 (la * 42 + 35) (nI (k_1 + 1)) la 35 (by decide) (by omega) (inR_of (k := k_1 + 1) rfl (by omega))
    rw [← eg_5] at hg_5
    have hP : va_P D classes [(h0, .inr (3, [.ref he, .int (nI la), .int (nI ke)])), (he, .inl (cA, 10752, .inl g_5))] H := hP
    have hD : va_D A [(h0, .inr (3, [.ref he, .int (nI la), .int (nI ke)])), (he, .inl (cA, 10752, .inl g_5))] := hD
    exact endV X hr hlocks hP hD hS dX3_keepByte_70 ⟨la, ke, g_5, (by omega), (by omega), hg_5, rfl⟩
