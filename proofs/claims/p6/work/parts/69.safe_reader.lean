abbrev cX5_put : ByteArray := prog_7_method_8_code
def yX5_put : MethodName := ⟨RX5, "put", "(I)V"⟩
abbrev cX5_putNumber : ByteArray := prog_7_method_7_code
def yX5_putNumber : MethodName := ⟨RX5, "putNumber", "(I)V"⟩
abbrev cX5_tellWay : ByteArray := prog_7_method_3_code
def yX5_tellWay : MethodName := ⟨RX5, "tellWay", "(II)V"⟩
abbrev cX5_putIllegal : ByteArray := prog_7_method_5_code
def yX5_putIllegal : MethodName := ⟨RX5, "putIllegal", "(I)V"⟩
set_option maxRecDepth 100000 in
theorem w_405 : (Cond.fieldLink "BelfryBox$Reader" 15 "BelfryBox$Reader" "length" "I" : Cond) ∈ gw := List.mem_filter.mpr ⟨List.mem_append_right _ (tb2 (List.mem_of_getElem? (i := 16) rfl)), rfl⟩
set_option maxRecDepth 100000 in
theorem w_406 : (Cond.fieldLink "BelfryBox$Reader" 11 "BelfryBox$Reader" "letters" "[I" : Cond) ∈ gw := List.mem_filter.mpr ⟨List.mem_append_right _ (tb2 (List.mem_of_getElem? (i := 14) rfl)), rfl⟩
set_option maxRecDepth 100000 in
theorem w_407 : (Cond.methodLink "BelfryBox$Reader" 33 yX5_put : Cond) ∈ gw := List.mem_filter.mpr ⟨List.mem_append_right _ (tb5 (List.mem_of_getElem? (i := 13) rfl)), rfl⟩
set_option maxRecDepth 100000 in
theorem w_408 : (Cond.code yX5_put prog_7_method_8_code 2 (Option.none : Option Jvm.ClassFile.FieldType) : Cond) ∈ gw := List.mem_filter.mpr ⟨List.mem_append_right _ (tb5 (List.mem_of_getElem? (i := 16) rfl)), rfl⟩
set_option maxRecDepth 100000 in
theorem w_409 : (Cond.initialized "BelfryBox$Reader" : Cond) ∈ gw := List.mem_filter.mpr ⟨List.mem_append_right _ (tb1 (List.mem_of_getElem? (i := 9) rfl)), rfl⟩
set_option maxRecDepth 100000 in
theorem w_410 : (Cond.instanceMethod yX5_put : Cond) ∈ gw := List.mem_filter.mpr ⟨List.mem_append_right _ (tb5 (List.mem_of_getElem? (i := 15) rfl)), rfl⟩
set_option maxRecDepth 100000 in
theorem w_411 : (Cond.selects "BelfryBox$Reader" yX5_put yX5_put : Cond) ∈ gw := List.mem_filter.mpr ⟨List.mem_append_left _ (List.mem_map.mpr ⟨(⟨"BelfryBox$Reader", "put", "(I)V"⟩, 2), sl5 (List.mem_of_getElem? (i := 15) rfl), rfl⟩), rfl⟩
set_option maxRecDepth 100000 in
theorem w_412 : (Cond.methodLink "BelfryBox$Reader" 40 yX5_putNumber : Cond) ∈ gw := List.mem_filter.mpr ⟨List.mem_append_right _ (tb5 (List.mem_of_getElem? (i := 21) rfl)), rfl⟩
set_option maxRecDepth 100000 in
theorem w_413 : (Cond.code yX5_putNumber prog_7_method_7_code 3 (Option.none : Option Jvm.ClassFile.FieldType) : Cond) ∈ gw := List.mem_filter.mpr ⟨List.mem_append_right _ (tb5 (List.mem_of_getElem? (i := 24) rfl)), rfl⟩
set_option maxRecDepth 100000 in
theorem w_414 : (Cond.instanceMethod yX5_putNumber : Cond) ∈ gw := List.mem_filter.mpr ⟨List.mem_append_right _ (tb5 (List.mem_of_getElem? (i := 23) rfl)), rfl⟩
set_option maxRecDepth 100000 in
theorem w_415 : (Cond.selects "BelfryBox$Reader" yX5_putNumber yX5_putNumber : Cond) ∈ gw := List.mem_filter.mpr ⟨List.mem_append_left _ (List.mem_map.mpr ⟨(⟨"BelfryBox$Reader", "putNumber", "(I)V"⟩, 2), sl6 (List.mem_of_getElem? (i := 1) rfl), rfl⟩), rfl⟩
theorem dX5_put_0 : decode cX5_put 0 = .ok (.aload_n 0, 1) := by decide +kernel
theorem dX5_put_1 : decode cX5_put 1 = .ok (.getfield 15, 3) := by decide +kernel
theorem dX5_put_4 : decode cX5_put 4 = .ok (.bipush 16, 2) := by decide +kernel
theorem dX5_put_6 : decode cX5_put 6 = .ok (.if_icmp .ge 23, 3) := by decide +kernel
theorem dX5_put_29 : decode cX5_put 29 = .ok (.return_, 1) := by decide +kernel
theorem dX5_put_9 : decode cX5_put 9 = .ok (.aload_n 0, 1) := by decide +kernel
theorem dX5_put_10 : decode cX5_put 10 = .ok (.getfield 11, 3) := by decide +kernel
theorem dX5_put_13 : decode cX5_put 13 = .ok (.aload_n 0, 1) := by decide +kernel
theorem dX5_put_14 : decode cX5_put 14 = .ok (.getfield 15, 3) := by decide +kernel
theorem dX5_put_17 : decode cX5_put 17 = .ok (.iload_n 1, 1) := by decide +kernel
theorem dX5_put_18 : decode cX5_put 18 = .ok (.iastore, 1) := by decide +kernel
theorem dX5_put_19 : decode cX5_put 19 = .ok (.aload_n 0, 1) := by decide +kernel
theorem dX5_put_20 : decode cX5_put 20 = .ok (.dup, 1) := by decide +kernel
theorem dX5_put_21 : decode cX5_put 21 = .ok (.getfield 15, 3) := by decide +kernel
theorem dX5_put_24 : decode cX5_put 24 = .ok (.iconst 1, 1) := by decide +kernel
theorem dX5_put_25 : decode cX5_put 25 = .ok (.iadd, 1) := by decide +kernel
theorem dX5_put_26 : decode cX5_put 26 = .ok (.putfield 15, 3) := by decide +kernel
theorem dX5_putNumber_0 : decode cX5_putNumber 0 = .ok (.sipush 10000, 3) := by decide +kernel
theorem dX5_putNumber_3 : decode cX5_putNumber 3 = .ok (.istore_n 2, 1) := by decide +kernel
theorem dX5_putNumber_4 : decode cX5_putNumber 4 = .ok (.iload_n 2, 1) := by decide +kernel
theorem dX5_putNumber_5 : decode cX5_putNumber 5 = .ok (.iconst 1, 1) := by decide +kernel
theorem dX5_putNumber_6 : decode cX5_putNumber 6 = .ok (.if_icmp .lt 34, 3) := by decide +kernel
theorem dX5_putNumber_9 : decode cX5_putNumber 9 = .ok (.iload_n 1, 1) := by decide +kernel
theorem dX5_putNumber_10 : decode cX5_putNumber 10 = .ok (.iload_n 2, 1) := by decide +kernel
theorem dX5_putNumber_11 : decode cX5_putNumber 11 = .ok (.if_icmp .ge 8, 3) := by decide +kernel
theorem dX5_putNumber_19 : decode cX5_putNumber 19 = .ok (.aload_n 0, 1) := by decide +kernel
theorem dX5_putNumber_20 : decode cX5_putNumber 20 = .ok (.bipush 48, 2) := by decide +kernel
theorem dX5_putNumber_22 : decode cX5_putNumber 22 = .ok (.iload_n 1, 1) := by decide +kernel
theorem dX5_putNumber_23 : decode cX5_putNumber 23 = .ok (.iload_n 2, 1) := by decide +kernel
theorem dX5_putNumber_24 : decode cX5_putNumber 24 = .ok (.idiv, 1) := by decide +kernel
theorem dX5_putNumber_25 : decode cX5_putNumber 25 = .ok (.bipush 10, 2) := by decide +kernel
theorem dX5_putNumber_27 : decode cX5_putNumber 27 = .ok (.irem, 1) := by decide +kernel
theorem dX5_putNumber_28 : decode cX5_putNumber 28 = .ok (.iadd, 1) := by decide +kernel
theorem dX5_putNumber_29 : decode cX5_putNumber 29 = .ok (.invokevirtual 33, 3) := by decide +kernel
theorem dX5_putNumber_32 : decode cX5_putNumber 32 = .ok (.iload_n 2, 1) := by decide +kernel
theorem dX5_putNumber_33 : decode cX5_putNumber 33 = .ok (.bipush 10, 2) := by decide +kernel
theorem dX5_putNumber_35 : decode cX5_putNumber 35 = .ok (.idiv, 1) := by decide +kernel
theorem dX5_putNumber_36 : decode cX5_putNumber 36 = .ok (.istore_n 2, 1) := by decide +kernel
theorem dX5_putNumber_37 : decode cX5_putNumber 37 = .ok (.goto (-33), 3) := by decide +kernel
theorem dX5_putNumber_40 : decode cX5_putNumber 40 = .ok (.return_, 1) := by decide +kernel
theorem dX5_putNumber_14 : decode cX5_putNumber 14 = .ok (.iload_n 2, 1) := by decide +kernel
theorem dX5_putNumber_15 : decode cX5_putNumber 15 = .ok (.iconst 1, 1) := by decide +kernel
theorem dX5_putNumber_16 : decode cX5_putNumber 16 = .ok (.if_icmp .ne 16, 3) := by decide +kernel
theorem dX5_tellWay_0 : decode cX5_tellWay 0 = .ok (.iload_n 1, 1) := by decide +kernel
theorem dX5_tellWay_1 : decode cX5_tellWay 1 = .ok (.ifCond .ne 12, 3) := by decide +kernel
theorem dX5_tellWay_13 : decode cX5_tellWay 13 = .ok (.iload_n 1, 1) := by decide +kernel
theorem dX5_tellWay_14 : decode cX5_tellWay 14 = .ok (.iconst 2, 1) := by decide +kernel
theorem dX5_tellWay_15 : decode cX5_tellWay 15 = .ok (.if_icmp .gt 12, 3) := by decide +kernel
theorem dX5_tellWay_27 : decode cX5_tellWay 27 = .ok (.iload_n 1, 1) := by decide +kernel
theorem dX5_tellWay_28 : decode cX5_tellWay 28 = .ok (.bipush 6, 2) := by decide +kernel
theorem dX5_tellWay_30 : decode cX5_tellWay 30 = .ok (.if_icmp .lt 9, 3) := by decide +kernel
theorem dX5_tellWay_39 : decode cX5_tellWay 39 = .ok (.aload_n 0, 1) := by decide +kernel
theorem dX5_tellWay_40 : decode cX5_tellWay 40 = .ok (.iload_n 2, 1) := by decide +kernel
theorem dX5_tellWay_41 : decode cX5_tellWay 41 = .ok (.invokevirtual 40, 3) := by decide +kernel
theorem dX5_tellWay_44 : decode cX5_tellWay 44 = .ok (.iload_n 1, 1) := by decide +kernel
theorem dX5_tellWay_45 : decode cX5_tellWay 45 = .ok (.bipush 6, 2) := by decide +kernel
theorem dX5_tellWay_47 : decode cX5_tellWay 47 = .ok (.if_icmp .lt 9, 3) := by decide +kernel
theorem dX5_tellWay_56 : decode cX5_tellWay 56 = .ok (.iload_n 1, 1) := by decide +kernel
theorem dX5_tellWay_57 : decode cX5_tellWay 57 = .ok (.iconst 2, 1) := by decide +kernel
theorem dX5_tellWay_58 : decode cX5_tellWay 58 = .ok (.if_icmp .eq 8, 3) := by decide +kernel
theorem dX5_tellWay_66 : decode cX5_tellWay 66 = .ok (.aload_n 0, 1) := by decide +kernel
theorem dX5_tellWay_67 : decode cX5_tellWay 67 = .ok (.bipush 44, 2) := by decide +kernel
theorem dX5_tellWay_69 : decode cX5_tellWay 69 = .ok (.invokevirtual 33, 3) := by decide +kernel
theorem dX5_tellWay_72 : decode cX5_tellWay 72 = .ok (.aload_n 0, 1) := by decide +kernel
theorem dX5_tellWay_73 : decode cX5_tellWay 73 = .ok (.bipush 120, 2) := by decide +kernel
theorem dX5_tellWay_75 : decode cX5_tellWay 75 = .ok (.invokevirtual 33, 3) := by decide +kernel
theorem dX5_tellWay_78 : decode cX5_tellWay 78 = .ok (.goto 26, 3) := by decide +kernel
theorem dX5_tellWay_104 : decode cX5_tellWay 104 = .ok (.return_, 1) := by decide +kernel
theorem dX5_tellWay_61 : decode cX5_tellWay 61 = .ok (.iload_n 1, 1) := by decide +kernel
theorem dX5_tellWay_62 : decode cX5_tellWay 62 = .ok (.iconst 4, 1) := by decide +kernel
theorem dX5_tellWay_63 : decode cX5_tellWay 63 = .ok (.if_icmp .ne 18, 3) := by decide +kernel
theorem dX5_tellWay_81 : decode cX5_tellWay 81 = .ok (.iload_n 1, 1) := by decide +kernel
theorem dX5_tellWay_82 : decode cX5_tellWay 82 = .ok (.iconst 5, 1) := by decide +kernel
theorem dX5_tellWay_83 : decode cX5_tellWay 83 = .ok (.if_icmp .eq 9, 3) := by decide +kernel
theorem dX5_tellWay_92 : decode cX5_tellWay 92 = .ok (.aload_n 0, 1) := by decide +kernel
theorem dX5_tellWay_93 : decode cX5_tellWay 93 = .ok (.bipush 44, 2) := by decide +kernel
theorem dX5_tellWay_95 : decode cX5_tellWay 95 = .ok (.invokevirtual 33, 3) := by decide +kernel
theorem dX5_tellWay_98 : decode cX5_tellWay 98 = .ok (.aload_n 0, 1) := by decide +kernel
theorem dX5_tellWay_99 : decode cX5_tellWay 99 = .ok (.bipush 121, 2) := by decide +kernel
theorem dX5_tellWay_101 : decode cX5_tellWay 101 = .ok (.invokevirtual 33, 3) := by decide +kernel
theorem dX5_tellWay_86 : decode cX5_tellWay 86 = .ok (.iload_n 1, 1) := by decide +kernel
theorem dX5_tellWay_87 : decode cX5_tellWay 87 = .ok (.bipush 7, 2) := by decide +kernel
theorem dX5_tellWay_89 : decode cX5_tellWay 89 = .ok (.if_icmp .ne 15, 3) := by decide +kernel
theorem dX5_tellWay_50 : decode cX5_tellWay 50 = .ok (.aload_n 0, 1) := by decide +kernel
theorem dX5_tellWay_51 : decode cX5_tellWay 51 = .ok (.bipush 41, 2) := by decide +kernel
theorem dX5_tellWay_53 : decode cX5_tellWay 53 = .ok (.invokevirtual 33, 3) := by decide +kernel
theorem dX5_tellWay_33 : decode cX5_tellWay 33 = .ok (.aload_n 0, 1) := by decide +kernel
theorem dX5_tellWay_34 : decode cX5_tellWay 34 = .ok (.bipush 40, 2) := by decide +kernel
theorem dX5_tellWay_36 : decode cX5_tellWay 36 = .ok (.invokevirtual 33, 3) := by decide +kernel
theorem dX5_tellWay_18 : decode cX5_tellWay 18 = .ok (.aload_n 0, 1) := by decide +kernel
theorem dX5_tellWay_19 : decode cX5_tellWay 19 = .ok (.bipush 60, 2) := by decide +kernel
theorem dX5_tellWay_21 : decode cX5_tellWay 21 = .ok (.invokevirtual 33, 3) := by decide +kernel
theorem dX5_tellWay_24 : decode cX5_tellWay 24 = .ok (.goto 15, 3) := by decide +kernel
theorem dX5_tellWay_4 : decode cX5_tellWay 4 = .ok (.aload_n 0, 1) := by decide +kernel
theorem dX5_tellWay_5 : decode cX5_tellWay 5 = .ok (.bipush 35, 2) := by decide +kernel
theorem dX5_tellWay_7 : decode cX5_tellWay 7 = .ok (.invokevirtual 33, 3) := by decide +kernel
theorem dX5_tellWay_10 : decode cX5_tellWay 10 = .ok (.goto 29, 3) := by decide +kernel
theorem dX5_putIllegal_0 : decode cX5_putIllegal 0 = .ok (.aload_n 0, 1) := by decide +kernel
theorem dX5_putIllegal_1 : decode cX5_putIllegal 1 = .ok (.bipush 98, 2) := by decide +kernel
theorem dX5_putIllegal_3 : decode cX5_putIllegal 3 = .ok (.invokevirtual 33, 3) := by decide +kernel
theorem dX5_putIllegal_6 : decode cX5_putIllegal 6 = .ok (.aload_n 0, 1) := by decide +kernel
theorem dX5_putIllegal_7 : decode cX5_putIllegal 7 = .ok (.bipush 121, 2) := by decide +kernel
theorem dX5_putIllegal_9 : decode cX5_putIllegal 9 = .ok (.invokevirtual 33, 3) := by decide +kernel
theorem dX5_putIllegal_12 : decode cX5_putIllegal 12 = .ok (.aload_n 0, 1) := by decide +kernel
theorem dX5_putIllegal_13 : decode cX5_putIllegal 13 = .ok (.bipush 116, 2) := by decide +kernel
theorem dX5_putIllegal_15 : decode cX5_putIllegal 15 = .ok (.invokevirtual 33, 3) := by decide +kernel
theorem dX5_putIllegal_18 : decode cX5_putIllegal 18 = .ok (.aload_n 0, 1) := by decide +kernel
theorem dX5_putIllegal_19 : decode cX5_putIllegal 19 = .ok (.bipush 101, 2) := by decide +kernel
theorem dX5_putIllegal_21 : decode cX5_putIllegal 21 = .ok (.invokevirtual 33, 3) := by decide +kernel
theorem dX5_putIllegal_24 : decode cX5_putIllegal 24 = .ok (.aload_n 0, 1) := by decide +kernel
theorem dX5_putIllegal_25 : decode cX5_putIllegal 25 = .ok (.bipush 32, 2) := by decide +kernel
theorem dX5_putIllegal_27 : decode cX5_putIllegal 27 = .ok (.invokevirtual 33, 3) := by decide +kernel
theorem dX5_putIllegal_30 : decode cX5_putIllegal 30 = .ok (.aload_n 0, 1) := by decide +kernel
theorem dX5_putIllegal_31 : decode cX5_putIllegal 31 = .ok (.sipush 216, 3) := by decide +kernel
theorem dX5_putIllegal_34 : decode cX5_putIllegal 34 = .ok (.invokevirtual 40, 3) := by decide +kernel
theorem dX5_putIllegal_37 : decode cX5_putIllegal 37 = .ok (.aload_n 0, 1) := by decide +kernel
theorem dX5_putIllegal_38 : decode cX5_putIllegal 38 = .ok (.bipush 44, 2) := by decide +kernel
theorem dX5_putIllegal_40 : decode cX5_putIllegal 40 = .ok (.invokevirtual 33, 3) := by decide +kernel
theorem dX5_putIllegal_43 : decode cX5_putIllegal 43 = .ok (.aload_n 0, 1) := by decide +kernel
theorem dX5_putIllegal_44 : decode cX5_putIllegal 44 = .ok (.iload_n 1, 1) := by decide +kernel
theorem dX5_putIllegal_45 : decode cX5_putIllegal 45 = .ok (.invokevirtual 40, 3) := by decide +kernel
theorem dX5_putIllegal_48 : decode cX5_putIllegal 48 = .ok (.return_, 1) := by decide +kernel
set_option maxHeartbeats 4000000 in
set_option maxRecDepth 100000 in
theorem c_s_put (l : Launch) (D : va_G) (cA cB : ClassId) (h0 : Nat) (qel : Nat) (rl : Nat) (lt : Nat → Int32) (v : Int32) (hrl : rl < 17) : CV l yX5_put cX5_put 2 none 0 0 0 0 D cA cB [.ref h0, .int v] [(h0, .inr (5, [.ref qel, .int (nI rl)])), (qel, .inl (cA, 16, .inl lt))] (fun W1 => ∃ (rl2 : Nat) (lt2 : Nat → Int32), (rl2 < 17) ∧ W1 = [(h0, .inr (5, [.ref qel, .int (nI rl2)])), (qel, .inl (cA, 16, .inl lt2))]) := by
  refine mkV (lv0 := [(0, .ref h0), (1, .int v)]) (by decide) (Nat.le_of_ble_eq_true rfl) rfl ?_
  intro p e s m below meth c A ls X hr hlocks hnm hE hA hP hD hS hl
  have hx := X.1
  have hb := X.2.1
  refine lv_aload_n hx hb dX5_put_0 rfl (lv_at hl 0 rfl) ?_
  refine k_get (C := RX5) (T := TX5) (N := 2) (ci := 5) (v := .int (nI rl)) X hE hP 0 rfl rfl iX5 1 (by decide) w_405 rfl dX5_put_1 ?_
  refine lv_bipush (v := 16) hx hb dX5_put_4 (by decide) ?_
  refine lv_icmp_ge (tgt := 29) hx hb dX5_put_6 (by decide) (fun c_6_1 => ?_) (fun c_6_1 => ?_)
  · have nc_6_1 : 16 ≤ rl := (nI_leI (a := 16) (b := rl) (by omega) (by omega)).mp c_6_1
    exact endV X hr hlocks hP hD hS dX5_put_29 ⟨rl, lt, (by omega), rfl⟩
  · have nc_6_1 : rl < 16 := Nat.not_le.mp (fun q => c_6_1 ((nI_leI (a := 16) (b := rl) (by omega) (by omega)).mpr q))
    refine lv_aload_n hx hb dX5_put_9 rfl (lv_at hl 0 rfl) ?_
    refine k_get (C := RX5) (T := TX5) (N := 2) (ci := 5) (v := .ref qel) X hE hP 0 rfl rfl iX5 0 (by decide) w_406 rfl dX5_put_10 ?_
    refine lv_aload_n hx hb dX5_put_13 rfl (lv_at hl 0 rfl) ?_
    refine k_get (C := RX5) (T := TX5) (N := 2) (ci := 5) (v := .int (nI rl)) X hE hP 0 rfl rfl iX5 1 (by decide) w_405 rfl dX5_put_14 ?_
    refine lv_iload_n hx hb dX5_put_17 rfl (lv_at hl 1 rfl) ?_
    refine k_ast X hE hP hD hS 1 rfl rl rfl (by omega) (by decide) [(h0, .inr (5, [.ref qel, .int (nI rl)])), (qel, .inl (cA, 16, .inl (upd lt rl v)))] rfl dX5_put_18 (fun H locs hP hD hS => ?_)
    obtain ⟨g_2, eg_2⟩ : ∃ z, z = upd lt rl v := ⟨_, rfl⟩
    rw [← eg_2] at hP hD
    have hP : va_P D classes [(h0, .inr (5, [.ref qel, .int (nI rl)])), (qel, .inl (cA, 16, .inl g_2))] H := hP
    have hD : va_D A [(h0, .inr (5, [.ref qel, .int (nI rl)])), (qel, .inl (cA, 16, .inl g_2))] := hD
    refine lv_aload_n hx hb dX5_put_19 rfl (lv_at hl 0 rfl) ?_
    refine lv_dup hx hb dX5_put_20 rfl ?_
    refine k_get (C := RX5) (T := TX5) (N := 2) (ci := 5) (v := .int (nI rl)) X hE hP 0 rfl rfl iX5 1 (by decide) w_405 rfl dX5_put_21 ?_
    refine lv_iconst (v := 1) hx hb dX5_put_24 (by decide) ?_
    refine lv_iadd hx hb dX5_put_25 ?_
    refine tk (y := nI (rl + 1)) (nI_add rl 1) ?_
    refine k_put (C := RX5) (T := TX5) (N := 2) (ci := 5) (v := .int (nI (rl + 1))) (ty := .int) X hE hP hD hS 0 rfl rfl iX5 tyX5 tyX5_ok nmX5 1 (by decide) w_405 rfl (by decide +kernel) rfl rfl (Nat.le_of_ble_eq_true rfl) [(h0, .inr (5, [.ref qel, .int (nI (rl + 1))])), (qel, .inl (cA, 16, .inl g_2))] rfl dX5_put_26 (fun H locs hP hD hS => ?_)
    exact endV X hr hlocks hP hD hS dX5_put_29 ⟨(rl + 1), g_2, (by omega), rfl⟩
set_option maxHeartbeats 4000000 in
set_option maxRecDepth 100000 in
theorem c_s_putNumber (l : Launch) (D : va_G) (cA cB : ClassId) (h0 : Nat) (qel : Nat) (rl : Nat) (lt : Nat → Int32) (v : Int32) (hrl : rl < 17) : CV l yX5_putNumber cX5_putNumber 3 none 1 21 0 0 D cA cB [.ref h0, .int v] [(h0, .inr (5, [.ref qel, .int (nI rl)])), (qel, .inl (cA, 16, .inl lt))] (fun W1 => ∃ (rl2 : Nat) (lt2 : Nat → Int32), (rl2 < 17) ∧ W1 = [(h0, .inr (5, [.ref qel, .int (nI rl2)])), (qel, .inl (cA, 16, .inl lt2))]) := by
  refine mkV (lv0 := [(0, .ref h0), (1, .int v)]) (by decide) (Nat.le_of_ble_eq_true rfl) rfl ?_
  intro p e s m below meth c A ls X hr hlocks hnm hE hA hP hD hS hl
  have hx := X.1
  have hb := X.2.1
  refine lv_sipush (v := 10000) hx hb dX5_putNumber_0 (by decide) ?_
  refine lv_istore_n (lv' := [(2, .int 10000), (0, .ref h0), (1, .int v)]) hx hb dX5_putNumber_3 rfl hl (by decide) rfl (fun ls hl => ?_)
  refine lv_iload_n hx hb dX5_putNumber_4 rfl (lv_at hl 0 rfl) ?_
  refine lv_iconst (v := 1) hx hb dX5_putNumber_5 (by decide) ?_
  refine lv_icmp_lt (tgt := 40) hx hb dX5_putNumber_6 (by decide) (fun c_6 => absurd c_6 (by decide)) (fun c_6 => ?_)
  refine lv_iload_n hx hb dX5_putNumber_9 rfl (lv_at hl 2 rfl) ?_
  refine lv_iload_n hx hb dX5_putNumber_10 rfl (lv_at hl 0 rfl) ?_
  refine lv_icmp_ge (tgt := 19) hx hb dX5_putNumber_11 (by decide) (fun c_11 => ?_) (fun c_11 => ?_)
  · skip
    refine lv_aload_n hx hb dX5_putNumber_19 rfl (lv_at hl 1 rfl) ?_
    refine lv_bipush (v := 48) hx hb dX5_putNumber_20 (by decide) ?_
    refine lv_iload_n hx hb dX5_putNumber_22 rfl (lv_at hl 2 rfl) ?_
    refine lv_iload_n hx hb dX5_putNumber_23 rfl (lv_at hl 0 rfl) ?_
    refine lv_idiv hx hb dX5_putNumber_24 (by decide) ?_
    refine lv_bipush (v := 10) hx hb dX5_putNumber_25 (by decide) ?_
    refine lv_irem hx hb dX5_putNumber_27 (by decide) ?_
    refine lv_iadd hx hb dX5_putNumber_28 ?_
    refine kVv (n3 := 1) (As := [.int (48 + ((v / 10000) - (v / 10000) / 10 * 10))]) (rest := []) X hl.1 hE hP hD hS hA [(h0, .inr (5, [.ref qel, .int (nI rl)])), (qel, .inl (cA, 16, .inl lt))] [] [0, 1] [] rfl rfl rfl (by decide +kernel) (by decide +kernel) (by decide +kernel) (c_s_put l D cA cB h0 qel rl lt (48 + ((v / 10000) - (v / 10000) / 10 * 10)) (by first | assumption | decide | rfl | omega)) w_408 w_409 w_407 w_410 w_411 0 (ci := 5) (T := TX5) (N := 2) rfl rfl (by decide +kernel) rfl rfl (Nat.le_of_ble_eq_true rfl) ⟨(Nat.le_of_ble_eq_true rfl), (Nat.le_of_ble_eq_true rfl)⟩ ⟨(Nat.le_of_ble_eq_true rfl), (Nat.le_of_ble_eq_true rfl)⟩ dX5_putNumber_29 (fun W1 H locs hw hP hD hS => ?_)
    obtain ⟨rl2_1, lt2_2, hf_3, rfl⟩ := hw
    have hP : va_P D classes [(h0, .inr (5, [.ref qel, .int (nI rl2_1)])), (qel, .inl (cA, 16, .inl lt2_2))] H := hP
    have hD : va_D A [(h0, .inr (5, [.ref qel, .int (nI rl2_1)])), (qel, .inl (cA, 16, .inl lt2_2))] := hD
    refine lv_iload_n hx hb dX5_putNumber_32 rfl (lv_at hl 0 rfl) ?_
    refine lv_bipush (v := 10) hx hb dX5_putNumber_33 (by decide) ?_
    refine lv_idiv hx hb dX5_putNumber_35 (by decide) ?_
    refine tk (y := 1000) (by decide) ?_
    refine lv_istore_n (lv' := [(2, .int 1000), (0, .ref h0), (1, .int v)]) hx hb dX5_putNumber_36 rfl hl (by decide) rfl (fun ls hl => ?_)
    refine lv_goto (tgt := 4) hx hb dX5_putNumber_37 (by decide) ?_
    refine lv_iload_n hx hb dX5_putNumber_4 rfl (lv_at hl 0 rfl) ?_
    refine lv_iconst (v := 1) hx hb dX5_putNumber_5 (by decide) ?_
    refine lv_icmp_lt (tgt := 40) hx hb dX5_putNumber_6 (by decide) (fun c_6_4 => absurd c_6_4 (by decide)) (fun c_6_4 => ?_)
    refine lv_iload_n hx hb dX5_putNumber_9 rfl (lv_at hl 2 rfl) ?_
    refine lv_iload_n hx hb dX5_putNumber_10 rfl (lv_at hl 0 rfl) ?_
    refine lv_icmp_ge (tgt := 19) hx hb dX5_putNumber_11 (by decide) (fun c_11_5 => ?_) (fun c_11_5 => ?_)
    · skip
      refine lv_aload_n hx hb dX5_putNumber_19 rfl (lv_at hl 1 rfl) ?_
      refine lv_bipush (v := 48) hx hb dX5_putNumber_20 (by decide) ?_
      refine lv_iload_n hx hb dX5_putNumber_22 rfl (lv_at hl 2 rfl) ?_
      refine lv_iload_n hx hb dX5_putNumber_23 rfl (lv_at hl 0 rfl) ?_
      refine lv_idiv hx hb dX5_putNumber_24 (by decide) ?_
      refine lv_bipush (v := 10) hx hb dX5_putNumber_25 (by decide) ?_
      refine lv_irem hx hb dX5_putNumber_27 (by decide) ?_
      refine lv_iadd hx hb dX5_putNumber_28 ?_
      refine kVv (n3 := 1) (As := [.int (48 + ((v / 1000) - (v / 1000) / 10 * 10))]) (rest := []) X hl.1 hE hP hD hS hA [(h0, .inr (5, [.ref qel, .int (nI rl2_1)])), (qel, .inl (cA, 16, .inl lt2_2))] [] [0, 1] [] rfl rfl rfl (by decide +kernel) (by decide +kernel) (by decide +kernel) (c_s_put l D cA cB h0 qel rl2_1 lt2_2 (48 + ((v / 1000) - (v / 1000) / 10 * 10)) (by first | assumption | decide | rfl | omega)) w_408 w_409 w_407 w_410 w_411 0 (ci := 5) (T := TX5) (N := 2) rfl rfl (by decide +kernel) rfl rfl (Nat.le_of_ble_eq_true rfl) ⟨(Nat.le_of_ble_eq_true rfl), (Nat.le_of_ble_eq_true rfl)⟩ ⟨(Nat.le_of_ble_eq_true rfl), (Nat.le_of_ble_eq_true rfl)⟩ dX5_putNumber_29 (fun W1 H locs hw hP hD hS => ?_)
      obtain ⟨rl2_6, lt2_7, hf_8, rfl⟩ := hw
      have hP : va_P D classes [(h0, .inr (5, [.ref qel, .int (nI rl2_6)])), (qel, .inl (cA, 16, .inl lt2_7))] H := hP
      have hD : va_D A [(h0, .inr (5, [.ref qel, .int (nI rl2_6)])), (qel, .inl (cA, 16, .inl lt2_7))] := hD
      refine lv_iload_n hx hb dX5_putNumber_32 rfl (lv_at hl 0 rfl) ?_
      refine lv_bipush (v := 10) hx hb dX5_putNumber_33 (by decide) ?_
      refine lv_idiv hx hb dX5_putNumber_35 (by decide) ?_
      refine tk (y := 100) (by decide) ?_
      refine lv_istore_n (lv' := [(2, .int 100), (0, .ref h0), (1, .int v)]) hx hb dX5_putNumber_36 rfl hl (by decide) rfl (fun ls hl => ?_)
      refine lv_goto (tgt := 4) hx hb dX5_putNumber_37 (by decide) ?_
      refine lv_iload_n hx hb dX5_putNumber_4 rfl (lv_at hl 0 rfl) ?_
      refine lv_iconst (v := 1) hx hb dX5_putNumber_5 (by decide) ?_
      refine lv_icmp_lt (tgt := 40) hx hb dX5_putNumber_6 (by decide) (fun c_6_9 => absurd c_6_9 (by decide)) (fun c_6_9 => ?_)
      refine lv_iload_n hx hb dX5_putNumber_9 rfl (lv_at hl 2 rfl) ?_
      refine lv_iload_n hx hb dX5_putNumber_10 rfl (lv_at hl 0 rfl) ?_
      refine lv_icmp_ge (tgt := 19) hx hb dX5_putNumber_11 (by decide) (fun c_11_10 => ?_) (fun c_11_10 => ?_)
      · skip
        refine lv_aload_n hx hb dX5_putNumber_19 rfl (lv_at hl 1 rfl) ?_
        refine lv_bipush (v := 48) hx hb dX5_putNumber_20 (by decide) ?_
        refine lv_iload_n hx hb dX5_putNumber_22 rfl (lv_at hl 2 rfl) ?_
        refine lv_iload_n hx hb dX5_putNumber_23 rfl (lv_at hl 0 rfl) ?_
        refine lv_idiv hx hb dX5_putNumber_24 (by decide) ?_
        refine lv_bipush (v := 10) hx hb dX5_putNumber_25 (by decide) ?_
        refine lv_irem hx hb dX5_putNumber_27 (by decide) ?_
        refine lv_iadd hx hb dX5_putNumber_28 ?_
        refine kVv (n3 := 1) (As := [.int (48 + ((v / 100) - (v / 100) / 10 * 10))]) (rest := []) X hl.1 hE hP hD hS hA [(h0, .inr (5, [.ref qel, .int (nI rl2_6)])), (qel, .inl (cA, 16, .inl lt2_7))] [] [0, 1] [] rfl rfl rfl (by decide +kernel) (by decide +kernel) (by decide +kernel) (c_s_put l D cA cB h0 qel rl2_6 lt2_7 (48 + ((v / 100) - (v / 100) / 10 * 10)) (by first | assumption | decide | rfl | omega)) w_408 w_409 w_407 w_410 w_411 0 (ci := 5) (T := TX5) (N := 2) rfl rfl (by decide +kernel) rfl rfl (Nat.le_of_ble_eq_true rfl) ⟨(Nat.le_of_ble_eq_true rfl), (Nat.le_of_ble_eq_true rfl)⟩ ⟨(Nat.le_of_ble_eq_true rfl), (Nat.le_of_ble_eq_true rfl)⟩ dX5_putNumber_29 (fun W1 H locs hw hP hD hS => ?_)
        obtain ⟨rl2_11, lt2_12, hf_13, rfl⟩ := hw
        have hP : va_P D classes [(h0, .inr (5, [.ref qel, .int (nI rl2_11)])), (qel, .inl (cA, 16, .inl lt2_12))] H := hP
        have hD : va_D A [(h0, .inr (5, [.ref qel, .int (nI rl2_11)])), (qel, .inl (cA, 16, .inl lt2_12))] := hD
        refine lv_iload_n hx hb dX5_putNumber_32 rfl (lv_at hl 0 rfl) ?_
        refine lv_bipush (v := 10) hx hb dX5_putNumber_33 (by decide) ?_
        refine lv_idiv hx hb dX5_putNumber_35 (by decide) ?_
        refine tk (y := 10) (by decide) ?_
        refine lv_istore_n (lv' := [(2, .int 10), (0, .ref h0), (1, .int v)]) hx hb dX5_putNumber_36 rfl hl (by decide) rfl (fun ls hl => ?_)
        refine lv_goto (tgt := 4) hx hb dX5_putNumber_37 (by decide) ?_
        refine lv_iload_n hx hb dX5_putNumber_4 rfl (lv_at hl 0 rfl) ?_
        refine lv_iconst (v := 1) hx hb dX5_putNumber_5 (by decide) ?_
        refine lv_icmp_lt (tgt := 40) hx hb dX5_putNumber_6 (by decide) (fun c_6_14 => absurd c_6_14 (by decide)) (fun c_6_14 => ?_)
        refine lv_iload_n hx hb dX5_putNumber_9 rfl (lv_at hl 2 rfl) ?_
        refine lv_iload_n hx hb dX5_putNumber_10 rfl (lv_at hl 0 rfl) ?_
        refine lv_icmp_ge (tgt := 19) hx hb dX5_putNumber_11 (by decide) (fun c_11_15 => ?_) (fun c_11_15 => ?_)
        · skip
          refine lv_aload_n hx hb dX5_putNumber_19 rfl (lv_at hl 1 rfl) ?_
          refine lv_bipush (v := 48) hx hb dX5_putNumber_20 (by decide) ?_
          refine lv_iload_n hx hb dX5_putNumber_22 rfl (lv_at hl 2 rfl) ?_
          refine lv_iload_n hx hb dX5_putNumber_23 rfl (lv_at hl 0 rfl) ?_
          refine lv_idiv hx hb dX5_putNumber_24 (by decide) ?_
          refine lv_bipush (v := 10) hx hb dX5_putNumber_25 (by decide) ?_
          refine lv_irem hx hb dX5_putNumber_27 (by decide) ?_
          refine lv_iadd hx hb dX5_putNumber_28 ?_
          refine kVv (n3 := 1) (As := [.int (48 + ((v / 10) - (v / 10) / 10 * 10))]) (rest := []) X hl.1 hE hP hD hS hA [(h0, .inr (5, [.ref qel, .int (nI rl2_11)])), (qel, .inl (cA, 16, .inl lt2_12))] [] [0, 1] [] rfl rfl rfl (by decide +kernel) (by decide +kernel) (by decide +kernel) (c_s_put l D cA cB h0 qel rl2_11 lt2_12 (48 + ((v / 10) - (v / 10) / 10 * 10)) (by first | assumption | decide | rfl | omega)) w_408 w_409 w_407 w_410 w_411 0 (ci := 5) (T := TX5) (N := 2) rfl rfl (by decide +kernel) rfl rfl (Nat.le_of_ble_eq_true rfl) ⟨(Nat.le_of_ble_eq_true rfl), (Nat.le_of_ble_eq_true rfl)⟩ ⟨(Nat.le_of_ble_eq_true rfl), (Nat.le_of_ble_eq_true rfl)⟩ dX5_putNumber_29 (fun W1 H locs hw hP hD hS => ?_)
          obtain ⟨rl2_16, lt2_17, hf_18, rfl⟩ := hw
          have hP : va_P D classes [(h0, .inr (5, [.ref qel, .int (nI rl2_16)])), (qel, .inl (cA, 16, .inl lt2_17))] H := hP
          have hD : va_D A [(h0, .inr (5, [.ref qel, .int (nI rl2_16)])), (qel, .inl (cA, 16, .inl lt2_17))] := hD
          refine lv_iload_n hx hb dX5_putNumber_32 rfl (lv_at hl 0 rfl) ?_
          refine lv_bipush (v := 10) hx hb dX5_putNumber_33 (by decide) ?_
          refine lv_idiv hx hb dX5_putNumber_35 (by decide) ?_
          refine tk (y := 1) (by decide) ?_
          refine lv_istore_n (lv' := [(2, .int 1), (0, .ref h0), (1, .int v)]) hx hb dX5_putNumber_36 rfl hl (by decide) rfl (fun ls hl => ?_)
          refine lv_goto (tgt := 4) hx hb dX5_putNumber_37 (by decide) ?_
          refine lv_iload_n hx hb dX5_putNumber_4 rfl (lv_at hl 0 rfl) ?_
          refine lv_iconst (v := 1) hx hb dX5_putNumber_5 (by decide) ?_
          refine lv_icmp_lt (tgt := 40) hx hb dX5_putNumber_6 (by decide) (fun c_6_19 => absurd c_6_19 (by decide)) (fun c_6_19 => ?_)
          refine lv_iload_n hx hb dX5_putNumber_9 rfl (lv_at hl 2 rfl) ?_
          refine lv_iload_n hx hb dX5_putNumber_10 rfl (lv_at hl 0 rfl) ?_
          refine lv_icmp_ge (tgt := 19) hx hb dX5_putNumber_11 (by decide) (fun c_11_20 => ?_) (fun c_11_20 => ?_)
          · skip
            refine lv_aload_n hx hb dX5_putNumber_19 rfl (lv_at hl 1 rfl) ?_
            refine lv_bipush (v := 48) hx hb dX5_putNumber_20 (by decide) ?_
            refine lv_iload_n hx hb dX5_putNumber_22 rfl (lv_at hl 2 rfl) ?_
            refine lv_iload_n hx hb dX5_putNumber_23 rfl (lv_at hl 0 rfl) ?_
            refine lv_idiv hx hb dX5_putNumber_24 (by decide) ?_
            refine lv_bipush (v := 10) hx hb dX5_putNumber_25 (by decide) ?_
            refine lv_irem hx hb dX5_putNumber_27 (by decide) ?_
            refine lv_iadd hx hb dX5_putNumber_28 ?_
            refine kVv (n3 := 1) (As := [.int (48 + ((v / 1) - (v / 1) / 10 * 10))]) (rest := []) X hl.1 hE hP hD hS hA [(h0, .inr (5, [.ref qel, .int (nI rl2_16)])), (qel, .inl (cA, 16, .inl lt2_17))] [] [0, 1] [] rfl rfl rfl (by decide +kernel) (by decide +kernel) (by decide +kernel) (c_s_put l D cA cB h0 qel rl2_16 lt2_17 (48 + ((v / 1) - (v / 1) / 10 * 10)) (by first | assumption | decide | rfl | omega)) w_408 w_409 w_407 w_410 w_411 0 (ci := 5) (T := TX5) (N := 2) rfl rfl (by decide +kernel) rfl rfl (Nat.le_of_ble_eq_true rfl) ⟨(Nat.le_of_ble_eq_true rfl), (Nat.le_of_ble_eq_true rfl)⟩ ⟨(Nat.le_of_ble_eq_true rfl), (Nat.le_of_ble_eq_true rfl)⟩ dX5_putNumber_29 (fun W1 H locs hw hP hD hS => ?_)
            obtain ⟨rl2_21, lt2_22, hf_23, rfl⟩ := hw
            have hP : va_P D classes [(h0, .inr (5, [.ref qel, .int (nI rl2_21)])), (qel, .inl (cA, 16, .inl lt2_22))] H := hP
            have hD : va_D A [(h0, .inr (5, [.ref qel, .int (nI rl2_21)])), (qel, .inl (cA, 16, .inl lt2_22))] := hD
            refine lv_iload_n hx hb dX5_putNumber_32 rfl (lv_at hl 0 rfl) ?_
            refine lv_bipush (v := 10) hx hb dX5_putNumber_33 (by decide) ?_
            refine lv_idiv hx hb dX5_putNumber_35 (by decide) ?_
            refine tk (y := 0) (by decide) ?_
            refine lv_istore_n (lv' := [(2, .int 0), (0, .ref h0), (1, .int v)]) hx hb dX5_putNumber_36 rfl hl (by decide) rfl (fun ls hl => ?_)
            refine lv_goto (tgt := 4) hx hb dX5_putNumber_37 (by decide) ?_
            refine lv_iload_n hx hb dX5_putNumber_4 rfl (lv_at hl 0 rfl) ?_
            refine lv_iconst (v := 1) hx hb dX5_putNumber_5 (by decide) ?_
            refine lv_icmp_lt (tgt := 40) hx hb dX5_putNumber_6 (by decide) (fun c_6_24 => ?_) (fun c_6_24 => absurd (by decide) c_6_24)
            exact endV X hr hlocks hP hD hS dX5_putNumber_40 ⟨rl2_21, lt2_22, (by omega), rfl⟩
          · skip
            refine lv_iload_n hx hb dX5_putNumber_14 rfl (lv_at hl 0 rfl) ?_
            refine lv_iconst (v := 1) hx hb dX5_putNumber_15 (by decide) ?_
            refine lv_icmp_ne (tgt := 32) hx hb dX5_putNumber_16 (by decide) (fun c_16 => absurd (by decide) c_16) (fun c_16 => ?_)
            refine lv_aload_n hx hb dX5_putNumber_19 rfl (lv_at hl 1 rfl) ?_
            refine lv_bipush (v := 48) hx hb dX5_putNumber_20 (by decide) ?_
            refine lv_iload_n hx hb dX5_putNumber_22 rfl (lv_at hl 2 rfl) ?_
            refine lv_iload_n hx hb dX5_putNumber_23 rfl (lv_at hl 0 rfl) ?_
            refine lv_idiv hx hb dX5_putNumber_24 (by decide) ?_
            refine lv_bipush (v := 10) hx hb dX5_putNumber_25 (by decide) ?_
            refine lv_irem hx hb dX5_putNumber_27 (by decide) ?_
            refine lv_iadd hx hb dX5_putNumber_28 ?_
            refine kVv (n3 := 1) (As := [.int (48 + ((v / 1) - (v / 1) / 10 * 10))]) (rest := []) X hl.1 hE hP hD hS hA [(h0, .inr (5, [.ref qel, .int (nI rl2_16)])), (qel, .inl (cA, 16, .inl lt2_17))] [] [0, 1] [] rfl rfl rfl (by decide +kernel) (by decide +kernel) (by decide +kernel) (c_s_put l D cA cB h0 qel rl2_16 lt2_17 (48 + ((v / 1) - (v / 1) / 10 * 10)) (by first | assumption | decide | rfl | omega)) w_408 w_409 w_407 w_410 w_411 0 (ci := 5) (T := TX5) (N := 2) rfl rfl (by decide +kernel) rfl rfl (Nat.le_of_ble_eq_true rfl) ⟨(Nat.le_of_ble_eq_true rfl), (Nat.le_of_ble_eq_true rfl)⟩ ⟨(Nat.le_of_ble_eq_true rfl), (Nat.le_of_ble_eq_true rfl)⟩ dX5_putNumber_29 (fun W1 H locs hw hP hD hS => ?_)
            obtain ⟨rl2_25, lt2_26, hf_27, rfl⟩ := hw
            have hP : va_P D classes [(h0, .inr (5, [.ref qel, .int (nI rl2_25)])), (qel, .inl (cA, 16, .inl lt2_26))] H := hP
            have hD : va_D A [(h0, .inr (5, [.ref qel, .int (nI rl2_25)])), (qel, .inl (cA, 16, .inl lt2_26))] := hD
            refine lv_iload_n hx hb dX5_putNumber_32 rfl (lv_at hl 0 rfl) ?_
            refine lv_bipush (v := 10) hx hb dX5_putNumber_33 (by decide) ?_
            refine lv_idiv hx hb dX5_putNumber_35 (by decide) ?_
            refine tk (y := 0) (by decide) ?_
            refine lv_istore_n (lv' := [(2, .int 0), (0, .ref h0), (1, .int v)]) hx hb dX5_putNumber_36 rfl hl (by decide) rfl (fun ls hl => ?_)
            refine lv_goto (tgt := 4) hx hb dX5_putNumber_37 (by decide) ?_
            refine lv_iload_n hx hb dX5_putNumber_4 rfl (lv_at hl 0 rfl) ?_
            refine lv_iconst (v := 1) hx hb dX5_putNumber_5 (by decide) ?_
            refine lv_icmp_lt (tgt := 40) hx hb dX5_putNumber_6 (by decide) (fun c_6_28 => ?_) (fun c_6_28 => absurd (by decide) c_6_28)
            exact endV X hr hlocks hP hD hS dX5_putNumber_40 ⟨rl2_25, lt2_26, (by omega), rfl⟩
        · skip
          refine lv_iload_n hx hb dX5_putNumber_14 rfl (lv_at hl 0 rfl) ?_
          refine lv_iconst (v := 1) hx hb dX5_putNumber_15 (by decide) ?_
          refine lv_icmp_ne (tgt := 32) hx hb dX5_putNumber_16 (by decide) (fun c_16 => ?_) (fun c_16 => absurd c_16 (by decide))
          refine lv_iload_n hx hb dX5_putNumber_32 rfl (lv_at hl 0 rfl) ?_
          refine lv_bipush (v := 10) hx hb dX5_putNumber_33 (by decide) ?_
          refine lv_idiv hx hb dX5_putNumber_35 (by decide) ?_
          refine tk (y := 1) (by decide) ?_
          refine lv_istore_n (lv' := [(2, .int 1), (0, .ref h0), (1, .int v)]) hx hb dX5_putNumber_36 rfl hl (by decide) rfl (fun ls hl => ?_)
          refine lv_goto (tgt := 4) hx hb dX5_putNumber_37 (by decide) ?_
          refine lv_iload_n hx hb dX5_putNumber_4 rfl (lv_at hl 0 rfl) ?_
          refine lv_iconst (v := 1) hx hb dX5_putNumber_5 (by decide) ?_
          refine lv_icmp_lt (tgt := 40) hx hb dX5_putNumber_6 (by decide) (fun c_6_29 => absurd c_6_29 (by decide)) (fun c_6_29 => ?_)
          refine lv_iload_n hx hb dX5_putNumber_9 rfl (lv_at hl 2 rfl) ?_
          refine lv_iload_n hx hb dX5_putNumber_10 rfl (lv_at hl 0 rfl) ?_
          refine lv_icmp_ge (tgt := 19) hx hb dX5_putNumber_11 (by decide) (fun c_11_30 => ?_) (fun c_11_30 => ?_)
          · skip
            refine lv_aload_n hx hb dX5_putNumber_19 rfl (lv_at hl 1 rfl) ?_
            refine lv_bipush (v := 48) hx hb dX5_putNumber_20 (by decide) ?_
            refine lv_iload_n hx hb dX5_putNumber_22 rfl (lv_at hl 2 rfl) ?_
            refine lv_iload_n hx hb dX5_putNumber_23 rfl (lv_at hl 0 rfl) ?_
            refine lv_idiv hx hb dX5_putNumber_24 (by decide) ?_
            refine lv_bipush (v := 10) hx hb dX5_putNumber_25 (by decide) ?_
            refine lv_irem hx hb dX5_putNumber_27 (by decide) ?_
            refine lv_iadd hx hb dX5_putNumber_28 ?_
            refine kVv (n3 := 1) (As := [.int (48 + ((v / 1) - (v / 1) / 10 * 10))]) (rest := []) X hl.1 hE hP hD hS hA [(h0, .inr (5, [.ref qel, .int (nI rl2_11)])), (qel, .inl (cA, 16, .inl lt2_12))] [] [0, 1] [] rfl rfl rfl (by decide +kernel) (by decide +kernel) (by decide +kernel) (c_s_put l D cA cB h0 qel rl2_11 lt2_12 (48 + ((v / 1) - (v / 1) / 10 * 10)) (by first | assumption | decide | rfl | omega)) w_408 w_409 w_407 w_410 w_411 0 (ci := 5) (T := TX5) (N := 2) rfl rfl (by decide +kernel) rfl rfl (Nat.le_of_ble_eq_true rfl) ⟨(Nat.le_of_ble_eq_true rfl), (Nat.le_of_ble_eq_true rfl)⟩ ⟨(Nat.le_of_ble_eq_true rfl), (Nat.le_of_ble_eq_true rfl)⟩ dX5_putNumber_29 (fun W1 H locs hw hP hD hS => ?_)
            obtain ⟨rl2_31, lt2_32, hf_33, rfl⟩ := hw
            have hP : va_P D classes [(h0, .inr (5, [.ref qel, .int (nI rl2_31)])), (qel, .inl (cA, 16, .inl lt2_32))] H := hP
            have hD : va_D A [(h0, .inr (5, [.ref qel, .int (nI rl2_31)])), (qel, .inl (cA, 16, .inl lt2_32))] := hD
            refine lv_iload_n hx hb dX5_putNumber_32 rfl (lv_at hl 0 rfl) ?_
            refine lv_bipush (v := 10) hx hb dX5_putNumber_33 (by decide) ?_
            refine lv_idiv hx hb dX5_putNumber_35 (by decide) ?_
            refine tk (y := 0) (by decide) ?_
            refine lv_istore_n (lv' := [(2, .int 0), (0, .ref h0), (1, .int v)]) hx hb dX5_putNumber_36 rfl hl (by decide) rfl (fun ls hl => ?_)
            refine lv_goto (tgt := 4) hx hb dX5_putNumber_37 (by decide) ?_
            refine lv_iload_n hx hb dX5_putNumber_4 rfl (lv_at hl 0 rfl) ?_
            refine lv_iconst (v := 1) hx hb dX5_putNumber_5 (by decide) ?_
            refine lv_icmp_lt (tgt := 40) hx hb dX5_putNumber_6 (by decide) (fun c_6_34 => ?_) (fun c_6_34 => absurd (by decide) c_6_34)
            exact endV X hr hlocks hP hD hS dX5_putNumber_40 ⟨rl2_31, lt2_32, (by omega), rfl⟩
          · skip
            refine lv_iload_n hx hb dX5_putNumber_14 rfl (lv_at hl 0 rfl) ?_
            refine lv_iconst (v := 1) hx hb dX5_putNumber_15 (by decide) ?_
            refine lv_icmp_ne (tgt := 32) hx hb dX5_putNumber_16 (by decide) (fun c_16_35 => absurd (by decide) c_16_35) (fun c_16_35 => ?_)
            refine lv_aload_n hx hb dX5_putNumber_19 rfl (lv_at hl 1 rfl) ?_
            refine lv_bipush (v := 48) hx hb dX5_putNumber_20 (by decide) ?_
            refine lv_iload_n hx hb dX5_putNumber_22 rfl (lv_at hl 2 rfl) ?_
            refine lv_iload_n hx hb dX5_putNumber_23 rfl (lv_at hl 0 rfl) ?_
            refine lv_idiv hx hb dX5_putNumber_24 (by decide) ?_
            refine lv_bipush (v := 10) hx hb dX5_putNumber_25 (by decide) ?_
            refine lv_irem hx hb dX5_putNumber_27 (by decide) ?_
            refine lv_iadd hx hb dX5_putNumber_28 ?_
            refine kVv (n3 := 1) (As := [.int (48 + ((v / 1) - (v / 1) / 10 * 10))]) (rest := []) X hl.1 hE hP hD hS hA [(h0, .inr (5, [.ref qel, .int (nI rl2_11)])), (qel, .inl (cA, 16, .inl lt2_12))] [] [0, 1] [] rfl rfl rfl (by decide +kernel) (by decide +kernel) (by decide +kernel) (c_s_put l D cA cB h0 qel rl2_11 lt2_12 (48 + ((v / 1) - (v / 1) / 10 * 10)) (by first | assumption | decide | rfl | omega)) w_408 w_409 w_407 w_410 w_411 0 (ci := 5) (T := TX5) (N := 2) rfl rfl (by decide +kernel) rfl rfl (Nat.le_of_ble_eq_true rfl) ⟨(Nat.le_of_ble_eq_true rfl), (Nat.le_of_ble_eq_true rfl)⟩ ⟨(Nat.le_of_ble_eq_true rfl), (Nat.le_of_ble_eq_true rfl)⟩ dX5_putNumber_29 (fun W1 H locs hw hP hD hS => ?_)
            obtain ⟨rl2_36, lt2_37, hf_38, rfl⟩ := hw
            have hP : va_P D classes [(h0, .inr (5, [.ref qel, .int (nI rl2_36)])), (qel, .inl (cA, 16, .inl lt2_37))] H := hP
            have hD : va_D A [(h0, .inr (5, [.ref qel, .int (nI rl2_36)])), (qel, .inl (cA, 16, .inl lt2_37))] := hD
            refine lv_iload_n hx hb dX5_putNumber_32 rfl (lv_at hl 0 rfl) ?_
            refine lv_bipush (v := 10) hx hb dX5_putNumber_33 (by decide) ?_
            refine lv_idiv hx hb dX5_putNumber_35 (by decide) ?_
            refine tk (y := 0) (by decide) ?_
            refine lv_istore_n (lv' := [(2, .int 0), (0, .ref h0), (1, .int v)]) hx hb dX5_putNumber_36 rfl hl (by decide) rfl (fun ls hl => ?_)
            refine lv_goto (tgt := 4) hx hb dX5_putNumber_37 (by decide) ?_
            refine lv_iload_n hx hb dX5_putNumber_4 rfl (lv_at hl 0 rfl) ?_
            refine lv_iconst (v := 1) hx hb dX5_putNumber_5 (by decide) ?_
            refine lv_icmp_lt (tgt := 40) hx hb dX5_putNumber_6 (by decide) (fun c_6_39 => ?_) (fun c_6_39 => absurd (by decide) c_6_39)
            exact endV X hr hlocks hP hD hS dX5_putNumber_40 ⟨rl2_36, lt2_37, (by omega), rfl⟩
      · skip
        refine lv_iload_n hx hb dX5_putNumber_14 rfl (lv_at hl 0 rfl) ?_
        refine lv_iconst (v := 1) hx hb dX5_putNumber_15 (by decide) ?_
        refine lv_icmp_ne (tgt := 32) hx hb dX5_putNumber_16 (by decide) (fun c_16 => ?_) (fun c_16 => absurd c_16 (by decide))
        refine lv_iload_n hx hb dX5_putNumber_32 rfl (lv_at hl 0 rfl) ?_
        refine lv_bipush (v := 10) hx hb dX5_putNumber_33 (by decide) ?_
        refine lv_idiv hx hb dX5_putNumber_35 (by decide) ?_
        refine tk (y := 10) (by decide) ?_
        refine lv_istore_n (lv' := [(2, .int 10), (0, .ref h0), (1, .int v)]) hx hb dX5_putNumber_36 rfl hl (by decide) rfl (fun ls hl => ?_)
        refine lv_goto (tgt := 4) hx hb dX5_putNumber_37 (by decide) ?_
        refine lv_iload_n hx hb dX5_putNumber_4 rfl (lv_at hl 0 rfl) ?_
        refine lv_iconst (v := 1) hx hb dX5_putNumber_5 (by decide) ?_
        refine lv_icmp_lt (tgt := 40) hx hb dX5_putNumber_6 (by decide) (fun c_6_40 => absurd c_6_40 (by decide)) (fun c_6_40 => ?_)
        refine lv_iload_n hx hb dX5_putNumber_9 rfl (lv_at hl 2 rfl) ?_
        refine lv_iload_n hx hb dX5_putNumber_10 rfl (lv_at hl 0 rfl) ?_
        refine lv_icmp_ge (tgt := 19) hx hb dX5_putNumber_11 (by decide) (fun c_11_41 => ?_) (fun c_11_41 => ?_)
        · skip
          refine lv_aload_n hx hb dX5_putNumber_19 rfl (lv_at hl 1 rfl) ?_
          refine lv_bipush (v := 48) hx hb dX5_putNumber_20 (by decide) ?_
          refine lv_iload_n hx hb dX5_putNumber_22 rfl (lv_at hl 2 rfl) ?_
          refine lv_iload_n hx hb dX5_putNumber_23 rfl (lv_at hl 0 rfl) ?_
          refine lv_idiv hx hb dX5_putNumber_24 (by decide) ?_
          refine lv_bipush (v := 10) hx hb dX5_putNumber_25 (by decide) ?_
          refine lv_irem hx hb dX5_putNumber_27 (by decide) ?_
          refine lv_iadd hx hb dX5_putNumber_28 ?_
          refine kVv (n3 := 1) (As := [.int (48 + ((v / 10) - (v / 10) / 10 * 10))]) (rest := []) X hl.1 hE hP hD hS hA [(h0, .inr (5, [.ref qel, .int (nI rl2_6)])), (qel, .inl (cA, 16, .inl lt2_7))] [] [0, 1] [] rfl rfl rfl (by decide +kernel) (by decide +kernel) (by decide +kernel) (c_s_put l D cA cB h0 qel rl2_6 lt2_7 (48 + ((v / 10) - (v / 10) / 10 * 10)) (by first | assumption | decide | rfl | omega)) w_408 w_409 w_407 w_410 w_411 0 (ci := 5) (T := TX5) (N := 2) rfl rfl (by decide +kernel) rfl rfl (Nat.le_of_ble_eq_true rfl) ⟨(Nat.le_of_ble_eq_true rfl), (Nat.le_of_ble_eq_true rfl)⟩ ⟨(Nat.le_of_ble_eq_true rfl), (Nat.le_of_ble_eq_true rfl)⟩ dX5_putNumber_29 (fun W1 H locs hw hP hD hS => ?_)
          obtain ⟨rl2_42, lt2_43, hf_44, rfl⟩ := hw
          have hP : va_P D classes [(h0, .inr (5, [.ref qel, .int (nI rl2_42)])), (qel, .inl (cA, 16, .inl lt2_43))] H := hP
          have hD : va_D A [(h0, .inr (5, [.ref qel, .int (nI rl2_42)])), (qel, .inl (cA, 16, .inl lt2_43))] := hD
          refine lv_iload_n hx hb dX5_putNumber_32 rfl (lv_at hl 0 rfl) ?_
          refine lv_bipush (v := 10) hx hb dX5_putNumber_33 (by decide) ?_
          refine lv_idiv hx hb dX5_putNumber_35 (by decide) ?_
          refine tk (y := 1) (by decide) ?_
          refine lv_istore_n (lv' := [(2, .int 1), (0, .ref h0), (1, .int v)]) hx hb dX5_putNumber_36 rfl hl (by decide) rfl (fun ls hl => ?_)
          refine lv_goto (tgt := 4) hx hb dX5_putNumber_37 (by decide) ?_
          refine lv_iload_n hx hb dX5_putNumber_4 rfl (lv_at hl 0 rfl) ?_
          refine lv_iconst (v := 1) hx hb dX5_putNumber_5 (by decide) ?_
          refine lv_icmp_lt (tgt := 40) hx hb dX5_putNumber_6 (by decide) (fun c_6_45 => absurd c_6_45 (by decide)) (fun c_6_45 => ?_)
          refine lv_iload_n hx hb dX5_putNumber_9 rfl (lv_at hl 2 rfl) ?_
          refine lv_iload_n hx hb dX5_putNumber_10 rfl (lv_at hl 0 rfl) ?_
          refine lv_icmp_ge (tgt := 19) hx hb dX5_putNumber_11 (by decide) (fun c_11_46 => ?_) (fun c_11_46 => ?_)
          · skip
            refine lv_aload_n hx hb dX5_putNumber_19 rfl (lv_at hl 1 rfl) ?_
            refine lv_bipush (v := 48) hx hb dX5_putNumber_20 (by decide) ?_
            refine lv_iload_n hx hb dX5_putNumber_22 rfl (lv_at hl 2 rfl) ?_
            refine lv_iload_n hx hb dX5_putNumber_23 rfl (lv_at hl 0 rfl) ?_
            refine lv_idiv hx hb dX5_putNumber_24 (by decide) ?_
            refine lv_bipush (v := 10) hx hb dX5_putNumber_25 (by decide) ?_
            refine lv_irem hx hb dX5_putNumber_27 (by decide) ?_
            refine lv_iadd hx hb dX5_putNumber_28 ?_
            refine kVv (n3 := 1) (As := [.int (48 + ((v / 1) - (v / 1) / 10 * 10))]) (rest := []) X hl.1 hE hP hD hS hA [(h0, .inr (5, [.ref qel, .int (nI rl2_42)])), (qel, .inl (cA, 16, .inl lt2_43))] [] [0, 1] [] rfl rfl rfl (by decide +kernel) (by decide +kernel) (by decide +kernel) (c_s_put l D cA cB h0 qel rl2_42 lt2_43 (48 + ((v / 1) - (v / 1) / 10 * 10)) (by first | assumption | decide | rfl | omega)) w_408 w_409 w_407 w_410 w_411 0 (ci := 5) (T := TX5) (N := 2) rfl rfl (by decide +kernel) rfl rfl (Nat.le_of_ble_eq_true rfl) ⟨(Nat.le_of_ble_eq_true rfl), (Nat.le_of_ble_eq_true rfl)⟩ ⟨(Nat.le_of_ble_eq_true rfl), (Nat.le_of_ble_eq_true rfl)⟩ dX5_putNumber_29 (fun W1 H locs hw hP hD hS => ?_)
            obtain ⟨rl2_47, lt2_48, hf_49, rfl⟩ := hw
            have hP : va_P D classes [(h0, .inr (5, [.ref qel, .int (nI rl2_47)])), (qel, .inl (cA, 16, .inl lt2_48))] H := hP
            have hD : va_D A [(h0, .inr (5, [.ref qel, .int (nI rl2_47)])), (qel, .inl (cA, 16, .inl lt2_48))] := hD
            refine lv_iload_n hx hb dX5_putNumber_32 rfl (lv_at hl 0 rfl) ?_
            refine lv_bipush (v := 10) hx hb dX5_putNumber_33 (by decide) ?_
            refine lv_idiv hx hb dX5_putNumber_35 (by decide) ?_
            refine tk (y := 0) (by decide) ?_
            refine lv_istore_n (lv' := [(2, .int 0), (0, .ref h0), (1, .int v)]) hx hb dX5_putNumber_36 rfl hl (by decide) rfl (fun ls hl => ?_)
            refine lv_goto (tgt := 4) hx hb dX5_putNumber_37 (by decide) ?_
            refine lv_iload_n hx hb dX5_putNumber_4 rfl (lv_at hl 0 rfl) ?_
            refine lv_iconst (v := 1) hx hb dX5_putNumber_5 (by decide) ?_
            refine lv_icmp_lt (tgt := 40) hx hb dX5_putNumber_6 (by decide) (fun c_6_50 => ?_) (fun c_6_50 => absurd (by decide) c_6_50)
            exact endV X hr hlocks hP hD hS dX5_putNumber_40 ⟨rl2_47, lt2_48, (by omega), rfl⟩
          · skip
            refine lv_iload_n hx hb dX5_putNumber_14 rfl (lv_at hl 0 rfl) ?_
            refine lv_iconst (v := 1) hx hb dX5_putNumber_15 (by decide) ?_
            refine lv_icmp_ne (tgt := 32) hx hb dX5_putNumber_16 (by decide) (fun c_16_51 => absurd (by decide) c_16_51) (fun c_16_51 => ?_)
            refine lv_aload_n hx hb dX5_putNumber_19 rfl (lv_at hl 1 rfl) ?_
            refine lv_bipush (v := 48) hx hb dX5_putNumber_20 (by decide) ?_
            refine lv_iload_n hx hb dX5_putNumber_22 rfl (lv_at hl 2 rfl) ?_
            refine lv_iload_n hx hb dX5_putNumber_23 rfl (lv_at hl 0 rfl) ?_
            refine lv_idiv hx hb dX5_putNumber_24 (by decide) ?_
            refine lv_bipush (v := 10) hx hb dX5_putNumber_25 (by decide) ?_
            refine lv_irem hx hb dX5_putNumber_27 (by decide) ?_
            refine lv_iadd hx hb dX5_putNumber_28 ?_
            refine kVv (n3 := 1) (As := [.int (48 + ((v / 1) - (v / 1) / 10 * 10))]) (rest := []) X hl.1 hE hP hD hS hA [(h0, .inr (5, [.ref qel, .int (nI rl2_42)])), (qel, .inl (cA, 16, .inl lt2_43))] [] [0, 1] [] rfl rfl rfl (by decide +kernel) (by decide +kernel) (by decide +kernel) (c_s_put l D cA cB h0 qel rl2_42 lt2_43 (48 + ((v / 1) - (v / 1) / 10 * 10)) (by first | assumption | decide | rfl | omega)) w_408 w_409 w_407 w_410 w_411 0 (ci := 5) (T := TX5) (N := 2) rfl rfl (by decide +kernel) rfl rfl (Nat.le_of_ble_eq_true rfl) ⟨(Nat.le_of_ble_eq_true rfl), (Nat.le_of_ble_eq_true rfl)⟩ ⟨(Nat.le_of_ble_eq_true rfl), (Nat.le_of_ble_eq_true rfl)⟩ dX5_putNumber_29 (fun W1 H locs hw hP hD hS => ?_)
            obtain ⟨rl2_52, lt2_53, hf_54, rfl⟩ := hw
            have hP : va_P D classes [(h0, .inr (5, [.ref qel, .int (nI rl2_52)])), (qel, .inl (cA, 16, .inl lt2_53))] H := hP
            have hD : va_D A [(h0, .inr (5, [.ref qel, .int (nI rl2_52)])), (qel, .inl (cA, 16, .inl lt2_53))] := hD
            refine lv_iload_n hx hb dX5_putNumber_32 rfl (lv_at hl 0 rfl) ?_
            refine lv_bipush (v := 10) hx hb dX5_putNumber_33 (by decide) ?_
            refine lv_idiv hx hb dX5_putNumber_35 (by decide) ?_
            refine tk (y := 0) (by decide) ?_
            refine lv_istore_n (lv' := [(2, .int 0), (0, .ref h0), (1, .int v)]) hx hb dX5_putNumber_36 rfl hl (by decide) rfl (fun ls hl => ?_)
            refine lv_goto (tgt := 4) hx hb dX5_putNumber_37 (by decide) ?_
            refine lv_iload_n hx hb dX5_putNumber_4 rfl (lv_at hl 0 rfl) ?_
            refine lv_iconst (v := 1) hx hb dX5_putNumber_5 (by decide) ?_
            refine lv_icmp_lt (tgt := 40) hx hb dX5_putNumber_6 (by decide) (fun c_6_55 => ?_) (fun c_6_55 => absurd (by decide) c_6_55)
            exact endV X hr hlocks hP hD hS dX5_putNumber_40 ⟨rl2_52, lt2_53, (by omega), rfl⟩
        · skip
          refine lv_iload_n hx hb dX5_putNumber_14 rfl (lv_at hl 0 rfl) ?_
          refine lv_iconst (v := 1) hx hb dX5_putNumber_15 (by decide) ?_
          refine lv_icmp_ne (tgt := 32) hx hb dX5_putNumber_16 (by decide) (fun c_16_56 => ?_) (fun c_16_56 => absurd c_16_56 (by decide))
          refine lv_iload_n hx hb dX5_putNumber_32 rfl (lv_at hl 0 rfl) ?_
          refine lv_bipush (v := 10) hx hb dX5_putNumber_33 (by decide) ?_
          refine lv_idiv hx hb dX5_putNumber_35 (by decide) ?_
          refine tk (y := 1) (by decide) ?_
          refine lv_istore_n (lv' := [(2, .int 1), (0, .ref h0), (1, .int v)]) hx hb dX5_putNumber_36 rfl hl (by decide) rfl (fun ls hl => ?_)
          refine lv_goto (tgt := 4) hx hb dX5_putNumber_37 (by decide) ?_
          refine lv_iload_n hx hb dX5_putNumber_4 rfl (lv_at hl 0 rfl) ?_
          refine lv_iconst (v := 1) hx hb dX5_putNumber_5 (by decide) ?_
          refine lv_icmp_lt (tgt := 40) hx hb dX5_putNumber_6 (by decide) (fun c_6_57 => absurd c_6_57 (by decide)) (fun c_6_57 => ?_)
          refine lv_iload_n hx hb dX5_putNumber_9 rfl (lv_at hl 2 rfl) ?_
          refine lv_iload_n hx hb dX5_putNumber_10 rfl (lv_at hl 0 rfl) ?_
          refine lv_icmp_ge (tgt := 19) hx hb dX5_putNumber_11 (by decide) (fun c_11_58 => ?_) (fun c_11_58 => ?_)
          · skip
            refine lv_aload_n hx hb dX5_putNumber_19 rfl (lv_at hl 1 rfl) ?_
            refine lv_bipush (v := 48) hx hb dX5_putNumber_20 (by decide) ?_
            refine lv_iload_n hx hb dX5_putNumber_22 rfl (lv_at hl 2 rfl) ?_
            refine lv_iload_n hx hb dX5_putNumber_23 rfl (lv_at hl 0 rfl) ?_
            refine lv_idiv hx hb dX5_putNumber_24 (by decide) ?_
            refine lv_bipush (v := 10) hx hb dX5_putNumber_25 (by decide) ?_
            refine lv_irem hx hb dX5_putNumber_27 (by decide) ?_
            refine lv_iadd hx hb dX5_putNumber_28 ?_
            refine kVv (n3 := 1) (As := [.int (48 + ((v / 1) - (v / 1) / 10 * 10))]) (rest := []) X hl.1 hE hP hD hS hA [(h0, .inr (5, [.ref qel, .int (nI rl2_6)])), (qel, .inl (cA, 16, .inl lt2_7))] [] [0, 1] [] rfl rfl rfl (by decide +kernel) (by decide +kernel) (by decide +kernel) (c_s_put l D cA cB h0 qel rl2_6 lt2_7 (48 + ((v / 1) - (v / 1) / 10 * 10)) (by first | assumption | decide | rfl | omega)) w_408 w_409 w_407 w_410 w_411 0 (ci := 5) (T := TX5) (N := 2) rfl rfl (by decide +kernel) rfl rfl (Nat.le_of_ble_eq_true rfl) ⟨(Nat.le_of_ble_eq_true rfl), (Nat.le_of_ble_eq_true rfl)⟩ ⟨(Nat.le_of_ble_eq_true rfl), (Nat.le_of_ble_eq_true rfl)⟩ dX5_putNumber_29 (fun W1 H locs hw hP hD hS => ?_)
            obtain ⟨rl2_59, lt2_60, hf_61, rfl⟩ := hw
            have hP : va_P D classes [(h0, .inr (5, [.ref qel, .int (nI rl2_59)])), (qel, .inl (cA, 16, .inl lt2_60))] H := hP
            have hD : va_D A [(h0, .inr (5, [.ref qel, .int (nI rl2_59)])), (qel, .inl (cA, 16, .inl lt2_60))] := hD
            refine lv_iload_n hx hb dX5_putNumber_32 rfl (lv_at hl 0 rfl) ?_
            refine lv_bipush (v := 10) hx hb dX5_putNumber_33 (by decide) ?_
            refine lv_idiv hx hb dX5_putNumber_35 (by decide) ?_
            refine tk (y := 0) (by decide) ?_
            refine lv_istore_n (lv' := [(2, .int 0), (0, .ref h0), (1, .int v)]) hx hb dX5_putNumber_36 rfl hl (by decide) rfl (fun ls hl => ?_)
            refine lv_goto (tgt := 4) hx hb dX5_putNumber_37 (by decide) ?_
            refine lv_iload_n hx hb dX5_putNumber_4 rfl (lv_at hl 0 rfl) ?_
            refine lv_iconst (v := 1) hx hb dX5_putNumber_5 (by decide) ?_
            refine lv_icmp_lt (tgt := 40) hx hb dX5_putNumber_6 (by decide) (fun c_6_62 => ?_) (fun c_6_62 => absurd (by decide) c_6_62)
            exact endV X hr hlocks hP hD hS dX5_putNumber_40 ⟨rl2_59, lt2_60, (by omega), rfl⟩
          · skip
            refine lv_iload_n hx hb dX5_putNumber_14 rfl (lv_at hl 0 rfl) ?_
            refine lv_iconst (v := 1) hx hb dX5_putNumber_15 (by decide) ?_
            refine lv_icmp_ne (tgt := 32) hx hb dX5_putNumber_16 (by decide) (fun c_16_63 => absurd (by decide) c_16_63) (fun c_16_63 => ?_)
            refine lv_aload_n hx hb dX5_putNumber_19 rfl (lv_at hl 1 rfl) ?_
            refine lv_bipush (v := 48) hx hb dX5_putNumber_20 (by decide) ?_
            refine lv_iload_n hx hb dX5_putNumber_22 rfl (lv_at hl 2 rfl) ?_
            refine lv_iload_n hx hb dX5_putNumber_23 rfl (lv_at hl 0 rfl) ?_
            refine lv_idiv hx hb dX5_putNumber_24 (by decide) ?_
            refine lv_bipush (v := 10) hx hb dX5_putNumber_25 (by decide) ?_
            refine lv_irem hx hb dX5_putNumber_27 (by decide) ?_
            refine lv_iadd hx hb dX5_putNumber_28 ?_
            refine kVv (n3 := 1) (As := [.int (48 + ((v / 1) - (v / 1) / 10 * 10))]) (rest := []) X hl.1 hE hP hD hS hA [(h0, .inr (5, [.ref qel, .int (nI rl2_6)])), (qel, .inl (cA, 16, .inl lt2_7))] [] [0, 1] [] rfl rfl rfl (by decide +kernel) (by decide +kernel) (by decide +kernel) (c_s_put l D cA cB h0 qel rl2_6 lt2_7 (48 + ((v / 1) - (v / 1) / 10 * 10)) (by first | assumption | decide | rfl | omega)) w_408 w_409 w_407 w_410 w_411 0 (ci := 5) (T := TX5) (N := 2) rfl rfl (by decide +kernel) rfl rfl (Nat.le_of_ble_eq_true rfl) ⟨(Nat.le_of_ble_eq_true rfl), (Nat.le_of_ble_eq_true rfl)⟩ ⟨(Nat.le_of_ble_eq_true rfl), (Nat.le_of_ble_eq_true rfl)⟩ dX5_putNumber_29 (fun W1 H locs hw hP hD hS => ?_)
            obtain ⟨rl2_64, lt2_65, hf_66, rfl⟩ := hw
            have hP : va_P D classes [(h0, .inr (5, [.ref qel, .int (nI rl2_64)])), (qel, .inl (cA, 16, .inl lt2_65))] H := hP
            have hD : va_D A [(h0, .inr (5, [.ref qel, .int (nI rl2_64)])), (qel, .inl (cA, 16, .inl lt2_65))] := hD
            refine lv_iload_n hx hb dX5_putNumber_32 rfl (lv_at hl 0 rfl) ?_
            refine lv_bipush (v := 10) hx hb dX5_putNumber_33 (by decide) ?_
            refine lv_idiv hx hb dX5_putNumber_35 (by decide) ?_
            refine tk (y := 0) (by decide) ?_
            refine lv_istore_n (lv' := [(2, .int 0), (0, .ref h0), (1, .int v)]) hx hb dX5_putNumber_36 rfl hl (by decide) rfl (fun ls hl => ?_)
            refine lv_goto (tgt := 4) hx hb dX5_putNumber_37 (by decide) ?_
            refine lv_iload_n hx hb dX5_putNumber_4 rfl (lv_at hl 0 rfl) ?_
            refine lv_iconst (v := 1) hx hb dX5_putNumber_5 (by decide) ?_
            refine lv_icmp_lt (tgt := 40) hx hb dX5_putNumber_6 (by decide) (fun c_6_67 => ?_) (fun c_6_67 => absurd (by decide) c_6_67)
            exact endV X hr hlocks hP hD hS dX5_putNumber_40 ⟨rl2_64, lt2_65, (by omega), rfl⟩
    · skip
      refine lv_iload_n hx hb dX5_putNumber_14 rfl (lv_at hl 0 rfl) ?_
      refine lv_iconst (v := 1) hx hb dX5_putNumber_15 (by decide) ?_
      refine lv_icmp_ne (tgt := 32) hx hb dX5_putNumber_16 (by decide) (fun c_16 => ?_) (fun c_16 => absurd c_16 (by decide))
      refine lv_iload_n hx hb dX5_putNumber_32 rfl (lv_at hl 0 rfl) ?_
      refine lv_bipush (v := 10) hx hb dX5_putNumber_33 (by decide) ?_
      refine lv_idiv hx hb dX5_putNumber_35 (by decide) ?_
      refine tk (y := 100) (by decide) ?_
      refine lv_istore_n (lv' := [(2, .int 100), (0, .ref h0), (1, .int v)]) hx hb dX5_putNumber_36 rfl hl (by decide) rfl (fun ls hl => ?_)
      refine lv_goto (tgt := 4) hx hb dX5_putNumber_37 (by decide) ?_
      refine lv_iload_n hx hb dX5_putNumber_4 rfl (lv_at hl 0 rfl) ?_
      refine lv_iconst (v := 1) hx hb dX5_putNumber_5 (by decide) ?_
      refine lv_icmp_lt (tgt := 40) hx hb dX5_putNumber_6 (by decide) (fun c_6_68 => absurd c_6_68 (by decide)) (fun c_6_68 => ?_)
      refine lv_iload_n hx hb dX5_putNumber_9 rfl (lv_at hl 2 rfl) ?_
      refine lv_iload_n hx hb dX5_putNumber_10 rfl (lv_at hl 0 rfl) ?_
      refine lv_icmp_ge (tgt := 19) hx hb dX5_putNumber_11 (by decide) (fun c_11_69 => ?_) (fun c_11_69 => ?_)
      · skip
        refine lv_aload_n hx hb dX5_putNumber_19 rfl (lv_at hl 1 rfl) ?_
        refine lv_bipush (v := 48) hx hb dX5_putNumber_20 (by decide) ?_
        refine lv_iload_n hx hb dX5_putNumber_22 rfl (lv_at hl 2 rfl) ?_
        refine lv_iload_n hx hb dX5_putNumber_23 rfl (lv_at hl 0 rfl) ?_
        refine lv_idiv hx hb dX5_putNumber_24 (by decide) ?_
        refine lv_bipush (v := 10) hx hb dX5_putNumber_25 (by decide) ?_
        refine lv_irem hx hb dX5_putNumber_27 (by decide) ?_
        refine lv_iadd hx hb dX5_putNumber_28 ?_
        refine kVv (n3 := 1) (As := [.int (48 + ((v / 100) - (v / 100) / 10 * 10))]) (rest := []) X hl.1 hE hP hD hS hA [(h0, .inr (5, [.ref qel, .int (nI rl2_1)])), (qel, .inl (cA, 16, .inl lt2_2))] [] [0, 1] [] rfl rfl rfl (by decide +kernel) (by decide +kernel) (by decide +kernel) (c_s_put l D cA cB h0 qel rl2_1 lt2_2 (48 + ((v / 100) - (v / 100) / 10 * 10)) (by first | assumption | decide | rfl | omega)) w_408 w_409 w_407 w_410 w_411 0 (ci := 5) (T := TX5) (N := 2) rfl rfl (by decide +kernel) rfl rfl (Nat.le_of_ble_eq_true rfl) ⟨(Nat.le_of_ble_eq_true rfl), (Nat.le_of_ble_eq_true rfl)⟩ ⟨(Nat.le_of_ble_eq_true rfl), (Nat.le_of_ble_eq_true rfl)⟩ dX5_putNumber_29 (fun W1 H locs hw hP hD hS => ?_)
        obtain ⟨rl2_70, lt2_71, hf_72, rfl⟩ := hw
        have hP : va_P D classes [(h0, .inr (5, [.ref qel, .int (nI rl2_70)])), (qel, .inl (cA, 16, .inl lt2_71))] H := hP
        have hD : va_D A [(h0, .inr (5, [.ref qel, .int (nI rl2_70)])), (qel, .inl (cA, 16, .inl lt2_71))] := hD
        refine lv_iload_n hx hb dX5_putNumber_32 rfl (lv_at hl 0 rfl) ?_
        refine lv_bipush (v := 10) hx hb dX5_putNumber_33 (by decide) ?_
        refine lv_idiv hx hb dX5_putNumber_35 (by decide) ?_
        refine tk (y := 10) (by decide) ?_
        refine lv_istore_n (lv' := [(2, .int 10), (0, .ref h0), (1, .int v)]) hx hb dX5_putNumber_36 rfl hl (by decide) rfl (fun ls hl => ?_)
        refine lv_goto (tgt := 4) hx hb dX5_putNumber_37 (by decide) ?_
        refine lv_iload_n hx hb dX5_putNumber_4 rfl (lv_at hl 0 rfl) ?_
        refine lv_iconst (v := 1) hx hb dX5_putNumber_5 (by decide) ?_
        refine lv_icmp_lt (tgt := 40) hx hb dX5_putNumber_6 (by decide) (fun c_6_73 => absurd c_6_73 (by decide)) (fun c_6_73 => ?_)
        refine lv_iload_n hx hb dX5_putNumber_9 rfl (lv_at hl 2 rfl) ?_
        refine lv_iload_n hx hb dX5_putNumber_10 rfl (lv_at hl 0 rfl) ?_
        refine lv_icmp_ge (tgt := 19) hx hb dX5_putNumber_11 (by decide) (fun c_11_74 => ?_) (fun c_11_74 => ?_)
        · skip
          refine lv_aload_n hx hb dX5_putNumber_19 rfl (lv_at hl 1 rfl) ?_
          refine lv_bipush (v := 48) hx hb dX5_putNumber_20 (by decide) ?_
          refine lv_iload_n hx hb dX5_putNumber_22 rfl (lv_at hl 2 rfl) ?_
          refine lv_iload_n hx hb dX5_putNumber_23 rfl (lv_at hl 0 rfl) ?_
          refine lv_idiv hx hb dX5_putNumber_24 (by decide) ?_
          refine lv_bipush (v := 10) hx hb dX5_putNumber_25 (by decide) ?_
          refine lv_irem hx hb dX5_putNumber_27 (by decide) ?_
          refine lv_iadd hx hb dX5_putNumber_28 ?_
          refine kVv (n3 := 1) (As := [.int (48 + ((v / 10) - (v / 10) / 10 * 10))]) (rest := []) X hl.1 hE hP hD hS hA [(h0, .inr (5, [.ref qel, .int (nI rl2_70)])), (qel, .inl (cA, 16, .inl lt2_71))] [] [0, 1] [] rfl rfl rfl (by decide +kernel) (by decide +kernel) (by decide +kernel) (c_s_put l D cA cB h0 qel rl2_70 lt2_71 (48 + ((v / 10) - (v / 10) / 10 * 10)) (by first | assumption | decide | rfl | omega)) w_408 w_409 w_407 w_410 w_411 0 (ci := 5) (T := TX5) (N := 2) rfl rfl (by decide +kernel) rfl rfl (Nat.le_of_ble_eq_true rfl) ⟨(Nat.le_of_ble_eq_true rfl), (Nat.le_of_ble_eq_true rfl)⟩ ⟨(Nat.le_of_ble_eq_true rfl), (Nat.le_of_ble_eq_true rfl)⟩ dX5_putNumber_29 (fun W1 H locs hw hP hD hS => ?_)
          obtain ⟨rl2_75, lt2_76, hf_77, rfl⟩ := hw
          have hP : va_P D classes [(h0, .inr (5, [.ref qel, .int (nI rl2_75)])), (qel, .inl (cA, 16, .inl lt2_76))] H := hP
          have hD : va_D A [(h0, .inr (5, [.ref qel, .int (nI rl2_75)])), (qel, .inl (cA, 16, .inl lt2_76))] := hD
          refine lv_iload_n hx hb dX5_putNumber_32 rfl (lv_at hl 0 rfl) ?_
          refine lv_bipush (v := 10) hx hb dX5_putNumber_33 (by decide) ?_
          refine lv_idiv hx hb dX5_putNumber_35 (by decide) ?_
          refine tk (y := 1) (by decide) ?_
          refine lv_istore_n (lv' := [(2, .int 1), (0, .ref h0), (1, .int v)]) hx hb dX5_putNumber_36 rfl hl (by decide) rfl (fun ls hl => ?_)
          refine lv_goto (tgt := 4) hx hb dX5_putNumber_37 (by decide) ?_
          refine lv_iload_n hx hb dX5_putNumber_4 rfl (lv_at hl 0 rfl) ?_
          refine lv_iconst (v := 1) hx hb dX5_putNumber_5 (by decide) ?_
          refine lv_icmp_lt (tgt := 40) hx hb dX5_putNumber_6 (by decide) (fun c_6_78 => absurd c_6_78 (by decide)) (fun c_6_78 => ?_)
          refine lv_iload_n hx hb dX5_putNumber_9 rfl (lv_at hl 2 rfl) ?_
          refine lv_iload_n hx hb dX5_putNumber_10 rfl (lv_at hl 0 rfl) ?_
          refine lv_icmp_ge (tgt := 19) hx hb dX5_putNumber_11 (by decide) (fun c_11_79 => ?_) (fun c_11_79 => ?_)
          · skip
            refine lv_aload_n hx hb dX5_putNumber_19 rfl (lv_at hl 1 rfl) ?_
            refine lv_bipush (v := 48) hx hb dX5_putNumber_20 (by decide) ?_
            refine lv_iload_n hx hb dX5_putNumber_22 rfl (lv_at hl 2 rfl) ?_
            refine lv_iload_n hx hb dX5_putNumber_23 rfl (lv_at hl 0 rfl) ?_
            refine lv_idiv hx hb dX5_putNumber_24 (by decide) ?_
            refine lv_bipush (v := 10) hx hb dX5_putNumber_25 (by decide) ?_
            refine lv_irem hx hb dX5_putNumber_27 (by decide) ?_
            refine lv_iadd hx hb dX5_putNumber_28 ?_
            refine kVv (n3 := 1) (As := [.int (48 + ((v / 1) - (v / 1) / 10 * 10))]) (rest := []) X hl.1 hE hP hD hS hA [(h0, .inr (5, [.ref qel, .int (nI rl2_75)])), (qel, .inl (cA, 16, .inl lt2_76))] [] [0, 1] [] rfl rfl rfl (by decide +kernel) (by decide +kernel) (by decide +kernel) (c_s_put l D cA cB h0 qel rl2_75 lt2_76 (48 + ((v / 1) - (v / 1) / 10 * 10)) (by first | assumption | decide | rfl | omega)) w_408 w_409 w_407 w_410 w_411 0 (ci := 5) (T := TX5) (N := 2) rfl rfl (by decide +kernel) rfl rfl (Nat.le_of_ble_eq_true rfl) ⟨(Nat.le_of_ble_eq_true rfl), (Nat.le_of_ble_eq_true rfl)⟩ ⟨(Nat.le_of_ble_eq_true rfl), (Nat.le_of_ble_eq_true rfl)⟩ dX5_putNumber_29 (fun W1 H locs hw hP hD hS => ?_)
            obtain ⟨rl2_80, lt2_81, hf_82, rfl⟩ := hw
            have hP : va_P D classes [(h0, .inr (5, [.ref qel, .int (nI rl2_80)])), (qel, .inl (cA, 16, .inl lt2_81))] H := hP
            have hD : va_D A [(h0, .inr (5, [.ref qel, .int (nI rl2_80)])), (qel, .inl (cA, 16, .inl lt2_81))] := hD
            refine lv_iload_n hx hb dX5_putNumber_32 rfl (lv_at hl 0 rfl) ?_
            refine lv_bipush (v := 10) hx hb dX5_putNumber_33 (by decide) ?_
            refine lv_idiv hx hb dX5_putNumber_35 (by decide) ?_
            refine tk (y := 0) (by decide) ?_
            refine lv_istore_n (lv' := [(2, .int 0), (0, .ref h0), (1, .int v)]) hx hb dX5_putNumber_36 rfl hl (by decide) rfl (fun ls hl => ?_)
            refine lv_goto (tgt := 4) hx hb dX5_putNumber_37 (by decide) ?_
            refine lv_iload_n hx hb dX5_putNumber_4 rfl (lv_at hl 0 rfl) ?_
            refine lv_iconst (v := 1) hx hb dX5_putNumber_5 (by decide) ?_
            refine lv_icmp_lt (tgt := 40) hx hb dX5_putNumber_6 (by decide) (fun c_6_83 => ?_) (fun c_6_83 => absurd (by decide) c_6_83)
            exact endV X hr hlocks hP hD hS dX5_putNumber_40 ⟨rl2_80, lt2_81, (by omega), rfl⟩
          · skip
            refine lv_iload_n hx hb dX5_putNumber_14 rfl (lv_at hl 0 rfl) ?_
            refine lv_iconst (v := 1) hx hb dX5_putNumber_15 (by decide) ?_
            refine lv_icmp_ne (tgt := 32) hx hb dX5_putNumber_16 (by decide) (fun c_16_84 => absurd (by decide) c_16_84) (fun c_16_84 => ?_)
            refine lv_aload_n hx hb dX5_putNumber_19 rfl (lv_at hl 1 rfl) ?_
            refine lv_bipush (v := 48) hx hb dX5_putNumber_20 (by decide) ?_
            refine lv_iload_n hx hb dX5_putNumber_22 rfl (lv_at hl 2 rfl) ?_
            refine lv_iload_n hx hb dX5_putNumber_23 rfl (lv_at hl 0 rfl) ?_
            refine lv_idiv hx hb dX5_putNumber_24 (by decide) ?_
            refine lv_bipush (v := 10) hx hb dX5_putNumber_25 (by decide) ?_
            refine lv_irem hx hb dX5_putNumber_27 (by decide) ?_
            refine lv_iadd hx hb dX5_putNumber_28 ?_
            refine kVv (n3 := 1) (As := [.int (48 + ((v / 1) - (v / 1) / 10 * 10))]) (rest := []) X hl.1 hE hP hD hS hA [(h0, .inr (5, [.ref qel, .int (nI rl2_75)])), (qel, .inl (cA, 16, .inl lt2_76))] [] [0, 1] [] rfl rfl rfl (by decide +kernel) (by decide +kernel) (by decide +kernel) (c_s_put l D cA cB h0 qel rl2_75 lt2_76 (48 + ((v / 1) - (v / 1) / 10 * 10)) (by first | assumption | decide | rfl | omega)) w_408 w_409 w_407 w_410 w_411 0 (ci := 5) (T := TX5) (N := 2) rfl rfl (by decide +kernel) rfl rfl (Nat.le_of_ble_eq_true rfl) ⟨(Nat.le_of_ble_eq_true rfl), (Nat.le_of_ble_eq_true rfl)⟩ ⟨(Nat.le_of_ble_eq_true rfl), (Nat.le_of_ble_eq_true rfl)⟩ dX5_putNumber_29 (fun W1 H locs hw hP hD hS => ?_)
            obtain ⟨rl2_85, lt2_86, hf_87, rfl⟩ := hw
            have hP : va_P D classes [(h0, .inr (5, [.ref qel, .int (nI rl2_85)])), (qel, .inl (cA, 16, .inl lt2_86))] H := hP
            have hD : va_D A [(h0, .inr (5, [.ref qel, .int (nI rl2_85)])), (qel, .inl (cA, 16, .inl lt2_86))] := hD
            refine lv_iload_n hx hb dX5_putNumber_32 rfl (lv_at hl 0 rfl) ?_
            refine lv_bipush (v := 10) hx hb dX5_putNumber_33 (by decide) ?_
            refine lv_idiv hx hb dX5_putNumber_35 (by decide) ?_
            refine tk (y := 0) (by decide) ?_
            refine lv_istore_n (lv' := [(2, .int 0), (0, .ref h0), (1, .int v)]) hx hb dX5_putNumber_36 rfl hl (by decide) rfl (fun ls hl => ?_)
            refine lv_goto (tgt := 4) hx hb dX5_putNumber_37 (by decide) ?_
            refine lv_iload_n hx hb dX5_putNumber_4 rfl (lv_at hl 0 rfl) ?_
            refine lv_iconst (v := 1) hx hb dX5_putNumber_5 (by decide) ?_
            refine lv_icmp_lt (tgt := 40) hx hb dX5_putNumber_6 (by decide) (fun c_6_88 => ?_) (fun c_6_88 => absurd (by decide) c_6_88)
            exact endV X hr hlocks hP hD hS dX5_putNumber_40 ⟨rl2_85, lt2_86, (by omega), rfl⟩
        · skip
          refine lv_iload_n hx hb dX5_putNumber_14 rfl (lv_at hl 0 rfl) ?_
          refine lv_iconst (v := 1) hx hb dX5_putNumber_15 (by decide) ?_
          refine lv_icmp_ne (tgt := 32) hx hb dX5_putNumber_16 (by decide) (fun c_16_89 => ?_) (fun c_16_89 => absurd c_16_89 (by decide))
          refine lv_iload_n hx hb dX5_putNumber_32 rfl (lv_at hl 0 rfl) ?_
          refine lv_bipush (v := 10) hx hb dX5_putNumber_33 (by decide) ?_
          refine lv_idiv hx hb dX5_putNumber_35 (by decide) ?_
          refine tk (y := 1) (by decide) ?_
          refine lv_istore_n (lv' := [(2, .int 1), (0, .ref h0), (1, .int v)]) hx hb dX5_putNumber_36 rfl hl (by decide) rfl (fun ls hl => ?_)
          refine lv_goto (tgt := 4) hx hb dX5_putNumber_37 (by decide) ?_
          refine lv_iload_n hx hb dX5_putNumber_4 rfl (lv_at hl 0 rfl) ?_
          refine lv_iconst (v := 1) hx hb dX5_putNumber_5 (by decide) ?_
          refine lv_icmp_lt (tgt := 40) hx hb dX5_putNumber_6 (by decide) (fun c_6_90 => absurd c_6_90 (by decide)) (fun c_6_90 => ?_)
          refine lv_iload_n hx hb dX5_putNumber_9 rfl (lv_at hl 2 rfl) ?_
          refine lv_iload_n hx hb dX5_putNumber_10 rfl (lv_at hl 0 rfl) ?_
          refine lv_icmp_ge (tgt := 19) hx hb dX5_putNumber_11 (by decide) (fun c_11_91 => ?_) (fun c_11_91 => ?_)
          · skip
            refine lv_aload_n hx hb dX5_putNumber_19 rfl (lv_at hl 1 rfl) ?_
            refine lv_bipush (v := 48) hx hb dX5_putNumber_20 (by decide) ?_
            refine lv_iload_n hx hb dX5_putNumber_22 rfl (lv_at hl 2 rfl) ?_
            refine lv_iload_n hx hb dX5_putNumber_23 rfl (lv_at hl 0 rfl) ?_
            refine lv_idiv hx hb dX5_putNumber_24 (by decide) ?_
            refine lv_bipush (v := 10) hx hb dX5_putNumber_25 (by decide) ?_
            refine lv_irem hx hb dX5_putNumber_27 (by decide) ?_
            refine lv_iadd hx hb dX5_putNumber_28 ?_
            refine kVv (n3 := 1) (As := [.int (48 + ((v / 1) - (v / 1) / 10 * 10))]) (rest := []) X hl.1 hE hP hD hS hA [(h0, .inr (5, [.ref qel, .int (nI rl2_70)])), (qel, .inl (cA, 16, .inl lt2_71))] [] [0, 1] [] rfl rfl rfl (by decide +kernel) (by decide +kernel) (by decide +kernel) (c_s_put l D cA cB h0 qel rl2_70 lt2_71 (48 + ((v / 1) - (v / 1) / 10 * 10)) (by first | assumption | decide | rfl | omega)) w_408 w_409 w_407 w_410 w_411 0 (ci := 5) (T := TX5) (N := 2) rfl rfl (by decide +kernel) rfl rfl (Nat.le_of_ble_eq_true rfl) ⟨(Nat.le_of_ble_eq_true rfl), (Nat.le_of_ble_eq_true rfl)⟩ ⟨(Nat.le_of_ble_eq_true rfl), (Nat.le_of_ble_eq_true rfl)⟩ dX5_putNumber_29 (fun W1 H locs hw hP hD hS => ?_)
            obtain ⟨rl2_92, lt2_93, hf_94, rfl⟩ := hw
            have hP : va_P D classes [(h0, .inr (5, [.ref qel, .int (nI rl2_92)])), (qel, .inl (cA, 16, .inl lt2_93))] H := hP
            have hD : va_D A [(h0, .inr (5, [.ref qel, .int (nI rl2_92)])), (qel, .inl (cA, 16, .inl lt2_93))] := hD
            refine lv_iload_n hx hb dX5_putNumber_32 rfl (lv_at hl 0 rfl) ?_
            refine lv_bipush (v := 10) hx hb dX5_putNumber_33 (by decide) ?_
            refine lv_idiv hx hb dX5_putNumber_35 (by decide) ?_
            refine tk (y := 0) (by decide) ?_
            refine lv_istore_n (lv' := [(2, .int 0), (0, .ref h0), (1, .int v)]) hx hb dX5_putNumber_36 rfl hl (by decide) rfl (fun ls hl => ?_)
            refine lv_goto (tgt := 4) hx hb dX5_putNumber_37 (by decide) ?_
            refine lv_iload_n hx hb dX5_putNumber_4 rfl (lv_at hl 0 rfl) ?_
            refine lv_iconst (v := 1) hx hb dX5_putNumber_5 (by decide) ?_
            refine lv_icmp_lt (tgt := 40) hx hb dX5_putNumber_6 (by decide) (fun c_6_95 => ?_) (fun c_6_95 => absurd (by decide) c_6_95)
            exact endV X hr hlocks hP hD hS dX5_putNumber_40 ⟨rl2_92, lt2_93, (by omega), rfl⟩
          · skip
            refine lv_iload_n hx hb dX5_putNumber_14 rfl (lv_at hl 0 rfl) ?_
            refine lv_iconst (v := 1) hx hb dX5_putNumber_15 (by decide) ?_
            refine lv_icmp_ne (tgt := 32) hx hb dX5_putNumber_16 (by decide) (fun c_16_96 => absurd (by decide) c_16_96) (fun c_16_96 => ?_)
            refine lv_aload_n hx hb dX5_putNumber_19 rfl (lv_at hl 1 rfl) ?_
            refine lv_bipush (v := 48) hx hb dX5_putNumber_20 (by decide) ?_
            refine lv_iload_n hx hb dX5_putNumber_22 rfl (lv_at hl 2 rfl) ?_
            refine lv_iload_n hx hb dX5_putNumber_23 rfl (lv_at hl 0 rfl) ?_
            refine lv_idiv hx hb dX5_putNumber_24 (by decide) ?_
            refine lv_bipush (v := 10) hx hb dX5_putNumber_25 (by decide) ?_
            refine lv_irem hx hb dX5_putNumber_27 (by decide) ?_
            refine lv_iadd hx hb dX5_putNumber_28 ?_
            refine kVv (n3 := 1) (As := [.int (48 + ((v / 1) - (v / 1) / 10 * 10))]) (rest := []) X hl.1 hE hP hD hS hA [(h0, .inr (5, [.ref qel, .int (nI rl2_70)])), (qel, .inl (cA, 16, .inl lt2_71))] [] [0, 1] [] rfl rfl rfl (by decide +kernel) (by decide +kernel) (by decide +kernel) (c_s_put l D cA cB h0 qel rl2_70 lt2_71 (48 + ((v / 1) - (v / 1) / 10 * 10)) (by first | assumption | decide | rfl | omega)) w_408 w_409 w_407 w_410 w_411 0 (ci := 5) (T := TX5) (N := 2) rfl rfl (by decide +kernel) rfl rfl (Nat.le_of_ble_eq_true rfl) ⟨(Nat.le_of_ble_eq_true rfl), (Nat.le_of_ble_eq_true rfl)⟩ ⟨(Nat.le_of_ble_eq_true rfl), (Nat.le_of_ble_eq_true rfl)⟩ dX5_putNumber_29 (fun W1 H locs hw hP hD hS => ?_)
            obtain ⟨rl2_97, lt2_98, hf_99, rfl⟩ := hw
            have hP : va_P D classes [(h0, .inr (5, [.ref qel, .int (nI rl2_97)])), (qel, .inl (cA, 16, .inl lt2_98))] H := hP
            have hD : va_D A [(h0, .inr (5, [.ref qel, .int (nI rl2_97)])), (qel, .inl (cA, 16, .inl lt2_98))] := hD
            refine lv_iload_n hx hb dX5_putNumber_32 rfl (lv_at hl 0 rfl) ?_
            refine lv_bipush (v := 10) hx hb dX5_putNumber_33 (by decide) ?_
            refine lv_idiv hx hb dX5_putNumber_35 (by decide) ?_
            refine tk (y := 0) (by decide) ?_
            refine lv_istore_n (lv' := [(2, .int 0), (0, .ref h0), (1, .int v)]) hx hb dX5_putNumber_36 rfl hl (by decide) rfl (fun ls hl => ?_)
            refine lv_goto (tgt := 4) hx hb dX5_putNumber_37 (by decide) ?_
            refine lv_iload_n hx hb dX5_putNumber_4 rfl (lv_at hl 0 rfl) ?_
            refine lv_iconst (v := 1) hx hb dX5_putNumber_5 (by decide) ?_
            refine lv_icmp_lt (tgt := 40) hx hb dX5_putNumber_6 (by decide) (fun c_6_100 => ?_) (fun c_6_100 => absurd (by decide) c_6_100)
            exact endV X hr hlocks hP hD hS dX5_putNumber_40 ⟨rl2_97, lt2_98, (by omega), rfl⟩
      · skip
        refine lv_iload_n hx hb dX5_putNumber_14 rfl (lv_at hl 0 rfl) ?_
        refine lv_iconst (v := 1) hx hb dX5_putNumber_15 (by decide) ?_
        refine lv_icmp_ne (tgt := 32) hx hb dX5_putNumber_16 (by decide) (fun c_16_101 => ?_) (fun c_16_101 => absurd c_16_101 (by decide))
        refine lv_iload_n hx hb dX5_putNumber_32 rfl (lv_at hl 0 rfl) ?_
        refine lv_bipush (v := 10) hx hb dX5_putNumber_33 (by decide) ?_
        refine lv_idiv hx hb dX5_putNumber_35 (by decide) ?_
        refine tk (y := 10) (by decide) ?_
        refine lv_istore_n (lv' := [(2, .int 10), (0, .ref h0), (1, .int v)]) hx hb dX5_putNumber_36 rfl hl (by decide) rfl (fun ls hl => ?_)
        refine lv_goto (tgt := 4) hx hb dX5_putNumber_37 (by decide) ?_
        refine lv_iload_n hx hb dX5_putNumber_4 rfl (lv_at hl 0 rfl) ?_
        refine lv_iconst (v := 1) hx hb dX5_putNumber_5 (by decide) ?_
        refine lv_icmp_lt (tgt := 40) hx hb dX5_putNumber_6 (by decide) (fun c_6_102 => absurd c_6_102 (by decide)) (fun c_6_102 => ?_)
        refine lv_iload_n hx hb dX5_putNumber_9 rfl (lv_at hl 2 rfl) ?_
        refine lv_iload_n hx hb dX5_putNumber_10 rfl (lv_at hl 0 rfl) ?_
        refine lv_icmp_ge (tgt := 19) hx hb dX5_putNumber_11 (by decide) (fun c_11_103 => ?_) (fun c_11_103 => ?_)
        · skip
          refine lv_aload_n hx hb dX5_putNumber_19 rfl (lv_at hl 1 rfl) ?_
          refine lv_bipush (v := 48) hx hb dX5_putNumber_20 (by decide) ?_
          refine lv_iload_n hx hb dX5_putNumber_22 rfl (lv_at hl 2 rfl) ?_
          refine lv_iload_n hx hb dX5_putNumber_23 rfl (lv_at hl 0 rfl) ?_
          refine lv_idiv hx hb dX5_putNumber_24 (by decide) ?_
          refine lv_bipush (v := 10) hx hb dX5_putNumber_25 (by decide) ?_
          refine lv_irem hx hb dX5_putNumber_27 (by decide) ?_
          refine lv_iadd hx hb dX5_putNumber_28 ?_
          refine kVv (n3 := 1) (As := [.int (48 + ((v / 10) - (v / 10) / 10 * 10))]) (rest := []) X hl.1 hE hP hD hS hA [(h0, .inr (5, [.ref qel, .int (nI rl2_1)])), (qel, .inl (cA, 16, .inl lt2_2))] [] [0, 1] [] rfl rfl rfl (by decide +kernel) (by decide +kernel) (by decide +kernel) (c_s_put l D cA cB h0 qel rl2_1 lt2_2 (48 + ((v / 10) - (v / 10) / 10 * 10)) (by first | assumption | decide | rfl | omega)) w_408 w_409 w_407 w_410 w_411 0 (ci := 5) (T := TX5) (N := 2) rfl rfl (by decide +kernel) rfl rfl (Nat.le_of_ble_eq_true rfl) ⟨(Nat.le_of_ble_eq_true rfl), (Nat.le_of_ble_eq_true rfl)⟩ ⟨(Nat.le_of_ble_eq_true rfl), (Nat.le_of_ble_eq_true rfl)⟩ dX5_putNumber_29 (fun W1 H locs hw hP hD hS => ?_)
          obtain ⟨rl2_104, lt2_105, hf_106, rfl⟩ := hw
          have hP : va_P D classes [(h0, .inr (5, [.ref qel, .int (nI rl2_104)])), (qel, .inl (cA, 16, .inl lt2_105))] H := hP
          have hD : va_D A [(h0, .inr (5, [.ref qel, .int (nI rl2_104)])), (qel, .inl (cA, 16, .inl lt2_105))] := hD
          refine lv_iload_n hx hb dX5_putNumber_32 rfl (lv_at hl 0 rfl) ?_
          refine lv_bipush (v := 10) hx hb dX5_putNumber_33 (by decide) ?_
          refine lv_idiv hx hb dX5_putNumber_35 (by decide) ?_
          refine tk (y := 1) (by decide) ?_
          refine lv_istore_n (lv' := [(2, .int 1), (0, .ref h0), (1, .int v)]) hx hb dX5_putNumber_36 rfl hl (by decide) rfl (fun ls hl => ?_)
          refine lv_goto (tgt := 4) hx hb dX5_putNumber_37 (by decide) ?_
          refine lv_iload_n hx hb dX5_putNumber_4 rfl (lv_at hl 0 rfl) ?_
          refine lv_iconst (v := 1) hx hb dX5_putNumber_5 (by decide) ?_
          refine lv_icmp_lt (tgt := 40) hx hb dX5_putNumber_6 (by decide) (fun c_6_107 => absurd c_6_107 (by decide)) (fun c_6_107 => ?_)
          refine lv_iload_n hx hb dX5_putNumber_9 rfl (lv_at hl 2 rfl) ?_
          refine lv_iload_n hx hb dX5_putNumber_10 rfl (lv_at hl 0 rfl) ?_
          refine lv_icmp_ge (tgt := 19) hx hb dX5_putNumber_11 (by decide) (fun c_11_108 => ?_) (fun c_11_108 => ?_)
          · skip
            refine lv_aload_n hx hb dX5_putNumber_19 rfl (lv_at hl 1 rfl) ?_
            refine lv_bipush (v := 48) hx hb dX5_putNumber_20 (by decide) ?_
            refine lv_iload_n hx hb dX5_putNumber_22 rfl (lv_at hl 2 rfl) ?_
            refine lv_iload_n hx hb dX5_putNumber_23 rfl (lv_at hl 0 rfl) ?_
            refine lv_idiv hx hb dX5_putNumber_24 (by decide) ?_
            refine lv_bipush (v := 10) hx hb dX5_putNumber_25 (by decide) ?_
            refine lv_irem hx hb dX5_putNumber_27 (by decide) ?_
            refine lv_iadd hx hb dX5_putNumber_28 ?_
            refine kVv (n3 := 1) (As := [.int (48 + ((v / 1) - (v / 1) / 10 * 10))]) (rest := []) X hl.1 hE hP hD hS hA [(h0, .inr (5, [.ref qel, .int (nI rl2_104)])), (qel, .inl (cA, 16, .inl lt2_105))] [] [0, 1] [] rfl rfl rfl (by decide +kernel) (by decide +kernel) (by decide +kernel) (c_s_put l D cA cB h0 qel rl2_104 lt2_105 (48 + ((v / 1) - (v / 1) / 10 * 10)) (by first | assumption | decide | rfl | omega)) w_408 w_409 w_407 w_410 w_411 0 (ci := 5) (T := TX5) (N := 2) rfl rfl (by decide +kernel) rfl rfl (Nat.le_of_ble_eq_true rfl) ⟨(Nat.le_of_ble_eq_true rfl), (Nat.le_of_ble_eq_true rfl)⟩ ⟨(Nat.le_of_ble_eq_true rfl), (Nat.le_of_ble_eq_true rfl)⟩ dX5_putNumber_29 (fun W1 H locs hw hP hD hS => ?_)
            obtain ⟨rl2_109, lt2_110, hf_111, rfl⟩ := hw
            have hP : va_P D classes [(h0, .inr (5, [.ref qel, .int (nI rl2_109)])), (qel, .inl (cA, 16, .inl lt2_110))] H := hP
            have hD : va_D A [(h0, .inr (5, [.ref qel, .int (nI rl2_109)])), (qel, .inl (cA, 16, .inl lt2_110))] := hD
            refine lv_iload_n hx hb dX5_putNumber_32 rfl (lv_at hl 0 rfl) ?_
            refine lv_bipush (v := 10) hx hb dX5_putNumber_33 (by decide) ?_
            refine lv_idiv hx hb dX5_putNumber_35 (by decide) ?_
            refine tk (y := 0) (by decide) ?_
            refine lv_istore_n (lv' := [(2, .int 0), (0, .ref h0), (1, .int v)]) hx hb dX5_putNumber_36 rfl hl (by decide) rfl (fun ls hl => ?_)
            refine lv_goto (tgt := 4) hx hb dX5_putNumber_37 (by decide) ?_
            refine lv_iload_n hx hb dX5_putNumber_4 rfl (lv_at hl 0 rfl) ?_
            refine lv_iconst (v := 1) hx hb dX5_putNumber_5 (by decide) ?_
            refine lv_icmp_lt (tgt := 40) hx hb dX5_putNumber_6 (by decide) (fun c_6_112 => ?_) (fun c_6_112 => absurd (by decide) c_6_112)
            exact endV X hr hlocks hP hD hS dX5_putNumber_40 ⟨rl2_109, lt2_110, (by omega), rfl⟩
          · skip
            refine lv_iload_n hx hb dX5_putNumber_14 rfl (lv_at hl 0 rfl) ?_
            refine lv_iconst (v := 1) hx hb dX5_putNumber_15 (by decide) ?_
            refine lv_icmp_ne (tgt := 32) hx hb dX5_putNumber_16 (by decide) (fun c_16_113 => absurd (by decide) c_16_113) (fun c_16_113 => ?_)
            refine lv_aload_n hx hb dX5_putNumber_19 rfl (lv_at hl 1 rfl) ?_
            refine lv_bipush (v := 48) hx hb dX5_putNumber_20 (by decide) ?_
            refine lv_iload_n hx hb dX5_putNumber_22 rfl (lv_at hl 2 rfl) ?_
            refine lv_iload_n hx hb dX5_putNumber_23 rfl (lv_at hl 0 rfl) ?_
            refine lv_idiv hx hb dX5_putNumber_24 (by decide) ?_
            refine lv_bipush (v := 10) hx hb dX5_putNumber_25 (by decide) ?_
            refine lv_irem hx hb dX5_putNumber_27 (by decide) ?_
            refine lv_iadd hx hb dX5_putNumber_28 ?_
            refine kVv (n3 := 1) (As := [.int (48 + ((v / 1) - (v / 1) / 10 * 10))]) (rest := []) X hl.1 hE hP hD hS hA [(h0, .inr (5, [.ref qel, .int (nI rl2_104)])), (qel, .inl (cA, 16, .inl lt2_105))] [] [0, 1] [] rfl rfl rfl (by decide +kernel) (by decide +kernel) (by decide +kernel) (c_s_put l D cA cB h0 qel rl2_104 lt2_105 (48 + ((v / 1) - (v / 1) / 10 * 10)) (by first | assumption | decide | rfl | omega)) w_408 w_409 w_407 w_410 w_411 0 (ci := 5) (T := TX5) (N := 2) rfl rfl (by decide +kernel) rfl rfl (Nat.le_of_ble_eq_true rfl) ⟨(Nat.le_of_ble_eq_true rfl), (Nat.le_of_ble_eq_true rfl)⟩ ⟨(Nat.le_of_ble_eq_true rfl), (Nat.le_of_ble_eq_true rfl)⟩ dX5_putNumber_29 (fun W1 H locs hw hP hD hS => ?_)
            obtain ⟨rl2_114, lt2_115, hf_116, rfl⟩ := hw
            have hP : va_P D classes [(h0, .inr (5, [.ref qel, .int (nI rl2_114)])), (qel, .inl (cA, 16, .inl lt2_115))] H := hP
            have hD : va_D A [(h0, .inr (5, [.ref qel, .int (nI rl2_114)])), (qel, .inl (cA, 16, .inl lt2_115))] := hD
            refine lv_iload_n hx hb dX5_putNumber_32 rfl (lv_at hl 0 rfl) ?_
            refine lv_bipush (v := 10) hx hb dX5_putNumber_33 (by decide) ?_
            refine lv_idiv hx hb dX5_putNumber_35 (by decide) ?_
            refine tk (y := 0) (by decide) ?_
            refine lv_istore_n (lv' := [(2, .int 0), (0, .ref h0), (1, .int v)]) hx hb dX5_putNumber_36 rfl hl (by decide) rfl (fun ls hl => ?_)
            refine lv_goto (tgt := 4) hx hb dX5_putNumber_37 (by decide) ?_
            refine lv_iload_n hx hb dX5_putNumber_4 rfl (lv_at hl 0 rfl) ?_
            refine lv_iconst (v := 1) hx hb dX5_putNumber_5 (by decide) ?_
            refine lv_icmp_lt (tgt := 40) hx hb dX5_putNumber_6 (by decide) (fun c_6_117 => ?_) (fun c_6_117 => absurd (by decide) c_6_117)
            exact endV X hr hlocks hP hD hS dX5_putNumber_40 ⟨rl2_114, lt2_115, (by omega), rfl⟩
        · skip
          refine lv_iload_n hx hb dX5_putNumber_14 rfl (lv_at hl 0 rfl) ?_
          refine lv_iconst (v := 1) hx hb dX5_putNumber_15 (by decide) ?_
          refine lv_icmp_ne (tgt := 32) hx hb dX5_putNumber_16 (by decide) (fun c_16_118 => ?_) (fun c_16_118 => absurd c_16_118 (by decide))
          refine lv_iload_n hx hb dX5_putNumber_32 rfl (lv_at hl 0 rfl) ?_
          refine lv_bipush (v := 10) hx hb dX5_putNumber_33 (by decide) ?_
          refine lv_idiv hx hb dX5_putNumber_35 (by decide) ?_
          refine tk (y := 1) (by decide) ?_
          refine lv_istore_n (lv' := [(2, .int 1), (0, .ref h0), (1, .int v)]) hx hb dX5_putNumber_36 rfl hl (by decide) rfl (fun ls hl => ?_)
          refine lv_goto (tgt := 4) hx hb dX5_putNumber_37 (by decide) ?_
          refine lv_iload_n hx hb dX5_putNumber_4 rfl (lv_at hl 0 rfl) ?_
          refine lv_iconst (v := 1) hx hb dX5_putNumber_5 (by decide) ?_
          refine lv_icmp_lt (tgt := 40) hx hb dX5_putNumber_6 (by decide) (fun c_6_119 => absurd c_6_119 (by decide)) (fun c_6_119 => ?_)
          refine lv_iload_n hx hb dX5_putNumber_9 rfl (lv_at hl 2 rfl) ?_
          refine lv_iload_n hx hb dX5_putNumber_10 rfl (lv_at hl 0 rfl) ?_
          refine lv_icmp_ge (tgt := 19) hx hb dX5_putNumber_11 (by decide) (fun c_11_120 => ?_) (fun c_11_120 => ?_)
          · skip
            refine lv_aload_n hx hb dX5_putNumber_19 rfl (lv_at hl 1 rfl) ?_
            refine lv_bipush (v := 48) hx hb dX5_putNumber_20 (by decide) ?_
            refine lv_iload_n hx hb dX5_putNumber_22 rfl (lv_at hl 2 rfl) ?_
            refine lv_iload_n hx hb dX5_putNumber_23 rfl (lv_at hl 0 rfl) ?_
            refine lv_idiv hx hb dX5_putNumber_24 (by decide) ?_
            refine lv_bipush (v := 10) hx hb dX5_putNumber_25 (by decide) ?_
            refine lv_irem hx hb dX5_putNumber_27 (by decide) ?_
            refine lv_iadd hx hb dX5_putNumber_28 ?_
            refine kVv (n3 := 1) (As := [.int (48 + ((v / 1) - (v / 1) / 10 * 10))]) (rest := []) X hl.1 hE hP hD hS hA [(h0, .inr (5, [.ref qel, .int (nI rl2_1)])), (qel, .inl (cA, 16, .inl lt2_2))] [] [0, 1] [] rfl rfl rfl (by decide +kernel) (by decide +kernel) (by decide +kernel) (c_s_put l D cA cB h0 qel rl2_1 lt2_2 (48 + ((v / 1) - (v / 1) / 10 * 10)) (by first | assumption | decide | rfl | omega)) w_408 w_409 w_407 w_410 w_411 0 (ci := 5) (T := TX5) (N := 2) rfl rfl (by decide +kernel) rfl rfl (Nat.le_of_ble_eq_true rfl) ⟨(Nat.le_of_ble_eq_true rfl), (Nat.le_of_ble_eq_true rfl)⟩ ⟨(Nat.le_of_ble_eq_true rfl), (Nat.le_of_ble_eq_true rfl)⟩ dX5_putNumber_29 (fun W1 H locs hw hP hD hS => ?_)
            obtain ⟨rl2_121, lt2_122, hf_123, rfl⟩ := hw
            have hP : va_P D classes [(h0, .inr (5, [.ref qel, .int (nI rl2_121)])), (qel, .inl (cA, 16, .inl lt2_122))] H := hP
            have hD : va_D A [(h0, .inr (5, [.ref qel, .int (nI rl2_121)])), (qel, .inl (cA, 16, .inl lt2_122))] := hD
            refine lv_iload_n hx hb dX5_putNumber_32 rfl (lv_at hl 0 rfl) ?_
            refine lv_bipush (v := 10) hx hb dX5_putNumber_33 (by decide) ?_
            refine lv_idiv hx hb dX5_putNumber_35 (by decide) ?_
            refine tk (y := 0) (by decide) ?_
            refine lv_istore_n (lv' := [(2, .int 0), (0, .ref h0), (1, .int v)]) hx hb dX5_putNumber_36 rfl hl (by decide) rfl (fun ls hl => ?_)
            refine lv_goto (tgt := 4) hx hb dX5_putNumber_37 (by decide) ?_
            refine lv_iload_n hx hb dX5_putNumber_4 rfl (lv_at hl 0 rfl) ?_
            refine lv_iconst (v := 1) hx hb dX5_putNumber_5 (by decide) ?_
            refine lv_icmp_lt (tgt := 40) hx hb dX5_putNumber_6 (by decide) (fun c_6_124 => ?_) (fun c_6_124 => absurd (by decide) c_6_124)
            exact endV X hr hlocks hP hD hS dX5_putNumber_40 ⟨rl2_121, lt2_122, (by omega), rfl⟩
          · skip
            refine lv_iload_n hx hb dX5_putNumber_14 rfl (lv_at hl 0 rfl) ?_
            refine lv_iconst (v := 1) hx hb dX5_putNumber_15 (by decide) ?_
            refine lv_icmp_ne (tgt := 32) hx hb dX5_putNumber_16 (by decide) (fun c_16_125 => absurd (by decide) c_16_125) (fun c_16_125 => ?_)
            refine lv_aload_n hx hb dX5_putNumber_19 rfl (lv_at hl 1 rfl) ?_
            refine lv_bipush (v := 48) hx hb dX5_putNumber_20 (by decide) ?_
            refine lv_iload_n hx hb dX5_putNumber_22 rfl (lv_at hl 2 rfl) ?_
            refine lv_iload_n hx hb dX5_putNumber_23 rfl (lv_at hl 0 rfl) ?_
            refine lv_idiv hx hb dX5_putNumber_24 (by decide) ?_
            refine lv_bipush (v := 10) hx hb dX5_putNumber_25 (by decide) ?_
            refine lv_irem hx hb dX5_putNumber_27 (by decide) ?_
            refine lv_iadd hx hb dX5_putNumber_28 ?_
            refine kVv (n3 := 1) (As := [.int (48 + ((v / 1) - (v / 1) / 10 * 10))]) (rest := []) X hl.1 hE hP hD hS hA [(h0, .inr (5, [.ref qel, .int (nI rl2_1)])), (qel, .inl (cA, 16, .inl lt2_2))] [] [0, 1] [] rfl rfl rfl (by decide +kernel) (by decide +kernel) (by decide +kernel) (c_s_put l D cA cB h0 qel rl2_1 lt2_2 (48 + ((v / 1) - (v / 1) / 10 * 10)) (by first | assumption | decide | rfl | omega)) w_408 w_409 w_407 w_410 w_411 0 (ci := 5) (T := TX5) (N := 2) rfl rfl (by decide +kernel) rfl rfl (Nat.le_of_ble_eq_true rfl) ⟨(Nat.le_of_ble_eq_true rfl), (Nat.le_of_ble_eq_true rfl)⟩ ⟨(Nat.le_of_ble_eq_true rfl), (Nat.le_of_ble_eq_true rfl)⟩ dX5_putNumber_29 (fun W1 H locs hw hP hD hS => ?_)
            obtain ⟨rl2_126, lt2_127, hf_128, rfl⟩ := hw
            have hP : va_P D classes [(h0, .inr (5, [.ref qel, .int (nI rl2_126)])), (qel, .inl (cA, 16, .inl lt2_127))] H := hP
            have hD : va_D A [(h0, .inr (5, [.ref qel, .int (nI rl2_126)])), (qel, .inl (cA, 16, .inl lt2_127))] := hD
            refine lv_iload_n hx hb dX5_putNumber_32 rfl (lv_at hl 0 rfl) ?_
            refine lv_bipush (v := 10) hx hb dX5_putNumber_33 (by decide) ?_
            refine lv_idiv hx hb dX5_putNumber_35 (by decide) ?_
            refine tk (y := 0) (by decide) ?_
            refine lv_istore_n (lv' := [(2, .int 0), (0, .ref h0), (1, .int v)]) hx hb dX5_putNumber_36 rfl hl (by decide) rfl (fun ls hl => ?_)
            refine lv_goto (tgt := 4) hx hb dX5_putNumber_37 (by decide) ?_
            refine lv_iload_n hx hb dX5_putNumber_4 rfl (lv_at hl 0 rfl) ?_
            refine lv_iconst (v := 1) hx hb dX5_putNumber_5 (by decide) ?_
            refine lv_icmp_lt (tgt := 40) hx hb dX5_putNumber_6 (by decide) (fun c_6_129 => ?_) (fun c_6_129 => absurd (by decide) c_6_129)
            exact endV X hr hlocks hP hD hS dX5_putNumber_40 ⟨rl2_126, lt2_127, (by omega), rfl⟩
  · skip
    refine lv_iload_n hx hb dX5_putNumber_14 rfl (lv_at hl 0 rfl) ?_
    refine lv_iconst (v := 1) hx hb dX5_putNumber_15 (by decide) ?_
    refine lv_icmp_ne (tgt := 32) hx hb dX5_putNumber_16 (by decide) (fun c_16 => ?_) (fun c_16 => absurd c_16 (by decide))
    refine lv_iload_n hx hb dX5_putNumber_32 rfl (lv_at hl 0 rfl) ?_
    refine lv_bipush (v := 10) hx hb dX5_putNumber_33 (by decide) ?_
    refine lv_idiv hx hb dX5_putNumber_35 (by decide) ?_
    refine tk (y := 1000) (by decide) ?_
    refine lv_istore_n (lv' := [(2, .int 1000), (0, .ref h0), (1, .int v)]) hx hb dX5_putNumber_36 rfl hl (by decide) rfl (fun ls hl => ?_)
    refine lv_goto (tgt := 4) hx hb dX5_putNumber_37 (by decide) ?_
    refine lv_iload_n hx hb dX5_putNumber_4 rfl (lv_at hl 0 rfl) ?_
    refine lv_iconst (v := 1) hx hb dX5_putNumber_5 (by decide) ?_
    refine lv_icmp_lt (tgt := 40) hx hb dX5_putNumber_6 (by decide) (fun c_6_130 => absurd c_6_130 (by decide)) (fun c_6_130 => ?_)
    refine lv_iload_n hx hb dX5_putNumber_9 rfl (lv_at hl 2 rfl) ?_
    refine lv_iload_n hx hb dX5_putNumber_10 rfl (lv_at hl 0 rfl) ?_
    refine lv_icmp_ge (tgt := 19) hx hb dX5_putNumber_11 (by decide) (fun c_11_131 => ?_) (fun c_11_131 => ?_)
    · skip
      refine lv_aload_n hx hb dX5_putNumber_19 rfl (lv_at hl 1 rfl) ?_
      refine lv_bipush (v := 48) hx hb dX5_putNumber_20 (by decide) ?_
      refine lv_iload_n hx hb dX5_putNumber_22 rfl (lv_at hl 2 rfl) ?_
      refine lv_iload_n hx hb dX5_putNumber_23 rfl (lv_at hl 0 rfl) ?_
      refine lv_idiv hx hb dX5_putNumber_24 (by decide) ?_
      refine lv_bipush (v := 10) hx hb dX5_putNumber_25 (by decide) ?_
      refine lv_irem hx hb dX5_putNumber_27 (by decide) ?_
      refine lv_iadd hx hb dX5_putNumber_28 ?_
      refine kVv (n3 := 1) (As := [.int (48 + ((v / 1000) - (v / 1000) / 10 * 10))]) (rest := []) X hl.1 hE hP hD hS hA [(h0, .inr (5, [.ref qel, .int (nI rl)])), (qel, .inl (cA, 16, .inl lt))] [] [0, 1] [] rfl rfl rfl (by decide +kernel) (by decide +kernel) (by decide +kernel) (c_s_put l D cA cB h0 qel rl lt (48 + ((v / 1000) - (v / 1000) / 10 * 10)) (by first | assumption | decide | rfl | omega)) w_408 w_409 w_407 w_410 w_411 0 (ci := 5) (T := TX5) (N := 2) rfl rfl (by decide +kernel) rfl rfl (Nat.le_of_ble_eq_true rfl) ⟨(Nat.le_of_ble_eq_true rfl), (Nat.le_of_ble_eq_true rfl)⟩ ⟨(Nat.le_of_ble_eq_true rfl), (Nat.le_of_ble_eq_true rfl)⟩ dX5_putNumber_29 (fun W1 H locs hw hP hD hS => ?_)
      obtain ⟨rl2_132, lt2_133, hf_134, rfl⟩ := hw
      have hP : va_P D classes [(h0, .inr (5, [.ref qel, .int (nI rl2_132)])), (qel, .inl (cA, 16, .inl lt2_133))] H := hP
      have hD : va_D A [(h0, .inr (5, [.ref qel, .int (nI rl2_132)])), (qel, .inl (cA, 16, .inl lt2_133))] := hD
      refine lv_iload_n hx hb dX5_putNumber_32 rfl (lv_at hl 0 rfl) ?_
      refine lv_bipush (v := 10) hx hb dX5_putNumber_33 (by decide) ?_
      refine lv_idiv hx hb dX5_putNumber_35 (by decide) ?_
      refine tk (y := 100) (by decide) ?_
      refine lv_istore_n (lv' := [(2, .int 100), (0, .ref h0), (1, .int v)]) hx hb dX5_putNumber_36 rfl hl (by decide) rfl (fun ls hl => ?_)
      refine lv_goto (tgt := 4) hx hb dX5_putNumber_37 (by decide) ?_
      refine lv_iload_n hx hb dX5_putNumber_4 rfl (lv_at hl 0 rfl) ?_
      refine lv_iconst (v := 1) hx hb dX5_putNumber_5 (by decide) ?_
      refine lv_icmp_lt (tgt := 40) hx hb dX5_putNumber_6 (by decide) (fun c_6_135 => absurd c_6_135 (by decide)) (fun c_6_135 => ?_)
      refine lv_iload_n hx hb dX5_putNumber_9 rfl (lv_at hl 2 rfl) ?_
      refine lv_iload_n hx hb dX5_putNumber_10 rfl (lv_at hl 0 rfl) ?_
      refine lv_icmp_ge (tgt := 19) hx hb dX5_putNumber_11 (by decide) (fun c_11_136 => ?_) (fun c_11_136 => ?_)
      · skip
        refine lv_aload_n hx hb dX5_putNumber_19 rfl (lv_at hl 1 rfl) ?_
        refine lv_bipush (v := 48) hx hb dX5_putNumber_20 (by decide) ?_
        refine lv_iload_n hx hb dX5_putNumber_22 rfl (lv_at hl 2 rfl) ?_
        refine lv_iload_n hx hb dX5_putNumber_23 rfl (lv_at hl 0 rfl) ?_
        refine lv_idiv hx hb dX5_putNumber_24 (by decide) ?_
        refine lv_bipush (v := 10) hx hb dX5_putNumber_25 (by decide) ?_
        refine lv_irem hx hb dX5_putNumber_27 (by decide) ?_
        refine lv_iadd hx hb dX5_putNumber_28 ?_
        refine kVv (n3 := 1) (As := [.int (48 + ((v / 100) - (v / 100) / 10 * 10))]) (rest := []) X hl.1 hE hP hD hS hA [(h0, .inr (5, [.ref qel, .int (nI rl2_132)])), (qel, .inl (cA, 16, .inl lt2_133))] [] [0, 1] [] rfl rfl rfl (by decide +kernel) (by decide +kernel) (by decide +kernel) (c_s_put l D cA cB h0 qel rl2_132 lt2_133 (48 + ((v / 100) - (v / 100) / 10 * 10)) (by first | assumption | decide | rfl | omega)) w_408 w_409 w_407 w_410 w_411 0 (ci := 5) (T := TX5) (N := 2) rfl rfl (by decide +kernel) rfl rfl (Nat.le_of_ble_eq_true rfl) ⟨(Nat.le_of_ble_eq_true rfl), (Nat.le_of_ble_eq_true rfl)⟩ ⟨(Nat.le_of_ble_eq_true rfl), (Nat.le_of_ble_eq_true rfl)⟩ dX5_putNumber_29 (fun W1 H locs hw hP hD hS => ?_)
        obtain ⟨rl2_137, lt2_138, hf_139, rfl⟩ := hw
        have hP : va_P D classes [(h0, .inr (5, [.ref qel, .int (nI rl2_137)])), (qel, .inl (cA, 16, .inl lt2_138))] H := hP
        have hD : va_D A [(h0, .inr (5, [.ref qel, .int (nI rl2_137)])), (qel, .inl (cA, 16, .inl lt2_138))] := hD
        refine lv_iload_n hx hb dX5_putNumber_32 rfl (lv_at hl 0 rfl) ?_
        refine lv_bipush (v := 10) hx hb dX5_putNumber_33 (by decide) ?_
        refine lv_idiv hx hb dX5_putNumber_35 (by decide) ?_
        refine tk (y := 10) (by decide) ?_
        refine lv_istore_n (lv' := [(2, .int 10), (0, .ref h0), (1, .int v)]) hx hb dX5_putNumber_36 rfl hl (by decide) rfl (fun ls hl => ?_)
        refine lv_goto (tgt := 4) hx hb dX5_putNumber_37 (by decide) ?_
        refine lv_iload_n hx hb dX5_putNumber_4 rfl (lv_at hl 0 rfl) ?_
        refine lv_iconst (v := 1) hx hb dX5_putNumber_5 (by decide) ?_
        refine lv_icmp_lt (tgt := 40) hx hb dX5_putNumber_6 (by decide) (fun c_6_140 => absurd c_6_140 (by decide)) (fun c_6_140 => ?_)
        refine lv_iload_n hx hb dX5_putNumber_9 rfl (lv_at hl 2 rfl) ?_
        refine lv_iload_n hx hb dX5_putNumber_10 rfl (lv_at hl 0 rfl) ?_
        refine lv_icmp_ge (tgt := 19) hx hb dX5_putNumber_11 (by decide) (fun c_11_141 => ?_) (fun c_11_141 => ?_)
        · skip
          refine lv_aload_n hx hb dX5_putNumber_19 rfl (lv_at hl 1 rfl) ?_
          refine lv_bipush (v := 48) hx hb dX5_putNumber_20 (by decide) ?_
          refine lv_iload_n hx hb dX5_putNumber_22 rfl (lv_at hl 2 rfl) ?_
          refine lv_iload_n hx hb dX5_putNumber_23 rfl (lv_at hl 0 rfl) ?_
          refine lv_idiv hx hb dX5_putNumber_24 (by decide) ?_
          refine lv_bipush (v := 10) hx hb dX5_putNumber_25 (by decide) ?_
          refine lv_irem hx hb dX5_putNumber_27 (by decide) ?_
          refine lv_iadd hx hb dX5_putNumber_28 ?_
          refine kVv (n3 := 1) (As := [.int (48 + ((v / 10) - (v / 10) / 10 * 10))]) (rest := []) X hl.1 hE hP hD hS hA [(h0, .inr (5, [.ref qel, .int (nI rl2_137)])), (qel, .inl (cA, 16, .inl lt2_138))] [] [0, 1] [] rfl rfl rfl (by decide +kernel) (by decide +kernel) (by decide +kernel) (c_s_put l D cA cB h0 qel rl2_137 lt2_138 (48 + ((v / 10) - (v / 10) / 10 * 10)) (by first | assumption | decide | rfl | omega)) w_408 w_409 w_407 w_410 w_411 0 (ci := 5) (T := TX5) (N := 2) rfl rfl (by decide +kernel) rfl rfl (Nat.le_of_ble_eq_true rfl) ⟨(Nat.le_of_ble_eq_true rfl), (Nat.le_of_ble_eq_true rfl)⟩ ⟨(Nat.le_of_ble_eq_true rfl), (Nat.le_of_ble_eq_true rfl)⟩ dX5_putNumber_29 (fun W1 H locs hw hP hD hS => ?_)
          obtain ⟨rl2_142, lt2_143, hf_144, rfl⟩ := hw
          have hP : va_P D classes [(h0, .inr (5, [.ref qel, .int (nI rl2_142)])), (qel, .inl (cA, 16, .inl lt2_143))] H := hP
          have hD : va_D A [(h0, .inr (5, [.ref qel, .int (nI rl2_142)])), (qel, .inl (cA, 16, .inl lt2_143))] := hD
          refine lv_iload_n hx hb dX5_putNumber_32 rfl (lv_at hl 0 rfl) ?_
          refine lv_bipush (v := 10) hx hb dX5_putNumber_33 (by decide) ?_
          refine lv_idiv hx hb dX5_putNumber_35 (by decide) ?_
          refine tk (y := 1) (by decide) ?_
          refine lv_istore_n (lv' := [(2, .int 1), (0, .ref h0), (1, .int v)]) hx hb dX5_putNumber_36 rfl hl (by decide) rfl (fun ls hl => ?_)
          refine lv_goto (tgt := 4) hx hb dX5_putNumber_37 (by decide) ?_
          refine lv_iload_n hx hb dX5_putNumber_4 rfl (lv_at hl 0 rfl) ?_
          refine lv_iconst (v := 1) hx hb dX5_putNumber_5 (by decide) ?_
          refine lv_icmp_lt (tgt := 40) hx hb dX5_putNumber_6 (by decide) (fun c_6_145 => absurd c_6_145 (by decide)) (fun c_6_145 => ?_)
          refine lv_iload_n hx hb dX5_putNumber_9 rfl (lv_at hl 2 rfl) ?_
          refine lv_iload_n hx hb dX5_putNumber_10 rfl (lv_at hl 0 rfl) ?_
          refine lv_icmp_ge (tgt := 19) hx hb dX5_putNumber_11 (by decide) (fun c_11_146 => ?_) (fun c_11_146 => ?_)
          · skip
            refine lv_aload_n hx hb dX5_putNumber_19 rfl (lv_at hl 1 rfl) ?_
            refine lv_bipush (v := 48) hx hb dX5_putNumber_20 (by decide) ?_
            refine lv_iload_n hx hb dX5_putNumber_22 rfl (lv_at hl 2 rfl) ?_
            refine lv_iload_n hx hb dX5_putNumber_23 rfl (lv_at hl 0 rfl) ?_
            refine lv_idiv hx hb dX5_putNumber_24 (by decide) ?_
            refine lv_bipush (v := 10) hx hb dX5_putNumber_25 (by decide) ?_
            refine lv_irem hx hb dX5_putNumber_27 (by decide) ?_
            refine lv_iadd hx hb dX5_putNumber_28 ?_
            refine kVv (n3 := 1) (As := [.int (48 + ((v / 1) - (v / 1) / 10 * 10))]) (rest := []) X hl.1 hE hP hD hS hA [(h0, .inr (5, [.ref qel, .int (nI rl2_142)])), (qel, .inl (cA, 16, .inl lt2_143))] [] [0, 1] [] rfl rfl rfl (by decide +kernel) (by decide +kernel) (by decide +kernel) (c_s_put l D cA cB h0 qel rl2_142 lt2_143 (48 + ((v / 1) - (v / 1) / 10 * 10)) (by first | assumption | decide | rfl | omega)) w_408 w_409 w_407 w_410 w_411 0 (ci := 5) (T := TX5) (N := 2) rfl rfl (by decide +kernel) rfl rfl (Nat.le_of_ble_eq_true rfl) ⟨(Nat.le_of_ble_eq_true rfl), (Nat.le_of_ble_eq_true rfl)⟩ ⟨(Nat.le_of_ble_eq_true rfl), (Nat.le_of_ble_eq_true rfl)⟩ dX5_putNumber_29 (fun W1 H locs hw hP hD hS => ?_)
            obtain ⟨rl2_147, lt2_148, hf_149, rfl⟩ := hw
            have hP : va_P D classes [(h0, .inr (5, [.ref qel, .int (nI rl2_147)])), (qel, .inl (cA, 16, .inl lt2_148))] H := hP
            have hD : va_D A [(h0, .inr (5, [.ref qel, .int (nI rl2_147)])), (qel, .inl (cA, 16, .inl lt2_148))] := hD
            refine lv_iload_n hx hb dX5_putNumber_32 rfl (lv_at hl 0 rfl) ?_
            refine lv_bipush (v := 10) hx hb dX5_putNumber_33 (by decide) ?_
            refine lv_idiv hx hb dX5_putNumber_35 (by decide) ?_
            refine tk (y := 0) (by decide) ?_
            refine lv_istore_n (lv' := [(2, .int 0), (0, .ref h0), (1, .int v)]) hx hb dX5_putNumber_36 rfl hl (by decide) rfl (fun ls hl => ?_)
            refine lv_goto (tgt := 4) hx hb dX5_putNumber_37 (by decide) ?_
            refine lv_iload_n hx hb dX5_putNumber_4 rfl (lv_at hl 0 rfl) ?_
            refine lv_iconst (v := 1) hx hb dX5_putNumber_5 (by decide) ?_
            refine lv_icmp_lt (tgt := 40) hx hb dX5_putNumber_6 (by decide) (fun c_6_150 => ?_) (fun c_6_150 => absurd (by decide) c_6_150)
            exact endV X hr hlocks hP hD hS dX5_putNumber_40 ⟨rl2_147, lt2_148, (by omega), rfl⟩
          · skip
            refine lv_iload_n hx hb dX5_putNumber_14 rfl (lv_at hl 0 rfl) ?_
            refine lv_iconst (v := 1) hx hb dX5_putNumber_15 (by decide) ?_
            refine lv_icmp_ne (tgt := 32) hx hb dX5_putNumber_16 (by decide) (fun c_16_151 => absurd (by decide) c_16_151) (fun c_16_151 => ?_)
            refine lv_aload_n hx hb dX5_putNumber_19 rfl (lv_at hl 1 rfl) ?_
            refine lv_bipush (v := 48) hx hb dX5_putNumber_20 (by decide) ?_
            refine lv_iload_n hx hb dX5_putNumber_22 rfl (lv_at hl 2 rfl) ?_
            refine lv_iload_n hx hb dX5_putNumber_23 rfl (lv_at hl 0 rfl) ?_
            refine lv_idiv hx hb dX5_putNumber_24 (by decide) ?_
            refine lv_bipush (v := 10) hx hb dX5_putNumber_25 (by decide) ?_
            refine lv_irem hx hb dX5_putNumber_27 (by decide) ?_
            refine lv_iadd hx hb dX5_putNumber_28 ?_
            refine kVv (n3 := 1) (As := [.int (48 + ((v / 1) - (v / 1) / 10 * 10))]) (rest := []) X hl.1 hE hP hD hS hA [(h0, .inr (5, [.ref qel, .int (nI rl2_142)])), (qel, .inl (cA, 16, .inl lt2_143))] [] [0, 1] [] rfl rfl rfl (by decide +kernel) (by decide +kernel) (by decide +kernel) (c_s_put l D cA cB h0 qel rl2_142 lt2_143 (48 + ((v / 1) - (v / 1) / 10 * 10)) (by first | assumption | decide | rfl | omega)) w_408 w_409 w_407 w_410 w_411 0 (ci := 5) (T := TX5) (N := 2) rfl rfl (by decide +kernel) rfl rfl (Nat.le_of_ble_eq_true rfl) ⟨(Nat.le_of_ble_eq_true rfl), (Nat.le_of_ble_eq_true rfl)⟩ ⟨(Nat.le_of_ble_eq_true rfl), (Nat.le_of_ble_eq_true rfl)⟩ dX5_putNumber_29 (fun W1 H locs hw hP hD hS => ?_)
            obtain ⟨rl2_152, lt2_153, hf_154, rfl⟩ := hw
            have hP : va_P D classes [(h0, .inr (5, [.ref qel, .int (nI rl2_152)])), (qel, .inl (cA, 16, .inl lt2_153))] H := hP
            have hD : va_D A [(h0, .inr (5, [.ref qel, .int (nI rl2_152)])), (qel, .inl (cA, 16, .inl lt2_153))] := hD
            refine lv_iload_n hx hb dX5_putNumber_32 rfl (lv_at hl 0 rfl) ?_
            refine lv_bipush (v := 10) hx hb dX5_putNumber_33 (by decide) ?_
            refine lv_idiv hx hb dX5_putNumber_35 (by decide) ?_
            refine tk (y := 0) (by decide) ?_
            refine lv_istore_n (lv' := [(2, .int 0), (0, .ref h0), (1, .int v)]) hx hb dX5_putNumber_36 rfl hl (by decide) rfl (fun ls hl => ?_)
            refine lv_goto (tgt := 4) hx hb dX5_putNumber_37 (by decide) ?_
            refine lv_iload_n hx hb dX5_putNumber_4 rfl (lv_at hl 0 rfl) ?_
            refine lv_iconst (v := 1) hx hb dX5_putNumber_5 (by decide) ?_
            refine lv_icmp_lt (tgt := 40) hx hb dX5_putNumber_6 (by decide) (fun c_6_155 => ?_) (fun c_6_155 => absurd (by decide) c_6_155)
            exact endV X hr hlocks hP hD hS dX5_putNumber_40 ⟨rl2_152, lt2_153, (by omega), rfl⟩
        · skip
          refine lv_iload_n hx hb dX5_putNumber_14 rfl (lv_at hl 0 rfl) ?_
          refine lv_iconst (v := 1) hx hb dX5_putNumber_15 (by decide) ?_
          refine lv_icmp_ne (tgt := 32) hx hb dX5_putNumber_16 (by decide) (fun c_16_156 => ?_) (fun c_16_156 => absurd c_16_156 (by decide))
          refine lv_iload_n hx hb dX5_putNumber_32 rfl (lv_at hl 0 rfl) ?_
          refine lv_bipush (v := 10) hx hb dX5_putNumber_33 (by decide) ?_
          refine lv_idiv hx hb dX5_putNumber_35 (by decide) ?_
          refine tk (y := 1) (by decide) ?_
          refine lv_istore_n (lv' := [(2, .int 1), (0, .ref h0), (1, .int v)]) hx hb dX5_putNumber_36 rfl hl (by decide) rfl (fun ls hl => ?_)
          refine lv_goto (tgt := 4) hx hb dX5_putNumber_37 (by decide) ?_
          refine lv_iload_n hx hb dX5_putNumber_4 rfl (lv_at hl 0 rfl) ?_
          refine lv_iconst (v := 1) hx hb dX5_putNumber_5 (by decide) ?_
          refine lv_icmp_lt (tgt := 40) hx hb dX5_putNumber_6 (by decide) (fun c_6_157 => absurd c_6_157 (by decide)) (fun c_6_157 => ?_)
          refine lv_iload_n hx hb dX5_putNumber_9 rfl (lv_at hl 2 rfl) ?_
          refine lv_iload_n hx hb dX5_putNumber_10 rfl (lv_at hl 0 rfl) ?_
          refine lv_icmp_ge (tgt := 19) hx hb dX5_putNumber_11 (by decide) (fun c_11_158 => ?_) (fun c_11_158 => ?_)
          · skip
            refine lv_aload_n hx hb dX5_putNumber_19 rfl (lv_at hl 1 rfl) ?_
            refine lv_bipush (v := 48) hx hb dX5_putNumber_20 (by decide) ?_
            refine lv_iload_n hx hb dX5_putNumber_22 rfl (lv_at hl 2 rfl) ?_
            refine lv_iload_n hx hb dX5_putNumber_23 rfl (lv_at hl 0 rfl) ?_
            refine lv_idiv hx hb dX5_putNumber_24 (by decide) ?_
            refine lv_bipush (v := 10) hx hb dX5_putNumber_25 (by decide) ?_
            refine lv_irem hx hb dX5_putNumber_27 (by decide) ?_
            refine lv_iadd hx hb dX5_putNumber_28 ?_
            refine kVv (n3 := 1) (As := [.int (48 + ((v / 1) - (v / 1) / 10 * 10))]) (rest := []) X hl.1 hE hP hD hS hA [(h0, .inr (5, [.ref qel, .int (nI rl2_137)])), (qel, .inl (cA, 16, .inl lt2_138))] [] [0, 1] [] rfl rfl rfl (by decide +kernel) (by decide +kernel) (by decide +kernel) (c_s_put l D cA cB h0 qel rl2_137 lt2_138 (48 + ((v / 1) - (v / 1) / 10 * 10)) (by first | assumption | decide | rfl | omega)) w_408 w_409 w_407 w_410 w_411 0 (ci := 5) (T := TX5) (N := 2) rfl rfl (by decide +kernel) rfl rfl (Nat.le_of_ble_eq_true rfl) ⟨(Nat.le_of_ble_eq_true rfl), (Nat.le_of_ble_eq_true rfl)⟩ ⟨(Nat.le_of_ble_eq_true rfl), (Nat.le_of_ble_eq_true rfl)⟩ dX5_putNumber_29 (fun W1 H locs hw hP hD hS => ?_)
            obtain ⟨rl2_159, lt2_160, hf_161, rfl⟩ := hw
            have hP : va_P D classes [(h0, .inr (5, [.ref qel, .int (nI rl2_159)])), (qel, .inl (cA, 16, .inl lt2_160))] H := hP
            have hD : va_D A [(h0, .inr (5, [.ref qel, .int (nI rl2_159)])), (qel, .inl (cA, 16, .inl lt2_160))] := hD
            refine lv_iload_n hx hb dX5_putNumber_32 rfl (lv_at hl 0 rfl) ?_
            refine lv_bipush (v := 10) hx hb dX5_putNumber_33 (by decide) ?_
            refine lv_idiv hx hb dX5_putNumber_35 (by decide) ?_
            refine tk (y := 0) (by decide) ?_
            refine lv_istore_n (lv' := [(2, .int 0), (0, .ref h0), (1, .int v)]) hx hb dX5_putNumber_36 rfl hl (by decide) rfl (fun ls hl => ?_)
            refine lv_goto (tgt := 4) hx hb dX5_putNumber_37 (by decide) ?_
            refine lv_iload_n hx hb dX5_putNumber_4 rfl (lv_at hl 0 rfl) ?_
            refine lv_iconst (v := 1) hx hb dX5_putNumber_5 (by decide) ?_
            refine lv_icmp_lt (tgt := 40) hx hb dX5_putNumber_6 (by decide) (fun c_6_162 => ?_) (fun c_6_162 => absurd (by decide) c_6_162)
            exact endV X hr hlocks hP hD hS dX5_putNumber_40 ⟨rl2_159, lt2_160, (by omega), rfl⟩
          · skip
            refine lv_iload_n hx hb dX5_putNumber_14 rfl (lv_at hl 0 rfl) ?_
            refine lv_iconst (v := 1) hx hb dX5_putNumber_15 (by decide) ?_
            refine lv_icmp_ne (tgt := 32) hx hb dX5_putNumber_16 (by decide) (fun c_16_163 => absurd (by decide) c_16_163) (fun c_16_163 => ?_)
            refine lv_aload_n hx hb dX5_putNumber_19 rfl (lv_at hl 1 rfl) ?_
            refine lv_bipush (v := 48) hx hb dX5_putNumber_20 (by decide) ?_
            refine lv_iload_n hx hb dX5_putNumber_22 rfl (lv_at hl 2 rfl) ?_
            refine lv_iload_n hx hb dX5_putNumber_23 rfl (lv_at hl 0 rfl) ?_
            refine lv_idiv hx hb dX5_putNumber_24 (by decide) ?_
            refine lv_bipush (v := 10) hx hb dX5_putNumber_25 (by decide) ?_
            refine lv_irem hx hb dX5_putNumber_27 (by decide) ?_
            refine lv_iadd hx hb dX5_putNumber_28 ?_
            refine kVv (n3 := 1) (As := [.int (48 + ((v / 1) - (v / 1) / 10 * 10))]) (rest := []) X hl.1 hE hP hD hS hA [(h0, .inr (5, [.ref qel, .int (nI rl2_137)])), (qel, .inl (cA, 16, .inl lt2_138))] [] [0, 1] [] rfl rfl rfl (by decide +kernel) (by decide +kernel) (by decide +kernel) (c_s_put l D cA cB h0 qel rl2_137 lt2_138 (48 + ((v / 1) - (v / 1) / 10 * 10)) (by first | assumption | decide | rfl | omega)) w_408 w_409 w_407 w_410 w_411 0 (ci := 5) (T := TX5) (N := 2) rfl rfl (by decide +kernel) rfl rfl (Nat.le_of_ble_eq_true rfl) ⟨(Nat.le_of_ble_eq_true rfl), (Nat.le_of_ble_eq_true rfl)⟩ ⟨(Nat.le_of_ble_eq_true rfl), (Nat.le_of_ble_eq_true rfl)⟩ dX5_putNumber_29 (fun W1 H locs hw hP hD hS => ?_)
            obtain ⟨rl2_164, lt2_165, hf_166, rfl⟩ := hw
            have hP : va_P D classes [(h0, .inr (5, [.ref qel, .int (nI rl2_164)])), (qel, .inl (cA, 16, .inl lt2_165))] H := hP
            have hD : va_D A [(h0, .inr (5, [.ref qel, .int (nI rl2_164)])), (qel, .inl (cA, 16, .inl lt2_165))] := hD
            refine lv_iload_n hx hb dX5_putNumber_32 rfl (lv_at hl 0 rfl) ?_
            refine lv_bipush (v := 10) hx hb dX5_putNumber_33 (by decide) ?_
            refine lv_idiv hx hb dX5_putNumber_35 (by decide) ?_
            refine tk (y := 0) (by decide) ?_
            refine lv_istore_n (lv' := [(2, .int 0), (0, .ref h0), (1, .int v)]) hx hb dX5_putNumber_36 rfl hl (by decide) rfl (fun ls hl => ?_)
            refine lv_goto (tgt := 4) hx hb dX5_putNumber_37 (by decide) ?_
            refine lv_iload_n hx hb dX5_putNumber_4 rfl (lv_at hl 0 rfl) ?_
            refine lv_iconst (v := 1) hx hb dX5_putNumber_5 (by decide) ?_
            refine lv_icmp_lt (tgt := 40) hx hb dX5_putNumber_6 (by decide) (fun c_6_167 => ?_) (fun c_6_167 => absurd (by decide) c_6_167)
            exact endV X hr hlocks hP hD hS dX5_putNumber_40 ⟨rl2_164, lt2_165, (by omega), rfl⟩
      · skip
        refine lv_iload_n hx hb dX5_putNumber_14 rfl (lv_at hl 0 rfl) ?_
        refine lv_iconst (v := 1) hx hb dX5_putNumber_15 (by decide) ?_
        refine lv_icmp_ne (tgt := 32) hx hb dX5_putNumber_16 (by decide) (fun c_16_168 => ?_) (fun c_16_168 => absurd c_16_168 (by decide))
        refine lv_iload_n hx hb dX5_putNumber_32 rfl (lv_at hl 0 rfl) ?_
        refine lv_bipush (v := 10) hx hb dX5_putNumber_33 (by decide) ?_
        refine lv_idiv hx hb dX5_putNumber_35 (by decide) ?_
        refine tk (y := 10) (by decide) ?_
        refine lv_istore_n (lv' := [(2, .int 10), (0, .ref h0), (1, .int v)]) hx hb dX5_putNumber_36 rfl hl (by decide) rfl (fun ls hl => ?_)
        refine lv_goto (tgt := 4) hx hb dX5_putNumber_37 (by decide) ?_
        refine lv_iload_n hx hb dX5_putNumber_4 rfl (lv_at hl 0 rfl) ?_
        refine lv_iconst (v := 1) hx hb dX5_putNumber_5 (by decide) ?_
        refine lv_icmp_lt (tgt := 40) hx hb dX5_putNumber_6 (by decide) (fun c_6_169 => absurd c_6_169 (by decide)) (fun c_6_169 => ?_)
        refine lv_iload_n hx hb dX5_putNumber_9 rfl (lv_at hl 2 rfl) ?_
        refine lv_iload_n hx hb dX5_putNumber_10 rfl (lv_at hl 0 rfl) ?_
        refine lv_icmp_ge (tgt := 19) hx hb dX5_putNumber_11 (by decide) (fun c_11_170 => ?_) (fun c_11_170 => ?_)
        · skip
          refine lv_aload_n hx hb dX5_putNumber_19 rfl (lv_at hl 1 rfl) ?_
          refine lv_bipush (v := 48) hx hb dX5_putNumber_20 (by decide) ?_
          refine lv_iload_n hx hb dX5_putNumber_22 rfl (lv_at hl 2 rfl) ?_
          refine lv_iload_n hx hb dX5_putNumber_23 rfl (lv_at hl 0 rfl) ?_
          refine lv_idiv hx hb dX5_putNumber_24 (by decide) ?_
          refine lv_bipush (v := 10) hx hb dX5_putNumber_25 (by decide) ?_
          refine lv_irem hx hb dX5_putNumber_27 (by decide) ?_
          refine lv_iadd hx hb dX5_putNumber_28 ?_
          refine kVv (n3 := 1) (As := [.int (48 + ((v / 10) - (v / 10) / 10 * 10))]) (rest := []) X hl.1 hE hP hD hS hA [(h0, .inr (5, [.ref qel, .int (nI rl2_132)])), (qel, .inl (cA, 16, .inl lt2_133))] [] [0, 1] [] rfl rfl rfl (by decide +kernel) (by decide +kernel) (by decide +kernel) (c_s_put l D cA cB h0 qel rl2_132 lt2_133 (48 + ((v / 10) - (v / 10) / 10 * 10)) (by first | assumption | decide | rfl | omega)) w_408 w_409 w_407 w_410 w_411 0 (ci := 5) (T := TX5) (N := 2) rfl rfl (by decide +kernel) rfl rfl (Nat.le_of_ble_eq_true rfl) ⟨(Nat.le_of_ble_eq_true rfl), (Nat.le_of_ble_eq_true rfl)⟩ ⟨(Nat.le_of_ble_eq_true rfl), (Nat.le_of_ble_eq_true rfl)⟩ dX5_putNumber_29 (fun W1 H locs hw hP hD hS => ?_)
          obtain ⟨rl2_171, lt2_172, hf_173, rfl⟩ := hw
          have hP : va_P D classes [(h0, .inr (5, [.ref qel, .int (nI rl2_171)])), (qel, .inl (cA, 16, .inl lt2_172))] H := hP
          have hD : va_D A [(h0, .inr (5, [.ref qel, .int (nI rl2_171)])), (qel, .inl (cA, 16, .inl lt2_172))] := hD
          refine lv_iload_n hx hb dX5_putNumber_32 rfl (lv_at hl 0 rfl) ?_
          refine lv_bipush (v := 10) hx hb dX5_putNumber_33 (by decide) ?_
          refine lv_idiv hx hb dX5_putNumber_35 (by decide) ?_
          refine tk (y := 1) (by decide) ?_
          refine lv_istore_n (lv' := [(2, .int 1), (0, .ref h0), (1, .int v)]) hx hb dX5_putNumber_36 rfl hl (by decide) rfl (fun ls hl => ?_)
          refine lv_goto (tgt := 4) hx hb dX5_putNumber_37 (by decide) ?_
          refine lv_iload_n hx hb dX5_putNumber_4 rfl (lv_at hl 0 rfl) ?_
          refine lv_iconst (v := 1) hx hb dX5_putNumber_5 (by decide) ?_
          refine lv_icmp_lt (tgt := 40) hx hb dX5_putNumber_6 (by decide) (fun c_6_174 => absurd c_6_174 (by decide)) (fun c_6_174 => ?_)
          refine lv_iload_n hx hb dX5_putNumber_9 rfl (lv_at hl 2 rfl) ?_
          refine lv_iload_n hx hb dX5_putNumber_10 rfl (lv_at hl 0 rfl) ?_
          refine lv_icmp_ge (tgt := 19) hx hb dX5_putNumber_11 (by decide) (fun c_11_175 => ?_) (fun c_11_175 => ?_)
          · skip
            refine lv_aload_n hx hb dX5_putNumber_19 rfl (lv_at hl 1 rfl) ?_
            refine lv_bipush (v := 48) hx hb dX5_putNumber_20 (by decide) ?_
            refine lv_iload_n hx hb dX5_putNumber_22 rfl (lv_at hl 2 rfl) ?_
            refine lv_iload_n hx hb dX5_putNumber_23 rfl (lv_at hl 0 rfl) ?_
            refine lv_idiv hx hb dX5_putNumber_24 (by decide) ?_
            refine lv_bipush (v := 10) hx hb dX5_putNumber_25 (by decide) ?_
            refine lv_irem hx hb dX5_putNumber_27 (by decide) ?_
            refine lv_iadd hx hb dX5_putNumber_28 ?_
            refine kVv (n3 := 1) (As := [.int (48 + ((v / 1) - (v / 1) / 10 * 10))]) (rest := []) X hl.1 hE hP hD hS hA [(h0, .inr (5, [.ref qel, .int (nI rl2_171)])), (qel, .inl (cA, 16, .inl lt2_172))] [] [0, 1] [] rfl rfl rfl (by decide +kernel) (by decide +kernel) (by decide +kernel) (c_s_put l D cA cB h0 qel rl2_171 lt2_172 (48 + ((v / 1) - (v / 1) / 10 * 10)) (by first | assumption | decide | rfl | omega)) w_408 w_409 w_407 w_410 w_411 0 (ci := 5) (T := TX5) (N := 2) rfl rfl (by decide +kernel) rfl rfl (Nat.le_of_ble_eq_true rfl) ⟨(Nat.le_of_ble_eq_true rfl), (Nat.le_of_ble_eq_true rfl)⟩ ⟨(Nat.le_of_ble_eq_true rfl), (Nat.le_of_ble_eq_true rfl)⟩ dX5_putNumber_29 (fun W1 H locs hw hP hD hS => ?_)
            obtain ⟨rl2_176, lt2_177, hf_178, rfl⟩ := hw
            have hP : va_P D classes [(h0, .inr (5, [.ref qel, .int (nI rl2_176)])), (qel, .inl (cA, 16, .inl lt2_177))] H := hP
            have hD : va_D A [(h0, .inr (5, [.ref qel, .int (nI rl2_176)])), (qel, .inl (cA, 16, .inl lt2_177))] := hD
            refine lv_iload_n hx hb dX5_putNumber_32 rfl (lv_at hl 0 rfl) ?_
            refine lv_bipush (v := 10) hx hb dX5_putNumber_33 (by decide) ?_
            refine lv_idiv hx hb dX5_putNumber_35 (by decide) ?_
            refine tk (y := 0) (by decide) ?_
            refine lv_istore_n (lv' := [(2, .int 0), (0, .ref h0), (1, .int v)]) hx hb dX5_putNumber_36 rfl hl (by decide) rfl (fun ls hl => ?_)
            refine lv_goto (tgt := 4) hx hb dX5_putNumber_37 (by decide) ?_
            refine lv_iload_n hx hb dX5_putNumber_4 rfl (lv_at hl 0 rfl) ?_
            refine lv_iconst (v := 1) hx hb dX5_putNumber_5 (by decide) ?_
            refine lv_icmp_lt (tgt := 40) hx hb dX5_putNumber_6 (by decide) (fun c_6_179 => ?_) (fun c_6_179 => absurd (by decide) c_6_179)
            exact endV X hr hlocks hP hD hS dX5_putNumber_40 ⟨rl2_176, lt2_177, (by omega), rfl⟩
          · skip
            refine lv_iload_n hx hb dX5_putNumber_14 rfl (lv_at hl 0 rfl) ?_
            refine lv_iconst (v := 1) hx hb dX5_putNumber_15 (by decide) ?_
            refine lv_icmp_ne (tgt := 32) hx hb dX5_putNumber_16 (by decide) (fun c_16_180 => absurd (by decide) c_16_180) (fun c_16_180 => ?_)
            refine lv_aload_n hx hb dX5_putNumber_19 rfl (lv_at hl 1 rfl) ?_
            refine lv_bipush (v := 48) hx hb dX5_putNumber_20 (by decide) ?_
            refine lv_iload_n hx hb dX5_putNumber_22 rfl (lv_at hl 2 rfl) ?_
            refine lv_iload_n hx hb dX5_putNumber_23 rfl (lv_at hl 0 rfl) ?_
            refine lv_idiv hx hb dX5_putNumber_24 (by decide) ?_
            refine lv_bipush (v := 10) hx hb dX5_putNumber_25 (by decide) ?_
            refine lv_irem hx hb dX5_putNumber_27 (by decide) ?_
            refine lv_iadd hx hb dX5_putNumber_28 ?_
            refine kVv (n3 := 1) (As := [.int (48 + ((v / 1) - (v / 1) / 10 * 10))]) (rest := []) X hl.1 hE hP hD hS hA [(h0, .inr (5, [.ref qel, .int (nI rl2_171)])), (qel, .inl (cA, 16, .inl lt2_172))] [] [0, 1] [] rfl rfl rfl (by decide +kernel) (by decide +kernel) (by decide +kernel) (c_s_put l D cA cB h0 qel rl2_171 lt2_172 (48 + ((v / 1) - (v / 1) / 10 * 10)) (by first | assumption | decide | rfl | omega)) w_408 w_409 w_407 w_410 w_411 0 (ci := 5) (T := TX5) (N := 2) rfl rfl (by decide +kernel) rfl rfl (Nat.le_of_ble_eq_true rfl) ⟨(Nat.le_of_ble_eq_true rfl), (Nat.le_of_ble_eq_true rfl)⟩ ⟨(Nat.le_of_ble_eq_true rfl), (Nat.le_of_ble_eq_true rfl)⟩ dX5_putNumber_29 (fun W1 H locs hw hP hD hS => ?_)
            obtain ⟨rl2_181, lt2_182, hf_183, rfl⟩ := hw
            have hP : va_P D classes [(h0, .inr (5, [.ref qel, .int (nI rl2_181)])), (qel, .inl (cA, 16, .inl lt2_182))] H := hP
            have hD : va_D A [(h0, .inr (5, [.ref qel, .int (nI rl2_181)])), (qel, .inl (cA, 16, .inl lt2_182))] := hD
            refine lv_iload_n hx hb dX5_putNumber_32 rfl (lv_at hl 0 rfl) ?_
            refine lv_bipush (v := 10) hx hb dX5_putNumber_33 (by decide) ?_
            refine lv_idiv hx hb dX5_putNumber_35 (by decide) ?_
            refine tk (y := 0) (by decide) ?_
            refine lv_istore_n (lv' := [(2, .int 0), (0, .ref h0), (1, .int v)]) hx hb dX5_putNumber_36 rfl hl (by decide) rfl (fun ls hl => ?_)
            refine lv_goto (tgt := 4) hx hb dX5_putNumber_37 (by decide) ?_
            refine lv_iload_n hx hb dX5_putNumber_4 rfl (lv_at hl 0 rfl) ?_
            refine lv_iconst (v := 1) hx hb dX5_putNumber_5 (by decide) ?_
            refine lv_icmp_lt (tgt := 40) hx hb dX5_putNumber_6 (by decide) (fun c_6_184 => ?_) (fun c_6_184 => absurd (by decide) c_6_184)
            exact endV X hr hlocks hP hD hS dX5_putNumber_40 ⟨rl2_181, lt2_182, (by omega), rfl⟩
        · skip
          refine lv_iload_n hx hb dX5_putNumber_14 rfl (lv_at hl 0 rfl) ?_
          refine lv_iconst (v := 1) hx hb dX5_putNumber_15 (by decide) ?_
          refine lv_icmp_ne (tgt := 32) hx hb dX5_putNumber_16 (by decide) (fun c_16_185 => ?_) (fun c_16_185 => absurd c_16_185 (by decide))
          refine lv_iload_n hx hb dX5_putNumber_32 rfl (lv_at hl 0 rfl) ?_
          refine lv_bipush (v := 10) hx hb dX5_putNumber_33 (by decide) ?_
          refine lv_idiv hx hb dX5_putNumber_35 (by decide) ?_
          refine tk (y := 1) (by decide) ?_
          refine lv_istore_n (lv' := [(2, .int 1), (0, .ref h0), (1, .int v)]) hx hb dX5_putNumber_36 rfl hl (by decide) rfl (fun ls hl => ?_)
          refine lv_goto (tgt := 4) hx hb dX5_putNumber_37 (by decide) ?_
          refine lv_iload_n hx hb dX5_putNumber_4 rfl (lv_at hl 0 rfl) ?_
          refine lv_iconst (v := 1) hx hb dX5_putNumber_5 (by decide) ?_
          refine lv_icmp_lt (tgt := 40) hx hb dX5_putNumber_6 (by decide) (fun c_6_186 => absurd c_6_186 (by decide)) (fun c_6_186 => ?_)
          refine lv_iload_n hx hb dX5_putNumber_9 rfl (lv_at hl 2 rfl) ?_
          refine lv_iload_n hx hb dX5_putNumber_10 rfl (lv_at hl 0 rfl) ?_
          refine lv_icmp_ge (tgt := 19) hx hb dX5_putNumber_11 (by decide) (fun c_11_187 => ?_) (fun c_11_187 => ?_)
          · skip
            refine lv_aload_n hx hb dX5_putNumber_19 rfl (lv_at hl 1 rfl) ?_
            refine lv_bipush (v := 48) hx hb dX5_putNumber_20 (by decide) ?_
            refine lv_iload_n hx hb dX5_putNumber_22 rfl (lv_at hl 2 rfl) ?_
            refine lv_iload_n hx hb dX5_putNumber_23 rfl (lv_at hl 0 rfl) ?_
            refine lv_idiv hx hb dX5_putNumber_24 (by decide) ?_
            refine lv_bipush (v := 10) hx hb dX5_putNumber_25 (by decide) ?_
            refine lv_irem hx hb dX5_putNumber_27 (by decide) ?_
            refine lv_iadd hx hb dX5_putNumber_28 ?_
            refine kVv (n3 := 1) (As := [.int (48 + ((v / 1) - (v / 1) / 10 * 10))]) (rest := []) X hl.1 hE hP hD hS hA [(h0, .inr (5, [.ref qel, .int (nI rl2_132)])), (qel, .inl (cA, 16, .inl lt2_133))] [] [0, 1] [] rfl rfl rfl (by decide +kernel) (by decide +kernel) (by decide +kernel) (c_s_put l D cA cB h0 qel rl2_132 lt2_133 (48 + ((v / 1) - (v / 1) / 10 * 10)) (by first | assumption | decide | rfl | omega)) w_408 w_409 w_407 w_410 w_411 0 (ci := 5) (T := TX5) (N := 2) rfl rfl (by decide +kernel) rfl rfl (Nat.le_of_ble_eq_true rfl) ⟨(Nat.le_of_ble_eq_true rfl), (Nat.le_of_ble_eq_true rfl)⟩ ⟨(Nat.le_of_ble_eq_true rfl), (Nat.le_of_ble_eq_true rfl)⟩ dX5_putNumber_29 (fun W1 H locs hw hP hD hS => ?_)
            obtain ⟨rl2_188, lt2_189, hf_190, rfl⟩ := hw
            have hP : va_P D classes [(h0, .inr (5, [.ref qel, .int (nI rl2_188)])), (qel, .inl (cA, 16, .inl lt2_189))] H := hP
            have hD : va_D A [(h0, .inr (5, [.ref qel, .int (nI rl2_188)])), (qel, .inl (cA, 16, .inl lt2_189))] := hD
            refine lv_iload_n hx hb dX5_putNumber_32 rfl (lv_at hl 0 rfl) ?_
            refine lv_bipush (v := 10) hx hb dX5_putNumber_33 (by decide) ?_
            refine lv_idiv hx hb dX5_putNumber_35 (by decide) ?_
            refine tk (y := 0) (by decide) ?_
            refine lv_istore_n (lv' := [(2, .int 0), (0, .ref h0), (1, .int v)]) hx hb dX5_putNumber_36 rfl hl (by decide) rfl (fun ls hl => ?_)
            refine lv_goto (tgt := 4) hx hb dX5_putNumber_37 (by decide) ?_
            refine lv_iload_n hx hb dX5_putNumber_4 rfl (lv_at hl 0 rfl) ?_
            refine lv_iconst (v := 1) hx hb dX5_putNumber_5 (by decide) ?_
            refine lv_icmp_lt (tgt := 40) hx hb dX5_putNumber_6 (by decide) (fun c_6_191 => ?_) (fun c_6_191 => absurd (by decide) c_6_191)
            exact endV X hr hlocks hP hD hS dX5_putNumber_40 ⟨rl2_188, lt2_189, (by omega), rfl⟩
          · skip
            refine lv_iload_n hx hb dX5_putNumber_14 rfl (lv_at hl 0 rfl) ?_
            refine lv_iconst (v := 1) hx hb dX5_putNumber_15 (by decide) ?_
            refine lv_icmp_ne (tgt := 32) hx hb dX5_putNumber_16 (by decide) (fun c_16_192 => absurd (by decide) c_16_192) (fun c_16_192 => ?_)
            refine lv_aload_n hx hb dX5_putNumber_19 rfl (lv_at hl 1 rfl) ?_
            refine lv_bipush (v := 48) hx hb dX5_putNumber_20 (by decide) ?_
            refine lv_iload_n hx hb dX5_putNumber_22 rfl (lv_at hl 2 rfl) ?_
            refine lv_iload_n hx hb dX5_putNumber_23 rfl (lv_at hl 0 rfl) ?_
            refine lv_idiv hx hb dX5_putNumber_24 (by decide) ?_
            refine lv_bipush (v := 10) hx hb dX5_putNumber_25 (by decide) ?_
            refine lv_irem hx hb dX5_putNumber_27 (by decide) ?_
            refine lv_iadd hx hb dX5_putNumber_28 ?_
            refine kVv (n3 := 1) (As := [.int (48 + ((v / 1) - (v / 1) / 10 * 10))]) (rest := []) X hl.1 hE hP hD hS hA [(h0, .inr (5, [.ref qel, .int (nI rl2_132)])), (qel, .inl (cA, 16, .inl lt2_133))] [] [0, 1] [] rfl rfl rfl (by decide +kernel) (by decide +kernel) (by decide +kernel) (c_s_put l D cA cB h0 qel rl2_132 lt2_133 (48 + ((v / 1) - (v / 1) / 10 * 10)) (by first | assumption | decide | rfl | omega)) w_408 w_409 w_407 w_410 w_411 0 (ci := 5) (T := TX5) (N := 2) rfl rfl (by decide +kernel) rfl rfl (Nat.le_of_ble_eq_true rfl) ⟨(Nat.le_of_ble_eq_true rfl), (Nat.le_of_ble_eq_true rfl)⟩ ⟨(Nat.le_of_ble_eq_true rfl), (Nat.le_of_ble_eq_true rfl)⟩ dX5_putNumber_29 (fun W1 H locs hw hP hD hS => ?_)
            obtain ⟨rl2_193, lt2_194, hf_195, rfl⟩ := hw
            have hP : va_P D classes [(h0, .inr (5, [.ref qel, .int (nI rl2_193)])), (qel, .inl (cA, 16, .inl lt2_194))] H := hP
            have hD : va_D A [(h0, .inr (5, [.ref qel, .int (nI rl2_193)])), (qel, .inl (cA, 16, .inl lt2_194))] := hD
            refine lv_iload_n hx hb dX5_putNumber_32 rfl (lv_at hl 0 rfl) ?_
            refine lv_bipush (v := 10) hx hb dX5_putNumber_33 (by decide) ?_
            refine lv_idiv hx hb dX5_putNumber_35 (by decide) ?_
            refine tk (y := 0) (by decide) ?_
            refine lv_istore_n (lv' := [(2, .int 0), (0, .ref h0), (1, .int v)]) hx hb dX5_putNumber_36 rfl hl (by decide) rfl (fun ls hl => ?_)
            refine lv_goto (tgt := 4) hx hb dX5_putNumber_37 (by decide) ?_
            refine lv_iload_n hx hb dX5_putNumber_4 rfl (lv_at hl 0 rfl) ?_
            refine lv_iconst (v := 1) hx hb dX5_putNumber_5 (by decide) ?_
            refine lv_icmp_lt (tgt := 40) hx hb dX5_putNumber_6 (by decide) (fun c_6_196 => ?_) (fun c_6_196 => absurd (by decide) c_6_196)
            exact endV X hr hlocks hP hD hS dX5_putNumber_40 ⟨rl2_193, lt2_194, (by omega), rfl⟩
    · skip
      refine lv_iload_n hx hb dX5_putNumber_14 rfl (lv_at hl 0 rfl) ?_
      refine lv_iconst (v := 1) hx hb dX5_putNumber_15 (by decide) ?_
      refine lv_icmp_ne (tgt := 32) hx hb dX5_putNumber_16 (by decide) (fun c_16_197 => ?_) (fun c_16_197 => absurd c_16_197 (by decide))
      refine lv_iload_n hx hb dX5_putNumber_32 rfl (lv_at hl 0 rfl) ?_
      refine lv_bipush (v := 10) hx hb dX5_putNumber_33 (by decide) ?_
      refine lv_idiv hx hb dX5_putNumber_35 (by decide) ?_
      refine tk (y := 100) (by decide) ?_
      refine lv_istore_n (lv' := [(2, .int 100), (0, .ref h0), (1, .int v)]) hx hb dX5_putNumber_36 rfl hl (by decide) rfl (fun ls hl => ?_)
      refine lv_goto (tgt := 4) hx hb dX5_putNumber_37 (by decide) ?_
      refine lv_iload_n hx hb dX5_putNumber_4 rfl (lv_at hl 0 rfl) ?_
      refine lv_iconst (v := 1) hx hb dX5_putNumber_5 (by decide) ?_
      refine lv_icmp_lt (tgt := 40) hx hb dX5_putNumber_6 (by decide) (fun c_6_198 => absurd c_6_198 (by decide)) (fun c_6_198 => ?_)
      refine lv_iload_n hx hb dX5_putNumber_9 rfl (lv_at hl 2 rfl) ?_
      refine lv_iload_n hx hb dX5_putNumber_10 rfl (lv_at hl 0 rfl) ?_
      refine lv_icmp_ge (tgt := 19) hx hb dX5_putNumber_11 (by decide) (fun c_11_199 => ?_) (fun c_11_199 => ?_)
      · skip
        refine lv_aload_n hx hb dX5_putNumber_19 rfl (lv_at hl 1 rfl) ?_
        refine lv_bipush (v := 48) hx hb dX5_putNumber_20 (by decide) ?_
        refine lv_iload_n hx hb dX5_putNumber_22 rfl (lv_at hl 2 rfl) ?_
        refine lv_iload_n hx hb dX5_putNumber_23 rfl (lv_at hl 0 rfl) ?_
        refine lv_idiv hx hb dX5_putNumber_24 (by decide) ?_
        refine lv_bipush (v := 10) hx hb dX5_putNumber_25 (by decide) ?_
        refine lv_irem hx hb dX5_putNumber_27 (by decide) ?_
        refine lv_iadd hx hb dX5_putNumber_28 ?_
        refine kVv (n3 := 1) (As := [.int (48 + ((v / 100) - (v / 100) / 10 * 10))]) (rest := []) X hl.1 hE hP hD hS hA [(h0, .inr (5, [.ref qel, .int (nI rl)])), (qel, .inl (cA, 16, .inl lt))] [] [0, 1] [] rfl rfl rfl (by decide +kernel) (by decide +kernel) (by decide +kernel) (c_s_put l D cA cB h0 qel rl lt (48 + ((v / 100) - (v / 100) / 10 * 10)) (by first | assumption | decide | rfl | omega)) w_408 w_409 w_407 w_410 w_411 0 (ci := 5) (T := TX5) (N := 2) rfl rfl (by decide +kernel) rfl rfl (Nat.le_of_ble_eq_true rfl) ⟨(Nat.le_of_ble_eq_true rfl), (Nat.le_of_ble_eq_true rfl)⟩ ⟨(Nat.le_of_ble_eq_true rfl), (Nat.le_of_ble_eq_true rfl)⟩ dX5_putNumber_29 (fun W1 H locs hw hP hD hS => ?_)
        obtain ⟨rl2_200, lt2_201, hf_202, rfl⟩ := hw
        have hP : va_P D classes [(h0, .inr (5, [.ref qel, .int (nI rl2_200)])), (qel, .inl (cA, 16, .inl lt2_201))] H := hP
        have hD : va_D A [(h0, .inr (5, [.ref qel, .int (nI rl2_200)])), (qel, .inl (cA, 16, .inl lt2_201))] := hD
        refine lv_iload_n hx hb dX5_putNumber_32 rfl (lv_at hl 0 rfl) ?_
        refine lv_bipush (v := 10) hx hb dX5_putNumber_33 (by decide) ?_
        refine lv_idiv hx hb dX5_putNumber_35 (by decide) ?_
        refine tk (y := 10) (by decide) ?_
        refine lv_istore_n (lv' := [(2, .int 10), (0, .ref h0), (1, .int v)]) hx hb dX5_putNumber_36 rfl hl (by decide) rfl (fun ls hl => ?_)
        refine lv_goto (tgt := 4) hx hb dX5_putNumber_37 (by decide) ?_
        refine lv_iload_n hx hb dX5_putNumber_4 rfl (lv_at hl 0 rfl) ?_
        refine lv_iconst (v := 1) hx hb dX5_putNumber_5 (by decide) ?_
        refine lv_icmp_lt (tgt := 40) hx hb dX5_putNumber_6 (by decide) (fun c_6_203 => absurd c_6_203 (by decide)) (fun c_6_203 => ?_)
        refine lv_iload_n hx hb dX5_putNumber_9 rfl (lv_at hl 2 rfl) ?_
        refine lv_iload_n hx hb dX5_putNumber_10 rfl (lv_at hl 0 rfl) ?_
        refine lv_icmp_ge (tgt := 19) hx hb dX5_putNumber_11 (by decide) (fun c_11_204 => ?_) (fun c_11_204 => ?_)
        · skip
          refine lv_aload_n hx hb dX5_putNumber_19 rfl (lv_at hl 1 rfl) ?_
          refine lv_bipush (v := 48) hx hb dX5_putNumber_20 (by decide) ?_
          refine lv_iload_n hx hb dX5_putNumber_22 rfl (lv_at hl 2 rfl) ?_
          refine lv_iload_n hx hb dX5_putNumber_23 rfl (lv_at hl 0 rfl) ?_
          refine lv_idiv hx hb dX5_putNumber_24 (by decide) ?_
          refine lv_bipush (v := 10) hx hb dX5_putNumber_25 (by decide) ?_
          refine lv_irem hx hb dX5_putNumber_27 (by decide) ?_
          refine lv_iadd hx hb dX5_putNumber_28 ?_
          refine kVv (n3 := 1) (As := [.int (48 + ((v / 10) - (v / 10) / 10 * 10))]) (rest := []) X hl.1 hE hP hD hS hA [(h0, .inr (5, [.ref qel, .int (nI rl2_200)])), (qel, .inl (cA, 16, .inl lt2_201))] [] [0, 1] [] rfl rfl rfl (by decide +kernel) (by decide +kernel) (by decide +kernel) (c_s_put l D cA cB h0 qel rl2_200 lt2_201 (48 + ((v / 10) - (v / 10) / 10 * 10)) (by first | assumption | decide | rfl | omega)) w_408 w_409 w_407 w_410 w_411 0 (ci := 5) (T := TX5) (N := 2) rfl rfl (by decide +kernel) rfl rfl (Nat.le_of_ble_eq_true rfl) ⟨(Nat.le_of_ble_eq_true rfl), (Nat.le_of_ble_eq_true rfl)⟩ ⟨(Nat.le_of_ble_eq_true rfl), (Nat.le_of_ble_eq_true rfl)⟩ dX5_putNumber_29 (fun W1 H locs hw hP hD hS => ?_)
          obtain ⟨rl2_205, lt2_206, hf_207, rfl⟩ := hw
          have hP : va_P D classes [(h0, .inr (5, [.ref qel, .int (nI rl2_205)])), (qel, .inl (cA, 16, .inl lt2_206))] H := hP
          have hD : va_D A [(h0, .inr (5, [.ref qel, .int (nI rl2_205)])), (qel, .inl (cA, 16, .inl lt2_206))] := hD
          refine lv_iload_n hx hb dX5_putNumber_32 rfl (lv_at hl 0 rfl) ?_
          refine lv_bipush (v := 10) hx hb dX5_putNumber_33 (by decide) ?_
          refine lv_idiv hx hb dX5_putNumber_35 (by decide) ?_
          refine tk (y := 1) (by decide) ?_
          refine lv_istore_n (lv' := [(2, .int 1), (0, .ref h0), (1, .int v)]) hx hb dX5_putNumber_36 rfl hl (by decide) rfl (fun ls hl => ?_)
          refine lv_goto (tgt := 4) hx hb dX5_putNumber_37 (by decide) ?_
          refine lv_iload_n hx hb dX5_putNumber_4 rfl (lv_at hl 0 rfl) ?_
          refine lv_iconst (v := 1) hx hb dX5_putNumber_5 (by decide) ?_
          refine lv_icmp_lt (tgt := 40) hx hb dX5_putNumber_6 (by decide) (fun c_6_208 => absurd c_6_208 (by decide)) (fun c_6_208 => ?_)
          refine lv_iload_n hx hb dX5_putNumber_9 rfl (lv_at hl 2 rfl) ?_
          refine lv_iload_n hx hb dX5_putNumber_10 rfl (lv_at hl 0 rfl) ?_
          refine lv_icmp_ge (tgt := 19) hx hb dX5_putNumber_11 (by decide) (fun c_11_209 => ?_) (fun c_11_209 => ?_)
          · skip
            refine lv_aload_n hx hb dX5_putNumber_19 rfl (lv_at hl 1 rfl) ?_
            refine lv_bipush (v := 48) hx hb dX5_putNumber_20 (by decide) ?_
            refine lv_iload_n hx hb dX5_putNumber_22 rfl (lv_at hl 2 rfl) ?_
            refine lv_iload_n hx hb dX5_putNumber_23 rfl (lv_at hl 0 rfl) ?_
            refine lv_idiv hx hb dX5_putNumber_24 (by decide) ?_
            refine lv_bipush (v := 10) hx hb dX5_putNumber_25 (by decide) ?_
            refine lv_irem hx hb dX5_putNumber_27 (by decide) ?_
            refine lv_iadd hx hb dX5_putNumber_28 ?_
            refine kVv (n3 := 1) (As := [.int (48 + ((v / 1) - (v / 1) / 10 * 10))]) (rest := []) X hl.1 hE hP hD hS hA [(h0, .inr (5, [.ref qel, .int (nI rl2_205)])), (qel, .inl (cA, 16, .inl lt2_206))] [] [0, 1] [] rfl rfl rfl (by decide +kernel) (by decide +kernel) (by decide +kernel) (c_s_put l D cA cB h0 qel rl2_205 lt2_206 (48 + ((v / 1) - (v / 1) / 10 * 10)) (by first | assumption | decide | rfl | omega)) w_408 w_409 w_407 w_410 w_411 0 (ci := 5) (T := TX5) (N := 2) rfl rfl (by decide +kernel) rfl rfl (Nat.le_of_ble_eq_true rfl) ⟨(Nat.le_of_ble_eq_true rfl), (Nat.le_of_ble_eq_true rfl)⟩ ⟨(Nat.le_of_ble_eq_true rfl), (Nat.le_of_ble_eq_true rfl)⟩ dX5_putNumber_29 (fun W1 H locs hw hP hD hS => ?_)
            obtain ⟨rl2_210, lt2_211, hf_212, rfl⟩ := hw
            have hP : va_P D classes [(h0, .inr (5, [.ref qel, .int (nI rl2_210)])), (qel, .inl (cA, 16, .inl lt2_211))] H := hP
            have hD : va_D A [(h0, .inr (5, [.ref qel, .int (nI rl2_210)])), (qel, .inl (cA, 16, .inl lt2_211))] := hD
            refine lv_iload_n hx hb dX5_putNumber_32 rfl (lv_at hl 0 rfl) ?_
            refine lv_bipush (v := 10) hx hb dX5_putNumber_33 (by decide) ?_
            refine lv_idiv hx hb dX5_putNumber_35 (by decide) ?_
            refine tk (y := 0) (by decide) ?_
            refine lv_istore_n (lv' := [(2, .int 0), (0, .ref h0), (1, .int v)]) hx hb dX5_putNumber_36 rfl hl (by decide) rfl (fun ls hl => ?_)
            refine lv_goto (tgt := 4) hx hb dX5_putNumber_37 (by decide) ?_
            refine lv_iload_n hx hb dX5_putNumber_4 rfl (lv_at hl 0 rfl) ?_
            refine lv_iconst (v := 1) hx hb dX5_putNumber_5 (by decide) ?_
            refine lv_icmp_lt (tgt := 40) hx hb dX5_putNumber_6 (by decide) (fun c_6_213 => ?_) (fun c_6_213 => absurd (by decide) c_6_213)
            exact endV X hr hlocks hP hD hS dX5_putNumber_40 ⟨rl2_210, lt2_211, (by omega), rfl⟩
          · skip
            refine lv_iload_n hx hb dX5_putNumber_14 rfl (lv_at hl 0 rfl) ?_
            refine lv_iconst (v := 1) hx hb dX5_putNumber_15 (by decide) ?_
            refine lv_icmp_ne (tgt := 32) hx hb dX5_putNumber_16 (by decide) (fun c_16_214 => absurd (by decide) c_16_214) (fun c_16_214 => ?_)
            refine lv_aload_n hx hb dX5_putNumber_19 rfl (lv_at hl 1 rfl) ?_
            refine lv_bipush (v := 48) hx hb dX5_putNumber_20 (by decide) ?_
            refine lv_iload_n hx hb dX5_putNumber_22 rfl (lv_at hl 2 rfl) ?_
            refine lv_iload_n hx hb dX5_putNumber_23 rfl (lv_at hl 0 rfl) ?_
            refine lv_idiv hx hb dX5_putNumber_24 (by decide) ?_
            refine lv_bipush (v := 10) hx hb dX5_putNumber_25 (by decide) ?_
            refine lv_irem hx hb dX5_putNumber_27 (by decide) ?_
            refine lv_iadd hx hb dX5_putNumber_28 ?_
            refine kVv (n3 := 1) (As := [.int (48 + ((v / 1) - (v / 1) / 10 * 10))]) (rest := []) X hl.1 hE hP hD hS hA [(h0, .inr (5, [.ref qel, .int (nI rl2_205)])), (qel, .inl (cA, 16, .inl lt2_206))] [] [0, 1] [] rfl rfl rfl (by decide +kernel) (by decide +kernel) (by decide +kernel) (c_s_put l D cA cB h0 qel rl2_205 lt2_206 (48 + ((v / 1) - (v / 1) / 10 * 10)) (by first | assumption | decide | rfl | omega)) w_408 w_409 w_407 w_410 w_411 0 (ci := 5) (T := TX5) (N := 2) rfl rfl (by decide +kernel) rfl rfl (Nat.le_of_ble_eq_true rfl) ⟨(Nat.le_of_ble_eq_true rfl), (Nat.le_of_ble_eq_true rfl)⟩ ⟨(Nat.le_of_ble_eq_true rfl), (Nat.le_of_ble_eq_true rfl)⟩ dX5_putNumber_29 (fun W1 H locs hw hP hD hS => ?_)
            obtain ⟨rl2_215, lt2_216, hf_217, rfl⟩ := hw
            have hP : va_P D classes [(h0, .inr (5, [.ref qel, .int (nI rl2_215)])), (qel, .inl (cA, 16, .inl lt2_216))] H := hP
            have hD : va_D A [(h0, .inr (5, [.ref qel, .int (nI rl2_215)])), (qel, .inl (cA, 16, .inl lt2_216))] := hD
            refine lv_iload_n hx hb dX5_putNumber_32 rfl (lv_at hl 0 rfl) ?_
            refine lv_bipush (v := 10) hx hb dX5_putNumber_33 (by decide) ?_
            refine lv_idiv hx hb dX5_putNumber_35 (by decide) ?_
            refine tk (y := 0) (by decide) ?_
            refine lv_istore_n (lv' := [(2, .int 0), (0, .ref h0), (1, .int v)]) hx hb dX5_putNumber_36 rfl hl (by decide) rfl (fun ls hl => ?_)
            refine lv_goto (tgt := 4) hx hb dX5_putNumber_37 (by decide) ?_
            refine lv_iload_n hx hb dX5_putNumber_4 rfl (lv_at hl 0 rfl) ?_
            refine lv_iconst (v := 1) hx hb dX5_putNumber_5 (by decide) ?_
            refine lv_icmp_lt (tgt := 40) hx hb dX5_putNumber_6 (by decide) (fun c_6_218 => ?_) (fun c_6_218 => absurd (by decide) c_6_218)
            exact endV X hr hlocks hP hD hS dX5_putNumber_40 ⟨rl2_215, lt2_216, (by omega), rfl⟩
        · skip
          refine lv_iload_n hx hb dX5_putNumber_14 rfl (lv_at hl 0 rfl) ?_
          refine lv_iconst (v := 1) hx hb dX5_putNumber_15 (by decide) ?_
          refine lv_icmp_ne (tgt := 32) hx hb dX5_putNumber_16 (by decide) (fun c_16_219 => ?_) (fun c_16_219 => absurd c_16_219 (by decide))
          refine lv_iload_n hx hb dX5_putNumber_32 rfl (lv_at hl 0 rfl) ?_
          refine lv_bipush (v := 10) hx hb dX5_putNumber_33 (by decide) ?_
          refine lv_idiv hx hb dX5_putNumber_35 (by decide) ?_
          refine tk (y := 1) (by decide) ?_
          refine lv_istore_n (lv' := [(2, .int 1), (0, .ref h0), (1, .int v)]) hx hb dX5_putNumber_36 rfl hl (by decide) rfl (fun ls hl => ?_)
          refine lv_goto (tgt := 4) hx hb dX5_putNumber_37 (by decide) ?_
          refine lv_iload_n hx hb dX5_putNumber_4 rfl (lv_at hl 0 rfl) ?_
          refine lv_iconst (v := 1) hx hb dX5_putNumber_5 (by decide) ?_
          refine lv_icmp_lt (tgt := 40) hx hb dX5_putNumber_6 (by decide) (fun c_6_220 => absurd c_6_220 (by decide)) (fun c_6_220 => ?_)
          refine lv_iload_n hx hb dX5_putNumber_9 rfl (lv_at hl 2 rfl) ?_
          refine lv_iload_n hx hb dX5_putNumber_10 rfl (lv_at hl 0 rfl) ?_
          refine lv_icmp_ge (tgt := 19) hx hb dX5_putNumber_11 (by decide) (fun c_11_221 => ?_) (fun c_11_221 => ?_)
          · skip
            refine lv_aload_n hx hb dX5_putNumber_19 rfl (lv_at hl 1 rfl) ?_
            refine lv_bipush (v := 48) hx hb dX5_putNumber_20 (by decide) ?_
            refine lv_iload_n hx hb dX5_putNumber_22 rfl (lv_at hl 2 rfl) ?_
            refine lv_iload_n hx hb dX5_putNumber_23 rfl (lv_at hl 0 rfl) ?_
            refine lv_idiv hx hb dX5_putNumber_24 (by decide) ?_
            refine lv_bipush (v := 10) hx hb dX5_putNumber_25 (by decide) ?_
            refine lv_irem hx hb dX5_putNumber_27 (by decide) ?_
            refine lv_iadd hx hb dX5_putNumber_28 ?_
            refine kVv (n3 := 1) (As := [.int (48 + ((v / 1) - (v / 1) / 10 * 10))]) (rest := []) X hl.1 hE hP hD hS hA [(h0, .inr (5, [.ref qel, .int (nI rl2_200)])), (qel, .inl (cA, 16, .inl lt2_201))] [] [0, 1] [] rfl rfl rfl (by decide +kernel) (by decide +kernel) (by decide +kernel) (c_s_put l D cA cB h0 qel rl2_200 lt2_201 (48 + ((v / 1) - (v / 1) / 10 * 10)) (by first | assumption | decide | rfl | omega)) w_408 w_409 w_407 w_410 w_411 0 (ci := 5) (T := TX5) (N := 2) rfl rfl (by decide +kernel) rfl rfl (Nat.le_of_ble_eq_true rfl) ⟨(Nat.le_of_ble_eq_true rfl), (Nat.le_of_ble_eq_true rfl)⟩ ⟨(Nat.le_of_ble_eq_true rfl), (Nat.le_of_ble_eq_true rfl)⟩ dX5_putNumber_29 (fun W1 H locs hw hP hD hS => ?_)
            obtain ⟨rl2_222, lt2_223, hf_224, rfl⟩ := hw
            have hP : va_P D classes [(h0, .inr (5, [.ref qel, .int (nI rl2_222)])), (qel, .inl (cA, 16, .inl lt2_223))] H := hP
            have hD : va_D A [(h0, .inr (5, [.ref qel, .int (nI rl2_222)])), (qel, .inl (cA, 16, .inl lt2_223))] := hD
            refine lv_iload_n hx hb dX5_putNumber_32 rfl (lv_at hl 0 rfl) ?_
            refine lv_bipush (v := 10) hx hb dX5_putNumber_33 (by decide) ?_
            refine lv_idiv hx hb dX5_putNumber_35 (by decide) ?_
            refine tk (y := 0) (by decide) ?_
            refine lv_istore_n (lv' := [(2, .int 0), (0, .ref h0), (1, .int v)]) hx hb dX5_putNumber_36 rfl hl (by decide) rfl (fun ls hl => ?_)
            refine lv_goto (tgt := 4) hx hb dX5_putNumber_37 (by decide) ?_
            refine lv_iload_n hx hb dX5_putNumber_4 rfl (lv_at hl 0 rfl) ?_
            refine lv_iconst (v := 1) hx hb dX5_putNumber_5 (by decide) ?_
            refine lv_icmp_lt (tgt := 40) hx hb dX5_putNumber_6 (by decide) (fun c_6_225 => ?_) (fun c_6_225 => absurd (by decide) c_6_225)
            exact endV X hr hlocks hP hD hS dX5_putNumber_40 ⟨rl2_222, lt2_223, (by omega), rfl⟩
          · skip
            refine lv_iload_n hx hb dX5_putNumber_14 rfl (lv_at hl 0 rfl) ?_
            refine lv_iconst (v := 1) hx hb dX5_putNumber_15 (by decide) ?_
            refine lv_icmp_ne (tgt := 32) hx hb dX5_putNumber_16 (by decide) (fun c_16_226 => absurd (by decide) c_16_226) (fun c_16_226 => ?_)
            refine lv_aload_n hx hb dX5_putNumber_19 rfl (lv_at hl 1 rfl) ?_
            refine lv_bipush (v := 48) hx hb dX5_putNumber_20 (by decide) ?_
            refine lv_iload_n hx hb dX5_putNumber_22 rfl (lv_at hl 2 rfl) ?_
            refine lv_iload_n hx hb dX5_putNumber_23 rfl (lv_at hl 0 rfl) ?_
            refine lv_idiv hx hb dX5_putNumber_24 (by decide) ?_
            refine lv_bipush (v := 10) hx hb dX5_putNumber_25 (by decide) ?_
            refine lv_irem hx hb dX5_putNumber_27 (by decide) ?_
            refine lv_iadd hx hb dX5_putNumber_28 ?_
            refine kVv (n3 := 1) (As := [.int (48 + ((v / 1) - (v / 1) / 10 * 10))]) (rest := []) X hl.1 hE hP hD hS hA [(h0, .inr (5, [.ref qel, .int (nI rl2_200)])), (qel, .inl (cA, 16, .inl lt2_201))] [] [0, 1] [] rfl rfl rfl (by decide +kernel) (by decide +kernel) (by decide +kernel) (c_s_put l D cA cB h0 qel rl2_200 lt2_201 (48 + ((v / 1) - (v / 1) / 10 * 10)) (by first | assumption | decide | rfl | omega)) w_408 w_409 w_407 w_410 w_411 0 (ci := 5) (T := TX5) (N := 2) rfl rfl (by decide +kernel) rfl rfl (Nat.le_of_ble_eq_true rfl) ⟨(Nat.le_of_ble_eq_true rfl), (Nat.le_of_ble_eq_true rfl)⟩ ⟨(Nat.le_of_ble_eq_true rfl), (Nat.le_of_ble_eq_true rfl)⟩ dX5_putNumber_29 (fun W1 H locs hw hP hD hS => ?_)
            obtain ⟨rl2_227, lt2_228, hf_229, rfl⟩ := hw
            have hP : va_P D classes [(h0, .inr (5, [.ref qel, .int (nI rl2_227)])), (qel, .inl (cA, 16, .inl lt2_228))] H := hP
            have hD : va_D A [(h0, .inr (5, [.ref qel, .int (nI rl2_227)])), (qel, .inl (cA, 16, .inl lt2_228))] := hD
            refine lv_iload_n hx hb dX5_putNumber_32 rfl (lv_at hl 0 rfl) ?_
            refine lv_bipush (v := 10) hx hb dX5_putNumber_33 (by decide) ?_
            refine lv_idiv hx hb dX5_putNumber_35 (by decide) ?_
            refine tk (y := 0) (by decide) ?_
            refine lv_istore_n (lv' := [(2, .int 0), (0, .ref h0), (1, .int v)]) hx hb dX5_putNumber_36 rfl hl (by decide) rfl (fun ls hl => ?_)
            refine lv_goto (tgt := 4) hx hb dX5_putNumber_37 (by decide) ?_
            refine lv_iload_n hx hb dX5_putNumber_4 rfl (lv_at hl 0 rfl) ?_
            refine lv_iconst (v := 1) hx hb dX5_putNumber_5 (by decide) ?_
            refine lv_icmp_lt (tgt := 40) hx hb dX5_putNumber_6 (by decide) (fun c_6_230 => ?_) (fun c_6_230 => absurd (by decide) c_6_230)
            exact endV X hr hlocks hP hD hS dX5_putNumber_40 ⟨rl2_227, lt2_228, (by omega), rfl⟩
      · skip
        refine lv_iload_n hx hb dX5_putNumber_14 rfl (lv_at hl 0 rfl) ?_
        refine lv_iconst (v := 1) hx hb dX5_putNumber_15 (by decide) ?_
        refine lv_icmp_ne (tgt := 32) hx hb dX5_putNumber_16 (by decide) (fun c_16_231 => ?_) (fun c_16_231 => absurd c_16_231 (by decide))
        refine lv_iload_n hx hb dX5_putNumber_32 rfl (lv_at hl 0 rfl) ?_
        refine lv_bipush (v := 10) hx hb dX5_putNumber_33 (by decide) ?_
        refine lv_idiv hx hb dX5_putNumber_35 (by decide) ?_
        refine tk (y := 10) (by decide) ?_
        refine lv_istore_n (lv' := [(2, .int 10), (0, .ref h0), (1, .int v)]) hx hb dX5_putNumber_36 rfl hl (by decide) rfl (fun ls hl => ?_)
        refine lv_goto (tgt := 4) hx hb dX5_putNumber_37 (by decide) ?_
        refine lv_iload_n hx hb dX5_putNumber_4 rfl (lv_at hl 0 rfl) ?_
        refine lv_iconst (v := 1) hx hb dX5_putNumber_5 (by decide) ?_
        refine lv_icmp_lt (tgt := 40) hx hb dX5_putNumber_6 (by decide) (fun c_6_232 => absurd c_6_232 (by decide)) (fun c_6_232 => ?_)
        refine lv_iload_n hx hb dX5_putNumber_9 rfl (lv_at hl 2 rfl) ?_
        refine lv_iload_n hx hb dX5_putNumber_10 rfl (lv_at hl 0 rfl) ?_
        refine lv_icmp_ge (tgt := 19) hx hb dX5_putNumber_11 (by decide) (fun c_11_233 => ?_) (fun c_11_233 => ?_)
        · skip
          refine lv_aload_n hx hb dX5_putNumber_19 rfl (lv_at hl 1 rfl) ?_
          refine lv_bipush (v := 48) hx hb dX5_putNumber_20 (by decide) ?_
          refine lv_iload_n hx hb dX5_putNumber_22 rfl (lv_at hl 2 rfl) ?_
          refine lv_iload_n hx hb dX5_putNumber_23 rfl (lv_at hl 0 rfl) ?_
          refine lv_idiv hx hb dX5_putNumber_24 (by decide) ?_
          refine lv_bipush (v := 10) hx hb dX5_putNumber_25 (by decide) ?_
          refine lv_irem hx hb dX5_putNumber_27 (by decide) ?_
          refine lv_iadd hx hb dX5_putNumber_28 ?_
          refine kVv (n3 := 1) (As := [.int (48 + ((v / 10) - (v / 10) / 10 * 10))]) (rest := []) X hl.1 hE hP hD hS hA [(h0, .inr (5, [.ref qel, .int (nI rl)])), (qel, .inl (cA, 16, .inl lt))] [] [0, 1] [] rfl rfl rfl (by decide +kernel) (by decide +kernel) (by decide +kernel) (c_s_put l D cA cB h0 qel rl lt (48 + ((v / 10) - (v / 10) / 10 * 10)) (by first | assumption | decide | rfl | omega)) w_408 w_409 w_407 w_410 w_411 0 (ci := 5) (T := TX5) (N := 2) rfl rfl (by decide +kernel) rfl rfl (Nat.le_of_ble_eq_true rfl) ⟨(Nat.le_of_ble_eq_true rfl), (Nat.le_of_ble_eq_true rfl)⟩ ⟨(Nat.le_of_ble_eq_true rfl), (Nat.le_of_ble_eq_true rfl)⟩ dX5_putNumber_29 (fun W1 H locs hw hP hD hS => ?_)
          obtain ⟨rl2_234, lt2_235, hf_236, rfl⟩ := hw
          have hP : va_P D classes [(h0, .inr (5, [.ref qel, .int (nI rl2_234)])), (qel, .inl (cA, 16, .inl lt2_235))] H := hP
          have hD : va_D A [(h0, .inr (5, [.ref qel, .int (nI rl2_234)])), (qel, .inl (cA, 16, .inl lt2_235))] := hD
          refine lv_iload_n hx hb dX5_putNumber_32 rfl (lv_at hl 0 rfl) ?_
          refine lv_bipush (v := 10) hx hb dX5_putNumber_33 (by decide) ?_
          refine lv_idiv hx hb dX5_putNumber_35 (by decide) ?_
          refine tk (y := 1) (by decide) ?_
          refine lv_istore_n (lv' := [(2, .int 1), (0, .ref h0), (1, .int v)]) hx hb dX5_putNumber_36 rfl hl (by decide) rfl (fun ls hl => ?_)
          refine lv_goto (tgt := 4) hx hb dX5_putNumber_37 (by decide) ?_
          refine lv_iload_n hx hb dX5_putNumber_4 rfl (lv_at hl 0 rfl) ?_
          refine lv_iconst (v := 1) hx hb dX5_putNumber_5 (by decide) ?_
          refine lv_icmp_lt (tgt := 40) hx hb dX5_putNumber_6 (by decide) (fun c_6_237 => absurd c_6_237 (by decide)) (fun c_6_237 => ?_)
          refine lv_iload_n hx hb dX5_putNumber_9 rfl (lv_at hl 2 rfl) ?_
          refine lv_iload_n hx hb dX5_putNumber_10 rfl (lv_at hl 0 rfl) ?_
          refine lv_icmp_ge (tgt := 19) hx hb dX5_putNumber_11 (by decide) (fun c_11_238 => ?_) (fun c_11_238 => ?_)
          · skip
            refine lv_aload_n hx hb dX5_putNumber_19 rfl (lv_at hl 1 rfl) ?_
            refine lv_bipush (v := 48) hx hb dX5_putNumber_20 (by decide) ?_
            refine lv_iload_n hx hb dX5_putNumber_22 rfl (lv_at hl 2 rfl) ?_
            refine lv_iload_n hx hb dX5_putNumber_23 rfl (lv_at hl 0 rfl) ?_
            refine lv_idiv hx hb dX5_putNumber_24 (by decide) ?_
            refine lv_bipush (v := 10) hx hb dX5_putNumber_25 (by decide) ?_
            refine lv_irem hx hb dX5_putNumber_27 (by decide) ?_
            refine lv_iadd hx hb dX5_putNumber_28 ?_
            refine kVv (n3 := 1) (As := [.int (48 + ((v / 1) - (v / 1) / 10 * 10))]) (rest := []) X hl.1 hE hP hD hS hA [(h0, .inr (5, [.ref qel, .int (nI rl2_234)])), (qel, .inl (cA, 16, .inl lt2_235))] [] [0, 1] [] rfl rfl rfl (by decide +kernel) (by decide +kernel) (by decide +kernel) (c_s_put l D cA cB h0 qel rl2_234 lt2_235 (48 + ((v / 1) - (v / 1) / 10 * 10)) (by first | assumption | decide | rfl | omega)) w_408 w_409 w_407 w_410 w_411 0 (ci := 5) (T := TX5) (N := 2) rfl rfl (by decide +kernel) rfl rfl (Nat.le_of_ble_eq_true rfl) ⟨(Nat.le_of_ble_eq_true rfl), (Nat.le_of_ble_eq_true rfl)⟩ ⟨(Nat.le_of_ble_eq_true rfl), (Nat.le_of_ble_eq_true rfl)⟩ dX5_putNumber_29 (fun W1 H locs hw hP hD hS => ?_)
            obtain ⟨rl2_239, lt2_240, hf_241, rfl⟩ := hw
            have hP : va_P D classes [(h0, .inr (5, [.ref qel, .int (nI rl2_239)])), (qel, .inl (cA, 16, .inl lt2_240))] H := hP
            have hD : va_D A [(h0, .inr (5, [.ref qel, .int (nI rl2_239)])), (qel, .inl (cA, 16, .inl lt2_240))] := hD
            refine lv_iload_n hx hb dX5_putNumber_32 rfl (lv_at hl 0 rfl) ?_
            refine lv_bipush (v := 10) hx hb dX5_putNumber_33 (by decide) ?_
            refine lv_idiv hx hb dX5_putNumber_35 (by decide) ?_
            refine tk (y := 0) (by decide) ?_
            refine lv_istore_n (lv' := [(2, .int 0), (0, .ref h0), (1, .int v)]) hx hb dX5_putNumber_36 rfl hl (by decide) rfl (fun ls hl => ?_)
            refine lv_goto (tgt := 4) hx hb dX5_putNumber_37 (by decide) ?_
            refine lv_iload_n hx hb dX5_putNumber_4 rfl (lv_at hl 0 rfl) ?_
            refine lv_iconst (v := 1) hx hb dX5_putNumber_5 (by decide) ?_
            refine lv_icmp_lt (tgt := 40) hx hb dX5_putNumber_6 (by decide) (fun c_6_242 => ?_) (fun c_6_242 => absurd (by decide) c_6_242)
            exact endV X hr hlocks hP hD hS dX5_putNumber_40 ⟨rl2_239, lt2_240, (by omega), rfl⟩
          · skip
            refine lv_iload_n hx hb dX5_putNumber_14 rfl (lv_at hl 0 rfl) ?_
            refine lv_iconst (v := 1) hx hb dX5_putNumber_15 (by decide) ?_
            refine lv_icmp_ne (tgt := 32) hx hb dX5_putNumber_16 (by decide) (fun c_16_243 => absurd (by decide) c_16_243) (fun c_16_243 => ?_)
            refine lv_aload_n hx hb dX5_putNumber_19 rfl (lv_at hl 1 rfl) ?_
            refine lv_bipush (v := 48) hx hb dX5_putNumber_20 (by decide) ?_
            refine lv_iload_n hx hb dX5_putNumber_22 rfl (lv_at hl 2 rfl) ?_
            refine lv_iload_n hx hb dX5_putNumber_23 rfl (lv_at hl 0 rfl) ?_
            refine lv_idiv hx hb dX5_putNumber_24 (by decide) ?_
            refine lv_bipush (v := 10) hx hb dX5_putNumber_25 (by decide) ?_
            refine lv_irem hx hb dX5_putNumber_27 (by decide) ?_
            refine lv_iadd hx hb dX5_putNumber_28 ?_
            refine kVv (n3 := 1) (As := [.int (48 + ((v / 1) - (v / 1) / 10 * 10))]) (rest := []) X hl.1 hE hP hD hS hA [(h0, .inr (5, [.ref qel, .int (nI rl2_234)])), (qel, .inl (cA, 16, .inl lt2_235))] [] [0, 1] [] rfl rfl rfl (by decide +kernel) (by decide +kernel) (by decide +kernel) (c_s_put l D cA cB h0 qel rl2_234 lt2_235 (48 + ((v / 1) - (v / 1) / 10 * 10)) (by first | assumption | decide | rfl | omega)) w_408 w_409 w_407 w_410 w_411 0 (ci := 5) (T := TX5) (N := 2) rfl rfl (by decide +kernel) rfl rfl (Nat.le_of_ble_eq_true rfl) ⟨(Nat.le_of_ble_eq_true rfl), (Nat.le_of_ble_eq_true rfl)⟩ ⟨(Nat.le_of_ble_eq_true rfl), (Nat.le_of_ble_eq_true rfl)⟩ dX5_putNumber_29 (fun W1 H locs hw hP hD hS => ?_)
            obtain ⟨rl2_244, lt2_245, hf_246, rfl⟩ := hw
            have hP : va_P D classes [(h0, .inr (5, [.ref qel, .int (nI rl2_244)])), (qel, .inl (cA, 16, .inl lt2_245))] H := hP
            have hD : va_D A [(h0, .inr (5, [.ref qel, .int (nI rl2_244)])), (qel, .inl (cA, 16, .inl lt2_245))] := hD
            refine lv_iload_n hx hb dX5_putNumber_32 rfl (lv_at hl 0 rfl) ?_
            refine lv_bipush (v := 10) hx hb dX5_putNumber_33 (by decide) ?_
            refine lv_idiv hx hb dX5_putNumber_35 (by decide) ?_
            refine tk (y := 0) (by decide) ?_
            refine lv_istore_n (lv' := [(2, .int 0), (0, .ref h0), (1, .int v)]) hx hb dX5_putNumber_36 rfl hl (by decide) rfl (fun ls hl => ?_)
            refine lv_goto (tgt := 4) hx hb dX5_putNumber_37 (by decide) ?_
            refine lv_iload_n hx hb dX5_putNumber_4 rfl (lv_at hl 0 rfl) ?_
            refine lv_iconst (v := 1) hx hb dX5_putNumber_5 (by decide) ?_
            refine lv_icmp_lt (tgt := 40) hx hb dX5_putNumber_6 (by decide) (fun c_6_247 => ?_) (fun c_6_247 => absurd (by decide) c_6_247)
            exact endV X hr hlocks hP hD hS dX5_putNumber_40 ⟨rl2_244, lt2_245, (by omega), rfl⟩
        · skip
          refine lv_iload_n hx hb dX5_putNumber_14 rfl (lv_at hl 0 rfl) ?_
          refine lv_iconst (v := 1) hx hb dX5_putNumber_15 (by decide) ?_
          refine lv_icmp_ne (tgt := 32) hx hb dX5_putNumber_16 (by decide) (fun c_16_248 => ?_) (fun c_16_248 => absurd c_16_248 (by decide))
          refine lv_iload_n hx hb dX5_putNumber_32 rfl (lv_at hl 0 rfl) ?_
          refine lv_bipush (v := 10) hx hb dX5_putNumber_33 (by decide) ?_
          refine lv_idiv hx hb dX5_putNumber_35 (by decide) ?_
          refine tk (y := 1) (by decide) ?_
          refine lv_istore_n (lv' := [(2, .int 1), (0, .ref h0), (1, .int v)]) hx hb dX5_putNumber_36 rfl hl (by decide) rfl (fun ls hl => ?_)
          refine lv_goto (tgt := 4) hx hb dX5_putNumber_37 (by decide) ?_
          refine lv_iload_n hx hb dX5_putNumber_4 rfl (lv_at hl 0 rfl) ?_
          refine lv_iconst (v := 1) hx hb dX5_putNumber_5 (by decide) ?_
          refine lv_icmp_lt (tgt := 40) hx hb dX5_putNumber_6 (by decide) (fun c_6_249 => absurd c_6_249 (by decide)) (fun c_6_249 => ?_)
          refine lv_iload_n hx hb dX5_putNumber_9 rfl (lv_at hl 2 rfl) ?_
          refine lv_iload_n hx hb dX5_putNumber_10 rfl (lv_at hl 0 rfl) ?_
          refine lv_icmp_ge (tgt := 19) hx hb dX5_putNumber_11 (by decide) (fun c_11_250 => ?_) (fun c_11_250 => ?_)
          · skip
            refine lv_aload_n hx hb dX5_putNumber_19 rfl (lv_at hl 1 rfl) ?_
            refine lv_bipush (v := 48) hx hb dX5_putNumber_20 (by decide) ?_
            refine lv_iload_n hx hb dX5_putNumber_22 rfl (lv_at hl 2 rfl) ?_
            refine lv_iload_n hx hb dX5_putNumber_23 rfl (lv_at hl 0 rfl) ?_
            refine lv_idiv hx hb dX5_putNumber_24 (by decide) ?_
            refine lv_bipush (v := 10) hx hb dX5_putNumber_25 (by decide) ?_
            refine lv_irem hx hb dX5_putNumber_27 (by decide) ?_
            refine lv_iadd hx hb dX5_putNumber_28 ?_
            refine kVv (n3 := 1) (As := [.int (48 + ((v / 1) - (v / 1) / 10 * 10))]) (rest := []) X hl.1 hE hP hD hS hA [(h0, .inr (5, [.ref qel, .int (nI rl)])), (qel, .inl (cA, 16, .inl lt))] [] [0, 1] [] rfl rfl rfl (by decide +kernel) (by decide +kernel) (by decide +kernel) (c_s_put l D cA cB h0 qel rl lt (48 + ((v / 1) - (v / 1) / 10 * 10)) (by first | assumption | decide | rfl | omega)) w_408 w_409 w_407 w_410 w_411 0 (ci := 5) (T := TX5) (N := 2) rfl rfl (by decide +kernel) rfl rfl (Nat.le_of_ble_eq_true rfl) ⟨(Nat.le_of_ble_eq_true rfl), (Nat.le_of_ble_eq_true rfl)⟩ ⟨(Nat.le_of_ble_eq_true rfl), (Nat.le_of_ble_eq_true rfl)⟩ dX5_putNumber_29 (fun W1 H locs hw hP hD hS => ?_)
            obtain ⟨rl2_251, lt2_252, hf_253, rfl⟩ := hw
            have hP : va_P D classes [(h0, .inr (5, [.ref qel, .int (nI rl2_251)])), (qel, .inl (cA, 16, .inl lt2_252))] H := hP
            have hD : va_D A [(h0, .inr (5, [.ref qel, .int (nI rl2_251)])), (qel, .inl (cA, 16, .inl lt2_252))] := hD
            refine lv_iload_n hx hb dX5_putNumber_32 rfl (lv_at hl 0 rfl) ?_
            refine lv_bipush (v := 10) hx hb dX5_putNumber_33 (by decide) ?_
            refine lv_idiv hx hb dX5_putNumber_35 (by decide) ?_
            refine tk (y := 0) (by decide) ?_
            refine lv_istore_n (lv' := [(2, .int 0), (0, .ref h0), (1, .int v)]) hx hb dX5_putNumber_36 rfl hl (by decide) rfl (fun ls hl => ?_)
            refine lv_goto (tgt := 4) hx hb dX5_putNumber_37 (by decide) ?_
            refine lv_iload_n hx hb dX5_putNumber_4 rfl (lv_at hl 0 rfl) ?_
            refine lv_iconst (v := 1) hx hb dX5_putNumber_5 (by decide) ?_
            refine lv_icmp_lt (tgt := 40) hx hb dX5_putNumber_6 (by decide) (fun c_6_254 => ?_) (fun c_6_254 => absurd (by decide) c_6_254)
            exact endV X hr hlocks hP hD hS dX5_putNumber_40 ⟨rl2_251, lt2_252, (by omega), rfl⟩
          · skip
            refine lv_iload_n hx hb dX5_putNumber_14 rfl (lv_at hl 0 rfl) ?_
            refine lv_iconst (v := 1) hx hb dX5_putNumber_15 (by decide) ?_
            refine lv_icmp_ne (tgt := 32) hx hb dX5_putNumber_16 (by decide) (fun c_16_255 => absurd (by decide) c_16_255) (fun c_16_255 => ?_)
            refine lv_aload_n hx hb dX5_putNumber_19 rfl (lv_at hl 1 rfl) ?_
            refine lv_bipush (v := 48) hx hb dX5_putNumber_20 (by decide) ?_
            refine lv_iload_n hx hb dX5_putNumber_22 rfl (lv_at hl 2 rfl) ?_
            refine lv_iload_n hx hb dX5_putNumber_23 rfl (lv_at hl 0 rfl) ?_
            refine lv_idiv hx hb dX5_putNumber_24 (by decide) ?_
            refine lv_bipush (v := 10) hx hb dX5_putNumber_25 (by decide) ?_
            refine lv_irem hx hb dX5_putNumber_27 (by decide) ?_
            refine lv_iadd hx hb dX5_putNumber_28 ?_
            refine kVv (n3 := 1) (As := [.int (48 + ((v / 1) - (v / 1) / 10 * 10))]) (rest := []) X hl.1 hE hP hD hS hA [(h0, .inr (5, [.ref qel, .int (nI rl)])), (qel, .inl (cA, 16, .inl lt))] [] [0, 1] [] rfl rfl rfl (by decide +kernel) (by decide +kernel) (by decide +kernel) (c_s_put l D cA cB h0 qel rl lt (48 + ((v / 1) - (v / 1) / 10 * 10)) (by first | assumption | decide | rfl | omega)) w_408 w_409 w_407 w_410 w_411 0 (ci := 5) (T := TX5) (N := 2) rfl rfl (by decide +kernel) rfl rfl (Nat.le_of_ble_eq_true rfl) ⟨(Nat.le_of_ble_eq_true rfl), (Nat.le_of_ble_eq_true rfl)⟩ ⟨(Nat.le_of_ble_eq_true rfl), (Nat.le_of_ble_eq_true rfl)⟩ dX5_putNumber_29 (fun W1 H locs hw hP hD hS => ?_)
            obtain ⟨rl2_256, lt2_257, hf_258, rfl⟩ := hw
            have hP : va_P D classes [(h0, .inr (5, [.ref qel, .int (nI rl2_256)])), (qel, .inl (cA, 16, .inl lt2_257))] H := hP
            have hD : va_D A [(h0, .inr (5, [.ref qel, .int (nI rl2_256)])), (qel, .inl (cA, 16, .inl lt2_257))] := hD
            refine lv_iload_n hx hb dX5_putNumber_32 rfl (lv_at hl 0 rfl) ?_
            refine lv_bipush (v := 10) hx hb dX5_putNumber_33 (by decide) ?_
            refine lv_idiv hx hb dX5_putNumber_35 (by decide) ?_
            refine tk (y := 0) (by decide) ?_
            refine lv_istore_n (lv' := [(2, .int 0), (0, .ref h0), (1, .int v)]) hx hb dX5_putNumber_36 rfl hl (by decide) rfl (fun ls hl => ?_)
            refine lv_goto (tgt := 4) hx hb dX5_putNumber_37 (by decide) ?_
            refine lv_iload_n hx hb dX5_putNumber_4 rfl (lv_at hl 0 rfl) ?_
            refine lv_iconst (v := 1) hx hb dX5_putNumber_5 (by decide) ?_
            refine lv_icmp_lt (tgt := 40) hx hb dX5_putNumber_6 (by decide) (fun c_6_259 => ?_) (fun c_6_259 => absurd (by decide) c_6_259)
            exact endV X hr hlocks hP hD hS dX5_putNumber_40 ⟨rl2_256, lt2_257, (by omega), rfl⟩
set_option maxHeartbeats 4000000 in
set_option maxRecDepth 100000 in
theorem c_s_tellWay (l : Launch) (D : va_G) (cA cB : ClassId) (h0 : Nat) (qel : Nat) (rl : Nat) (lt : Nat → Int32) (v : Int32) (w : Int32) (hrl : rl < 17) : CV l yX5_tellWay cX5_tellWay 3 none 2 43 0 0 D cA cB [.ref h0, .int v, .int w] [(h0, .inr (5, [.ref qel, .int (nI rl)])), (qel, .inl (cA, 16, .inl lt))] (fun W1 => ∃ (rl2 : Nat) (lt2 : Nat → Int32), (rl2 < 17) ∧ W1 = [(h0, .inr (5, [.ref qel, .int (nI rl2)])), (qel, .inl (cA, 16, .inl lt2))]) := by
  refine mkV (lv0 := [(0, .ref h0), (1, .int v), (2, .int w)]) (by decide) (Nat.le_of_ble_eq_true rfl) rfl ?_
  intro p e s m below meth c A ls X hr hlocks hnm hE hA hP hD hS hl
  have hx := X.1
  have hb := X.2.1
  refine lv_iload_n hx hb dX5_tellWay_0 rfl (lv_at hl 1 rfl) ?_
  refine lv_if_ne (tgt := 13) hx hb dX5_tellWay_1 (by decide) (fun c_1 => ?_) (fun c_1 => ?_)
  · skip
    refine lv_iload_n hx hb dX5_tellWay_13 rfl (lv_at hl 1 rfl) ?_
    refine lv_iconst (v := 2) hx hb dX5_tellWay_14 (by decide) ?_
    refine lv_icmp_gt (tgt := 27) hx hb dX5_tellWay_15 (by decide) (fun c_15 => ?_) (fun c_15 => ?_)
    · skip
      refine lv_iload_n hx hb dX5_tellWay_27 rfl (lv_at hl 1 rfl) ?_
      refine lv_bipush (v := 6) hx hb dX5_tellWay_28 (by decide) ?_
      refine lv_icmp_lt (tgt := 39) hx hb dX5_tellWay_30 (by decide) (fun c_30 => ?_) (fun c_30 => ?_)
      · skip
        refine lv_aload_n hx hb dX5_tellWay_39 rfl (lv_at hl 0 rfl) ?_
        refine lv_iload_n hx hb dX5_tellWay_40 rfl (lv_at hl 2 rfl) ?_
        refine kVv (n3 := 1) (As := [.int w]) (rest := []) X hl.1 hE hP hD hS hA [(h0, .inr (5, [.ref qel, .int (nI rl)])), (qel, .inl (cA, 16, .inl lt))] [] [0, 1] [] rfl rfl rfl (by decide +kernel) (by decide +kernel) (by decide +kernel) (c_s_putNumber l D cA cB h0 qel rl lt w (by first | assumption | decide | rfl | omega)) w_413 w_409 w_412 w_414 w_415 0 (ci := 5) (T := TX5) (N := 2) rfl rfl (by decide +kernel) rfl rfl (Nat.le_of_ble_eq_true rfl) ⟨(Nat.le_of_ble_eq_true rfl), (Nat.le_of_ble_eq_true rfl)⟩ ⟨(Nat.le_of_ble_eq_true rfl), (Nat.le_of_ble_eq_true rfl)⟩ dX5_tellWay_41 (fun W1 H locs hw hP hD hS => ?_)
        obtain ⟨rl2_1, lt2_2, hf_3, rfl⟩ := hw
        have hP : va_P D classes [(h0, .inr (5, [.ref qel, .int (nI rl2_1)])), (qel, .inl (cA, 16, .inl lt2_2))] H := hP
        have hD : va_D A [(h0, .inr (5, [.ref qel, .int (nI rl2_1)])), (qel, .inl (cA, 16, .inl lt2_2))] := hD
        refine lv_iload_n hx hb dX5_tellWay_44 rfl (lv_at hl 1 rfl) ?_
        refine lv_bipush (v := 6) hx hb dX5_tellWay_45 (by decide) ?_
        refine lv_icmp_lt (tgt := 56) hx hb dX5_tellWay_47 (by decide) (fun c_47 => ?_) (fun c_47 => ?_)
        · skip
          refine lv_iload_n hx hb dX5_tellWay_56 rfl (lv_at hl 1 rfl) ?_
          refine lv_iconst (v := 2) hx hb dX5_tellWay_57 (by decide) ?_
          refine lv_icmp_eq (tgt := 66) hx hb dX5_tellWay_58 (by decide) (fun c_58 => ?_) (fun c_58 => ?_)
          · skip
            refine lv_aload_n hx hb dX5_tellWay_66 rfl (lv_at hl 0 rfl) ?_
            refine lv_bipush (v := 44) hx hb dX5_tellWay_67 (by decide) ?_
            refine kVv (n3 := 1) (As := [.int 44]) (rest := []) X hl.1 hE hP hD hS hA [(h0, .inr (5, [.ref qel, .int (nI rl2_1)])), (qel, .inl (cA, 16, .inl lt2_2))] [] [0, 1] [] rfl rfl rfl (by decide +kernel) (by decide +kernel) (by decide +kernel) (c_s_put l D cA cB h0 qel rl2_1 lt2_2 44 (by first | assumption | decide | rfl | omega)) w_408 w_409 w_407 w_410 w_411 0 (ci := 5) (T := TX5) (N := 2) rfl rfl (by decide +kernel) rfl rfl (Nat.le_of_ble_eq_true rfl) ⟨(Nat.le_of_ble_eq_true rfl), (Nat.le_of_ble_eq_true rfl)⟩ ⟨(Nat.le_of_ble_eq_true rfl), (Nat.le_of_ble_eq_true rfl)⟩ dX5_tellWay_69 (fun W1 H locs hw hP hD hS => ?_)
            obtain ⟨rl2_4, lt2_5, hf_6, rfl⟩ := hw
            have hP : va_P D classes [(h0, .inr (5, [.ref qel, .int (nI rl2_4)])), (qel, .inl (cA, 16, .inl lt2_5))] H := hP
            have hD : va_D A [(h0, .inr (5, [.ref qel, .int (nI rl2_4)])), (qel, .inl (cA, 16, .inl lt2_5))] := hD
            refine lv_aload_n hx hb dX5_tellWay_72 rfl (lv_at hl 0 rfl) ?_
            refine lv_bipush (v := 120) hx hb dX5_tellWay_73 (by decide) ?_
            refine kVv (n3 := 1) (As := [.int 120]) (rest := []) X hl.1 hE hP hD hS hA [(h0, .inr (5, [.ref qel, .int (nI rl2_4)])), (qel, .inl (cA, 16, .inl lt2_5))] [] [0, 1] [] rfl rfl rfl (by decide +kernel) (by decide +kernel) (by decide +kernel) (c_s_put l D cA cB h0 qel rl2_4 lt2_5 120 (by first | assumption | decide | rfl | omega)) w_408 w_409 w_407 w_410 w_411 0 (ci := 5) (T := TX5) (N := 2) rfl rfl (by decide +kernel) rfl rfl (Nat.le_of_ble_eq_true rfl) ⟨(Nat.le_of_ble_eq_true rfl), (Nat.le_of_ble_eq_true rfl)⟩ ⟨(Nat.le_of_ble_eq_true rfl), (Nat.le_of_ble_eq_true rfl)⟩ dX5_tellWay_75 (fun W1 H locs hw hP hD hS => ?_)
            obtain ⟨rl2_7, lt2_8, hf_9, rfl⟩ := hw
            have hP : va_P D classes [(h0, .inr (5, [.ref qel, .int (nI rl2_7)])), (qel, .inl (cA, 16, .inl lt2_8))] H := hP
            have hD : va_D A [(h0, .inr (5, [.ref qel, .int (nI rl2_7)])), (qel, .inl (cA, 16, .inl lt2_8))] := hD
            refine lv_goto (tgt := 104) hx hb dX5_tellWay_78 (by decide) ?_
            exact endV X hr hlocks hP hD hS dX5_tellWay_104 ⟨rl2_7, lt2_8, (by omega), rfl⟩
          · skip
            refine lv_iload_n hx hb dX5_tellWay_61 rfl (lv_at hl 1 rfl) ?_
            refine lv_iconst (v := 4) hx hb dX5_tellWay_62 (by decide) ?_
            refine lv_icmp_ne (tgt := 81) hx hb dX5_tellWay_63 (by decide) (fun c_63 => ?_) (fun c_63 => ?_)
            · skip
              refine lv_iload_n hx hb dX5_tellWay_81 rfl (lv_at hl 1 rfl) ?_
              refine lv_iconst (v := 5) hx hb dX5_tellWay_82 (by decide) ?_
              refine lv_icmp_eq (tgt := 92) hx hb dX5_tellWay_83 (by decide) (fun c_83 => ?_) (fun c_83 => ?_)
              · skip
                refine lv_aload_n hx hb dX5_tellWay_92 rfl (lv_at hl 0 rfl) ?_
                refine lv_bipush (v := 44) hx hb dX5_tellWay_93 (by decide) ?_
                refine kVv (n3 := 1) (As := [.int 44]) (rest := []) X hl.1 hE hP hD hS hA [(h0, .inr (5, [.ref qel, .int (nI rl2_1)])), (qel, .inl (cA, 16, .inl lt2_2))] [] [0, 1] [] rfl rfl rfl (by decide +kernel) (by decide +kernel) (by decide +kernel) (c_s_put l D cA cB h0 qel rl2_1 lt2_2 44 (by first | assumption | decide | rfl | omega)) w_408 w_409 w_407 w_410 w_411 0 (ci := 5) (T := TX5) (N := 2) rfl rfl (by decide +kernel) rfl rfl (Nat.le_of_ble_eq_true rfl) ⟨(Nat.le_of_ble_eq_true rfl), (Nat.le_of_ble_eq_true rfl)⟩ ⟨(Nat.le_of_ble_eq_true rfl), (Nat.le_of_ble_eq_true rfl)⟩ dX5_tellWay_95 (fun W1 H locs hw hP hD hS => ?_)
                obtain ⟨rl2_10, lt2_11, hf_12, rfl⟩ := hw
                have hP : va_P D classes [(h0, .inr (5, [.ref qel, .int (nI rl2_10)])), (qel, .inl (cA, 16, .inl lt2_11))] H := hP
                have hD : va_D A [(h0, .inr (5, [.ref qel, .int (nI rl2_10)])), (qel, .inl (cA, 16, .inl lt2_11))] := hD
                refine lv_aload_n hx hb dX5_tellWay_98 rfl (lv_at hl 0 rfl) ?_
                refine lv_bipush (v := 121) hx hb dX5_tellWay_99 (by decide) ?_
                refine kVv (n3 := 1) (As := [.int 121]) (rest := []) X hl.1 hE hP hD hS hA [(h0, .inr (5, [.ref qel, .int (nI rl2_10)])), (qel, .inl (cA, 16, .inl lt2_11))] [] [0, 1] [] rfl rfl rfl (by decide +kernel) (by decide +kernel) (by decide +kernel) (c_s_put l D cA cB h0 qel rl2_10 lt2_11 121 (by first | assumption | decide | rfl | omega)) w_408 w_409 w_407 w_410 w_411 0 (ci := 5) (T := TX5) (N := 2) rfl rfl (by decide +kernel) rfl rfl (Nat.le_of_ble_eq_true rfl) ⟨(Nat.le_of_ble_eq_true rfl), (Nat.le_of_ble_eq_true rfl)⟩ ⟨(Nat.le_of_ble_eq_true rfl), (Nat.le_of_ble_eq_true rfl)⟩ dX5_tellWay_101 (fun W1 H locs hw hP hD hS => ?_)
                obtain ⟨rl2_13, lt2_14, hf_15, rfl⟩ := hw
                have hP : va_P D classes [(h0, .inr (5, [.ref qel, .int (nI rl2_13)])), (qel, .inl (cA, 16, .inl lt2_14))] H := hP
                have hD : va_D A [(h0, .inr (5, [.ref qel, .int (nI rl2_13)])), (qel, .inl (cA, 16, .inl lt2_14))] := hD
                exact endV X hr hlocks hP hD hS dX5_tellWay_104 ⟨rl2_13, lt2_14, (by omega), rfl⟩
              · skip
                refine lv_iload_n hx hb dX5_tellWay_86 rfl (lv_at hl 1 rfl) ?_
                refine lv_bipush (v := 7) hx hb dX5_tellWay_87 (by decide) ?_
                refine lv_icmp_ne (tgt := 104) hx hb dX5_tellWay_89 (by decide) (fun c_89 => ?_) (fun c_89 => ?_)
                · skip
                  exact endV X hr hlocks hP hD hS dX5_tellWay_104 ⟨rl2_1, lt2_2, (by omega), rfl⟩
                · skip
                  refine lv_aload_n hx hb dX5_tellWay_92 rfl (lv_at hl 0 rfl) ?_
                  refine lv_bipush (v := 44) hx hb dX5_tellWay_93 (by decide) ?_
                  refine kVv (n3 := 1) (As := [.int 44]) (rest := []) X hl.1 hE hP hD hS hA [(h0, .inr (5, [.ref qel, .int (nI rl2_1)])), (qel, .inl (cA, 16, .inl lt2_2))] [] [0, 1] [] rfl rfl rfl (by decide +kernel) (by decide +kernel) (by decide +kernel) (c_s_put l D cA cB h0 qel rl2_1 lt2_2 44 (by first | assumption | decide | rfl | omega)) w_408 w_409 w_407 w_410 w_411 0 (ci := 5) (T := TX5) (N := 2) rfl rfl (by decide +kernel) rfl rfl (Nat.le_of_ble_eq_true rfl) ⟨(Nat.le_of_ble_eq_true rfl), (Nat.le_of_ble_eq_true rfl)⟩ ⟨(Nat.le_of_ble_eq_true rfl), (Nat.le_of_ble_eq_true rfl)⟩ dX5_tellWay_95 (fun W1 H locs hw hP hD hS => ?_)
                  obtain ⟨rl2_16, lt2_17, hf_18, rfl⟩ := hw
                  have hP : va_P D classes [(h0, .inr (5, [.ref qel, .int (nI rl2_16)])), (qel, .inl (cA, 16, .inl lt2_17))] H := hP
                  have hD : va_D A [(h0, .inr (5, [.ref qel, .int (nI rl2_16)])), (qel, .inl (cA, 16, .inl lt2_17))] := hD
                  refine lv_aload_n hx hb dX5_tellWay_98 rfl (lv_at hl 0 rfl) ?_
                  refine lv_bipush (v := 121) hx hb dX5_tellWay_99 (by decide) ?_
                  refine kVv (n3 := 1) (As := [.int 121]) (rest := []) X hl.1 hE hP hD hS hA [(h0, .inr (5, [.ref qel, .int (nI rl2_16)])), (qel, .inl (cA, 16, .inl lt2_17))] [] [0, 1] [] rfl rfl rfl (by decide +kernel) (by decide +kernel) (by decide +kernel) (c_s_put l D cA cB h0 qel rl2_16 lt2_17 121 (by first | assumption | decide | rfl | omega)) w_408 w_409 w_407 w_410 w_411 0 (ci := 5) (T := TX5) (N := 2) rfl rfl (by decide +kernel) rfl rfl (Nat.le_of_ble_eq_true rfl) ⟨(Nat.le_of_ble_eq_true rfl), (Nat.le_of_ble_eq_true rfl)⟩ ⟨(Nat.le_of_ble_eq_true rfl), (Nat.le_of_ble_eq_true rfl)⟩ dX5_tellWay_101 (fun W1 H locs hw hP hD hS => ?_)
                  obtain ⟨rl2_19, lt2_20, hf_21, rfl⟩ := hw
                  have hP : va_P D classes [(h0, .inr (5, [.ref qel, .int (nI rl2_19)])), (qel, .inl (cA, 16, .inl lt2_20))] H := hP
                  have hD : va_D A [(h0, .inr (5, [.ref qel, .int (nI rl2_19)])), (qel, .inl (cA, 16, .inl lt2_20))] := hD
                  exact endV X hr hlocks hP hD hS dX5_tellWay_104 ⟨rl2_19, lt2_20, (by omega), rfl⟩
            · skip
              refine lv_aload_n hx hb dX5_tellWay_66 rfl (lv_at hl 0 rfl) ?_
              refine lv_bipush (v := 44) hx hb dX5_tellWay_67 (by decide) ?_
              refine kVv (n3 := 1) (As := [.int 44]) (rest := []) X hl.1 hE hP hD hS hA [(h0, .inr (5, [.ref qel, .int (nI rl2_1)])), (qel, .inl (cA, 16, .inl lt2_2))] [] [0, 1] [] rfl rfl rfl (by decide +kernel) (by decide +kernel) (by decide +kernel) (c_s_put l D cA cB h0 qel rl2_1 lt2_2 44 (by first | assumption | decide | rfl | omega)) w_408 w_409 w_407 w_410 w_411 0 (ci := 5) (T := TX5) (N := 2) rfl rfl (by decide +kernel) rfl rfl (Nat.le_of_ble_eq_true rfl) ⟨(Nat.le_of_ble_eq_true rfl), (Nat.le_of_ble_eq_true rfl)⟩ ⟨(Nat.le_of_ble_eq_true rfl), (Nat.le_of_ble_eq_true rfl)⟩ dX5_tellWay_69 (fun W1 H locs hw hP hD hS => ?_)
              obtain ⟨rl2_22, lt2_23, hf_24, rfl⟩ := hw
              have hP : va_P D classes [(h0, .inr (5, [.ref qel, .int (nI rl2_22)])), (qel, .inl (cA, 16, .inl lt2_23))] H := hP
              have hD : va_D A [(h0, .inr (5, [.ref qel, .int (nI rl2_22)])), (qel, .inl (cA, 16, .inl lt2_23))] := hD
              refine lv_aload_n hx hb dX5_tellWay_72 rfl (lv_at hl 0 rfl) ?_
              refine lv_bipush (v := 120) hx hb dX5_tellWay_73 (by decide) ?_
              refine kVv (n3 := 1) (As := [.int 120]) (rest := []) X hl.1 hE hP hD hS hA [(h0, .inr (5, [.ref qel, .int (nI rl2_22)])), (qel, .inl (cA, 16, .inl lt2_23))] [] [0, 1] [] rfl rfl rfl (by decide +kernel) (by decide +kernel) (by decide +kernel) (c_s_put l D cA cB h0 qel rl2_22 lt2_23 120 (by first | assumption | decide | rfl | omega)) w_408 w_409 w_407 w_410 w_411 0 (ci := 5) (T := TX5) (N := 2) rfl rfl (by decide +kernel) rfl rfl (Nat.le_of_ble_eq_true rfl) ⟨(Nat.le_of_ble_eq_true rfl), (Nat.le_of_ble_eq_true rfl)⟩ ⟨(Nat.le_of_ble_eq_true rfl), (Nat.le_of_ble_eq_true rfl)⟩ dX5_tellWay_75 (fun W1 H locs hw hP hD hS => ?_)
              obtain ⟨rl2_25, lt2_26, hf_27, rfl⟩ := hw
              have hP : va_P D classes [(h0, .inr (5, [.ref qel, .int (nI rl2_25)])), (qel, .inl (cA, 16, .inl lt2_26))] H := hP
              have hD : va_D A [(h0, .inr (5, [.ref qel, .int (nI rl2_25)])), (qel, .inl (cA, 16, .inl lt2_26))] := hD
              refine lv_goto (tgt := 104) hx hb dX5_tellWay_78 (by decide) ?_
              exact endV X hr hlocks hP hD hS dX5_tellWay_104 ⟨rl2_25, lt2_26, (by omega), rfl⟩
        · skip
          refine lv_aload_n hx hb dX5_tellWay_50 rfl (lv_at hl 0 rfl) ?_
          refine lv_bipush (v := 41) hx hb dX5_tellWay_51 (by decide) ?_
          refine kVv (n3 := 1) (As := [.int 41]) (rest := []) X hl.1 hE hP hD hS hA [(h0, .inr (5, [.ref qel, .int (nI rl2_1)])), (qel, .inl (cA, 16, .inl lt2_2))] [] [0, 1] [] rfl rfl rfl (by decide +kernel) (by decide +kernel) (by decide +kernel) (c_s_put l D cA cB h0 qel rl2_1 lt2_2 41 (by first | assumption | decide | rfl | omega)) w_408 w_409 w_407 w_410 w_411 0 (ci := 5) (T := TX5) (N := 2) rfl rfl (by decide +kernel) rfl rfl (Nat.le_of_ble_eq_true rfl) ⟨(Nat.le_of_ble_eq_true rfl), (Nat.le_of_ble_eq_true rfl)⟩ ⟨(Nat.le_of_ble_eq_true rfl), (Nat.le_of_ble_eq_true rfl)⟩ dX5_tellWay_53 (fun W1 H locs hw hP hD hS => ?_)
          obtain ⟨rl2_28, lt2_29, hf_30, rfl⟩ := hw
          have hP : va_P D classes [(h0, .inr (5, [.ref qel, .int (nI rl2_28)])), (qel, .inl (cA, 16, .inl lt2_29))] H := hP
          have hD : va_D A [(h0, .inr (5, [.ref qel, .int (nI rl2_28)])), (qel, .inl (cA, 16, .inl lt2_29))] := hD
          refine lv_iload_n hx hb dX5_tellWay_56 rfl (lv_at hl 1 rfl) ?_
          refine lv_iconst (v := 2) hx hb dX5_tellWay_57 (by decide) ?_
          refine lv_icmp_eq (tgt := 66) hx hb dX5_tellWay_58 (by decide) (fun c_58 => ?_) (fun c_58 => ?_)
          · skip
            refine lv_aload_n hx hb dX5_tellWay_66 rfl (lv_at hl 0 rfl) ?_
            refine lv_bipush (v := 44) hx hb dX5_tellWay_67 (by decide) ?_
            refine kVv (n3 := 1) (As := [.int 44]) (rest := []) X hl.1 hE hP hD hS hA [(h0, .inr (5, [.ref qel, .int (nI rl2_28)])), (qel, .inl (cA, 16, .inl lt2_29))] [] [0, 1] [] rfl rfl rfl (by decide +kernel) (by decide +kernel) (by decide +kernel) (c_s_put l D cA cB h0 qel rl2_28 lt2_29 44 (by first | assumption | decide | rfl | omega)) w_408 w_409 w_407 w_410 w_411 0 (ci := 5) (T := TX5) (N := 2) rfl rfl (by decide +kernel) rfl rfl (Nat.le_of_ble_eq_true rfl) ⟨(Nat.le_of_ble_eq_true rfl), (Nat.le_of_ble_eq_true rfl)⟩ ⟨(Nat.le_of_ble_eq_true rfl), (Nat.le_of_ble_eq_true rfl)⟩ dX5_tellWay_69 (fun W1 H locs hw hP hD hS => ?_)
            obtain ⟨rl2_31, lt2_32, hf_33, rfl⟩ := hw
            have hP : va_P D classes [(h0, .inr (5, [.ref qel, .int (nI rl2_31)])), (qel, .inl (cA, 16, .inl lt2_32))] H := hP
            have hD : va_D A [(h0, .inr (5, [.ref qel, .int (nI rl2_31)])), (qel, .inl (cA, 16, .inl lt2_32))] := hD
            refine lv_aload_n hx hb dX5_tellWay_72 rfl (lv_at hl 0 rfl) ?_
            refine lv_bipush (v := 120) hx hb dX5_tellWay_73 (by decide) ?_
            refine kVv (n3 := 1) (As := [.int 120]) (rest := []) X hl.1 hE hP hD hS hA [(h0, .inr (5, [.ref qel, .int (nI rl2_31)])), (qel, .inl (cA, 16, .inl lt2_32))] [] [0, 1] [] rfl rfl rfl (by decide +kernel) (by decide +kernel) (by decide +kernel) (c_s_put l D cA cB h0 qel rl2_31 lt2_32 120 (by first | assumption | decide | rfl | omega)) w_408 w_409 w_407 w_410 w_411 0 (ci := 5) (T := TX5) (N := 2) rfl rfl (by decide +kernel) rfl rfl (Nat.le_of_ble_eq_true rfl) ⟨(Nat.le_of_ble_eq_true rfl), (Nat.le_of_ble_eq_true rfl)⟩ ⟨(Nat.le_of_ble_eq_true rfl), (Nat.le_of_ble_eq_true rfl)⟩ dX5_tellWay_75 (fun W1 H locs hw hP hD hS => ?_)
            obtain ⟨rl2_34, lt2_35, hf_36, rfl⟩ := hw
            have hP : va_P D classes [(h0, .inr (5, [.ref qel, .int (nI rl2_34)])), (qel, .inl (cA, 16, .inl lt2_35))] H := hP
            have hD : va_D A [(h0, .inr (5, [.ref qel, .int (nI rl2_34)])), (qel, .inl (cA, 16, .inl lt2_35))] := hD
            refine lv_goto (tgt := 104) hx hb dX5_tellWay_78 (by decide) ?_
            exact endV X hr hlocks hP hD hS dX5_tellWay_104 ⟨rl2_34, lt2_35, (by omega), rfl⟩
          · skip
            refine lv_iload_n hx hb dX5_tellWay_61 rfl (lv_at hl 1 rfl) ?_
            refine lv_iconst (v := 4) hx hb dX5_tellWay_62 (by decide) ?_
            refine lv_icmp_ne (tgt := 81) hx hb dX5_tellWay_63 (by decide) (fun c_63 => ?_) (fun c_63 => ?_)
            · skip
              refine lv_iload_n hx hb dX5_tellWay_81 rfl (lv_at hl 1 rfl) ?_
              refine lv_iconst (v := 5) hx hb dX5_tellWay_82 (by decide) ?_
              refine lv_icmp_eq (tgt := 92) hx hb dX5_tellWay_83 (by decide) (fun c_83 => ?_) (fun c_83 => ?_)
              · skip
                refine lv_aload_n hx hb dX5_tellWay_92 rfl (lv_at hl 0 rfl) ?_
                refine lv_bipush (v := 44) hx hb dX5_tellWay_93 (by decide) ?_
                refine kVv (n3 := 1) (As := [.int 44]) (rest := []) X hl.1 hE hP hD hS hA [(h0, .inr (5, [.ref qel, .int (nI rl2_28)])), (qel, .inl (cA, 16, .inl lt2_29))] [] [0, 1] [] rfl rfl rfl (by decide +kernel) (by decide +kernel) (by decide +kernel) (c_s_put l D cA cB h0 qel rl2_28 lt2_29 44 (by first | assumption | decide | rfl | omega)) w_408 w_409 w_407 w_410 w_411 0 (ci := 5) (T := TX5) (N := 2) rfl rfl (by decide +kernel) rfl rfl (Nat.le_of_ble_eq_true rfl) ⟨(Nat.le_of_ble_eq_true rfl), (Nat.le_of_ble_eq_true rfl)⟩ ⟨(Nat.le_of_ble_eq_true rfl), (Nat.le_of_ble_eq_true rfl)⟩ dX5_tellWay_95 (fun W1 H locs hw hP hD hS => ?_)
                obtain ⟨rl2_37, lt2_38, hf_39, rfl⟩ := hw
                have hP : va_P D classes [(h0, .inr (5, [.ref qel, .int (nI rl2_37)])), (qel, .inl (cA, 16, .inl lt2_38))] H := hP
                have hD : va_D A [(h0, .inr (5, [.ref qel, .int (nI rl2_37)])), (qel, .inl (cA, 16, .inl lt2_38))] := hD
                refine lv_aload_n hx hb dX5_tellWay_98 rfl (lv_at hl 0 rfl) ?_
                refine lv_bipush (v := 121) hx hb dX5_tellWay_99 (by decide) ?_
                refine kVv (n3 := 1) (As := [.int 121]) (rest := []) X hl.1 hE hP hD hS hA [(h0, .inr (5, [.ref qel, .int (nI rl2_37)])), (qel, .inl (cA, 16, .inl lt2_38))] [] [0, 1] [] rfl rfl rfl (by decide +kernel) (by decide +kernel) (by decide +kernel) (c_s_put l D cA cB h0 qel rl2_37 lt2_38 121 (by first | assumption | decide | rfl | omega)) w_408 w_409 w_407 w_410 w_411 0 (ci := 5) (T := TX5) (N := 2) rfl rfl (by decide +kernel) rfl rfl (Nat.le_of_ble_eq_true rfl) ⟨(Nat.le_of_ble_eq_true rfl), (Nat.le_of_ble_eq_true rfl)⟩ ⟨(Nat.le_of_ble_eq_true rfl), (Nat.le_of_ble_eq_true rfl)⟩ dX5_tellWay_101 (fun W1 H locs hw hP hD hS => ?_)
                obtain ⟨rl2_40, lt2_41, hf_42, rfl⟩ := hw
                have hP : va_P D classes [(h0, .inr (5, [.ref qel, .int (nI rl2_40)])), (qel, .inl (cA, 16, .inl lt2_41))] H := hP
                have hD : va_D A [(h0, .inr (5, [.ref qel, .int (nI rl2_40)])), (qel, .inl (cA, 16, .inl lt2_41))] := hD
                exact endV X hr hlocks hP hD hS dX5_tellWay_104 ⟨rl2_40, lt2_41, (by omega), rfl⟩
              · skip
                refine lv_iload_n hx hb dX5_tellWay_86 rfl (lv_at hl 1 rfl) ?_
                refine lv_bipush (v := 7) hx hb dX5_tellWay_87 (by decide) ?_
                refine lv_icmp_ne (tgt := 104) hx hb dX5_tellWay_89 (by decide) (fun c_89 => ?_) (fun c_89 => ?_)
                · skip
                  exact endV X hr hlocks hP hD hS dX5_tellWay_104 ⟨rl2_28, lt2_29, (by omega), rfl⟩
                · skip
                  refine lv_aload_n hx hb dX5_tellWay_92 rfl (lv_at hl 0 rfl) ?_
                  refine lv_bipush (v := 44) hx hb dX5_tellWay_93 (by decide) ?_
                  refine kVv (n3 := 1) (As := [.int 44]) (rest := []) X hl.1 hE hP hD hS hA [(h0, .inr (5, [.ref qel, .int (nI rl2_28)])), (qel, .inl (cA, 16, .inl lt2_29))] [] [0, 1] [] rfl rfl rfl (by decide +kernel) (by decide +kernel) (by decide +kernel) (c_s_put l D cA cB h0 qel rl2_28 lt2_29 44 (by first | assumption | decide | rfl | omega)) w_408 w_409 w_407 w_410 w_411 0 (ci := 5) (T := TX5) (N := 2) rfl rfl (by decide +kernel) rfl rfl (Nat.le_of_ble_eq_true rfl) ⟨(Nat.le_of_ble_eq_true rfl), (Nat.le_of_ble_eq_true rfl)⟩ ⟨(Nat.le_of_ble_eq_true rfl), (Nat.le_of_ble_eq_true rfl)⟩ dX5_tellWay_95 (fun W1 H locs hw hP hD hS => ?_)
                  obtain ⟨rl2_43, lt2_44, hf_45, rfl⟩ := hw
                  have hP : va_P D classes [(h0, .inr (5, [.ref qel, .int (nI rl2_43)])), (qel, .inl (cA, 16, .inl lt2_44))] H := hP
                  have hD : va_D A [(h0, .inr (5, [.ref qel, .int (nI rl2_43)])), (qel, .inl (cA, 16, .inl lt2_44))] := hD
                  refine lv_aload_n hx hb dX5_tellWay_98 rfl (lv_at hl 0 rfl) ?_
                  refine lv_bipush (v := 121) hx hb dX5_tellWay_99 (by decide) ?_
                  refine kVv (n3 := 1) (As := [.int 121]) (rest := []) X hl.1 hE hP hD hS hA [(h0, .inr (5, [.ref qel, .int (nI rl2_43)])), (qel, .inl (cA, 16, .inl lt2_44))] [] [0, 1] [] rfl rfl rfl (by decide +kernel) (by decide +kernel) (by decide +kernel) (c_s_put l D cA cB h0 qel rl2_43 lt2_44 121 (by first | assumption | decide | rfl | omega)) w_408 w_409 w_407 w_410 w_411 0 (ci := 5) (T := TX5) (N := 2) rfl rfl (by decide +kernel) rfl rfl (Nat.le_of_ble_eq_true rfl) ⟨(Nat.le_of_ble_eq_true rfl), (Nat.le_of_ble_eq_true rfl)⟩ ⟨(Nat.le_of_ble_eq_true rfl), (Nat.le_of_ble_eq_true rfl)⟩ dX5_tellWay_101 (fun W1 H locs hw hP hD hS => ?_)
                  obtain ⟨rl2_46, lt2_47, hf_48, rfl⟩ := hw
                  have hP : va_P D classes [(h0, .inr (5, [.ref qel, .int (nI rl2_46)])), (qel, .inl (cA, 16, .inl lt2_47))] H := hP
                  have hD : va_D A [(h0, .inr (5, [.ref qel, .int (nI rl2_46)])), (qel, .inl (cA, 16, .inl lt2_47))] := hD
                  exact endV X hr hlocks hP hD hS dX5_tellWay_104 ⟨rl2_46, lt2_47, (by omega), rfl⟩
            · skip
              refine lv_aload_n hx hb dX5_tellWay_66 rfl (lv_at hl 0 rfl) ?_
              refine lv_bipush (v := 44) hx hb dX5_tellWay_67 (by decide) ?_
              refine kVv (n3 := 1) (As := [.int 44]) (rest := []) X hl.1 hE hP hD hS hA [(h0, .inr (5, [.ref qel, .int (nI rl2_28)])), (qel, .inl (cA, 16, .inl lt2_29))] [] [0, 1] [] rfl rfl rfl (by decide +kernel) (by decide +kernel) (by decide +kernel) (c_s_put l D cA cB h0 qel rl2_28 lt2_29 44 (by first | assumption | decide | rfl | omega)) w_408 w_409 w_407 w_410 w_411 0 (ci := 5) (T := TX5) (N := 2) rfl rfl (by decide +kernel) rfl rfl (Nat.le_of_ble_eq_true rfl) ⟨(Nat.le_of_ble_eq_true rfl), (Nat.le_of_ble_eq_true rfl)⟩ ⟨(Nat.le_of_ble_eq_true rfl), (Nat.le_of_ble_eq_true rfl)⟩ dX5_tellWay_69 (fun W1 H locs hw hP hD hS => ?_)
              obtain ⟨rl2_49, lt2_50, hf_51, rfl⟩ := hw
              have hP : va_P D classes [(h0, .inr (5, [.ref qel, .int (nI rl2_49)])), (qel, .inl (cA, 16, .inl lt2_50))] H := hP
              have hD : va_D A [(h0, .inr (5, [.ref qel, .int (nI rl2_49)])), (qel, .inl (cA, 16, .inl lt2_50))] := hD
              refine lv_aload_n hx hb dX5_tellWay_72 rfl (lv_at hl 0 rfl) ?_
              refine lv_bipush (v := 120) hx hb dX5_tellWay_73 (by decide) ?_
              refine kVv (n3 := 1) (As := [.int 120]) (rest := []) X hl.1 hE hP hD hS hA [(h0, .inr (5, [.ref qel, .int (nI rl2_49)])), (qel, .inl (cA, 16, .inl lt2_50))] [] [0, 1] [] rfl rfl rfl (by decide +kernel) (by decide +kernel) (by decide +kernel) (c_s_put l D cA cB h0 qel rl2_49 lt2_50 120 (by first | assumption | decide | rfl | omega)) w_408 w_409 w_407 w_410 w_411 0 (ci := 5) (T := TX5) (N := 2) rfl rfl (by decide +kernel) rfl rfl (Nat.le_of_ble_eq_true rfl) ⟨(Nat.le_of_ble_eq_true rfl), (Nat.le_of_ble_eq_true rfl)⟩ ⟨(Nat.le_of_ble_eq_true rfl), (Nat.le_of_ble_eq_true rfl)⟩ dX5_tellWay_75 (fun W1 H locs hw hP hD hS => ?_)
              obtain ⟨rl2_52, lt2_53, hf_54, rfl⟩ := hw
              have hP : va_P D classes [(h0, .inr (5, [.ref qel, .int (nI rl2_52)])), (qel, .inl (cA, 16, .inl lt2_53))] H := hP
              have hD : va_D A [(h0, .inr (5, [.ref qel, .int (nI rl2_52)])), (qel, .inl (cA, 16, .inl lt2_53))] := hD
              refine lv_goto (tgt := 104) hx hb dX5_tellWay_78 (by decide) ?_
              exact endV X hr hlocks hP hD hS dX5_tellWay_104 ⟨rl2_52, lt2_53, (by omega), rfl⟩
      · skip
        refine lv_aload_n hx hb dX5_tellWay_33 rfl (lv_at hl 0 rfl) ?_
        refine lv_bipush (v := 40) hx hb dX5_tellWay_34 (by decide) ?_
        refine kVv (n3 := 1) (As := [.int 40]) (rest := []) X hl.1 hE hP hD hS hA [(h0, .inr (5, [.ref qel, .int (nI rl)])), (qel, .inl (cA, 16, .inl lt))] [] [0, 1] [] rfl rfl rfl (by decide +kernel) (by decide +kernel) (by decide +kernel) (c_s_put l D cA cB h0 qel rl lt 40 (by first | assumption | decide | rfl | omega)) w_408 w_409 w_407 w_410 w_411 0 (ci := 5) (T := TX5) (N := 2) rfl rfl (by decide +kernel) rfl rfl (Nat.le_of_ble_eq_true rfl) ⟨(Nat.le_of_ble_eq_true rfl), (Nat.le_of_ble_eq_true rfl)⟩ ⟨(Nat.le_of_ble_eq_true rfl), (Nat.le_of_ble_eq_true rfl)⟩ dX5_tellWay_36 (fun W1 H locs hw hP hD hS => ?_)
        obtain ⟨rl2_55, lt2_56, hf_57, rfl⟩ := hw
        have hP : va_P D classes [(h0, .inr (5, [.ref qel, .int (nI rl2_55)])), (qel, .inl (cA, 16, .inl lt2_56))] H := hP
        have hD : va_D A [(h0, .inr (5, [.ref qel, .int (nI rl2_55)])), (qel, .inl (cA, 16, .inl lt2_56))] := hD
        refine lv_aload_n hx hb dX5_tellWay_39 rfl (lv_at hl 0 rfl) ?_
        refine lv_iload_n hx hb dX5_tellWay_40 rfl (lv_at hl 2 rfl) ?_
        refine kVv (n3 := 1) (As := [.int w]) (rest := []) X hl.1 hE hP hD hS hA [(h0, .inr (5, [.ref qel, .int (nI rl2_55)])), (qel, .inl (cA, 16, .inl lt2_56))] [] [0, 1] [] rfl rfl rfl (by decide +kernel) (by decide +kernel) (by decide +kernel) (c_s_putNumber l D cA cB h0 qel rl2_55 lt2_56 w (by first | assumption | decide | rfl | omega)) w_413 w_409 w_412 w_414 w_415 0 (ci := 5) (T := TX5) (N := 2) rfl rfl (by decide +kernel) rfl rfl (Nat.le_of_ble_eq_true rfl) ⟨(Nat.le_of_ble_eq_true rfl), (Nat.le_of_ble_eq_true rfl)⟩ ⟨(Nat.le_of_ble_eq_true rfl), (Nat.le_of_ble_eq_true rfl)⟩ dX5_tellWay_41 (fun W1 H locs hw hP hD hS => ?_)
        obtain ⟨rl2_58, lt2_59, hf_60, rfl⟩ := hw
        have hP : va_P D classes [(h0, .inr (5, [.ref qel, .int (nI rl2_58)])), (qel, .inl (cA, 16, .inl lt2_59))] H := hP
        have hD : va_D A [(h0, .inr (5, [.ref qel, .int (nI rl2_58)])), (qel, .inl (cA, 16, .inl lt2_59))] := hD
        refine lv_iload_n hx hb dX5_tellWay_44 rfl (lv_at hl 1 rfl) ?_
        refine lv_bipush (v := 6) hx hb dX5_tellWay_45 (by decide) ?_
        refine lv_icmp_lt (tgt := 56) hx hb dX5_tellWay_47 (by decide) (fun c_47 => ?_) (fun c_47 => ?_)
        · skip
          refine lv_iload_n hx hb dX5_tellWay_56 rfl (lv_at hl 1 rfl) ?_
          refine lv_iconst (v := 2) hx hb dX5_tellWay_57 (by decide) ?_
          refine lv_icmp_eq (tgt := 66) hx hb dX5_tellWay_58 (by decide) (fun c_58 => ?_) (fun c_58 => ?_)
          · skip
            refine lv_aload_n hx hb dX5_tellWay_66 rfl (lv_at hl 0 rfl) ?_
            refine lv_bipush (v := 44) hx hb dX5_tellWay_67 (by decide) ?_
            refine kVv (n3 := 1) (As := [.int 44]) (rest := []) X hl.1 hE hP hD hS hA [(h0, .inr (5, [.ref qel, .int (nI rl2_58)])), (qel, .inl (cA, 16, .inl lt2_59))] [] [0, 1] [] rfl rfl rfl (by decide +kernel) (by decide +kernel) (by decide +kernel) (c_s_put l D cA cB h0 qel rl2_58 lt2_59 44 (by first | assumption | decide | rfl | omega)) w_408 w_409 w_407 w_410 w_411 0 (ci := 5) (T := TX5) (N := 2) rfl rfl (by decide +kernel) rfl rfl (Nat.le_of_ble_eq_true rfl) ⟨(Nat.le_of_ble_eq_true rfl), (Nat.le_of_ble_eq_true rfl)⟩ ⟨(Nat.le_of_ble_eq_true rfl), (Nat.le_of_ble_eq_true rfl)⟩ dX5_tellWay_69 (fun W1 H locs hw hP hD hS => ?_)
            obtain ⟨rl2_61, lt2_62, hf_63, rfl⟩ := hw
            have hP : va_P D classes [(h0, .inr (5, [.ref qel, .int (nI rl2_61)])), (qel, .inl (cA, 16, .inl lt2_62))] H := hP
            have hD : va_D A [(h0, .inr (5, [.ref qel, .int (nI rl2_61)])), (qel, .inl (cA, 16, .inl lt2_62))] := hD
            refine lv_aload_n hx hb dX5_tellWay_72 rfl (lv_at hl 0 rfl) ?_
            refine lv_bipush (v := 120) hx hb dX5_tellWay_73 (by decide) ?_
            refine kVv (n3 := 1) (As := [.int 120]) (rest := []) X hl.1 hE hP hD hS hA [(h0, .inr (5, [.ref qel, .int (nI rl2_61)])), (qel, .inl (cA, 16, .inl lt2_62))] [] [0, 1] [] rfl rfl rfl (by decide +kernel) (by decide +kernel) (by decide +kernel) (c_s_put l D cA cB h0 qel rl2_61 lt2_62 120 (by first | assumption | decide | rfl | omega)) w_408 w_409 w_407 w_410 w_411 0 (ci := 5) (T := TX5) (N := 2) rfl rfl (by decide +kernel) rfl rfl (Nat.le_of_ble_eq_true rfl) ⟨(Nat.le_of_ble_eq_true rfl), (Nat.le_of_ble_eq_true rfl)⟩ ⟨(Nat.le_of_ble_eq_true rfl), (Nat.le_of_ble_eq_true rfl)⟩ dX5_tellWay_75 (fun W1 H locs hw hP hD hS => ?_)
            obtain ⟨rl2_64, lt2_65, hf_66, rfl⟩ := hw
            have hP : va_P D classes [(h0, .inr (5, [.ref qel, .int (nI rl2_64)])), (qel, .inl (cA, 16, .inl lt2_65))] H := hP
            have hD : va_D A [(h0, .inr (5, [.ref qel, .int (nI rl2_64)])), (qel, .inl (cA, 16, .inl lt2_65))] := hD
            refine lv_goto (tgt := 104) hx hb dX5_tellWay_78 (by decide) ?_
            exact endV X hr hlocks hP hD hS dX5_tellWay_104 ⟨rl2_64, lt2_65, (by omega), rfl⟩
          · skip
            refine lv_iload_n hx hb dX5_tellWay_61 rfl (lv_at hl 1 rfl) ?_
            refine lv_iconst (v := 4) hx hb dX5_tellWay_62 (by decide) ?_
            refine lv_icmp_ne (tgt := 81) hx hb dX5_tellWay_63 (by decide) (fun c_63 => ?_) (fun c_63 => ?_)
            · skip
              refine lv_iload_n hx hb dX5_tellWay_81 rfl (lv_at hl 1 rfl) ?_
              refine lv_iconst (v := 5) hx hb dX5_tellWay_82 (by decide) ?_
              refine lv_icmp_eq (tgt := 92) hx hb dX5_tellWay_83 (by decide) (fun c_83 => ?_) (fun c_83 => ?_)
              · skip
                refine lv_aload_n hx hb dX5_tellWay_92 rfl (lv_at hl 0 rfl) ?_
                refine lv_bipush (v := 44) hx hb dX5_tellWay_93 (by decide) ?_
                refine kVv (n3 := 1) (As := [.int 44]) (rest := []) X hl.1 hE hP hD hS hA [(h0, .inr (5, [.ref qel, .int (nI rl2_58)])), (qel, .inl (cA, 16, .inl lt2_59))] [] [0, 1] [] rfl rfl rfl (by decide +kernel) (by decide +kernel) (by decide +kernel) (c_s_put l D cA cB h0 qel rl2_58 lt2_59 44 (by first | assumption | decide | rfl | omega)) w_408 w_409 w_407 w_410 w_411 0 (ci := 5) (T := TX5) (N := 2) rfl rfl (by decide +kernel) rfl rfl (Nat.le_of_ble_eq_true rfl) ⟨(Nat.le_of_ble_eq_true rfl), (Nat.le_of_ble_eq_true rfl)⟩ ⟨(Nat.le_of_ble_eq_true rfl), (Nat.le_of_ble_eq_true rfl)⟩ dX5_tellWay_95 (fun W1 H locs hw hP hD hS => ?_)
                obtain ⟨rl2_67, lt2_68, hf_69, rfl⟩ := hw
                have hP : va_P D classes [(h0, .inr (5, [.ref qel, .int (nI rl2_67)])), (qel, .inl (cA, 16, .inl lt2_68))] H := hP
                have hD : va_D A [(h0, .inr (5, [.ref qel, .int (nI rl2_67)])), (qel, .inl (cA, 16, .inl lt2_68))] := hD
                refine lv_aload_n hx hb dX5_tellWay_98 rfl (lv_at hl 0 rfl) ?_
                refine lv_bipush (v := 121) hx hb dX5_tellWay_99 (by decide) ?_
                refine kVv (n3 := 1) (As := [.int 121]) (rest := []) X hl.1 hE hP hD hS hA [(h0, .inr (5, [.ref qel, .int (nI rl2_67)])), (qel, .inl (cA, 16, .inl lt2_68))] [] [0, 1] [] rfl rfl rfl (by decide +kernel) (by decide +kernel) (by decide +kernel) (c_s_put l D cA cB h0 qel rl2_67 lt2_68 121 (by first | assumption | decide | rfl | omega)) w_408 w_409 w_407 w_410 w_411 0 (ci := 5) (T := TX5) (N := 2) rfl rfl (by decide +kernel) rfl rfl (Nat.le_of_ble_eq_true rfl) ⟨(Nat.le_of_ble_eq_true rfl), (Nat.le_of_ble_eq_true rfl)⟩ ⟨(Nat.le_of_ble_eq_true rfl), (Nat.le_of_ble_eq_true rfl)⟩ dX5_tellWay_101 (fun W1 H locs hw hP hD hS => ?_)
                obtain ⟨rl2_70, lt2_71, hf_72, rfl⟩ := hw
                have hP : va_P D classes [(h0, .inr (5, [.ref qel, .int (nI rl2_70)])), (qel, .inl (cA, 16, .inl lt2_71))] H := hP
                have hD : va_D A [(h0, .inr (5, [.ref qel, .int (nI rl2_70)])), (qel, .inl (cA, 16, .inl lt2_71))] := hD
                exact endV X hr hlocks hP hD hS dX5_tellWay_104 ⟨rl2_70, lt2_71, (by omega), rfl⟩
              · skip
                refine lv_iload_n hx hb dX5_tellWay_86 rfl (lv_at hl 1 rfl) ?_
                refine lv_bipush (v := 7) hx hb dX5_tellWay_87 (by decide) ?_
                refine lv_icmp_ne (tgt := 104) hx hb dX5_tellWay_89 (by decide) (fun c_89 => ?_) (fun c_89 => ?_)
                · skip
                  exact endV X hr hlocks hP hD hS dX5_tellWay_104 ⟨rl2_58, lt2_59, (by omega), rfl⟩
                · skip
                  refine lv_aload_n hx hb dX5_tellWay_92 rfl (lv_at hl 0 rfl) ?_
                  refine lv_bipush (v := 44) hx hb dX5_tellWay_93 (by decide) ?_
                  refine kVv (n3 := 1) (As := [.int 44]) (rest := []) X hl.1 hE hP hD hS hA [(h0, .inr (5, [.ref qel, .int (nI rl2_58)])), (qel, .inl (cA, 16, .inl lt2_59))] [] [0, 1] [] rfl rfl rfl (by decide +kernel) (by decide +kernel) (by decide +kernel) (c_s_put l D cA cB h0 qel rl2_58 lt2_59 44 (by first | assumption | decide | rfl | omega)) w_408 w_409 w_407 w_410 w_411 0 (ci := 5) (T := TX5) (N := 2) rfl rfl (by decide +kernel) rfl rfl (Nat.le_of_ble_eq_true rfl) ⟨(Nat.le_of_ble_eq_true rfl), (Nat.le_of_ble_eq_true rfl)⟩ ⟨(Nat.le_of_ble_eq_true rfl), (Nat.le_of_ble_eq_true rfl)⟩ dX5_tellWay_95 (fun W1 H locs hw hP hD hS => ?_)
                  obtain ⟨rl2_73, lt2_74, hf_75, rfl⟩ := hw
                  have hP : va_P D classes [(h0, .inr (5, [.ref qel, .int (nI rl2_73)])), (qel, .inl (cA, 16, .inl lt2_74))] H := hP
                  have hD : va_D A [(h0, .inr (5, [.ref qel, .int (nI rl2_73)])), (qel, .inl (cA, 16, .inl lt2_74))] := hD
                  refine lv_aload_n hx hb dX5_tellWay_98 rfl (lv_at hl 0 rfl) ?_
                  refine lv_bipush (v := 121) hx hb dX5_tellWay_99 (by decide) ?_
                  refine kVv (n3 := 1) (As := [.int 121]) (rest := []) X hl.1 hE hP hD hS hA [(h0, .inr (5, [.ref qel, .int (nI rl2_73)])), (qel, .inl (cA, 16, .inl lt2_74))] [] [0, 1] [] rfl rfl rfl (by decide +kernel) (by decide +kernel) (by decide +kernel) (c_s_put l D cA cB h0 qel rl2_73 lt2_74 121 (by first | assumption | decide | rfl | omega)) w_408 w_409 w_407 w_410 w_411 0 (ci := 5) (T := TX5) (N := 2) rfl rfl (by decide +kernel) rfl rfl (Nat.le_of_ble_eq_true rfl) ⟨(Nat.le_of_ble_eq_true rfl), (Nat.le_of_ble_eq_true rfl)⟩ ⟨(Nat.le_of_ble_eq_true rfl), (Nat.le_of_ble_eq_true rfl)⟩ dX5_tellWay_101 (fun W1 H locs hw hP hD hS => ?_)
                  obtain ⟨rl2_76, lt2_77, hf_78, rfl⟩ := hw
                  have hP : va_P D classes [(h0, .inr (5, [.ref qel, .int (nI rl2_76)])), (qel, .inl (cA, 16, .inl lt2_77))] H := hP
                  have hD : va_D A [(h0, .inr (5, [.ref qel, .int (nI rl2_76)])), (qel, .inl (cA, 16, .inl lt2_77))] := hD
                  exact endV X hr hlocks hP hD hS dX5_tellWay_104 ⟨rl2_76, lt2_77, (by omega), rfl⟩
            · skip
              refine lv_aload_n hx hb dX5_tellWay_66 rfl (lv_at hl 0 rfl) ?_
              refine lv_bipush (v := 44) hx hb dX5_tellWay_67 (by decide) ?_
              refine kVv (n3 := 1) (As := [.int 44]) (rest := []) X hl.1 hE hP hD hS hA [(h0, .inr (5, [.ref qel, .int (nI rl2_58)])), (qel, .inl (cA, 16, .inl lt2_59))] [] [0, 1] [] rfl rfl rfl (by decide +kernel) (by decide +kernel) (by decide +kernel) (c_s_put l D cA cB h0 qel rl2_58 lt2_59 44 (by first | assumption | decide | rfl | omega)) w_408 w_409 w_407 w_410 w_411 0 (ci := 5) (T := TX5) (N := 2) rfl rfl (by decide +kernel) rfl rfl (Nat.le_of_ble_eq_true rfl) ⟨(Nat.le_of_ble_eq_true rfl), (Nat.le_of_ble_eq_true rfl)⟩ ⟨(Nat.le_of_ble_eq_true rfl), (Nat.le_of_ble_eq_true rfl)⟩ dX5_tellWay_69 (fun W1 H locs hw hP hD hS => ?_)
              obtain ⟨rl2_79, lt2_80, hf_81, rfl⟩ := hw
              have hP : va_P D classes [(h0, .inr (5, [.ref qel, .int (nI rl2_79)])), (qel, .inl (cA, 16, .inl lt2_80))] H := hP
              have hD : va_D A [(h0, .inr (5, [.ref qel, .int (nI rl2_79)])), (qel, .inl (cA, 16, .inl lt2_80))] := hD
              refine lv_aload_n hx hb dX5_tellWay_72 rfl (lv_at hl 0 rfl) ?_
              refine lv_bipush (v := 120) hx hb dX5_tellWay_73 (by decide) ?_
              refine kVv (n3 := 1) (As := [.int 120]) (rest := []) X hl.1 hE hP hD hS hA [(h0, .inr (5, [.ref qel, .int (nI rl2_79)])), (qel, .inl (cA, 16, .inl lt2_80))] [] [0, 1] [] rfl rfl rfl (by decide +kernel) (by decide +kernel) (by decide +kernel) (c_s_put l D cA cB h0 qel rl2_79 lt2_80 120 (by first | assumption | decide | rfl | omega)) w_408 w_409 w_407 w_410 w_411 0 (ci := 5) (T := TX5) (N := 2) rfl rfl (by decide +kernel) rfl rfl (Nat.le_of_ble_eq_true rfl) ⟨(Nat.le_of_ble_eq_true rfl), (Nat.le_of_ble_eq_true rfl)⟩ ⟨(Nat.le_of_ble_eq_true rfl), (Nat.le_of_ble_eq_true rfl)⟩ dX5_tellWay_75 (fun W1 H locs hw hP hD hS => ?_)
              obtain ⟨rl2_82, lt2_83, hf_84, rfl⟩ := hw
              have hP : va_P D classes [(h0, .inr (5, [.ref qel, .int (nI rl2_82)])), (qel, .inl (cA, 16, .inl lt2_83))] H := hP
              have hD : va_D A [(h0, .inr (5, [.ref qel, .int (nI rl2_82)])), (qel, .inl (cA, 16, .inl lt2_83))] := hD
              refine lv_goto (tgt := 104) hx hb dX5_tellWay_78 (by decide) ?_
              exact endV X hr hlocks hP hD hS dX5_tellWay_104 ⟨rl2_82, lt2_83, (by omega), rfl⟩
        · skip
          refine lv_aload_n hx hb dX5_tellWay_50 rfl (lv_at hl 0 rfl) ?_
          refine lv_bipush (v := 41) hx hb dX5_tellWay_51 (by decide) ?_
          refine kVv (n3 := 1) (As := [.int 41]) (rest := []) X hl.1 hE hP hD hS hA [(h0, .inr (5, [.ref qel, .int (nI rl2_58)])), (qel, .inl (cA, 16, .inl lt2_59))] [] [0, 1] [] rfl rfl rfl (by decide +kernel) (by decide +kernel) (by decide +kernel) (c_s_put l D cA cB h0 qel rl2_58 lt2_59 41 (by first | assumption | decide | rfl | omega)) w_408 w_409 w_407 w_410 w_411 0 (ci := 5) (T := TX5) (N := 2) rfl rfl (by decide +kernel) rfl rfl (Nat.le_of_ble_eq_true rfl) ⟨(Nat.le_of_ble_eq_true rfl), (Nat.le_of_ble_eq_true rfl)⟩ ⟨(Nat.le_of_ble_eq_true rfl), (Nat.le_of_ble_eq_true rfl)⟩ dX5_tellWay_53 (fun W1 H locs hw hP hD hS => ?_)
          obtain ⟨rl2_85, lt2_86, hf_87, rfl⟩ := hw
          have hP : va_P D classes [(h0, .inr (5, [.ref qel, .int (nI rl2_85)])), (qel, .inl (cA, 16, .inl lt2_86))] H := hP
          have hD : va_D A [(h0, .inr (5, [.ref qel, .int (nI rl2_85)])), (qel, .inl (cA, 16, .inl lt2_86))] := hD
          refine lv_iload_n hx hb dX5_tellWay_56 rfl (lv_at hl 1 rfl) ?_
          refine lv_iconst (v := 2) hx hb dX5_tellWay_57 (by decide) ?_
          refine lv_icmp_eq (tgt := 66) hx hb dX5_tellWay_58 (by decide) (fun c_58 => ?_) (fun c_58 => ?_)
          · skip
            refine lv_aload_n hx hb dX5_tellWay_66 rfl (lv_at hl 0 rfl) ?_
            refine lv_bipush (v := 44) hx hb dX5_tellWay_67 (by decide) ?_
            refine kVv (n3 := 1) (As := [.int 44]) (rest := []) X hl.1 hE hP hD hS hA [(h0, .inr (5, [.ref qel, .int (nI rl2_85)])), (qel, .inl (cA, 16, .inl lt2_86))] [] [0, 1] [] rfl rfl rfl (by decide +kernel) (by decide +kernel) (by decide +kernel) (c_s_put l D cA cB h0 qel rl2_85 lt2_86 44 (by first | assumption | decide | rfl | omega)) w_408 w_409 w_407 w_410 w_411 0 (ci := 5) (T := TX5) (N := 2) rfl rfl (by decide +kernel) rfl rfl (Nat.le_of_ble_eq_true rfl) ⟨(Nat.le_of_ble_eq_true rfl), (Nat.le_of_ble_eq_true rfl)⟩ ⟨(Nat.le_of_ble_eq_true rfl), (Nat.le_of_ble_eq_true rfl)⟩ dX5_tellWay_69 (fun W1 H locs hw hP hD hS => ?_)
            obtain ⟨rl2_88, lt2_89, hf_90, rfl⟩ := hw
            have hP : va_P D classes [(h0, .inr (5, [.ref qel, .int (nI rl2_88)])), (qel, .inl (cA, 16, .inl lt2_89))] H := hP
            have hD : va_D A [(h0, .inr (5, [.ref qel, .int (nI rl2_88)])), (qel, .inl (cA, 16, .inl lt2_89))] := hD
            refine lv_aload_n hx hb dX5_tellWay_72 rfl (lv_at hl 0 rfl) ?_
            refine lv_bipush (v := 120) hx hb dX5_tellWay_73 (by decide) ?_
            refine kVv (n3 := 1) (As := [.int 120]) (rest := []) X hl.1 hE hP hD hS hA [(h0, .inr (5, [.ref qel, .int (nI rl2_88)])), (qel, .inl (cA, 16, .inl lt2_89))] [] [0, 1] [] rfl rfl rfl (by decide +kernel) (by decide +kernel) (by decide +kernel) (c_s_put l D cA cB h0 qel rl2_88 lt2_89 120 (by first | assumption | decide | rfl | omega)) w_408 w_409 w_407 w_410 w_411 0 (ci := 5) (T := TX5) (N := 2) rfl rfl (by decide +kernel) rfl rfl (Nat.le_of_ble_eq_true rfl) ⟨(Nat.le_of_ble_eq_true rfl), (Nat.le_of_ble_eq_true rfl)⟩ ⟨(Nat.le_of_ble_eq_true rfl), (Nat.le_of_ble_eq_true rfl)⟩ dX5_tellWay_75 (fun W1 H locs hw hP hD hS => ?_)
            obtain ⟨rl2_91, lt2_92, hf_93, rfl⟩ := hw
            have hP : va_P D classes [(h0, .inr (5, [.ref qel, .int (nI rl2_91)])), (qel, .inl (cA, 16, .inl lt2_92))] H := hP
            have hD : va_D A [(h0, .inr (5, [.ref qel, .int (nI rl2_91)])), (qel, .inl (cA, 16, .inl lt2_92))] := hD
            refine lv_goto (tgt := 104) hx hb dX5_tellWay_78 (by decide) ?_
            exact endV X hr hlocks hP hD hS dX5_tellWay_104 ⟨rl2_91, lt2_92, (by omega), rfl⟩
          · skip
            refine lv_iload_n hx hb dX5_tellWay_61 rfl (lv_at hl 1 rfl) ?_
            refine lv_iconst (v := 4) hx hb dX5_tellWay_62 (by decide) ?_
            refine lv_icmp_ne (tgt := 81) hx hb dX5_tellWay_63 (by decide) (fun c_63 => ?_) (fun c_63 => ?_)
            · skip
              refine lv_iload_n hx hb dX5_tellWay_81 rfl (lv_at hl 1 rfl) ?_
              refine lv_iconst (v := 5) hx hb dX5_tellWay_82 (by decide) ?_
              refine lv_icmp_eq (tgt := 92) hx hb dX5_tellWay_83 (by decide) (fun c_83 => ?_) (fun c_83 => ?_)
              · skip
                refine lv_aload_n hx hb dX5_tellWay_92 rfl (lv_at hl 0 rfl) ?_
                refine lv_bipush (v := 44) hx hb dX5_tellWay_93 (by decide) ?_
                refine kVv (n3 := 1) (As := [.int 44]) (rest := []) X hl.1 hE hP hD hS hA [(h0, .inr (5, [.ref qel, .int (nI rl2_85)])), (qel, .inl (cA, 16, .inl lt2_86))] [] [0, 1] [] rfl rfl rfl (by decide +kernel) (by decide +kernel) (by decide +kernel) (c_s_put l D cA cB h0 qel rl2_85 lt2_86 44 (by first | assumption | decide | rfl | omega)) w_408 w_409 w_407 w_410 w_411 0 (ci := 5) (T := TX5) (N := 2) rfl rfl (by decide +kernel) rfl rfl (Nat.le_of_ble_eq_true rfl) ⟨(Nat.le_of_ble_eq_true rfl), (Nat.le_of_ble_eq_true rfl)⟩ ⟨(Nat.le_of_ble_eq_true rfl), (Nat.le_of_ble_eq_true rfl)⟩ dX5_tellWay_95 (fun W1 H locs hw hP hD hS => ?_)
                obtain ⟨rl2_94, lt2_95, hf_96, rfl⟩ := hw
                have hP : va_P D classes [(h0, .inr (5, [.ref qel, .int (nI rl2_94)])), (qel, .inl (cA, 16, .inl lt2_95))] H := hP
                have hD : va_D A [(h0, .inr (5, [.ref qel, .int (nI rl2_94)])), (qel, .inl (cA, 16, .inl lt2_95))] := hD
                refine lv_aload_n hx hb dX5_tellWay_98 rfl (lv_at hl 0 rfl) ?_
                refine lv_bipush (v := 121) hx hb dX5_tellWay_99 (by decide) ?_
                refine kVv (n3 := 1) (As := [.int 121]) (rest := []) X hl.1 hE hP hD hS hA [(h0, .inr (5, [.ref qel, .int (nI rl2_94)])), (qel, .inl (cA, 16, .inl lt2_95))] [] [0, 1] [] rfl rfl rfl (by decide +kernel) (by decide +kernel) (by decide +kernel) (c_s_put l D cA cB h0 qel rl2_94 lt2_95 121 (by first | assumption | decide | rfl | omega)) w_408 w_409 w_407 w_410 w_411 0 (ci := 5) (T := TX5) (N := 2) rfl rfl (by decide +kernel) rfl rfl (Nat.le_of_ble_eq_true rfl) ⟨(Nat.le_of_ble_eq_true rfl), (Nat.le_of_ble_eq_true rfl)⟩ ⟨(Nat.le_of_ble_eq_true rfl), (Nat.le_of_ble_eq_true rfl)⟩ dX5_tellWay_101 (fun W1 H locs hw hP hD hS => ?_)
                obtain ⟨rl2_97, lt2_98, hf_99, rfl⟩ := hw
                have hP : va_P D classes [(h0, .inr (5, [.ref qel, .int (nI rl2_97)])), (qel, .inl (cA, 16, .inl lt2_98))] H := hP
                have hD : va_D A [(h0, .inr (5, [.ref qel, .int (nI rl2_97)])), (qel, .inl (cA, 16, .inl lt2_98))] := hD
                exact endV X hr hlocks hP hD hS dX5_tellWay_104 ⟨rl2_97, lt2_98, (by omega), rfl⟩
              · skip
                refine lv_iload_n hx hb dX5_tellWay_86 rfl (lv_at hl 1 rfl) ?_
                refine lv_bipush (v := 7) hx hb dX5_tellWay_87 (by decide) ?_
                refine lv_icmp_ne (tgt := 104) hx hb dX5_tellWay_89 (by decide) (fun c_89 => ?_) (fun c_89 => ?_)
                · skip
                  exact endV X hr hlocks hP hD hS dX5_tellWay_104 ⟨rl2_85, lt2_86, (by omega), rfl⟩
                · skip
                  refine lv_aload_n hx hb dX5_tellWay_92 rfl (lv_at hl 0 rfl) ?_
                  refine lv_bipush (v := 44) hx hb dX5_tellWay_93 (by decide) ?_
                  refine kVv (n3 := 1) (As := [.int 44]) (rest := []) X hl.1 hE hP hD hS hA [(h0, .inr (5, [.ref qel, .int (nI rl2_85)])), (qel, .inl (cA, 16, .inl lt2_86))] [] [0, 1] [] rfl rfl rfl (by decide +kernel) (by decide +kernel) (by decide +kernel) (c_s_put l D cA cB h0 qel rl2_85 lt2_86 44 (by first | assumption | decide | rfl | omega)) w_408 w_409 w_407 w_410 w_411 0 (ci := 5) (T := TX5) (N := 2) rfl rfl (by decide +kernel) rfl rfl (Nat.le_of_ble_eq_true rfl) ⟨(Nat.le_of_ble_eq_true rfl), (Nat.le_of_ble_eq_true rfl)⟩ ⟨(Nat.le_of_ble_eq_true rfl), (Nat.le_of_ble_eq_true rfl)⟩ dX5_tellWay_95 (fun W1 H locs hw hP hD hS => ?_)
                  obtain ⟨rl2_100, lt2_101, hf_102, rfl⟩ := hw
                  have hP : va_P D classes [(h0, .inr (5, [.ref qel, .int (nI rl2_100)])), (qel, .inl (cA, 16, .inl lt2_101))] H := hP
                  have hD : va_D A [(h0, .inr (5, [.ref qel, .int (nI rl2_100)])), (qel, .inl (cA, 16, .inl lt2_101))] := hD
                  refine lv_aload_n hx hb dX5_tellWay_98 rfl (lv_at hl 0 rfl) ?_
                  refine lv_bipush (v := 121) hx hb dX5_tellWay_99 (by decide) ?_
                  refine kVv (n3 := 1) (As := [.int 121]) (rest := []) X hl.1 hE hP hD hS hA [(h0, .inr (5, [.ref qel, .int (nI rl2_100)])), (qel, .inl (cA, 16, .inl lt2_101))] [] [0, 1] [] rfl rfl rfl (by decide +kernel) (by decide +kernel) (by decide +kernel) (c_s_put l D cA cB h0 qel rl2_100 lt2_101 121 (by first | assumption | decide | rfl | omega)) w_408 w_409 w_407 w_410 w_411 0 (ci := 5) (T := TX5) (N := 2) rfl rfl (by decide +kernel) rfl rfl (Nat.le_of_ble_eq_true rfl) ⟨(Nat.le_of_ble_eq_true rfl), (Nat.le_of_ble_eq_true rfl)⟩ ⟨(Nat.le_of_ble_eq_true rfl), (Nat.le_of_ble_eq_true rfl)⟩ dX5_tellWay_101 (fun W1 H locs hw hP hD hS => ?_)
                  obtain ⟨rl2_103, lt2_104, hf_105, rfl⟩ := hw
                  have hP : va_P D classes [(h0, .inr (5, [.ref qel, .int (nI rl2_103)])), (qel, .inl (cA, 16, .inl lt2_104))] H := hP
                  have hD : va_D A [(h0, .inr (5, [.ref qel, .int (nI rl2_103)])), (qel, .inl (cA, 16, .inl lt2_104))] := hD
                  exact endV X hr hlocks hP hD hS dX5_tellWay_104 ⟨rl2_103, lt2_104, (by omega), rfl⟩
            · skip
              refine lv_aload_n hx hb dX5_tellWay_66 rfl (lv_at hl 0 rfl) ?_
              refine lv_bipush (v := 44) hx hb dX5_tellWay_67 (by decide) ?_
              refine kVv (n3 := 1) (As := [.int 44]) (rest := []) X hl.1 hE hP hD hS hA [(h0, .inr (5, [.ref qel, .int (nI rl2_85)])), (qel, .inl (cA, 16, .inl lt2_86))] [] [0, 1] [] rfl rfl rfl (by decide +kernel) (by decide +kernel) (by decide +kernel) (c_s_put l D cA cB h0 qel rl2_85 lt2_86 44 (by first | assumption | decide | rfl | omega)) w_408 w_409 w_407 w_410 w_411 0 (ci := 5) (T := TX5) (N := 2) rfl rfl (by decide +kernel) rfl rfl (Nat.le_of_ble_eq_true rfl) ⟨(Nat.le_of_ble_eq_true rfl), (Nat.le_of_ble_eq_true rfl)⟩ ⟨(Nat.le_of_ble_eq_true rfl), (Nat.le_of_ble_eq_true rfl)⟩ dX5_tellWay_69 (fun W1 H locs hw hP hD hS => ?_)
              obtain ⟨rl2_106, lt2_107, hf_108, rfl⟩ := hw
              have hP : va_P D classes [(h0, .inr (5, [.ref qel, .int (nI rl2_106)])), (qel, .inl (cA, 16, .inl lt2_107))] H := hP
              have hD : va_D A [(h0, .inr (5, [.ref qel, .int (nI rl2_106)])), (qel, .inl (cA, 16, .inl lt2_107))] := hD
              refine lv_aload_n hx hb dX5_tellWay_72 rfl (lv_at hl 0 rfl) ?_
              refine lv_bipush (v := 120) hx hb dX5_tellWay_73 (by decide) ?_
              refine kVv (n3 := 1) (As := [.int 120]) (rest := []) X hl.1 hE hP hD hS hA [(h0, .inr (5, [.ref qel, .int (nI rl2_106)])), (qel, .inl (cA, 16, .inl lt2_107))] [] [0, 1] [] rfl rfl rfl (by decide +kernel) (by decide +kernel) (by decide +kernel) (c_s_put l D cA cB h0 qel rl2_106 lt2_107 120 (by first | assumption | decide | rfl | omega)) w_408 w_409 w_407 w_410 w_411 0 (ci := 5) (T := TX5) (N := 2) rfl rfl (by decide +kernel) rfl rfl (Nat.le_of_ble_eq_true rfl) ⟨(Nat.le_of_ble_eq_true rfl), (Nat.le_of_ble_eq_true rfl)⟩ ⟨(Nat.le_of_ble_eq_true rfl), (Nat.le_of_ble_eq_true rfl)⟩ dX5_tellWay_75 (fun W1 H locs hw hP hD hS => ?_)
              obtain ⟨rl2_109, lt2_110, hf_111, rfl⟩ := hw
              have hP : va_P D classes [(h0, .inr (5, [.ref qel, .int (nI rl2_109)])), (qel, .inl (cA, 16, .inl lt2_110))] H := hP
              have hD : va_D A [(h0, .inr (5, [.ref qel, .int (nI rl2_109)])), (qel, .inl (cA, 16, .inl lt2_110))] := hD
              refine lv_goto (tgt := 104) hx hb dX5_tellWay_78 (by decide) ?_
              exact endV X hr hlocks hP hD hS dX5_tellWay_104 ⟨rl2_109, lt2_110, (by omega), rfl⟩
    · skip
      refine lv_aload_n hx hb dX5_tellWay_18 rfl (lv_at hl 0 rfl) ?_
      refine lv_bipush (v := 60) hx hb dX5_tellWay_19 (by decide) ?_
      refine kVv (n3 := 1) (As := [.int 60]) (rest := []) X hl.1 hE hP hD hS hA [(h0, .inr (5, [.ref qel, .int (nI rl)])), (qel, .inl (cA, 16, .inl lt))] [] [0, 1] [] rfl rfl rfl (by decide +kernel) (by decide +kernel) (by decide +kernel) (c_s_put l D cA cB h0 qel rl lt 60 (by first | assumption | decide | rfl | omega)) w_408 w_409 w_407 w_410 w_411 0 (ci := 5) (T := TX5) (N := 2) rfl rfl (by decide +kernel) rfl rfl (Nat.le_of_ble_eq_true rfl) ⟨(Nat.le_of_ble_eq_true rfl), (Nat.le_of_ble_eq_true rfl)⟩ ⟨(Nat.le_of_ble_eq_true rfl), (Nat.le_of_ble_eq_true rfl)⟩ dX5_tellWay_21 (fun W1 H locs hw hP hD hS => ?_)
      obtain ⟨rl2_112, lt2_113, hf_114, rfl⟩ := hw
      have hP : va_P D classes [(h0, .inr (5, [.ref qel, .int (nI rl2_112)])), (qel, .inl (cA, 16, .inl lt2_113))] H := hP
      have hD : va_D A [(h0, .inr (5, [.ref qel, .int (nI rl2_112)])), (qel, .inl (cA, 16, .inl lt2_113))] := hD
      refine lv_goto (tgt := 39) hx hb dX5_tellWay_24 (by decide) ?_
      refine lv_aload_n hx hb dX5_tellWay_39 rfl (lv_at hl 0 rfl) ?_
      refine lv_iload_n hx hb dX5_tellWay_40 rfl (lv_at hl 2 rfl) ?_
      refine kVv (n3 := 1) (As := [.int w]) (rest := []) X hl.1 hE hP hD hS hA [(h0, .inr (5, [.ref qel, .int (nI rl2_112)])), (qel, .inl (cA, 16, .inl lt2_113))] [] [0, 1] [] rfl rfl rfl (by decide +kernel) (by decide +kernel) (by decide +kernel) (c_s_putNumber l D cA cB h0 qel rl2_112 lt2_113 w (by first | assumption | decide | rfl | omega)) w_413 w_409 w_412 w_414 w_415 0 (ci := 5) (T := TX5) (N := 2) rfl rfl (by decide +kernel) rfl rfl (Nat.le_of_ble_eq_true rfl) ⟨(Nat.le_of_ble_eq_true rfl), (Nat.le_of_ble_eq_true rfl)⟩ ⟨(Nat.le_of_ble_eq_true rfl), (Nat.le_of_ble_eq_true rfl)⟩ dX5_tellWay_41 (fun W1 H locs hw hP hD hS => ?_)
      obtain ⟨rl2_115, lt2_116, hf_117, rfl⟩ := hw
      have hP : va_P D classes [(h0, .inr (5, [.ref qel, .int (nI rl2_115)])), (qel, .inl (cA, 16, .inl lt2_116))] H := hP
      have hD : va_D A [(h0, .inr (5, [.ref qel, .int (nI rl2_115)])), (qel, .inl (cA, 16, .inl lt2_116))] := hD
      refine lv_iload_n hx hb dX5_tellWay_44 rfl (lv_at hl 1 rfl) ?_
      refine lv_bipush (v := 6) hx hb dX5_tellWay_45 (by decide) ?_
      refine lv_icmp_lt (tgt := 56) hx hb dX5_tellWay_47 (by decide) (fun c_47 => ?_) (fun c_47 => ?_)
      · skip
        refine lv_iload_n hx hb dX5_tellWay_56 rfl (lv_at hl 1 rfl) ?_
        refine lv_iconst (v := 2) hx hb dX5_tellWay_57 (by decide) ?_
        refine lv_icmp_eq (tgt := 66) hx hb dX5_tellWay_58 (by decide) (fun c_58 => ?_) (fun c_58 => ?_)
        · skip
          refine lv_aload_n hx hb dX5_tellWay_66 rfl (lv_at hl 0 rfl) ?_
          refine lv_bipush (v := 44) hx hb dX5_tellWay_67 (by decide) ?_
          refine kVv (n3 := 1) (As := [.int 44]) (rest := []) X hl.1 hE hP hD hS hA [(h0, .inr (5, [.ref qel, .int (nI rl2_115)])), (qel, .inl (cA, 16, .inl lt2_116))] [] [0, 1] [] rfl rfl rfl (by decide +kernel) (by decide +kernel) (by decide +kernel) (c_s_put l D cA cB h0 qel rl2_115 lt2_116 44 (by first | assumption | decide | rfl | omega)) w_408 w_409 w_407 w_410 w_411 0 (ci := 5) (T := TX5) (N := 2) rfl rfl (by decide +kernel) rfl rfl (Nat.le_of_ble_eq_true rfl) ⟨(Nat.le_of_ble_eq_true rfl), (Nat.le_of_ble_eq_true rfl)⟩ ⟨(Nat.le_of_ble_eq_true rfl), (Nat.le_of_ble_eq_true rfl)⟩ dX5_tellWay_69 (fun W1 H locs hw hP hD hS => ?_)
          obtain ⟨rl2_118, lt2_119, hf_120, rfl⟩ := hw
          have hP : va_P D classes [(h0, .inr (5, [.ref qel, .int (nI rl2_118)])), (qel, .inl (cA, 16, .inl lt2_119))] H := hP
          have hD : va_D A [(h0, .inr (5, [.ref qel, .int (nI rl2_118)])), (qel, .inl (cA, 16, .inl lt2_119))] := hD
          refine lv_aload_n hx hb dX5_tellWay_72 rfl (lv_at hl 0 rfl) ?_
          refine lv_bipush (v := 120) hx hb dX5_tellWay_73 (by decide) ?_
          refine kVv (n3 := 1) (As := [.int 120]) (rest := []) X hl.1 hE hP hD hS hA [(h0, .inr (5, [.ref qel, .int (nI rl2_118)])), (qel, .inl (cA, 16, .inl lt2_119))] [] [0, 1] [] rfl rfl rfl (by decide +kernel) (by decide +kernel) (by decide +kernel) (c_s_put l D cA cB h0 qel rl2_118 lt2_119 120 (by first | assumption | decide | rfl | omega)) w_408 w_409 w_407 w_410 w_411 0 (ci := 5) (T := TX5) (N := 2) rfl rfl (by decide +kernel) rfl rfl (Nat.le_of_ble_eq_true rfl) ⟨(Nat.le_of_ble_eq_true rfl), (Nat.le_of_ble_eq_true rfl)⟩ ⟨(Nat.le_of_ble_eq_true rfl), (Nat.le_of_ble_eq_true rfl)⟩ dX5_tellWay_75 (fun W1 H locs hw hP hD hS => ?_)
          obtain ⟨rl2_121, lt2_122, hf_123, rfl⟩ := hw
          have hP : va_P D classes [(h0, .inr (5, [.ref qel, .int (nI rl2_121)])), (qel, .inl (cA, 16, .inl lt2_122))] H := hP
          have hD : va_D A [(h0, .inr (5, [.ref qel, .int (nI rl2_121)])), (qel, .inl (cA, 16, .inl lt2_122))] := hD
          refine lv_goto (tgt := 104) hx hb dX5_tellWay_78 (by decide) ?_
          exact endV X hr hlocks hP hD hS dX5_tellWay_104 ⟨rl2_121, lt2_122, (by omega), rfl⟩
        · skip
          refine lv_iload_n hx hb dX5_tellWay_61 rfl (lv_at hl 1 rfl) ?_
          refine lv_iconst (v := 4) hx hb dX5_tellWay_62 (by decide) ?_
          refine lv_icmp_ne (tgt := 81) hx hb dX5_tellWay_63 (by decide) (fun c_63 => ?_) (fun c_63 => ?_)
          · skip
            refine lv_iload_n hx hb dX5_tellWay_81 rfl (lv_at hl 1 rfl) ?_
            refine lv_iconst (v := 5) hx hb dX5_tellWay_82 (by decide) ?_
            refine lv_icmp_eq (tgt := 92) hx hb dX5_tellWay_83 (by decide) (fun c_83 => ?_) (fun c_83 => ?_)
            · skip
              refine lv_aload_n hx hb dX5_tellWay_92 rfl (lv_at hl 0 rfl) ?_
              refine lv_bipush (v := 44) hx hb dX5_tellWay_93 (by decide) ?_
              refine kVv (n3 := 1) (As := [.int 44]) (rest := []) X hl.1 hE hP hD hS hA [(h0, .inr (5, [.ref qel, .int (nI rl2_115)])), (qel, .inl (cA, 16, .inl lt2_116))] [] [0, 1] [] rfl rfl rfl (by decide +kernel) (by decide +kernel) (by decide +kernel) (c_s_put l D cA cB h0 qel rl2_115 lt2_116 44 (by first | assumption | decide | rfl | omega)) w_408 w_409 w_407 w_410 w_411 0 (ci := 5) (T := TX5) (N := 2) rfl rfl (by decide +kernel) rfl rfl (Nat.le_of_ble_eq_true rfl) ⟨(Nat.le_of_ble_eq_true rfl), (Nat.le_of_ble_eq_true rfl)⟩ ⟨(Nat.le_of_ble_eq_true rfl), (Nat.le_of_ble_eq_true rfl)⟩ dX5_tellWay_95 (fun W1 H locs hw hP hD hS => ?_)
              obtain ⟨rl2_124, lt2_125, hf_126, rfl⟩ := hw
              have hP : va_P D classes [(h0, .inr (5, [.ref qel, .int (nI rl2_124)])), (qel, .inl (cA, 16, .inl lt2_125))] H := hP
              have hD : va_D A [(h0, .inr (5, [.ref qel, .int (nI rl2_124)])), (qel, .inl (cA, 16, .inl lt2_125))] := hD
              refine lv_aload_n hx hb dX5_tellWay_98 rfl (lv_at hl 0 rfl) ?_
              refine lv_bipush (v := 121) hx hb dX5_tellWay_99 (by decide) ?_
              refine kVv (n3 := 1) (As := [.int 121]) (rest := []) X hl.1 hE hP hD hS hA [(h0, .inr (5, [.ref qel, .int (nI rl2_124)])), (qel, .inl (cA, 16, .inl lt2_125))] [] [0, 1] [] rfl rfl rfl (by decide +kernel) (by decide +kernel) (by decide +kernel) (c_s_put l D cA cB h0 qel rl2_124 lt2_125 121 (by first | assumption | decide | rfl | omega)) w_408 w_409 w_407 w_410 w_411 0 (ci := 5) (T := TX5) (N := 2) rfl rfl (by decide +kernel) rfl rfl (Nat.le_of_ble_eq_true rfl) ⟨(Nat.le_of_ble_eq_true rfl), (Nat.le_of_ble_eq_true rfl)⟩ ⟨(Nat.le_of_ble_eq_true rfl), (Nat.le_of_ble_eq_true rfl)⟩ dX5_tellWay_101 (fun W1 H locs hw hP hD hS => ?_)
              obtain ⟨rl2_127, lt2_128, hf_129, rfl⟩ := hw
              have hP : va_P D classes [(h0, .inr (5, [.ref qel, .int (nI rl2_127)])), (qel, .inl (cA, 16, .inl lt2_128))] H := hP
              have hD : va_D A [(h0, .inr (5, [.ref qel, .int (nI rl2_127)])), (qel, .inl (cA, 16, .inl lt2_128))] := hD
              exact endV X hr hlocks hP hD hS dX5_tellWay_104 ⟨rl2_127, lt2_128, (by omega), rfl⟩
            · skip
              refine lv_iload_n hx hb dX5_tellWay_86 rfl (lv_at hl 1 rfl) ?_
              refine lv_bipush (v := 7) hx hb dX5_tellWay_87 (by decide) ?_
              refine lv_icmp_ne (tgt := 104) hx hb dX5_tellWay_89 (by decide) (fun c_89 => ?_) (fun c_89 => ?_)
              · skip
                exact endV X hr hlocks hP hD hS dX5_tellWay_104 ⟨rl2_115, lt2_116, (by omega), rfl⟩
              · skip
                refine lv_aload_n hx hb dX5_tellWay_92 rfl (lv_at hl 0 rfl) ?_
                refine lv_bipush (v := 44) hx hb dX5_tellWay_93 (by decide) ?_
                refine kVv (n3 := 1) (As := [.int 44]) (rest := []) X hl.1 hE hP hD hS hA [(h0, .inr (5, [.ref qel, .int (nI rl2_115)])), (qel, .inl (cA, 16, .inl lt2_116))] [] [0, 1] [] rfl rfl rfl (by decide +kernel) (by decide +kernel) (by decide +kernel) (c_s_put l D cA cB h0 qel rl2_115 lt2_116 44 (by first | assumption | decide | rfl | omega)) w_408 w_409 w_407 w_410 w_411 0 (ci := 5) (T := TX5) (N := 2) rfl rfl (by decide +kernel) rfl rfl (Nat.le_of_ble_eq_true rfl) ⟨(Nat.le_of_ble_eq_true rfl), (Nat.le_of_ble_eq_true rfl)⟩ ⟨(Nat.le_of_ble_eq_true rfl), (Nat.le_of_ble_eq_true rfl)⟩ dX5_tellWay_95 (fun W1 H locs hw hP hD hS => ?_)
                obtain ⟨rl2_130, lt2_131, hf_132, rfl⟩ := hw
                have hP : va_P D classes [(h0, .inr (5, [.ref qel, .int (nI rl2_130)])), (qel, .inl (cA, 16, .inl lt2_131))] H := hP
                have hD : va_D A [(h0, .inr (5, [.ref qel, .int (nI rl2_130)])), (qel, .inl (cA, 16, .inl lt2_131))] := hD
                refine lv_aload_n hx hb dX5_tellWay_98 rfl (lv_at hl 0 rfl) ?_
                refine lv_bipush (v := 121) hx hb dX5_tellWay_99 (by decide) ?_
                refine kVv (n3 := 1) (As := [.int 121]) (rest := []) X hl.1 hE hP hD hS hA [(h0, .inr (5, [.ref qel, .int (nI rl2_130)])), (qel, .inl (cA, 16, .inl lt2_131))] [] [0, 1] [] rfl rfl rfl (by decide +kernel) (by decide +kernel) (by decide +kernel) (c_s_put l D cA cB h0 qel rl2_130 lt2_131 121 (by first | assumption | decide | rfl | omega)) w_408 w_409 w_407 w_410 w_411 0 (ci := 5) (T := TX5) (N := 2) rfl rfl (by decide +kernel) rfl rfl (Nat.le_of_ble_eq_true rfl) ⟨(Nat.le_of_ble_eq_true rfl), (Nat.le_of_ble_eq_true rfl)⟩ ⟨(Nat.le_of_ble_eq_true rfl), (Nat.le_of_ble_eq_true rfl)⟩ dX5_tellWay_101 (fun W1 H locs hw hP hD hS => ?_)
                obtain ⟨rl2_133, lt2_134, hf_135, rfl⟩ := hw
                have hP : va_P D classes [(h0, .inr (5, [.ref qel, .int (nI rl2_133)])), (qel, .inl (cA, 16, .inl lt2_134))] H := hP
                have hD : va_D A [(h0, .inr (5, [.ref qel, .int (nI rl2_133)])), (qel, .inl (cA, 16, .inl lt2_134))] := hD
                exact endV X hr hlocks hP hD hS dX5_tellWay_104 ⟨rl2_133, lt2_134, (by omega), rfl⟩
          · skip
            refine lv_aload_n hx hb dX5_tellWay_66 rfl (lv_at hl 0 rfl) ?_
            refine lv_bipush (v := 44) hx hb dX5_tellWay_67 (by decide) ?_
            refine kVv (n3 := 1) (As := [.int 44]) (rest := []) X hl.1 hE hP hD hS hA [(h0, .inr (5, [.ref qel, .int (nI rl2_115)])), (qel, .inl (cA, 16, .inl lt2_116))] [] [0, 1] [] rfl rfl rfl (by decide +kernel) (by decide +kernel) (by decide +kernel) (c_s_put l D cA cB h0 qel rl2_115 lt2_116 44 (by first | assumption | decide | rfl | omega)) w_408 w_409 w_407 w_410 w_411 0 (ci := 5) (T := TX5) (N := 2) rfl rfl (by decide +kernel) rfl rfl (Nat.le_of_ble_eq_true rfl) ⟨(Nat.le_of_ble_eq_true rfl), (Nat.le_of_ble_eq_true rfl)⟩ ⟨(Nat.le_of_ble_eq_true rfl), (Nat.le_of_ble_eq_true rfl)⟩ dX5_tellWay_69 (fun W1 H locs hw hP hD hS => ?_)
            obtain ⟨rl2_136, lt2_137, hf_138, rfl⟩ := hw
            have hP : va_P D classes [(h0, .inr (5, [.ref qel, .int (nI rl2_136)])), (qel, .inl (cA, 16, .inl lt2_137))] H := hP
            have hD : va_D A [(h0, .inr (5, [.ref qel, .int (nI rl2_136)])), (qel, .inl (cA, 16, .inl lt2_137))] := hD
            refine lv_aload_n hx hb dX5_tellWay_72 rfl (lv_at hl 0 rfl) ?_
            refine lv_bipush (v := 120) hx hb dX5_tellWay_73 (by decide) ?_
            refine kVv (n3 := 1) (As := [.int 120]) (rest := []) X hl.1 hE hP hD hS hA [(h0, .inr (5, [.ref qel, .int (nI rl2_136)])), (qel, .inl (cA, 16, .inl lt2_137))] [] [0, 1] [] rfl rfl rfl (by decide +kernel) (by decide +kernel) (by decide +kernel) (c_s_put l D cA cB h0 qel rl2_136 lt2_137 120 (by first | assumption | decide | rfl | omega)) w_408 w_409 w_407 w_410 w_411 0 (ci := 5) (T := TX5) (N := 2) rfl rfl (by decide +kernel) rfl rfl (Nat.le_of_ble_eq_true rfl) ⟨(Nat.le_of_ble_eq_true rfl), (Nat.le_of_ble_eq_true rfl)⟩ ⟨(Nat.le_of_ble_eq_true rfl), (Nat.le_of_ble_eq_true rfl)⟩ dX5_tellWay_75 (fun W1 H locs hw hP hD hS => ?_)
            obtain ⟨rl2_139, lt2_140, hf_141, rfl⟩ := hw
            have hP : va_P D classes [(h0, .inr (5, [.ref qel, .int (nI rl2_139)])), (qel, .inl (cA, 16, .inl lt2_140))] H := hP
            have hD : va_D A [(h0, .inr (5, [.ref qel, .int (nI rl2_139)])), (qel, .inl (cA, 16, .inl lt2_140))] := hD
            refine lv_goto (tgt := 104) hx hb dX5_tellWay_78 (by decide) ?_
            exact endV X hr hlocks hP hD hS dX5_tellWay_104 ⟨rl2_139, lt2_140, (by omega), rfl⟩
      · skip
        refine lv_aload_n hx hb dX5_tellWay_50 rfl (lv_at hl 0 rfl) ?_
        refine lv_bipush (v := 41) hx hb dX5_tellWay_51 (by decide) ?_
        refine kVv (n3 := 1) (As := [.int 41]) (rest := []) X hl.1 hE hP hD hS hA [(h0, .inr (5, [.ref qel, .int (nI rl2_115)])), (qel, .inl (cA, 16, .inl lt2_116))] [] [0, 1] [] rfl rfl rfl (by decide +kernel) (by decide +kernel) (by decide +kernel) (c_s_put l D cA cB h0 qel rl2_115 lt2_116 41 (by first | assumption | decide | rfl | omega)) w_408 w_409 w_407 w_410 w_411 0 (ci := 5) (T := TX5) (N := 2) rfl rfl (by decide +kernel) rfl rfl (Nat.le_of_ble_eq_true rfl) ⟨(Nat.le_of_ble_eq_true rfl), (Nat.le_of_ble_eq_true rfl)⟩ ⟨(Nat.le_of_ble_eq_true rfl), (Nat.le_of_ble_eq_true rfl)⟩ dX5_tellWay_53 (fun W1 H locs hw hP hD hS => ?_)
        obtain ⟨rl2_142, lt2_143, hf_144, rfl⟩ := hw
        have hP : va_P D classes [(h0, .inr (5, [.ref qel, .int (nI rl2_142)])), (qel, .inl (cA, 16, .inl lt2_143))] H := hP
        have hD : va_D A [(h0, .inr (5, [.ref qel, .int (nI rl2_142)])), (qel, .inl (cA, 16, .inl lt2_143))] := hD
        refine lv_iload_n hx hb dX5_tellWay_56 rfl (lv_at hl 1 rfl) ?_
        refine lv_iconst (v := 2) hx hb dX5_tellWay_57 (by decide) ?_
        refine lv_icmp_eq (tgt := 66) hx hb dX5_tellWay_58 (by decide) (fun c_58 => ?_) (fun c_58 => ?_)
        · skip
          refine lv_aload_n hx hb dX5_tellWay_66 rfl (lv_at hl 0 rfl) ?_
          refine lv_bipush (v := 44) hx hb dX5_tellWay_67 (by decide) ?_
          refine kVv (n3 := 1) (As := [.int 44]) (rest := []) X hl.1 hE hP hD hS hA [(h0, .inr (5, [.ref qel, .int (nI rl2_142)])), (qel, .inl (cA, 16, .inl lt2_143))] [] [0, 1] [] rfl rfl rfl (by decide +kernel) (by decide +kernel) (by decide +kernel) (c_s_put l D cA cB h0 qel rl2_142 lt2_143 44 (by first | assumption | decide | rfl | omega)) w_408 w_409 w_407 w_410 w_411 0 (ci := 5) (T := TX5) (N := 2) rfl rfl (by decide +kernel) rfl rfl (Nat.le_of_ble_eq_true rfl) ⟨(Nat.le_of_ble_eq_true rfl), (Nat.le_of_ble_eq_true rfl)⟩ ⟨(Nat.le_of_ble_eq_true rfl), (Nat.le_of_ble_eq_true rfl)⟩ dX5_tellWay_69 (fun W1 H locs hw hP hD hS => ?_)
          obtain ⟨rl2_145, lt2_146, hf_147, rfl⟩ := hw
          have hP : va_P D classes [(h0, .inr (5, [.ref qel, .int (nI rl2_145)])), (qel, .inl (cA, 16, .inl lt2_146))] H := hP
          have hD : va_D A [(h0, .inr (5, [.ref qel, .int (nI rl2_145)])), (qel, .inl (cA, 16, .inl lt2_146))] := hD
          refine lv_aload_n hx hb dX5_tellWay_72 rfl (lv_at hl 0 rfl) ?_
          refine lv_bipush (v := 120) hx hb dX5_tellWay_73 (by decide) ?_
          refine kVv (n3 := 1) (As := [.int 120]) (rest := []) X hl.1 hE hP hD hS hA [(h0, .inr (5, [.ref qel, .int (nI rl2_145)])), (qel, .inl (cA, 16, .inl lt2_146))] [] [0, 1] [] rfl rfl rfl (by decide +kernel) (by decide +kernel) (by decide +kernel) (c_s_put l D cA cB h0 qel rl2_145 lt2_146 120 (by first | assumption | decide | rfl | omega)) w_408 w_409 w_407 w_410 w_411 0 (ci := 5) (T := TX5) (N := 2) rfl rfl (by decide +kernel) rfl rfl (Nat.le_of_ble_eq_true rfl) ⟨(Nat.le_of_ble_eq_true rfl), (Nat.le_of_ble_eq_true rfl)⟩ ⟨(Nat.le_of_ble_eq_true rfl), (Nat.le_of_ble_eq_true rfl)⟩ dX5_tellWay_75 (fun W1 H locs hw hP hD hS => ?_)
          obtain ⟨rl2_148, lt2_149, hf_150, rfl⟩ := hw
          have hP : va_P D classes [(h0, .inr (5, [.ref qel, .int (nI rl2_148)])), (qel, .inl (cA, 16, .inl lt2_149))] H := hP
          have hD : va_D A [(h0, .inr (5, [.ref qel, .int (nI rl2_148)])), (qel, .inl (cA, 16, .inl lt2_149))] := hD
          refine lv_goto (tgt := 104) hx hb dX5_tellWay_78 (by decide) ?_
          exact endV X hr hlocks hP hD hS dX5_tellWay_104 ⟨rl2_148, lt2_149, (by omega), rfl⟩
        · skip
          refine lv_iload_n hx hb dX5_tellWay_61 rfl (lv_at hl 1 rfl) ?_
          refine lv_iconst (v := 4) hx hb dX5_tellWay_62 (by decide) ?_
          refine lv_icmp_ne (tgt := 81) hx hb dX5_tellWay_63 (by decide) (fun c_63 => ?_) (fun c_63 => ?_)
          · skip
            refine lv_iload_n hx hb dX5_tellWay_81 rfl (lv_at hl 1 rfl) ?_
            refine lv_iconst (v := 5) hx hb dX5_tellWay_82 (by decide) ?_
            refine lv_icmp_eq (tgt := 92) hx hb dX5_tellWay_83 (by decide) (fun c_83 => ?_) (fun c_83 => ?_)
            · skip
              refine lv_aload_n hx hb dX5_tellWay_92 rfl (lv_at hl 0 rfl) ?_
              refine lv_bipush (v := 44) hx hb dX5_tellWay_93 (by decide) ?_
              refine kVv (n3 := 1) (As := [.int 44]) (rest := []) X hl.1 hE hP hD hS hA [(h0, .inr (5, [.ref qel, .int (nI rl2_142)])), (qel, .inl (cA, 16, .inl lt2_143))] [] [0, 1] [] rfl rfl rfl (by decide +kernel) (by decide +kernel) (by decide +kernel) (c_s_put l D cA cB h0 qel rl2_142 lt2_143 44 (by first | assumption | decide | rfl | omega)) w_408 w_409 w_407 w_410 w_411 0 (ci := 5) (T := TX5) (N := 2) rfl rfl (by decide +kernel) rfl rfl (Nat.le_of_ble_eq_true rfl) ⟨(Nat.le_of_ble_eq_true rfl), (Nat.le_of_ble_eq_true rfl)⟩ ⟨(Nat.le_of_ble_eq_true rfl), (Nat.le_of_ble_eq_true rfl)⟩ dX5_tellWay_95 (fun W1 H locs hw hP hD hS => ?_)
              obtain ⟨rl2_151, lt2_152, hf_153, rfl⟩ := hw
              have hP : va_P D classes [(h0, .inr (5, [.ref qel, .int (nI rl2_151)])), (qel, .inl (cA, 16, .inl lt2_152))] H := hP
              have hD : va_D A [(h0, .inr (5, [.ref qel, .int (nI rl2_151)])), (qel, .inl (cA, 16, .inl lt2_152))] := hD
              refine lv_aload_n hx hb dX5_tellWay_98 rfl (lv_at hl 0 rfl) ?_
              refine lv_bipush (v := 121) hx hb dX5_tellWay_99 (by decide) ?_
              refine kVv (n3 := 1) (As := [.int 121]) (rest := []) X hl.1 hE hP hD hS hA [(h0, .inr (5, [.ref qel, .int (nI rl2_151)])), (qel, .inl (cA, 16, .inl lt2_152))] [] [0, 1] [] rfl rfl rfl (by decide +kernel) (by decide +kernel) (by decide +kernel) (c_s_put l D cA cB h0 qel rl2_151 lt2_152 121 (by first | assumption | decide | rfl | omega)) w_408 w_409 w_407 w_410 w_411 0 (ci := 5) (T := TX5) (N := 2) rfl rfl (by decide +kernel) rfl rfl (Nat.le_of_ble_eq_true rfl) ⟨(Nat.le_of_ble_eq_true rfl), (Nat.le_of_ble_eq_true rfl)⟩ ⟨(Nat.le_of_ble_eq_true rfl), (Nat.le_of_ble_eq_true rfl)⟩ dX5_tellWay_101 (fun W1 H locs hw hP hD hS => ?_)
              obtain ⟨rl2_154, lt2_155, hf_156, rfl⟩ := hw
              have hP : va_P D classes [(h0, .inr (5, [.ref qel, .int (nI rl2_154)])), (qel, .inl (cA, 16, .inl lt2_155))] H := hP
              have hD : va_D A [(h0, .inr (5, [.ref qel, .int (nI rl2_154)])), (qel, .inl (cA, 16, .inl lt2_155))] := hD
              exact endV X hr hlocks hP hD hS dX5_tellWay_104 ⟨rl2_154, lt2_155, (by omega), rfl⟩
            · skip
              refine lv_iload_n hx hb dX5_tellWay_86 rfl (lv_at hl 1 rfl) ?_
              refine lv_bipush (v := 7) hx hb dX5_tellWay_87 (by decide) ?_
              refine lv_icmp_ne (tgt := 104) hx hb dX5_tellWay_89 (by decide) (fun c_89 => ?_) (fun c_89 => ?_)
              · skip
                exact endV X hr hlocks hP hD hS dX5_tellWay_104 ⟨rl2_142, lt2_143, (by omega), rfl⟩
              · skip
                refine lv_aload_n hx hb dX5_tellWay_92 rfl (lv_at hl 0 rfl) ?_
                refine lv_bipush (v := 44) hx hb dX5_tellWay_93 (by decide) ?_
                refine kVv (n3 := 1) (As := [.int 44]) (rest := []) X hl.1 hE hP hD hS hA [(h0, .inr (5, [.ref qel, .int (nI rl2_142)])), (qel, .inl (cA, 16, .inl lt2_143))] [] [0, 1] [] rfl rfl rfl (by decide +kernel) (by decide +kernel) (by decide +kernel) (c_s_put l D cA cB h0 qel rl2_142 lt2_143 44 (by first | assumption | decide | rfl | omega)) w_408 w_409 w_407 w_410 w_411 0 (ci := 5) (T := TX5) (N := 2) rfl rfl (by decide +kernel) rfl rfl (Nat.le_of_ble_eq_true rfl) ⟨(Nat.le_of_ble_eq_true rfl), (Nat.le_of_ble_eq_true rfl)⟩ ⟨(Nat.le_of_ble_eq_true rfl), (Nat.le_of_ble_eq_true rfl)⟩ dX5_tellWay_95 (fun W1 H locs hw hP hD hS => ?_)
                obtain ⟨rl2_157, lt2_158, hf_159, rfl⟩ := hw
                have hP : va_P D classes [(h0, .inr (5, [.ref qel, .int (nI rl2_157)])), (qel, .inl (cA, 16, .inl lt2_158))] H := hP
                have hD : va_D A [(h0, .inr (5, [.ref qel, .int (nI rl2_157)])), (qel, .inl (cA, 16, .inl lt2_158))] := hD
                refine lv_aload_n hx hb dX5_tellWay_98 rfl (lv_at hl 0 rfl) ?_
                refine lv_bipush (v := 121) hx hb dX5_tellWay_99 (by decide) ?_
                refine kVv (n3 := 1) (As := [.int 121]) (rest := []) X hl.1 hE hP hD hS hA [(h0, .inr (5, [.ref qel, .int (nI rl2_157)])), (qel, .inl (cA, 16, .inl lt2_158))] [] [0, 1] [] rfl rfl rfl (by decide +kernel) (by decide +kernel) (by decide +kernel) (c_s_put l D cA cB h0 qel rl2_157 lt2_158 121 (by first | assumption | decide | rfl | omega)) w_408 w_409 w_407 w_410 w_411 0 (ci := 5) (T := TX5) (N := 2) rfl rfl (by decide +kernel) rfl rfl (Nat.le_of_ble_eq_true rfl) ⟨(Nat.le_of_ble_eq_true rfl), (Nat.le_of_ble_eq_true rfl)⟩ ⟨(Nat.le_of_ble_eq_true rfl), (Nat.le_of_ble_eq_true rfl)⟩ dX5_tellWay_101 (fun W1 H locs hw hP hD hS => ?_)
                obtain ⟨rl2_160, lt2_161, hf_162, rfl⟩ := hw
                have hP : va_P D classes [(h0, .inr (5, [.ref qel, .int (nI rl2_160)])), (qel, .inl (cA, 16, .inl lt2_161))] H := hP
                have hD : va_D A [(h0, .inr (5, [.ref qel, .int (nI rl2_160)])), (qel, .inl (cA, 16, .inl lt2_161))] := hD
                exact endV X hr hlocks hP hD hS dX5_tellWay_104 ⟨rl2_160, lt2_161, (by omega), rfl⟩
          · skip
            refine lv_aload_n hx hb dX5_tellWay_66 rfl (lv_at hl 0 rfl) ?_
            refine lv_bipush (v := 44) hx hb dX5_tellWay_67 (by decide) ?_
            refine kVv (n3 := 1) (As := [.int 44]) (rest := []) X hl.1 hE hP hD hS hA [(h0, .inr (5, [.ref qel, .int (nI rl2_142)])), (qel, .inl (cA, 16, .inl lt2_143))] [] [0, 1] [] rfl rfl rfl (by decide +kernel) (by decide +kernel) (by decide +kernel) (c_s_put l D cA cB h0 qel rl2_142 lt2_143 44 (by first | assumption | decide | rfl | omega)) w_408 w_409 w_407 w_410 w_411 0 (ci := 5) (T := TX5) (N := 2) rfl rfl (by decide +kernel) rfl rfl (Nat.le_of_ble_eq_true rfl) ⟨(Nat.le_of_ble_eq_true rfl), (Nat.le_of_ble_eq_true rfl)⟩ ⟨(Nat.le_of_ble_eq_true rfl), (Nat.le_of_ble_eq_true rfl)⟩ dX5_tellWay_69 (fun W1 H locs hw hP hD hS => ?_)
            obtain ⟨rl2_163, lt2_164, hf_165, rfl⟩ := hw
            have hP : va_P D classes [(h0, .inr (5, [.ref qel, .int (nI rl2_163)])), (qel, .inl (cA, 16, .inl lt2_164))] H := hP
            have hD : va_D A [(h0, .inr (5, [.ref qel, .int (nI rl2_163)])), (qel, .inl (cA, 16, .inl lt2_164))] := hD
            refine lv_aload_n hx hb dX5_tellWay_72 rfl (lv_at hl 0 rfl) ?_
            refine lv_bipush (v := 120) hx hb dX5_tellWay_73 (by decide) ?_
            refine kVv (n3 := 1) (As := [.int 120]) (rest := []) X hl.1 hE hP hD hS hA [(h0, .inr (5, [.ref qel, .int (nI rl2_163)])), (qel, .inl (cA, 16, .inl lt2_164))] [] [0, 1] [] rfl rfl rfl (by decide +kernel) (by decide +kernel) (by decide +kernel) (c_s_put l D cA cB h0 qel rl2_163 lt2_164 120 (by first | assumption | decide | rfl | omega)) w_408 w_409 w_407 w_410 w_411 0 (ci := 5) (T := TX5) (N := 2) rfl rfl (by decide +kernel) rfl rfl (Nat.le_of_ble_eq_true rfl) ⟨(Nat.le_of_ble_eq_true rfl), (Nat.le_of_ble_eq_true rfl)⟩ ⟨(Nat.le_of_ble_eq_true rfl), (Nat.le_of_ble_eq_true rfl)⟩ dX5_tellWay_75 (fun W1 H locs hw hP hD hS => ?_)
            obtain ⟨rl2_166, lt2_167, hf_168, rfl⟩ := hw
            have hP : va_P D classes [(h0, .inr (5, [.ref qel, .int (nI rl2_166)])), (qel, .inl (cA, 16, .inl lt2_167))] H := hP
            have hD : va_D A [(h0, .inr (5, [.ref qel, .int (nI rl2_166)])), (qel, .inl (cA, 16, .inl lt2_167))] := hD
            refine lv_goto (tgt := 104) hx hb dX5_tellWay_78 (by decide) ?_
            exact endV X hr hlocks hP hD hS dX5_tellWay_104 ⟨rl2_166, lt2_167, (by omega), rfl⟩
  · skip
    refine lv_aload_n hx hb dX5_tellWay_4 rfl (lv_at hl 0 rfl) ?_
    refine lv_bipush (v := 35) hx hb dX5_tellWay_5 (by decide) ?_
    refine kVv (n3 := 1) (As := [.int 35]) (rest := []) X hl.1 hE hP hD hS hA [(h0, .inr (5, [.ref qel, .int (nI rl)])), (qel, .inl (cA, 16, .inl lt))] [] [0, 1] [] rfl rfl rfl (by decide +kernel) (by decide +kernel) (by decide +kernel) (c_s_put l D cA cB h0 qel rl lt 35 (by first | assumption | decide | rfl | omega)) w_408 w_409 w_407 w_410 w_411 0 (ci := 5) (T := TX5) (N := 2) rfl rfl (by decide +kernel) rfl rfl (Nat.le_of_ble_eq_true rfl) ⟨(Nat.le_of_ble_eq_true rfl), (Nat.le_of_ble_eq_true rfl)⟩ ⟨(Nat.le_of_ble_eq_true rfl), (Nat.le_of_ble_eq_true rfl)⟩ dX5_tellWay_7 (fun W1 H locs hw hP hD hS => ?_)
    obtain ⟨rl2_169, lt2_170, hf_171, rfl⟩ := hw
    have hP : va_P D classes [(h0, .inr (5, [.ref qel, .int (nI rl2_169)])), (qel, .inl (cA, 16, .inl lt2_170))] H := hP
    have hD : va_D A [(h0, .inr (5, [.ref qel, .int (nI rl2_169)])), (qel, .inl (cA, 16, .inl lt2_170))] := hD
    refine lv_goto (tgt := 39) hx hb dX5_tellWay_10 (by decide) ?_
    refine lv_aload_n hx hb dX5_tellWay_39 rfl (lv_at hl 0 rfl) ?_
    refine lv_iload_n hx hb dX5_tellWay_40 rfl (lv_at hl 2 rfl) ?_
    refine kVv (n3 := 1) (As := [.int w]) (rest := []) X hl.1 hE hP hD hS hA [(h0, .inr (5, [.ref qel, .int (nI rl2_169)])), (qel, .inl (cA, 16, .inl lt2_170))] [] [0, 1] [] rfl rfl rfl (by decide +kernel) (by decide +kernel) (by decide +kernel) (c_s_putNumber l D cA cB h0 qel rl2_169 lt2_170 w (by first | assumption | decide | rfl | omega)) w_413 w_409 w_412 w_414 w_415 0 (ci := 5) (T := TX5) (N := 2) rfl rfl (by decide +kernel) rfl rfl (Nat.le_of_ble_eq_true rfl) ⟨(Nat.le_of_ble_eq_true rfl), (Nat.le_of_ble_eq_true rfl)⟩ ⟨(Nat.le_of_ble_eq_true rfl), (Nat.le_of_ble_eq_true rfl)⟩ dX5_tellWay_41 (fun W1 H locs hw hP hD hS => ?_)
    obtain ⟨rl2_172, lt2_173, hf_174, rfl⟩ := hw
    have hP : va_P D classes [(h0, .inr (5, [.ref qel, .int (nI rl2_172)])), (qel, .inl (cA, 16, .inl lt2_173))] H := hP
    have hD : va_D A [(h0, .inr (5, [.ref qel, .int (nI rl2_172)])), (qel, .inl (cA, 16, .inl lt2_173))] := hD
    refine lv_iload_n hx hb dX5_tellWay_44 rfl (lv_at hl 1 rfl) ?_
    refine lv_bipush (v := 6) hx hb dX5_tellWay_45 (by decide) ?_
    refine lv_icmp_lt (tgt := 56) hx hb dX5_tellWay_47 (by decide) (fun c_47 => ?_) (fun c_47 => ?_)
    · skip
      refine lv_iload_n hx hb dX5_tellWay_56 rfl (lv_at hl 1 rfl) ?_
      refine lv_iconst (v := 2) hx hb dX5_tellWay_57 (by decide) ?_
      refine lv_icmp_eq (tgt := 66) hx hb dX5_tellWay_58 (by decide) (fun c_58 => ?_) (fun c_58 => ?_)
      · skip
        refine lv_aload_n hx hb dX5_tellWay_66 rfl (lv_at hl 0 rfl) ?_
        refine lv_bipush (v := 44) hx hb dX5_tellWay_67 (by decide) ?_
        refine kVv (n3 := 1) (As := [.int 44]) (rest := []) X hl.1 hE hP hD hS hA [(h0, .inr (5, [.ref qel, .int (nI rl2_172)])), (qel, .inl (cA, 16, .inl lt2_173))] [] [0, 1] [] rfl rfl rfl (by decide +kernel) (by decide +kernel) (by decide +kernel) (c_s_put l D cA cB h0 qel rl2_172 lt2_173 44 (by first | assumption | decide | rfl | omega)) w_408 w_409 w_407 w_410 w_411 0 (ci := 5) (T := TX5) (N := 2) rfl rfl (by decide +kernel) rfl rfl (Nat.le_of_ble_eq_true rfl) ⟨(Nat.le_of_ble_eq_true rfl), (Nat.le_of_ble_eq_true rfl)⟩ ⟨(Nat.le_of_ble_eq_true rfl), (Nat.le_of_ble_eq_true rfl)⟩ dX5_tellWay_69 (fun W1 H locs hw hP hD hS => ?_)
        obtain ⟨rl2_175, lt2_176, hf_177, rfl⟩ := hw
        have hP : va_P D classes [(h0, .inr (5, [.ref qel, .int (nI rl2_175)])), (qel, .inl (cA, 16, .inl lt2_176))] H := hP
        have hD : va_D A [(h0, .inr (5, [.ref qel, .int (nI rl2_175)])), (qel, .inl (cA, 16, .inl lt2_176))] := hD
        refine lv_aload_n hx hb dX5_tellWay_72 rfl (lv_at hl 0 rfl) ?_
        refine lv_bipush (v := 120) hx hb dX5_tellWay_73 (by decide) ?_
        refine kVv (n3 := 1) (As := [.int 120]) (rest := []) X hl.1 hE hP hD hS hA [(h0, .inr (5, [.ref qel, .int (nI rl2_175)])), (qel, .inl (cA, 16, .inl lt2_176))] [] [0, 1] [] rfl rfl rfl (by decide +kernel) (by decide +kernel) (by decide +kernel) (c_s_put l D cA cB h0 qel rl2_175 lt2_176 120 (by first | assumption | decide | rfl | omega)) w_408 w_409 w_407 w_410 w_411 0 (ci := 5) (T := TX5) (N := 2) rfl rfl (by decide +kernel) rfl rfl (Nat.le_of_ble_eq_true rfl) ⟨(Nat.le_of_ble_eq_true rfl), (Nat.le_of_ble_eq_true rfl)⟩ ⟨(Nat.le_of_ble_eq_true rfl), (Nat.le_of_ble_eq_true rfl)⟩ dX5_tellWay_75 (fun W1 H locs hw hP hD hS => ?_)
        obtain ⟨rl2_178, lt2_179, hf_180, rfl⟩ := hw
        have hP : va_P D classes [(h0, .inr (5, [.ref qel, .int (nI rl2_178)])), (qel, .inl (cA, 16, .inl lt2_179))] H := hP
        have hD : va_D A [(h0, .inr (5, [.ref qel, .int (nI rl2_178)])), (qel, .inl (cA, 16, .inl lt2_179))] := hD
        refine lv_goto (tgt := 104) hx hb dX5_tellWay_78 (by decide) ?_
        exact endV X hr hlocks hP hD hS dX5_tellWay_104 ⟨rl2_178, lt2_179, (by omega), rfl⟩
      · skip
        refine lv_iload_n hx hb dX5_tellWay_61 rfl (lv_at hl 1 rfl) ?_
        refine lv_iconst (v := 4) hx hb dX5_tellWay_62 (by decide) ?_
        refine lv_icmp_ne (tgt := 81) hx hb dX5_tellWay_63 (by decide) (fun c_63 => ?_) (fun c_63 => ?_)
        · skip
          refine lv_iload_n hx hb dX5_tellWay_81 rfl (lv_at hl 1 rfl) ?_
          refine lv_iconst (v := 5) hx hb dX5_tellWay_82 (by decide) ?_
          refine lv_icmp_eq (tgt := 92) hx hb dX5_tellWay_83 (by decide) (fun c_83 => ?_) (fun c_83 => ?_)
          · skip
            refine lv_aload_n hx hb dX5_tellWay_92 rfl (lv_at hl 0 rfl) ?_
            refine lv_bipush (v := 44) hx hb dX5_tellWay_93 (by decide) ?_
            refine kVv (n3 := 1) (As := [.int 44]) (rest := []) X hl.1 hE hP hD hS hA [(h0, .inr (5, [.ref qel, .int (nI rl2_172)])), (qel, .inl (cA, 16, .inl lt2_173))] [] [0, 1] [] rfl rfl rfl (by decide +kernel) (by decide +kernel) (by decide +kernel) (c_s_put l D cA cB h0 qel rl2_172 lt2_173 44 (by first | assumption | decide | rfl | omega)) w_408 w_409 w_407 w_410 w_411 0 (ci := 5) (T := TX5) (N := 2) rfl rfl (by decide +kernel) rfl rfl (Nat.le_of_ble_eq_true rfl) ⟨(Nat.le_of_ble_eq_true rfl), (Nat.le_of_ble_eq_true rfl)⟩ ⟨(Nat.le_of_ble_eq_true rfl), (Nat.le_of_ble_eq_true rfl)⟩ dX5_tellWay_95 (fun W1 H locs hw hP hD hS => ?_)
            obtain ⟨rl2_181, lt2_182, hf_183, rfl⟩ := hw
            have hP : va_P D classes [(h0, .inr (5, [.ref qel, .int (nI rl2_181)])), (qel, .inl (cA, 16, .inl lt2_182))] H := hP
            have hD : va_D A [(h0, .inr (5, [.ref qel, .int (nI rl2_181)])), (qel, .inl (cA, 16, .inl lt2_182))] := hD
            refine lv_aload_n hx hb dX5_tellWay_98 rfl (lv_at hl 0 rfl) ?_
            refine lv_bipush (v := 121) hx hb dX5_tellWay_99 (by decide) ?_
            refine kVv (n3 := 1) (As := [.int 121]) (rest := []) X hl.1 hE hP hD hS hA [(h0, .inr (5, [.ref qel, .int (nI rl2_181)])), (qel, .inl (cA, 16, .inl lt2_182))] [] [0, 1] [] rfl rfl rfl (by decide +kernel) (by decide +kernel) (by decide +kernel) (c_s_put l D cA cB h0 qel rl2_181 lt2_182 121 (by first | assumption | decide | rfl | omega)) w_408 w_409 w_407 w_410 w_411 0 (ci := 5) (T := TX5) (N := 2) rfl rfl (by decide +kernel) rfl rfl (Nat.le_of_ble_eq_true rfl) ⟨(Nat.le_of_ble_eq_true rfl), (Nat.le_of_ble_eq_true rfl)⟩ ⟨(Nat.le_of_ble_eq_true rfl), (Nat.le_of_ble_eq_true rfl)⟩ dX5_tellWay_101 (fun W1 H locs hw hP hD hS => ?_)
            obtain ⟨rl2_184, lt2_185, hf_186, rfl⟩ := hw
            have hP : va_P D classes [(h0, .inr (5, [.ref qel, .int (nI rl2_184)])), (qel, .inl (cA, 16, .inl lt2_185))] H := hP
            have hD : va_D A [(h0, .inr (5, [.ref qel, .int (nI rl2_184)])), (qel, .inl (cA, 16, .inl lt2_185))] := hD
            exact endV X hr hlocks hP hD hS dX5_tellWay_104 ⟨rl2_184, lt2_185, (by omega), rfl⟩
          · skip
            refine lv_iload_n hx hb dX5_tellWay_86 rfl (lv_at hl 1 rfl) ?_
            refine lv_bipush (v := 7) hx hb dX5_tellWay_87 (by decide) ?_
            refine lv_icmp_ne (tgt := 104) hx hb dX5_tellWay_89 (by decide) (fun c_89 => ?_) (fun c_89 => ?_)
            · skip
              exact endV X hr hlocks hP hD hS dX5_tellWay_104 ⟨rl2_172, lt2_173, (by omega), rfl⟩
            · skip
              refine lv_aload_n hx hb dX5_tellWay_92 rfl (lv_at hl 0 rfl) ?_
              refine lv_bipush (v := 44) hx hb dX5_tellWay_93 (by decide) ?_
              refine kVv (n3 := 1) (As := [.int 44]) (rest := []) X hl.1 hE hP hD hS hA [(h0, .inr (5, [.ref qel, .int (nI rl2_172)])), (qel, .inl (cA, 16, .inl lt2_173))] [] [0, 1] [] rfl rfl rfl (by decide +kernel) (by decide +kernel) (by decide +kernel) (c_s_put l D cA cB h0 qel rl2_172 lt2_173 44 (by first | assumption | decide | rfl | omega)) w_408 w_409 w_407 w_410 w_411 0 (ci := 5) (T := TX5) (N := 2) rfl rfl (by decide +kernel) rfl rfl (Nat.le_of_ble_eq_true rfl) ⟨(Nat.le_of_ble_eq_true rfl), (Nat.le_of_ble_eq_true rfl)⟩ ⟨(Nat.le_of_ble_eq_true rfl), (Nat.le_of_ble_eq_true rfl)⟩ dX5_tellWay_95 (fun W1 H locs hw hP hD hS => ?_)
              obtain ⟨rl2_187, lt2_188, hf_189, rfl⟩ := hw
              have hP : va_P D classes [(h0, .inr (5, [.ref qel, .int (nI rl2_187)])), (qel, .inl (cA, 16, .inl lt2_188))] H := hP
              have hD : va_D A [(h0, .inr (5, [.ref qel, .int (nI rl2_187)])), (qel, .inl (cA, 16, .inl lt2_188))] := hD
              refine lv_aload_n hx hb dX5_tellWay_98 rfl (lv_at hl 0 rfl) ?_
              refine lv_bipush (v := 121) hx hb dX5_tellWay_99 (by decide) ?_
              refine kVv (n3 := 1) (As := [.int 121]) (rest := []) X hl.1 hE hP hD hS hA [(h0, .inr (5, [.ref qel, .int (nI rl2_187)])), (qel, .inl (cA, 16, .inl lt2_188))] [] [0, 1] [] rfl rfl rfl (by decide +kernel) (by decide +kernel) (by decide +kernel) (c_s_put l D cA cB h0 qel rl2_187 lt2_188 121 (by first | assumption | decide | rfl | omega)) w_408 w_409 w_407 w_410 w_411 0 (ci := 5) (T := TX5) (N := 2) rfl rfl (by decide +kernel) rfl rfl (Nat.le_of_ble_eq_true rfl) ⟨(Nat.le_of_ble_eq_true rfl), (Nat.le_of_ble_eq_true rfl)⟩ ⟨(Nat.le_of_ble_eq_true rfl), (Nat.le_of_ble_eq_true rfl)⟩ dX5_tellWay_101 (fun W1 H locs hw hP hD hS => ?_)
              obtain ⟨rl2_190, lt2_191, hf_192, rfl⟩ := hw
              have hP : va_P D classes [(h0, .inr (5, [.ref qel, .int (nI rl2_190)])), (qel, .inl (cA, 16, .inl lt2_191))] H := hP
              have hD : va_D A [(h0, .inr (5, [.ref qel, .int (nI rl2_190)])), (qel, .inl (cA, 16, .inl lt2_191))] := hD
              exact endV X hr hlocks hP hD hS dX5_tellWay_104 ⟨rl2_190, lt2_191, (by omega), rfl⟩
        · skip
          refine lv_aload_n hx hb dX5_tellWay_66 rfl (lv_at hl 0 rfl) ?_
          refine lv_bipush (v := 44) hx hb dX5_tellWay_67 (by decide) ?_
          refine kVv (n3 := 1) (As := [.int 44]) (rest := []) X hl.1 hE hP hD hS hA [(h0, .inr (5, [.ref qel, .int (nI rl2_172)])), (qel, .inl (cA, 16, .inl lt2_173))] [] [0, 1] [] rfl rfl rfl (by decide +kernel) (by decide +kernel) (by decide +kernel) (c_s_put l D cA cB h0 qel rl2_172 lt2_173 44 (by first | assumption | decide | rfl | omega)) w_408 w_409 w_407 w_410 w_411 0 (ci := 5) (T := TX5) (N := 2) rfl rfl (by decide +kernel) rfl rfl (Nat.le_of_ble_eq_true rfl) ⟨(Nat.le_of_ble_eq_true rfl), (Nat.le_of_ble_eq_true rfl)⟩ ⟨(Nat.le_of_ble_eq_true rfl), (Nat.le_of_ble_eq_true rfl)⟩ dX5_tellWay_69 (fun W1 H locs hw hP hD hS => ?_)
          obtain ⟨rl2_193, lt2_194, hf_195, rfl⟩ := hw
          have hP : va_P D classes [(h0, .inr (5, [.ref qel, .int (nI rl2_193)])), (qel, .inl (cA, 16, .inl lt2_194))] H := hP
          have hD : va_D A [(h0, .inr (5, [.ref qel, .int (nI rl2_193)])), (qel, .inl (cA, 16, .inl lt2_194))] := hD
          refine lv_aload_n hx hb dX5_tellWay_72 rfl (lv_at hl 0 rfl) ?_
          refine lv_bipush (v := 120) hx hb dX5_tellWay_73 (by decide) ?_
          refine kVv (n3 := 1) (As := [.int 120]) (rest := []) X hl.1 hE hP hD hS hA [(h0, .inr (5, [.ref qel, .int (nI rl2_193)])), (qel, .inl (cA, 16, .inl lt2_194))] [] [0, 1] [] rfl rfl rfl (by decide +kernel) (by decide +kernel) (by decide +kernel) (c_s_put l D cA cB h0 qel rl2_193 lt2_194 120 (by first | assumption | decide | rfl | omega)) w_408 w_409 w_407 w_410 w_411 0 (ci := 5) (T := TX5) (N := 2) rfl rfl (by decide +kernel) rfl rfl (Nat.le_of_ble_eq_true rfl) ⟨(Nat.le_of_ble_eq_true rfl), (Nat.le_of_ble_eq_true rfl)⟩ ⟨(Nat.le_of_ble_eq_true rfl), (Nat.le_of_ble_eq_true rfl)⟩ dX5_tellWay_75 (fun W1 H locs hw hP hD hS => ?_)
          obtain ⟨rl2_196, lt2_197, hf_198, rfl⟩ := hw
          have hP : va_P D classes [(h0, .inr (5, [.ref qel, .int (nI rl2_196)])), (qel, .inl (cA, 16, .inl lt2_197))] H := hP
          have hD : va_D A [(h0, .inr (5, [.ref qel, .int (nI rl2_196)])), (qel, .inl (cA, 16, .inl lt2_197))] := hD
          refine lv_goto (tgt := 104) hx hb dX5_tellWay_78 (by decide) ?_
          exact endV X hr hlocks hP hD hS dX5_tellWay_104 ⟨rl2_196, lt2_197, (by omega), rfl⟩
    · skip
      refine lv_aload_n hx hb dX5_tellWay_50 rfl (lv_at hl 0 rfl) ?_
      refine lv_bipush (v := 41) hx hb dX5_tellWay_51 (by decide) ?_
      refine kVv (n3 := 1) (As := [.int 41]) (rest := []) X hl.1 hE hP hD hS hA [(h0, .inr (5, [.ref qel, .int (nI rl2_172)])), (qel, .inl (cA, 16, .inl lt2_173))] [] [0, 1] [] rfl rfl rfl (by decide +kernel) (by decide +kernel) (by decide +kernel) (c_s_put l D cA cB h0 qel rl2_172 lt2_173 41 (by first | assumption | decide | rfl | omega)) w_408 w_409 w_407 w_410 w_411 0 (ci := 5) (T := TX5) (N := 2) rfl rfl (by decide +kernel) rfl rfl (Nat.le_of_ble_eq_true rfl) ⟨(Nat.le_of_ble_eq_true rfl), (Nat.le_of_ble_eq_true rfl)⟩ ⟨(Nat.le_of_ble_eq_true rfl), (Nat.le_of_ble_eq_true rfl)⟩ dX5_tellWay_53 (fun W1 H locs hw hP hD hS => ?_)
      obtain ⟨rl2_199, lt2_200, hf_201, rfl⟩ := hw
      have hP : va_P D classes [(h0, .inr (5, [.ref qel, .int (nI rl2_199)])), (qel, .inl (cA, 16, .inl lt2_200))] H := hP
      have hD : va_D A [(h0, .inr (5, [.ref qel, .int (nI rl2_199)])), (qel, .inl (cA, 16, .inl lt2_200))] := hD
      refine lv_iload_n hx hb dX5_tellWay_56 rfl (lv_at hl 1 rfl) ?_
      refine lv_iconst (v := 2) hx hb dX5_tellWay_57 (by decide) ?_
      refine lv_icmp_eq (tgt := 66) hx hb dX5_tellWay_58 (by decide) (fun c_58 => ?_) (fun c_58 => ?_)
      · skip
        refine lv_aload_n hx hb dX5_tellWay_66 rfl (lv_at hl 0 rfl) ?_
        refine lv_bipush (v := 44) hx hb dX5_tellWay_67 (by decide) ?_
        refine kVv (n3 := 1) (As := [.int 44]) (rest := []) X hl.1 hE hP hD hS hA [(h0, .inr (5, [.ref qel, .int (nI rl2_199)])), (qel, .inl (cA, 16, .inl lt2_200))] [] [0, 1] [] rfl rfl rfl (by decide +kernel) (by decide +kernel) (by decide +kernel) (c_s_put l D cA cB h0 qel rl2_199 lt2_200 44 (by first | assumption | decide | rfl | omega)) w_408 w_409 w_407 w_410 w_411 0 (ci := 5) (T := TX5) (N := 2) rfl rfl (by decide +kernel) rfl rfl (Nat.le_of_ble_eq_true rfl) ⟨(Nat.le_of_ble_eq_true rfl), (Nat.le_of_ble_eq_true rfl)⟩ ⟨(Nat.le_of_ble_eq_true rfl), (Nat.le_of_ble_eq_true rfl)⟩ dX5_tellWay_69 (fun W1 H locs hw hP hD hS => ?_)
        obtain ⟨rl2_202, lt2_203, hf_204, rfl⟩ := hw
        have hP : va_P D classes [(h0, .inr (5, [.ref qel, .int (nI rl2_202)])), (qel, .inl (cA, 16, .inl lt2_203))] H := hP
        have hD : va_D A [(h0, .inr (5, [.ref qel, .int (nI rl2_202)])), (qel, .inl (cA, 16, .inl lt2_203))] := hD
        refine lv_aload_n hx hb dX5_tellWay_72 rfl (lv_at hl 0 rfl) ?_
        refine lv_bipush (v := 120) hx hb dX5_tellWay_73 (by decide) ?_
        refine kVv (n3 := 1) (As := [.int 120]) (rest := []) X hl.1 hE hP hD hS hA [(h0, .inr (5, [.ref qel, .int (nI rl2_202)])), (qel, .inl (cA, 16, .inl lt2_203))] [] [0, 1] [] rfl rfl rfl (by decide +kernel) (by decide +kernel) (by decide +kernel) (c_s_put l D cA cB h0 qel rl2_202 lt2_203 120 (by first | assumption | decide | rfl | omega)) w_408 w_409 w_407 w_410 w_411 0 (ci := 5) (T := TX5) (N := 2) rfl rfl (by decide +kernel) rfl rfl (Nat.le_of_ble_eq_true rfl) ⟨(Nat.le_of_ble_eq_true rfl), (Nat.le_of_ble_eq_true rfl)⟩ ⟨(Nat.le_of_ble_eq_true rfl), (Nat.le_of_ble_eq_true rfl)⟩ dX5_tellWay_75 (fun W1 H locs hw hP hD hS => ?_)
        obtain ⟨rl2_205, lt2_206, hf_207, rfl⟩ := hw
        have hP : va_P D classes [(h0, .inr (5, [.ref qel, .int (nI rl2_205)])), (qel, .inl (cA, 16, .inl lt2_206))] H := hP
        have hD : va_D A [(h0, .inr (5, [.ref qel, .int (nI rl2_205)])), (qel, .inl (cA, 16, .inl lt2_206))] := hD
        refine lv_goto (tgt := 104) hx hb dX5_tellWay_78 (by decide) ?_
        exact endV X hr hlocks hP hD hS dX5_tellWay_104 ⟨rl2_205, lt2_206, (by omega), rfl⟩
      · skip
        refine lv_iload_n hx hb dX5_tellWay_61 rfl (lv_at hl 1 rfl) ?_
        refine lv_iconst (v := 4) hx hb dX5_tellWay_62 (by decide) ?_
        refine lv_icmp_ne (tgt := 81) hx hb dX5_tellWay_63 (by decide) (fun c_63 => ?_) (fun c_63 => ?_)
        · skip
          refine lv_iload_n hx hb dX5_tellWay_81 rfl (lv_at hl 1 rfl) ?_
          refine lv_iconst (v := 5) hx hb dX5_tellWay_82 (by decide) ?_
          refine lv_icmp_eq (tgt := 92) hx hb dX5_tellWay_83 (by decide) (fun c_83 => ?_) (fun c_83 => ?_)
          · skip
            refine lv_aload_n hx hb dX5_tellWay_92 rfl (lv_at hl 0 rfl) ?_
            refine lv_bipush (v := 44) hx hb dX5_tellWay_93 (by decide) ?_
            refine kVv (n3 := 1) (As := [.int 44]) (rest := []) X hl.1 hE hP hD hS hA [(h0, .inr (5, [.ref qel, .int (nI rl2_199)])), (qel, .inl (cA, 16, .inl lt2_200))] [] [0, 1] [] rfl rfl rfl (by decide +kernel) (by decide +kernel) (by decide +kernel) (c_s_put l D cA cB h0 qel rl2_199 lt2_200 44 (by first | assumption | decide | rfl | omega)) w_408 w_409 w_407 w_410 w_411 0 (ci := 5) (T := TX5) (N := 2) rfl rfl (by decide +kernel) rfl rfl (Nat.le_of_ble_eq_true rfl) ⟨(Nat.le_of_ble_eq_true rfl), (Nat.le_of_ble_eq_true rfl)⟩ ⟨(Nat.le_of_ble_eq_true rfl), (Nat.le_of_ble_eq_true rfl)⟩ dX5_tellWay_95 (fun W1 H locs hw hP hD hS => ?_)
            obtain ⟨rl2_208, lt2_209, hf_210, rfl⟩ := hw
            have hP : va_P D classes [(h0, .inr (5, [.ref qel, .int (nI rl2_208)])), (qel, .inl (cA, 16, .inl lt2_209))] H := hP
            have hD : va_D A [(h0, .inr (5, [.ref qel, .int (nI rl2_208)])), (qel, .inl (cA, 16, .inl lt2_209))] := hD
            refine lv_aload_n hx hb dX5_tellWay_98 rfl (lv_at hl 0 rfl) ?_
            refine lv_bipush (v := 121) hx hb dX5_tellWay_99 (by decide) ?_
            refine kVv (n3 := 1) (As := [.int 121]) (rest := []) X hl.1 hE hP hD hS hA [(h0, .inr (5, [.ref qel, .int (nI rl2_208)])), (qel, .inl (cA, 16, .inl lt2_209))] [] [0, 1] [] rfl rfl rfl (by decide +kernel) (by decide +kernel) (by decide +kernel) (c_s_put l D cA cB h0 qel rl2_208 lt2_209 121 (by first | assumption | decide | rfl | omega)) w_408 w_409 w_407 w_410 w_411 0 (ci := 5) (T := TX5) (N := 2) rfl rfl (by decide +kernel) rfl rfl (Nat.le_of_ble_eq_true rfl) ⟨(Nat.le_of_ble_eq_true rfl), (Nat.le_of_ble_eq_true rfl)⟩ ⟨(Nat.le_of_ble_eq_true rfl), (Nat.le_of_ble_eq_true rfl)⟩ dX5_tellWay_101 (fun W1 H locs hw hP hD hS => ?_)
            obtain ⟨rl2_211, lt2_212, hf_213, rfl⟩ := hw
            have hP : va_P D classes [(h0, .inr (5, [.ref qel, .int (nI rl2_211)])), (qel, .inl (cA, 16, .inl lt2_212))] H := hP
            have hD : va_D A [(h0, .inr (5, [.ref qel, .int (nI rl2_211)])), (qel, .inl (cA, 16, .inl lt2_212))] := hD
            exact endV X hr hlocks hP hD hS dX5_tellWay_104 ⟨rl2_211, lt2_212, (by omega), rfl⟩
          · skip
            refine lv_iload_n hx hb dX5_tellWay_86 rfl (lv_at hl 1 rfl) ?_
            refine lv_bipush (v := 7) hx hb dX5_tellWay_87 (by decide) ?_
            refine lv_icmp_ne (tgt := 104) hx hb dX5_tellWay_89 (by decide) (fun c_89 => ?_) (fun c_89 => ?_)
            · skip
              exact endV X hr hlocks hP hD hS dX5_tellWay_104 ⟨rl2_199, lt2_200, (by omega), rfl⟩
            · skip
              refine lv_aload_n hx hb dX5_tellWay_92 rfl (lv_at hl 0 rfl) ?_
              refine lv_bipush (v := 44) hx hb dX5_tellWay_93 (by decide) ?_
              refine kVv (n3 := 1) (As := [.int 44]) (rest := []) X hl.1 hE hP hD hS hA [(h0, .inr (5, [.ref qel, .int (nI rl2_199)])), (qel, .inl (cA, 16, .inl lt2_200))] [] [0, 1] [] rfl rfl rfl (by decide +kernel) (by decide +kernel) (by decide +kernel) (c_s_put l D cA cB h0 qel rl2_199 lt2_200 44 (by first | assumption | decide | rfl | omega)) w_408 w_409 w_407 w_410 w_411 0 (ci := 5) (T := TX5) (N := 2) rfl rfl (by decide +kernel) rfl rfl (Nat.le_of_ble_eq_true rfl) ⟨(Nat.le_of_ble_eq_true rfl), (Nat.le_of_ble_eq_true rfl)⟩ ⟨(Nat.le_of_ble_eq_true rfl), (Nat.le_of_ble_eq_true rfl)⟩ dX5_tellWay_95 (fun W1 H locs hw hP hD hS => ?_)
              obtain ⟨rl2_214, lt2_215, hf_216, rfl⟩ := hw
              have hP : va_P D classes [(h0, .inr (5, [.ref qel, .int (nI rl2_214)])), (qel, .inl (cA, 16, .inl lt2_215))] H := hP
              have hD : va_D A [(h0, .inr (5, [.ref qel, .int (nI rl2_214)])), (qel, .inl (cA, 16, .inl lt2_215))] := hD
              refine lv_aload_n hx hb dX5_tellWay_98 rfl (lv_at hl 0 rfl) ?_
              refine lv_bipush (v := 121) hx hb dX5_tellWay_99 (by decide) ?_
              refine kVv (n3 := 1) (As := [.int 121]) (rest := []) X hl.1 hE hP hD hS hA [(h0, .inr (5, [.ref qel, .int (nI rl2_214)])), (qel, .inl (cA, 16, .inl lt2_215))] [] [0, 1] [] rfl rfl rfl (by decide +kernel) (by decide +kernel) (by decide +kernel) (c_s_put l D cA cB h0 qel rl2_214 lt2_215 121 (by first | assumption | decide | rfl | omega)) w_408 w_409 w_407 w_410 w_411 0 (ci := 5) (T := TX5) (N := 2) rfl rfl (by decide +kernel) rfl rfl (Nat.le_of_ble_eq_true rfl) ⟨(Nat.le_of_ble_eq_true rfl), (Nat.le_of_ble_eq_true rfl)⟩ ⟨(Nat.le_of_ble_eq_true rfl), (Nat.le_of_ble_eq_true rfl)⟩ dX5_tellWay_101 (fun W1 H locs hw hP hD hS => ?_)
              obtain ⟨rl2_217, lt2_218, hf_219, rfl⟩ := hw
              have hP : va_P D classes [(h0, .inr (5, [.ref qel, .int (nI rl2_217)])), (qel, .inl (cA, 16, .inl lt2_218))] H := hP
              have hD : va_D A [(h0, .inr (5, [.ref qel, .int (nI rl2_217)])), (qel, .inl (cA, 16, .inl lt2_218))] := hD
              exact endV X hr hlocks hP hD hS dX5_tellWay_104 ⟨rl2_217, lt2_218, (by omega), rfl⟩
        · skip
          refine lv_aload_n hx hb dX5_tellWay_66 rfl (lv_at hl 0 rfl) ?_
          refine lv_bipush (v := 44) hx hb dX5_tellWay_67 (by decide) ?_
          refine kVv (n3 := 1) (As := [.int 44]) (rest := []) X hl.1 hE hP hD hS hA [(h0, .inr (5, [.ref qel, .int (nI rl2_199)])), (qel, .inl (cA, 16, .inl lt2_200))] [] [0, 1] [] rfl rfl rfl (by decide +kernel) (by decide +kernel) (by decide +kernel) (c_s_put l D cA cB h0 qel rl2_199 lt2_200 44 (by first | assumption | decide | rfl | omega)) w_408 w_409 w_407 w_410 w_411 0 (ci := 5) (T := TX5) (N := 2) rfl rfl (by decide +kernel) rfl rfl (Nat.le_of_ble_eq_true rfl) ⟨(Nat.le_of_ble_eq_true rfl), (Nat.le_of_ble_eq_true rfl)⟩ ⟨(Nat.le_of_ble_eq_true rfl), (Nat.le_of_ble_eq_true rfl)⟩ dX5_tellWay_69 (fun W1 H locs hw hP hD hS => ?_)
          obtain ⟨rl2_220, lt2_221, hf_222, rfl⟩ := hw
          have hP : va_P D classes [(h0, .inr (5, [.ref qel, .int (nI rl2_220)])), (qel, .inl (cA, 16, .inl lt2_221))] H := hP
          have hD : va_D A [(h0, .inr (5, [.ref qel, .int (nI rl2_220)])), (qel, .inl (cA, 16, .inl lt2_221))] := hD
          refine lv_aload_n hx hb dX5_tellWay_72 rfl (lv_at hl 0 rfl) ?_
          refine lv_bipush (v := 120) hx hb dX5_tellWay_73 (by decide) ?_
          refine kVv (n3 := 1) (As := [.int 120]) (rest := []) X hl.1 hE hP hD hS hA [(h0, .inr (5, [.ref qel, .int (nI rl2_220)])), (qel, .inl (cA, 16, .inl lt2_221))] [] [0, 1] [] rfl rfl rfl (by decide +kernel) (by decide +kernel) (by decide +kernel) (c_s_put l D cA cB h0 qel rl2_220 lt2_221 120 (by first | assumption | decide | rfl | omega)) w_408 w_409 w_407 w_410 w_411 0 (ci := 5) (T := TX5) (N := 2) rfl rfl (by decide +kernel) rfl rfl (Nat.le_of_ble_eq_true rfl) ⟨(Nat.le_of_ble_eq_true rfl), (Nat.le_of_ble_eq_true rfl)⟩ ⟨(Nat.le_of_ble_eq_true rfl), (Nat.le_of_ble_eq_true rfl)⟩ dX5_tellWay_75 (fun W1 H locs hw hP hD hS => ?_)
          obtain ⟨rl2_223, lt2_224, hf_225, rfl⟩ := hw
          have hP : va_P D classes [(h0, .inr (5, [.ref qel, .int (nI rl2_223)])), (qel, .inl (cA, 16, .inl lt2_224))] H := hP
          have hD : va_D A [(h0, .inr (5, [.ref qel, .int (nI rl2_223)])), (qel, .inl (cA, 16, .inl lt2_224))] := hD
          refine lv_goto (tgt := 104) hx hb dX5_tellWay_78 (by decide) ?_
          exact endV X hr hlocks hP hD hS dX5_tellWay_104 ⟨rl2_223, lt2_224, (by omega), rfl⟩
set_option maxHeartbeats 4000000 in
set_option maxRecDepth 100000 in
theorem c_s_putIllegal (l : Launch) (D : va_G) (cA cB : ClassId) (h0 : Nat) (qel : Nat) (rl : Nat) (lt : Nat → Int32) (v : Int32) (hrl : rl < 17) : CV l yX5_putIllegal cX5_putIllegal 2 none 2 43 0 0 D cA cB [.ref h0, .int v] [(h0, .inr (5, [.ref qel, .int (nI rl)])), (qel, .inl (cA, 16, .inl lt))] (fun W1 => ∃ (rl2 : Nat) (lt2 : Nat → Int32), (rl2 < 17) ∧ W1 = [(h0, .inr (5, [.ref qel, .int (nI rl2)])), (qel, .inl (cA, 16, .inl lt2))]) := by
  refine mkV (lv0 := [(0, .ref h0), (1, .int v)]) (by decide) (Nat.le_of_ble_eq_true rfl) rfl ?_
  intro p e s m below meth c A ls X hr hlocks hnm hE hA hP hD hS hl
  have hx := X.1
  have hb := X.2.1
  refine lv_aload_n hx hb dX5_putIllegal_0 rfl (lv_at hl 0 rfl) ?_
  refine lv_bipush (v := 98) hx hb dX5_putIllegal_1 (by decide) ?_
  refine kVv (n3 := 1) (As := [.int 98]) (rest := []) X hl.1 hE hP hD hS hA [(h0, .inr (5, [.ref qel, .int (nI rl)])), (qel, .inl (cA, 16, .inl lt))] [] [0, 1] [] rfl rfl rfl (by decide +kernel) (by decide +kernel) (by decide +kernel) (c_s_put l D cA cB h0 qel rl lt 98 (by first | assumption | decide | rfl | omega)) w_408 w_409 w_407 w_410 w_411 0 (ci := 5) (T := TX5) (N := 2) rfl rfl (by decide +kernel) rfl rfl (Nat.le_of_ble_eq_true rfl) ⟨(Nat.le_of_ble_eq_true rfl), (Nat.le_of_ble_eq_true rfl)⟩ ⟨(Nat.le_of_ble_eq_true rfl), (Nat.le_of_ble_eq_true rfl)⟩ dX5_putIllegal_3 (fun W1 H locs hw hP hD hS => ?_)
  obtain ⟨rl2_1, lt2_2, hf_3, rfl⟩ := hw
  have hP : va_P D classes [(h0, .inr (5, [.ref qel, .int (nI rl2_1)])), (qel, .inl (cA, 16, .inl lt2_2))] H := hP
  have hD : va_D A [(h0, .inr (5, [.ref qel, .int (nI rl2_1)])), (qel, .inl (cA, 16, .inl lt2_2))] := hD
  refine lv_aload_n hx hb dX5_putIllegal_6 rfl (lv_at hl 0 rfl) ?_
  refine lv_bipush (v := 121) hx hb dX5_putIllegal_7 (by decide) ?_
  refine kVv (n3 := 1) (As := [.int 121]) (rest := []) X hl.1 hE hP hD hS hA [(h0, .inr (5, [.ref qel, .int (nI rl2_1)])), (qel, .inl (cA, 16, .inl lt2_2))] [] [0, 1] [] rfl rfl rfl (by decide +kernel) (by decide +kernel) (by decide +kernel) (c_s_put l D cA cB h0 qel rl2_1 lt2_2 121 (by first | assumption | decide | rfl | omega)) w_408 w_409 w_407 w_410 w_411 0 (ci := 5) (T := TX5) (N := 2) rfl rfl (by decide +kernel) rfl rfl (Nat.le_of_ble_eq_true rfl) ⟨(Nat.le_of_ble_eq_true rfl), (Nat.le_of_ble_eq_true rfl)⟩ ⟨(Nat.le_of_ble_eq_true rfl), (Nat.le_of_ble_eq_true rfl)⟩ dX5_putIllegal_9 (fun W1 H locs hw hP hD hS => ?_)
  obtain ⟨rl2_4, lt2_5, hf_6, rfl⟩ := hw
  have hP : va_P D classes [(h0, .inr (5, [.ref qel, .int (nI rl2_4)])), (qel, .inl (cA, 16, .inl lt2_5))] H := hP
  have hD : va_D A [(h0, .inr (5, [.ref qel, .int (nI rl2_4)])), (qel, .inl (cA, 16, .inl lt2_5))] := hD
  refine lv_aload_n hx hb dX5_putIllegal_12 rfl (lv_at hl 0 rfl) ?_
  refine lv_bipush (v := 116) hx hb dX5_putIllegal_13 (by decide) ?_
  refine kVv (n3 := 1) (As := [.int 116]) (rest := []) X hl.1 hE hP hD hS hA [(h0, .inr (5, [.ref qel, .int (nI rl2_4)])), (qel, .inl (cA, 16, .inl lt2_5))] [] [0, 1] [] rfl rfl rfl (by decide +kernel) (by decide +kernel) (by decide +kernel) (c_s_put l D cA cB h0 qel rl2_4 lt2_5 116 (by first | assumption | decide | rfl | omega)) w_408 w_409 w_407 w_410 w_411 0 (ci := 5) (T := TX5) (N := 2) rfl rfl (by decide +kernel) rfl rfl (Nat.le_of_ble_eq_true rfl) ⟨(Nat.le_of_ble_eq_true rfl), (Nat.le_of_ble_eq_true rfl)⟩ ⟨(Nat.le_of_ble_eq_true rfl), (Nat.le_of_ble_eq_true rfl)⟩ dX5_putIllegal_15 (fun W1 H locs hw hP hD hS => ?_)
  obtain ⟨rl2_7, lt2_8, hf_9, rfl⟩ := hw
  have hP : va_P D classes [(h0, .inr (5, [.ref qel, .int (nI rl2_7)])), (qel, .inl (cA, 16, .inl lt2_8))] H := hP
  have hD : va_D A [(h0, .inr (5, [.ref qel, .int (nI rl2_7)])), (qel, .inl (cA, 16, .inl lt2_8))] := hD
  refine lv_aload_n hx hb dX5_putIllegal_18 rfl (lv_at hl 0 rfl) ?_
  refine lv_bipush (v := 101) hx hb dX5_putIllegal_19 (by decide) ?_
  refine kVv (n3 := 1) (As := [.int 101]) (rest := []) X hl.1 hE hP hD hS hA [(h0, .inr (5, [.ref qel, .int (nI rl2_7)])), (qel, .inl (cA, 16, .inl lt2_8))] [] [0, 1] [] rfl rfl rfl (by decide +kernel) (by decide +kernel) (by decide +kernel) (c_s_put l D cA cB h0 qel rl2_7 lt2_8 101 (by first | assumption | decide | rfl | omega)) w_408 w_409 w_407 w_410 w_411 0 (ci := 5) (T := TX5) (N := 2) rfl rfl (by decide +kernel) rfl rfl (Nat.le_of_ble_eq_true rfl) ⟨(Nat.le_of_ble_eq_true rfl), (Nat.le_of_ble_eq_true rfl)⟩ ⟨(Nat.le_of_ble_eq_true rfl), (Nat.le_of_ble_eq_true rfl)⟩ dX5_putIllegal_21 (fun W1 H locs hw hP hD hS => ?_)
  obtain ⟨rl2_10, lt2_11, hf_12, rfl⟩ := hw
  have hP : va_P D classes [(h0, .inr (5, [.ref qel, .int (nI rl2_10)])), (qel, .inl (cA, 16, .inl lt2_11))] H := hP
  have hD : va_D A [(h0, .inr (5, [.ref qel, .int (nI rl2_10)])), (qel, .inl (cA, 16, .inl lt2_11))] := hD
  refine lv_aload_n hx hb dX5_putIllegal_24 rfl (lv_at hl 0 rfl) ?_
  refine lv_bipush (v := 32) hx hb dX5_putIllegal_25 (by decide) ?_
  refine kVv (n3 := 1) (As := [.int 32]) (rest := []) X hl.1 hE hP hD hS hA [(h0, .inr (5, [.ref qel, .int (nI rl2_10)])), (qel, .inl (cA, 16, .inl lt2_11))] [] [0, 1] [] rfl rfl rfl (by decide +kernel) (by decide +kernel) (by decide +kernel) (c_s_put l D cA cB h0 qel rl2_10 lt2_11 32 (by first | assumption | decide | rfl | omega)) w_408 w_409 w_407 w_410 w_411 0 (ci := 5) (T := TX5) (N := 2) rfl rfl (by decide +kernel) rfl rfl (Nat.le_of_ble_eq_true rfl) ⟨(Nat.le_of_ble_eq_true rfl), (Nat.le_of_ble_eq_true rfl)⟩ ⟨(Nat.le_of_ble_eq_true rfl), (Nat.le_of_ble_eq_true rfl)⟩ dX5_putIllegal_27 (fun W1 H locs hw hP hD hS => ?_)
  obtain ⟨rl2_13, lt2_14, hf_15, rfl⟩ := hw
  have hP : va_P D classes [(h0, .inr (5, [.ref qel, .int (nI rl2_13)])), (qel, .inl (cA, 16, .inl lt2_14))] H := hP
  have hD : va_D A [(h0, .inr (5, [.ref qel, .int (nI rl2_13)])), (qel, .inl (cA, 16, .inl lt2_14))] := hD
  refine lv_aload_n hx hb dX5_putIllegal_30 rfl (lv_at hl 0 rfl) ?_
  refine lv_sipush (v := 216) hx hb dX5_putIllegal_31 (by decide) ?_
  refine kVv (n3 := 1) (As := [.int 216]) (rest := []) X hl.1 hE hP hD hS hA [(h0, .inr (5, [.ref qel, .int (nI rl2_13)])), (qel, .inl (cA, 16, .inl lt2_14))] [] [0, 1] [] rfl rfl rfl (by decide +kernel) (by decide +kernel) (by decide +kernel) (c_s_putNumber l D cA cB h0 qel rl2_13 lt2_14 216 (by first | assumption | decide | rfl | omega)) w_413 w_409 w_412 w_414 w_415 0 (ci := 5) (T := TX5) (N := 2) rfl rfl (by decide +kernel) rfl rfl (Nat.le_of_ble_eq_true rfl) ⟨(Nat.le_of_ble_eq_true rfl), (Nat.le_of_ble_eq_true rfl)⟩ ⟨(Nat.le_of_ble_eq_true rfl), (Nat.le_of_ble_eq_true rfl)⟩ dX5_putIllegal_34 (fun W1 H locs hw hP hD hS => ?_)
  obtain ⟨rl2_16, lt2_17, hf_18, rfl⟩ := hw
  have hP : va_P D classes [(h0, .inr (5, [.ref qel, .int (nI rl2_16)])), (qel, .inl (cA, 16, .inl lt2_17))] H := hP
  have hD : va_D A [(h0, .inr (5, [.ref qel, .int (nI rl2_16)])), (qel, .inl (cA, 16, .inl lt2_17))] := hD
  refine lv_aload_n hx hb dX5_putIllegal_37 rfl (lv_at hl 0 rfl) ?_
  refine lv_bipush (v := 44) hx hb dX5_putIllegal_38 (by decide) ?_
  refine kVv (n3 := 1) (As := [.int 44]) (rest := []) X hl.1 hE hP hD hS hA [(h0, .inr (5, [.ref qel, .int (nI rl2_16)])), (qel, .inl (cA, 16, .inl lt2_17))] [] [0, 1] [] rfl rfl rfl (by decide +kernel) (by decide +kernel) (by decide +kernel) (c_s_put l D cA cB h0 qel rl2_16 lt2_17 44 (by first | assumption | decide | rfl | omega)) w_408 w_409 w_407 w_410 w_411 0 (ci := 5) (T := TX5) (N := 2) rfl rfl (by decide +kernel) rfl rfl (Nat.le_of_ble_eq_true rfl) ⟨(Nat.le_of_ble_eq_true rfl), (Nat.le_of_ble_eq_true rfl)⟩ ⟨(Nat.le_of_ble_eq_true rfl), (Nat.le_of_ble_eq_true rfl)⟩ dX5_putIllegal_40 (fun W1 H locs hw hP hD hS => ?_)
  obtain ⟨rl2_19, lt2_20, hf_21, rfl⟩ := hw
  have hP : va_P D classes [(h0, .inr (5, [.ref qel, .int (nI rl2_19)])), (qel, .inl (cA, 16, .inl lt2_20))] H := hP
  have hD : va_D A [(h0, .inr (5, [.ref qel, .int (nI rl2_19)])), (qel, .inl (cA, 16, .inl lt2_20))] := hD
  refine lv_aload_n hx hb dX5_putIllegal_43 rfl (lv_at hl 0 rfl) ?_
  refine lv_iload_n hx hb dX5_putIllegal_44 rfl (lv_at hl 1 rfl) ?_
  refine kVv (n3 := 1) (As := [.int v]) (rest := []) X hl.1 hE hP hD hS hA [(h0, .inr (5, [.ref qel, .int (nI rl2_19)])), (qel, .inl (cA, 16, .inl lt2_20))] [] [0, 1] [] rfl rfl rfl (by decide +kernel) (by decide +kernel) (by decide +kernel) (c_s_putNumber l D cA cB h0 qel rl2_19 lt2_20 v (by first | assumption | decide | rfl | omega)) w_413 w_409 w_412 w_414 w_415 0 (ci := 5) (T := TX5) (N := 2) rfl rfl (by decide +kernel) rfl rfl (Nat.le_of_ble_eq_true rfl) ⟨(Nat.le_of_ble_eq_true rfl), (Nat.le_of_ble_eq_true rfl)⟩ ⟨(Nat.le_of_ble_eq_true rfl), (Nat.le_of_ble_eq_true rfl)⟩ dX5_putIllegal_45 (fun W1 H locs hw hP hD hS => ?_)
  obtain ⟨rl2_22, lt2_23, hf_24, rfl⟩ := hw
  have hP : va_P D classes [(h0, .inr (5, [.ref qel, .int (nI rl2_22)])), (qel, .inl (cA, 16, .inl lt2_23))] H := hP
  have hD : va_D A [(h0, .inr (5, [.ref qel, .int (nI rl2_22)])), (qel, .inl (cA, 16, .inl lt2_23))] := hD
  exact endV X hr hlocks hP hD hS dX5_putIllegal_48 ⟨rl2_22, lt2_23, (by omega), rfl⟩
