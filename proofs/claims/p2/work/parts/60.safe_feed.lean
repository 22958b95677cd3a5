abbrev cX7_add : ByteArray := prog_9_method_3_code
def yX7_add : MethodName := ⟨RX7, "add", "(I)V"⟩
abbrev cX7_hasRoom : ByteArray := prog_9_method_2_code
def yX7_hasRoom : MethodName := ⟨RX7, "hasRoom", "(I)Z"⟩
abbrev cX8_feed : ByteArray := prog_1_method_2_code
def yX8_feed : MethodName := ⟨RX8, "feed", "(IIIII)I"⟩
set_option maxRecDepth 100000 in
theorem w_353 : (Cond.fieldLink "BelfryBox$Tape" 15 "BelfryBox$Tape" "length" "I" : Cond) ∈ gw := List.mem_filter.mpr ⟨List.mem_append_right _ (tb1 (List.mem_of_getElem? (i := 123) rfl)), rfl⟩
set_option maxRecDepth 100000 in
theorem w_354 : (Cond.fieldLink "BelfryBox$Tape" 11 "BelfryBox$Tape" "bytes" "[I" : Cond) ∈ gw := List.mem_filter.mpr ⟨List.mem_append_right _ (tb1 (List.mem_of_getElem? (i := 121) rfl)), rfl⟩
set_option maxRecDepth 100000 in
theorem w_355 : (Cond.fieldLink "BelfryBox" 51 "BelfryBox" "tape" "LBelfryBox$Tape;" : Cond) ∈ gw := List.mem_filter.mpr ⟨List.mem_append_right _ (tb2 (List.mem_of_getElem? (i := 52) rfl)), rfl⟩
set_option maxRecDepth 100000 in
theorem w_356 : (Cond.methodLink "BelfryBox" 74 yX7_hasRoom : Cond) ∈ gw := List.mem_filter.mpr ⟨List.mem_append_right _ (tb2 (List.mem_of_getElem? (i := 78) rfl)), rfl⟩
set_option maxRecDepth 100000 in
theorem w_357 : (Cond.code yX7_hasRoom prog_9_method_2_code 2 (Option.some Jvm.ClassFile.FieldType.boolean) : Cond) ∈ gw := List.mem_filter.mpr ⟨List.mem_append_right _ (tb2 (List.mem_of_getElem? (i := 81) rfl)), rfl⟩
set_option maxRecDepth 100000 in
theorem w_358 : (Cond.initialized "BelfryBox$Tape" : Cond) ∈ gw := List.mem_filter.mpr ⟨List.mem_append_right _ (tb1 (List.mem_of_getElem? (i := 6) rfl)), rfl⟩
set_option maxRecDepth 100000 in
theorem w_359 : (Cond.instanceMethod yX7_hasRoom : Cond) ∈ gw := List.mem_filter.mpr ⟨List.mem_append_right _ (tb2 (List.mem_of_getElem? (i := 79) rfl)), rfl⟩
set_option maxRecDepth 100000 in
theorem w_360 : (Cond.selects "BelfryBox$Tape" yX7_hasRoom yX7_hasRoom : Cond) ∈ gw := List.mem_filter.mpr ⟨List.mem_append_right _ (tb2 (List.mem_of_getElem? (i := 80) rfl)), rfl⟩
set_option maxRecDepth 100000 in
theorem w_361 : (Cond.methodLink "BelfryBox" 78 yX7_add : Cond) ∈ gw := List.mem_filter.mpr ⟨List.mem_append_right _ (tb2 (List.mem_of_getElem? (i := 82) rfl)), rfl⟩
set_option maxRecDepth 100000 in
theorem w_362 : (Cond.code yX7_add prog_9_method_3_code 3 (Option.none : Option Jvm.ClassFile.FieldType) : Cond) ∈ gw := List.mem_filter.mpr ⟨List.mem_append_right _ (tb2 (List.mem_of_getElem? (i := 85) rfl)), rfl⟩
set_option maxRecDepth 100000 in
theorem w_363 : (Cond.instanceMethod yX7_add : Cond) ∈ gw := List.mem_filter.mpr ⟨List.mem_append_right _ (tb2 (List.mem_of_getElem? (i := 83) rfl)), rfl⟩
set_option maxRecDepth 100000 in
theorem w_364 : (Cond.selects "BelfryBox$Tape" yX7_add yX7_add : Cond) ∈ gw := List.mem_filter.mpr ⟨List.mem_append_right _ (tb2 (List.mem_of_getElem? (i := 84) rfl)), rfl⟩
theorem nw_12 : (Cond.fieldLinkNest "BelfryBox" 82 "BelfryBox$Tape" "length" "I" "BelfryBox" : Cond) ∈ nests := List.mem_of_getElem? (i := 12) rfl
theorem dX7_add_0 : decode cX7_add 0 = .ok (.bipush 24, 2) := by decide +kernel
theorem dX7_add_2 : decode cX7_add 2 = .ok (.istore_n 2, 1) := by decide +kernel
theorem dX7_add_3 : decode cX7_add 3 = .ok (.iload_n 2, 1) := by decide +kernel
theorem dX7_add_4 : decode cX7_add 4 = .ok (.ifCond .lt 45, 3) := by decide +kernel
theorem dX7_add_7 : decode cX7_add 7 = .ok (.aload_n 0, 1) := by decide +kernel
theorem dX7_add_8 : decode cX7_add 8 = .ok (.getfield 15, 3) := by decide +kernel
theorem dX7_add_11 : decode cX7_add 11 = .ok (.sipush 6000, 3) := by decide +kernel
theorem dX7_add_14 : decode cX7_add 14 = .ok (.if_icmp .ge 35, 3) := by decide +kernel
theorem dX7_add_17 : decode cX7_add 17 = .ok (.aload_n 0, 1) := by decide +kernel
theorem dX7_add_18 : decode cX7_add 18 = .ok (.getfield 11, 3) := by decide +kernel
theorem dX7_add_21 : decode cX7_add 21 = .ok (.aload_n 0, 1) := by decide +kernel
theorem dX7_add_22 : decode cX7_add 22 = .ok (.getfield 15, 3) := by decide +kernel
theorem dX7_add_25 : decode cX7_add 25 = .ok (.iload_n 1, 1) := by decide +kernel
theorem dX7_add_26 : decode cX7_add 26 = .ok (.iload_n 2, 1) := by decide +kernel
theorem dX7_add_27 : decode cX7_add 27 = .ok (.ishr, 1) := by decide +kernel
theorem dX7_add_28 : decode cX7_add 28 = .ok (.sipush 255, 3) := by decide +kernel
theorem dX7_add_31 : decode cX7_add 31 = .ok (.iand, 1) := by decide +kernel
theorem dX7_add_32 : decode cX7_add 32 = .ok (.iastore, 1) := by decide +kernel
theorem dX7_add_33 : decode cX7_add 33 = .ok (.aload_n 0, 1) := by decide +kernel
theorem dX7_add_34 : decode cX7_add 34 = .ok (.dup, 1) := by decide +kernel
theorem dX7_add_35 : decode cX7_add 35 = .ok (.getfield 15, 3) := by decide +kernel
theorem dX7_add_38 : decode cX7_add 38 = .ok (.iconst 1, 1) := by decide +kernel
theorem dX7_add_39 : decode cX7_add 39 = .ok (.iadd, 1) := by decide +kernel
theorem dX7_add_40 : decode cX7_add 40 = .ok (.putfield 15, 3) := by decide +kernel
theorem dX7_add_43 : decode cX7_add 43 = .ok (.iinc 2 (-8), 3) := by decide +kernel
theorem dX7_add_46 : decode cX7_add 46 = .ok (.goto (-43), 3) := by decide +kernel
theorem dX7_add_49 : decode cX7_add 49 = .ok (.return_, 1) := by decide +kernel
theorem dX7_hasRoom_0 : decode cX7_hasRoom 0 = .ok (.aload_n 0, 1) := by decide +kernel
theorem dX7_hasRoom_1 : decode cX7_hasRoom 1 = .ok (.getfield 15, 3) := by decide +kernel
theorem dX7_hasRoom_4 : decode cX7_hasRoom 4 = .ok (.iload_n 1, 1) := by decide +kernel
theorem dX7_hasRoom_5 : decode cX7_hasRoom 5 = .ok (.iadd, 1) := by decide +kernel
theorem dX7_hasRoom_6 : decode cX7_hasRoom 6 = .ok (.sipush 6000, 3) := by decide +kernel
theorem dX7_hasRoom_9 : decode cX7_hasRoom 9 = .ok (.if_icmp .gt 7, 3) := by decide +kernel
theorem dX7_hasRoom_16 : decode cX7_hasRoom 16 = .ok (.iconst 0, 1) := by decide +kernel
theorem dX7_hasRoom_17 : decode cX7_hasRoom 17 = .ok (.ireturn, 1) := by decide +kernel
theorem dX7_hasRoom_12 : decode cX7_hasRoom 12 = .ok (.iconst 1, 1) := by decide +kernel
theorem dX7_hasRoom_13 : decode cX7_hasRoom 13 = .ok (.goto 4, 3) := by decide +kernel
theorem dX8_feed_0 : decode cX8_feed 0 = .ok (.aload_n 0, 1) := by decide +kernel
theorem dX8_feed_1 : decode cX8_feed 1 = .ok (.getfield 51, 3) := by decide +kernel
theorem dX8_feed_4 : decode cX8_feed 4 = .ok (.bipush 20, 2) := by decide +kernel
theorem dX8_feed_6 : decode cX8_feed 6 = .ok (.invokevirtual 74, 3) := by decide +kernel
theorem dX8_feed_9 : decode cX8_feed 9 = .ok (.ifCond .ne 5, 3) := by decide +kernel
theorem dX8_feed_14 : decode cX8_feed 14 = .ok (.aload_n 0, 1) := by decide +kernel
theorem dX8_feed_15 : decode cX8_feed 15 = .ok (.getfield 51, 3) := by decide +kernel
theorem dX8_feed_18 : decode cX8_feed 18 = .ok (.iload_n 1, 1) := by decide +kernel
theorem dX8_feed_19 : decode cX8_feed 19 = .ok (.invokevirtual 78, 3) := by decide +kernel
theorem dX8_feed_22 : decode cX8_feed 22 = .ok (.aload_n 0, 1) := by decide +kernel
theorem dX8_feed_23 : decode cX8_feed 23 = .ok (.getfield 51, 3) := by decide +kernel
theorem dX8_feed_26 : decode cX8_feed 26 = .ok (.iload_n 2, 1) := by decide +kernel
theorem dX8_feed_27 : decode cX8_feed 27 = .ok (.invokevirtual 78, 3) := by decide +kernel
theorem dX8_feed_30 : decode cX8_feed 30 = .ok (.aload_n 0, 1) := by decide +kernel
theorem dX8_feed_31 : decode cX8_feed 31 = .ok (.getfield 51, 3) := by decide +kernel
theorem dX8_feed_34 : decode cX8_feed 34 = .ok (.iload_n 3, 1) := by decide +kernel
theorem dX8_feed_35 : decode cX8_feed 35 = .ok (.invokevirtual 78, 3) := by decide +kernel
theorem dX8_feed_38 : decode cX8_feed 38 = .ok (.aload_n 0, 1) := by decide +kernel
theorem dX8_feed_39 : decode cX8_feed 39 = .ok (.getfield 51, 3) := by decide +kernel
theorem dX8_feed_42 : decode cX8_feed 42 = .ok (.iload 4, 2) := by decide +kernel
theorem dX8_feed_44 : decode cX8_feed 44 = .ok (.invokevirtual 78, 3) := by decide +kernel
theorem dX8_feed_47 : decode cX8_feed 47 = .ok (.aload_n 0, 1) := by decide +kernel
theorem dX8_feed_48 : decode cX8_feed 48 = .ok (.getfield 51, 3) := by decide +kernel
theorem dX8_feed_51 : decode cX8_feed 51 = .ok (.iload 5, 2) := by decide +kernel
theorem dX8_feed_53 : decode cX8_feed 53 = .ok (.invokevirtual 78, 3) := by decide +kernel
theorem dX8_feed_56 : decode cX8_feed 56 = .ok (.aload_n 0, 1) := by decide +kernel
theorem dX8_feed_57 : decode cX8_feed 57 = .ok (.getfield 51, 3) := by decide +kernel
theorem dX8_feed_60 : decode cX8_feed 60 = .ok (.getfield 82, 3) := by decide +kernel
theorem dX8_feed_63 : decode cX8_feed 63 = .ok (.ireturn, 1) := by decide +kernel
theorem dX8_feed_12 : decode cX8_feed 12 = .ok (.iconst (-1), 1) := by decide +kernel
theorem dX8_feed_13 : decode cX8_feed 13 = .ok (.ireturn, 1) := by decide +kernel
set_option maxHeartbeats 4000000 in
set_option maxRecDepth 100000 in
theorem c_s_tadd (l : Launch) (D : va_G) (cA cB : ClassId) (h0 : Nat) (htb : Nat) (ln : Nat) (t0 : Int32) (t1 : Int32) (t2 : Int32) (t3 : Int32) (t4 : Int32) (t5 : Int32) (t6 : Int32) (tb : Nat → Int32) (v : Int32) (hln : ln + 4 ≤ 6000) : CV l yX7_add cX7_add 3 none 0 0 0 0 D cA cB [.ref h0, .int v] [(h0, .inr (7, [.ref htb, .int (nI ln), .int t0, .int t1, .int t2, .int t3, .int t4, .int t5, .int t6])), (htb, .inl (cA, 6000, .inl tb))] (fun W1 => ∃ (tb2 : Nat → Int32), W1 = [(h0, .inr (7, [.ref htb, .int (nI (ln + 4)), .int t0, .int t1, .int t2, .int t3, .int t4, .int t5, .int t6])), (htb, .inl (cA, 6000, .inl tb2))]) := by
  refine mkV (lv0 := [(0, .ref h0), (1, .int v)]) (by decide) (Nat.le_of_ble_eq_true rfl) rfl ?_
  intro p e s m below meth c A ls X hr hlocks hnm hE hA hP hD hS hl
  have hx := X.1
  have hb := X.2.1
  refine lv_bipush (v := 24) hx hb dX7_add_0 (by decide) ?_
  refine lv_istore_n (lv' := [(2, .int 24), (0, .ref h0), (1, .int v)]) hx hb dX7_add_2 rfl hl (by decide) rfl (fun ls hl => ?_)
  refine lv_iload_n hx hb dX7_add_3 rfl (lv_at hl 0 rfl) ?_
  refine lv_if_lt (tgt := 49) hx hb dX7_add_4 (by decide) (fun c_4 => absurd c_4 (by decide)) (fun c_4 => ?_)
  refine lv_aload_n hx hb dX7_add_7 rfl (lv_at hl 1 rfl) ?_
  refine k_get (C := RX7) (T := TX7) (N := 9) (ci := 7) (v := .int (nI ln)) X hE hP 0 rfl rfl iX7 1 (by decide) w_353 rfl dX7_add_8 ?_
  refine lv_sipush (v := 6000) hx hb dX7_add_11 (by decide) ?_
  refine lv_icmp_ge (tgt := 49) hx hb dX7_add_14 (by decide) (fun c_14 => absurd c_14 (nI_ge (a := ln) (b := 6000) (by omega) (by decide))) (fun c_14 => ?_)
  refine lv_aload_n hx hb dX7_add_17 rfl (lv_at hl 1 rfl) ?_
  refine k_get (C := RX7) (T := TX7) (N := 9) (ci := 7) (v := .ref htb) X hE hP 0 rfl rfl iX7 0 (by decide) w_354 rfl dX7_add_18 ?_
  refine lv_aload_n hx hb dX7_add_21 rfl (lv_at hl 1 rfl) ?_
  refine k_get (C := RX7) (T := TX7) (N := 9) (ci := 7) (v := .int (nI ln)) X hE hP 0 rfl rfl iX7 1 (by decide) w_353 rfl dX7_add_22 ?_
  refine lv_iload_n hx hb dX7_add_25 rfl (lv_at hl 2 rfl) ?_
  refine lv_iload_n hx hb dX7_add_26 rfl (lv_at hl 0 rfl) ?_
  refine lv_ishr hx hb dX7_add_27 ?_
  refine lv_sipush (v := 255) hx hb dX7_add_28 (by decide) ?_
  refine lv_iand hx hb dX7_add_31 ?_
  obtain ⟨k_1, hk_1, ek_1⟩ := pk_andE (v >>> (24 &&& 31)) (m := 255) 8 (by decide)
  have hk_1 : k_1 < 256 := hk_1
  refine tk (y := nI k_1) ek_1 ?_
  refine k_ast X hE hP hD hS 1 rfl ln rfl (by omega) (by decide) [(h0, .inr (7, [.ref htb, .int (nI ln), .int t0, .int t1, .int t2, .int t3, .int t4, .int t5, .int t6])), (htb, .inl (cA, 6000, .inl (upd tb ln (nI k_1))))] rfl dX7_add_32 (fun H locs hP hD hS => ?_)
  obtain ⟨g_2, eg_2⟩ : ∃ z, z = upd tb ln (nI k_1) := ⟨_, rfl⟩
  rw [← eg_2] at hP hD
  have hP : va_P D classes [(h0, .inr (7, [.ref htb, .int (nI ln), .int t0, .int t1, .int t2, .int t3, .int t4, .int t5, .int t6])), (htb, .inl (cA, 6000, .inl g_2))] H := hP
  have hD : va_D A [(h0, .inr (7, [.ref htb, .int (nI ln), .int t0, .int t1, .int t2, .int t3, .int t4, .int t5, .int t6])), (htb, .inl (cA, 6000, .inl g_2))] := hD
  refine lv_aload_n hx hb dX7_add_33 rfl (lv_at hl 1 rfl) ?_
  refine lv_dup hx hb dX7_add_34 rfl ?_
  refine k_get (C := RX7) (T := TX7) (N := 9) (ci := 7) (v := .int (nI ln)) X hE hP 0 rfl rfl iX7 1 (by decide) w_353 rfl dX7_add_35 ?_
  refine lv_iconst (v := 1) hx hb dX7_add_38 (by decide) ?_
  refine lv_iadd hx hb dX7_add_39 ?_
  refine tk (y := nI (ln + 1)) (nI_add ln 1) ?_
  refine k_put (C := RX7) (T := TX7) (N := 9) (ci := 7) (v := .int (nI (ln + 1))) (ty := .int) X hE hP hD hS 0 rfl rfl iX7 tyX7 tyX7_ok nmX7 1 (by decide) w_353 rfl (by decide +kernel) rfl rfl (Nat.le_of_ble_eq_true rfl) [(h0, .inr (7, [.ref htb, .int (nI (ln + 1)), .int t0, .int t1, .int t2, .int t3, .int t4, .int t5, .int t6])), (htb, .inl (cA, 6000, .inl g_2))] rfl dX7_add_40 (fun H locs hP hD hS => ?_)
  refine lv_iinc (v := 16) (lv' := [(2, .int 16), (0, .ref h0), (1, .int v)]) hx hb dX7_add_43 hl (k := 0) rfl (by decide) (by decide) rfl (fun ls hl => ?_)
  refine lv_goto (tgt := 3) hx hb dX7_add_46 (by decide) ?_
  refine lv_iload_n hx hb dX7_add_3 rfl (lv_at hl 0 rfl) ?_
  refine lv_if_lt (tgt := 49) hx hb dX7_add_4 (by decide) (fun c_4_3 => absurd c_4_3 (by decide)) (fun c_4_3 => ?_)
  refine lv_aload_n hx hb dX7_add_7 rfl (lv_at hl 1 rfl) ?_
  refine k_get (C := RX7) (T := TX7) (N := 9) (ci := 7) (v := .int (nI (ln + 1))) X hE hP 0 rfl rfl iX7 1 (by decide) w_353 rfl dX7_add_8 ?_
  refine lv_sipush (v := 6000) hx hb dX7_add_11 (by decide) ?_
  refine lv_icmp_ge (tgt := 49) hx hb dX7_add_14 (by decide) (fun c_14_4 => absurd c_14_4 (nI_ge (a := ln + 1) (b := 6000) (by omega) (by decide))) (fun c_14_4 => ?_)
  refine lv_aload_n hx hb dX7_add_17 rfl (lv_at hl 1 rfl) ?_
  refine k_get (C := RX7) (T := TX7) (N := 9) (ci := 7) (v := .ref htb) X hE hP 0 rfl rfl iX7 0 (by decide) w_354 rfl dX7_add_18 ?_
  refine lv_aload_n hx hb dX7_add_21 rfl (lv_at hl 1 rfl) ?_
  refine k_get (C := RX7) (T := TX7) (N := 9) (ci := 7) (v := .int (nI (ln + 1))) X hE hP 0 rfl rfl iX7 1 (by decide) w_353 rfl dX7_add_22 ?_
  refine lv_iload_n hx hb dX7_add_25 rfl (lv_at hl 2 rfl) ?_
  refine lv_iload_n hx hb dX7_add_26 rfl (lv_at hl 0 rfl) ?_
  refine lv_ishr hx hb dX7_add_27 ?_
  refine lv_sipush (v := 255) hx hb dX7_add_28 (by decide) ?_
  refine lv_iand hx hb dX7_add_31 ?_
  obtain ⟨k_5, hk_5, ek_5⟩ := pk_andE (v >>> (16 &&& 31)) (m := 255) 8 (by decide)
  have hk_5 : k_5 < 256 := hk_5
  refine tk (y := nI k_5) ek_5 ?_
  refine k_ast X hE hP hD hS 1 rfl (ln + 1) rfl (by omega) (by decide) [(h0, .inr (7, [.ref htb, .int (nI (ln + 1)), .int t0, .int t1, .int t2, .int t3, .int t4, .int t5, .int t6])), (htb, .inl (cA, 6000, .inl (upd g_2 (ln + 1) (nI k_5))))] rfl dX7_add_32 (fun H locs hP hD hS => ?_)
  obtain ⟨g_6, eg_6⟩ : ∃ z, z = upd g_2 (ln + 1) (nI k_5) := ⟨_, rfl⟩
  rw [← eg_6] at hP hD
  have hP : va_P D classes [(h0, .inr (7, [.ref htb, .int (nI (ln + 1)), .int t0, .int t1, .int t2, .int t3, .int t4, .int t5, .int t6])), (htb, .inl (cA, 6000, .inl g_6))] H := hP
  have hD : va_D A [(h0, .inr (7, [.ref htb, .int (nI (ln + 1)), .int t0, .int t1, .int t2, .int t3, .int t4, .int t5, .int t6])), (htb, .inl (cA, 6000, .inl g_6))] := hD
  refine lv_aload_n hx hb dX7_add_33 rfl (lv_at hl 1 rfl) ?_
  refine lv_dup hx hb dX7_add_34 rfl ?_
  refine k_get (C := RX7) (T := TX7) (N := 9) (ci := 7) (v := .int (nI (ln + 1))) X hE hP 0 rfl rfl iX7 1 (by decide) w_353 rfl dX7_add_35 ?_
  refine lv_iconst (v := 1) hx hb dX7_add_38 (by decide) ?_
  refine lv_iadd hx hb dX7_add_39 ?_
  refine tk (y := nI (ln + 1 + 1)) (nI_add (ln + 1) 1) ?_
  refine k_put (C := RX7) (T := TX7) (N := 9) (ci := 7) (v := .int (nI (ln + 1 + 1))) (ty := .int) X hE hP hD hS 0 rfl rfl iX7 tyX7 tyX7_ok nmX7 1 (by decide) w_353 rfl (by decide +kernel) rfl rfl (Nat.le_of_ble_eq_true rfl) [(h0, .inr (7, [.ref htb, .int (nI (ln + 1 + 1)), .int t0, .int t1, .int t2, .int t3, .int t4, .int t5, .int t6])), (htb, .inl (cA, 6000, .inl g_6))] rfl dX7_add_40 (fun H locs hP hD hS => ?_)
  refine lv_iinc (v := 8) (lv' := [(2, .int 8), (0, .ref h0), (1, .int v)]) hx hb dX7_add_43 hl (k := 0) rfl (by decide) (by decide) rfl (fun ls hl => ?_)
  refine lv_goto (tgt := 3) hx hb dX7_add_46 (by decide) ?_
  refine lv_iload_n hx hb dX7_add_3 rfl (lv_at hl 0 rfl) ?_
  refine lv_if_lt (tgt := 49) hx hb dX7_add_4 (by decide) (fun c_4_7 => absurd c_4_7 (by decide)) (fun c_4_7 => ?_)
  refine lv_aload_n hx hb dX7_add_7 rfl (lv_at hl 1 rfl) ?_
  refine k_get (C := RX7) (T := TX7) (N := 9) (ci := 7) (v := .int (nI (ln + 1 + 1))) X hE hP 0 rfl rfl iX7 1 (by decide) w_353 rfl dX7_add_8 ?_
  refine lv_sipush (v := 6000) hx hb dX7_add_11 (by decide) ?_
  refine lv_icmp_ge (tgt := 49) hx hb dX7_add_14 (by decide) (fun c_14_8 => absurd c_14_8 (nI_ge (a := ln + 1 + 1) (b := 6000) (by omega) (by decide))) (fun c_14_8 => ?_)
  refine lv_aload_n hx hb dX7_add_17 rfl (lv_at hl 1 rfl) ?_
  refine k_get (C := RX7) (T := TX7) (N := 9) (ci := 7) (v := .ref htb) X hE hP 0 rfl rfl iX7 0 (by decide) w_354 rfl dX7_add_18 ?_
  refine lv_aload_n hx hb dX7_add_21 rfl (lv_at hl 1 rfl) ?_
  refine k_get (C := RX7) (T := TX7) (N := 9) (ci := 7) (v := .int (nI (ln + 1 + 1))) X hE hP 0 rfl rfl iX7 1 (by decide) w_353 rfl dX7_add_22 ?_
  refine lv_iload_n hx hb dX7_add_25 rfl (lv_at hl 2 rfl) ?_
  refine lv_iload_n hx hb dX7_add_26 rfl (lv_at hl 0 rfl) ?_
  refine lv_ishr hx hb dX7_add_27 ?_
  refine lv_sipush (v := 255) hx hb dX7_add_28 (by decide) ?_
  refine lv_iand hx hb dX7_add_31 ?_
  obtain ⟨k_9, hk_9, ek_9⟩ := pk_andE (v >>> (8 &&& 31)) (m := 255) 8 (by decide)
  have hk_9 : k_9 < 256 := hk_9
  refine tk (y := nI k_9) ek_9 ?_
  refine k_ast X hE hP hD hS 1 rfl (ln + 1 + 1) rfl (by omega) (by decide) [(h0, .inr (7, [.ref htb, .int (nI (ln + 1 + 1)), .int t0, .int t1, .int t2, .int t3, .int t4, .int t5, .int t6])), (htb, .inl (cA, 6000, .inl (upd g_6 (ln + 1 + 1) (nI k_9))))] rfl dX7_add_32 (fun H locs hP hD hS => ?_)
  obtain ⟨g_10, eg_10⟩ : ∃ z, z = upd g_6 (ln + 1 + 1) (nI k_9) := ⟨_, rfl⟩
  rw [← eg_10] at hP hD
  have hP : va_P D classes [(h0, .inr (7, [.ref htb, .int (nI (ln + 1 + 1)), .int t0, .int t1, .int t2, .int t3, .int t4, .int t5, .int t6])), (htb, .inl (cA, 6000, .inl g_10))] H := hP
  have hD : va_D A [(h0, .inr (7, [.ref htb, .int (nI (ln + 1 + 1)), .int t0, .int t1, .int t2, .int t3, .int t4, .int t5, .int t6])), (htb, .inl (cA, 6000, .inl g_10))] := hD
  refine lv_aload_n hx hb dX7_add_33 rfl (lv_at hl 1 rfl) ?_
  refine lv_dup hx hb dX7_add_34 rfl ?_
  refine k_get (C := RX7) (T := TX7) (N := 9) (ci := 7) (v := .int (nI (ln + 1 + 1))) X hE hP 0 rfl rfl iX7 1 (by decide) w_353 rfl dX7_add_35 ?_
  refine lv_iconst (v := 1) hx hb dX7_add_38 (by decide) ?_
  refine lv_iadd hx hb dX7_add_39 ?_
  refine tk (y := nI (ln + 1 + 1 + 1)) (nI_add (ln + 1 + 1) 1) ?_
  refine k_put (C := RX7) (T := TX7) (N := 9) (ci := 7) (v := .int (nI (ln + 1 + 1 + 1))) (ty := .int) X hE hP hD hS 0 rfl rfl iX7 tyX7 tyX7_ok nmX7 1 (by decide) w_353 rfl (by decide +kernel) rfl rfl (Nat.le_of_ble_eq_true rfl) [(h0, .inr (7, [.ref htb, .int (nI (ln + 1 + 1 + 1)), .int t0, .int t1, .int t2, .int t3, .int t4, .int t5, .int t6])), (htb, .inl (cA, 6000, .inl g_10))] rfl dX7_add_40 (fun H locs hP hD hS => ?_)
  refine lv_iinc (v := 0) (lv' := [(2, .int 0), (0, .ref h0), (1, .int v)]) hx hb dX7_add_43 hl (k := 0) rfl (by decide) (by decide) rfl (fun ls hl => ?_)
  refine lv_goto (tgt := 3) hx hb dX7_add_46 (by decide) ?_
  refine lv_iload_n hx hb dX7_add_3 rfl (lv_at hl 0 rfl) ?_
  refine lv_if_lt (tgt := 49) hx hb dX7_add_4 (by decide) (fun c_4_11 => absurd c_4_11 (by decide)) (fun c_4_11 => ?_)
  refine lv_aload_n hx hb dX7_add_7 rfl (lv_at hl 1 rfl) ?_
  refine k_get (C := RX7) (T := TX7) (N := 9) (ci := 7) (v := .int (nI (ln + 1 + 1 + 1))) X hE hP 0 rfl rfl iX7 1 (by decide) w_353 rfl dX7_add_8 ?_
  refine lv_sipush (v := 6000) hx hb dX7_add_11 (by decide) ?_
  refine lv_icmp_ge (tgt := 49) hx hb dX7_add_14 (by decide) (fun c_14_12 => absurd c_14_12 (nI_ge (a := ln + 1 + 1 + 1) (b := 6000) (by omega) (by decide))) (fun c_14_12 => ?_)
  refine lv_aload_n hx hb dX7_add_17 rfl (lv_at hl 1 rfl) ?_
  refine k_get (C := RX7) (T := TX7) (N := 9) (ci := 7) (v := .ref htb) X hE hP 0 rfl rfl iX7 0 (by decide) w_354 rfl dX7_add_18 ?_
  refine lv_aload_n hx hb dX7_add_21 rfl (lv_at hl 1 rfl) ?_
  refine k_get (C := RX7) (T := TX7) (N := 9) (ci := 7) (v := .int (nI (ln + 1 + 1 + 1))) X hE hP 0 rfl rfl iX7 1 (by decide) w_353 rfl dX7_add_22 ?_
  refine lv_iload_n hx hb dX7_add_25 rfl (lv_at hl 2 rfl) ?_
  refine lv_iload_n hx hb dX7_add_26 rfl (lv_at hl 0 rfl) ?_
  refine lv_ishr hx hb dX7_add_27 ?_
  refine lv_sipush (v := 255) hx hb dX7_add_28 (by decide) ?_
  refine lv_iand hx hb dX7_add_31 ?_
  obtain ⟨k_13, hk_13, ek_13⟩ := pk_andE (v >>> (0 &&& 31)) (m := 255) 8 (by decide)
  have hk_13 : k_13 < 256 := hk_13
  refine tk (y := nI k_13) ek_13 ?_
  refine k_ast X hE hP hD hS 1 rfl (ln + 1 + 1 + 1) rfl (by omega) (by decide) [(h0, .inr (7, [.ref htb, .int (nI (ln + 1 + 1 + 1)), .int t0, .int t1, .int t2, .int t3, .int t4, .int t5, .int t6])), (htb, .inl (cA, 6000, .inl (upd g_10 (ln + 1 + 1 + 1) (nI k_13))))] rfl dX7_add_32 (fun H locs hP hD hS => ?_)
  obtain ⟨g_14, eg_14⟩ : ∃ z, z = upd g_10 (ln + 1 + 1 + 1) (nI k_13) := ⟨_, rfl⟩
  rw [← eg_14] at hP hD
  have hP : va_P D classes [(h0, .inr (7, [.ref htb, .int (nI (ln + 1 + 1 + 1)), .int t0, .int t1, .int t2, .int t3, .int t4, .int t5, .int t6])), (htb, .inl (cA, 6000, .inl g_14))] H := hP
  have hD : va_D A [(h0, .inr (7, [.ref htb, .int (nI (ln + 1 + 1 + 1)), .int t0, .int t1, .int t2, .int t3, .int t4, .int t5, .int t6])), (htb, .inl (cA, 6000, .inl g_14))] := hD
  refine lv_aload_n hx hb dX7_add_33 rfl (lv_at hl 1 rfl) ?_
  refine lv_dup hx hb dX7_add_34 rfl ?_
  refine k_get (C := RX7) (T := TX7) (N := 9) (ci := 7) (v := .int (nI (ln + 1 + 1 + 1))) X hE hP 0 rfl rfl iX7 1 (by decide) w_353 rfl dX7_add_35 ?_
  refine lv_iconst (v := 1) hx hb dX7_add_38 (by decide) ?_
  refine lv_iadd hx hb dX7_add_39 ?_
  refine tk (y := nI (ln + 1 + 1 + 1 + 1)) (nI_add (ln + 1 + 1 + 1) 1) ?_
  refine k_put (C := RX7) (T := TX7) (N := 9) (ci := 7) (v := .int (nI (ln + 1 + 1 + 1 + 1))) (ty := .int) X hE hP hD hS 0 rfl rfl iX7 tyX7 tyX7_ok nmX7 1 (by decide) w_353 rfl (by decide +kernel) rfl rfl (Nat.le_of_ble_eq_true rfl) [(h0, .inr (7, [.ref htb, .int (nI (ln + 1 + 1 + 1 + 1)), .int t0, .int t1, .int t2, .int t3, .int t4, .int t5, .int t6])), (htb, .inl (cA, 6000, .inl g_14))] rfl dX7_add_40 (fun H locs hP hD hS => ?_)
  refine lv_iinc (v := (-8)) (lv' := [(2, .int (-8)), (0, .ref h0), (1, .int v)]) hx hb dX7_add_43 hl (k := 0) rfl (by decide) (by decide) rfl (fun ls hl => ?_)
  refine lv_goto (tgt := 3) hx hb dX7_add_46 (by decide) ?_
  refine lv_iload_n hx hb dX7_add_3 rfl (lv_at hl 0 rfl) ?_
  refine lv_if_lt (tgt := 49) hx hb dX7_add_4 (by decide) (fun c_4_15 => ?_) (fun c_4_15 => absurd (by decide) c_4_15)
  exact endV X hr hlocks hP hD hS dX7_add_49 ⟨g_14, rfl⟩
set_option maxHeartbeats 4000000 in
set_option maxRecDepth 100000 in
theorem c_s_hasRoom (l : Launch) (D : va_G) (cA cB : ClassId) (h0 : Nat) (htb : Nat) (ln : Nat) (t0 : Int32) (t1 : Int32) (t2 : Int32) (t3 : Int32) (t4 : Int32) (t5 : Int32) (t6 : Int32) (hln : ln < 6001) : CI l yX7_hasRoom cX7_hasRoom 2 (some .boolean) 0 0 0 0 D cA cB [.ref h0, .int 20] [(h0, .inr (7, [.ref htb, .int (nI ln), .int t0, .int t1, .int t2, .int t3, .int t4, .int t5, .int t6]))] (fun r W1 => ∃ (rk : Nat), r = nI rk ∧ ((rk = 1 ∧ ln + 20 ≤ 6000) ∨ (rk = 0 ∧ 6000 < ln + 20)) ∧ W1 = [(h0, .inr (7, [.ref htb, .int (nI ln), .int t0, .int t1, .int t2, .int t3, .int t4, .int t5, .int t6]))]) := by
  refine mkI (lv0 := [(0, .ref h0), (1, .int 20)]) (by decide) (Nat.le_of_ble_eq_true rfl) rfl ?_
  intro p e s m below meth c A ls X hr hlocks hnm hE hA hP hD hS hl
  have hx := X.1
  have hb := X.2.1
  refine lv_aload_n hx hb dX7_hasRoom_0 rfl (lv_at hl 0 rfl) ?_
  refine k_get (C := RX7) (T := TX7) (N := 9) (ci := 7) (v := .int (nI ln)) X hE hP 0 rfl rfl iX7 1 (by decide) w_353 rfl dX7_hasRoom_1 ?_
  refine lv_iload_n hx hb dX7_hasRoom_4 rfl (lv_at hl 1 rfl) ?_
  refine lv_iadd hx hb dX7_hasRoom_5 ?_
  refine tk (y := nI (ln + 20)) (nI_add ln 20) ?_
  refine lv_sipush (v := 6000) hx hb dX7_hasRoom_6 (by decide) ?_
  refine lv_icmp_gt (tgt := 16) hx hb dX7_hasRoom_9 (by decide) (fun c_9_1 => ?_) (fun c_9_1 => ?_)
  · have nc_9_1 : 6000 < (ln + 20) := (nI_ltI (a := 6000) (b := ln + 20) (by omega) (by omega)).mp c_9_1
    refine lv_iconst (v := 0) hx hb dX7_hasRoom_16 (by decide) ?_
    exact endZ X hr rfl hlocks hP hD hS dX7_hasRoom_17 ⟨0, rfl, (Or.inr ⟨rfl, by omega⟩), rfl⟩
  · have nc_9_1 : (ln + 20) ≤ 6000 := Nat.not_lt.mp (fun q => c_9_1 ((nI_ltI (a := 6000) (b := ln + 20) (by omega) (by omega)).mpr q))
    refine lv_iconst (v := 1) hx hb dX7_hasRoom_12 (by decide) ?_
    refine lv_goto (tgt := 17) hx hb dX7_hasRoom_13 (by decide) ?_
    exact endZ X hr rfl hlocks hP hD hS dX7_hasRoom_17 ⟨1, rfl, (Or.inl ⟨rfl, by omega⟩), rfl⟩
set_option maxHeartbeats 4000000 in
set_option maxRecDepth 100000 in
theorem c_s_feed (l : Launch) (D : va_G) (cA cB : ClassId) (h0 : Nat) (hn : Nat) (hs : Nat) (hd : Nat) (hp : Nat) (qr : Nat) (qst : Nat) (qa : Nat) (qm : Nat) (qe : Nat) (htb : Nat) (ln : Nat) (t0 : Int32) (t1 : Int32) (t2 : Int32) (t3 : Int32) (t4 : Int32) (t5 : Int32) (t6 : Int32) (tb : Nat → Int32) (v1 : Int32) (v2 : Int32) (v3 : Int32) (v4 : Int32) (v5 : Int32) (hln : ln < 6001) : CI l yX8_feed cX8_feed 6 (some .int) 1 22 0 0 D cA cB [.ref h0, .int v1, .int v2, .int v3, .int v4, .int v5] [(h0, .inr (8, [.ref hn, .ref hs, .ref hd, .ref hp, .ref qr, .ref qst, .ref qa, .ref qm, .ref qe])), (qa, .inr (7, [.ref htb, .int (nI ln), .int t0, .int t1, .int t2, .int t3, .int t4, .int t5, .int t6])), (htb, .inl (cA, 6000, .inl tb))] (fun r W1 => ∃ (tb2 : Nat → Int32) (ln2 : Nat) (rv : Int32), r = rv ∧ ((ln + 20 ≤ 6000 ∧ rv = nI (ln + 20) ∧ ln2 = ln + 20) ∨ (6000 < ln + 20 ∧ rv = -1 ∧ ln2 = ln)) ∧ W1 = [(h0, .inr (8, [.ref hn, .ref hs, .ref hd, .ref hp, .ref qr, .ref qst, .ref qa, .ref qm, .ref qe])), (qa, .inr (7, [.ref htb, .int (nI ln2), .int t0, .int t1, .int t2, .int t3, .int t4, .int t5, .int t6])), (htb, .inl (cA, 6000, .inl tb2))]) := by
  refine mkI (lv0 := [(0, .ref h0), (1, .int v1), (2, .int v2), (3, .int v3), (4, .int v4), (5, .int v5)]) (by decide) (Nat.le_of_ble_eq_true rfl) rfl ?_
  intro p e s m below meth c A ls X hr hlocks hnm hE hA hP hD hS hl
  have hx := X.1
  have hb := X.2.1
  refine lv_aload_n hx hb dX8_feed_0 rfl (lv_at hl 0 rfl) ?_
  refine k_get (C := RX8) (T := TX8) (N := 9) (ci := 8) (v := .ref qa) X hE hP 0 rfl rfl iX8 6 (by decide) w_355 rfl dX8_feed_1 ?_
  refine lv_bipush (v := 20) hx hb dX8_feed_4 (by decide) ?_
  refine kVi (n3 := 1) (As := [.int 20]) (rest := []) X hl.1 hE hP hD hS hA [(qa, .inr (7, [.ref htb, .int (nI ln), .int t0, .int t1, .int t2, .int t3, .int t4, .int t5, .int t6]))] [(h0, .inr (8, [.ref hn, .ref hs, .ref hd, .ref hp, .ref qr, .ref qst, .ref qa, .ref qm, .ref qe])), (htb, .inl (cA, 6000, .inl tb))] [1] [0, 2] rfl rfl rfl (by decide) (by decide) (by decide) (c_s_hasRoom l D cA cB qa htb ln t0 t1 t2 t3 t4 t5 t6 (by first | assumption | decide | rfl | omega)) w_357 w_358 w_356 w_359 w_360 0 (ci := 7) (T := TX7) (N := 9) rfl rfl (by decide +kernel) rfl rfl (Nat.le_of_ble_eq_true rfl) ⟨(Nat.le_of_ble_eq_true rfl), (Nat.le_of_ble_eq_true rfl)⟩ ⟨(Nat.le_of_ble_eq_true rfl), (Nat.le_of_ble_eq_true rfl)⟩ dX8_feed_6 (fun r W1 H locs hw hP hD hS => ?_)
  obtain ⟨rk_1, rfl, hf_2, rfl⟩ := hw
  have hP : va_P D classes [(h0, .inr (8, [.ref hn, .ref hs, .ref hd, .ref hp, .ref qr, .ref qst, .ref qa, .ref qm, .ref qe])), (htb, .inl (cA, 6000, .inl tb)), (qa, .inr (7, [.ref htb, .int (nI ln), .int t0, .int t1, .int t2, .int t3, .int t4, .int t5, .int t6]))] H := hP
  have hD : va_D A [(h0, .inr (8, [.ref hn, .ref hs, .ref hd, .ref hp, .ref qr, .ref qst, .ref qa, .ref qm, .ref qe])), (htb, .inl (cA, 6000, .inl tb)), (qa, .inr (7, [.ref htb, .int (nI ln), .int t0, .int t1, .int t2, .int t3, .int t4, .int t5, .int t6]))] := hD
  refine lv_if_ne (tgt := 14) hx hb dX8_feed_9 (by decide) (fun c_9_3 => ?_) (fun c_9_3 => ?_)
  · have nc_9_3 : ¬ rk_1 = 0 := fun q => c_9_3 ((nI_eq (a := rk_1) (b := 0) (by omega) (by omega)).mpr q)
    refine lv_aload_n hx hb dX8_feed_14 rfl (lv_at hl 0 rfl) ?_
    refine k_get (C := RX8) (T := TX8) (N := 9) (ci := 8) (v := .ref qa) X hE hP 0 rfl rfl iX8 6 (by decide) w_355 rfl dX8_feed_15 ?_
    refine lv_iload_n hx hb dX8_feed_18 rfl (lv_at hl 1 rfl) ?_
    refine kVv (n3 := 1) (As := [.int v1]) (rest := []) X hl.1 hE hP hD hS hA [(qa, .inr (7, [.ref htb, .int (nI ln), .int t0, .int t1, .int t2, .int t3, .int t4, .int t5, .int t6])), (htb, .inl (cA, 6000, .inl tb))] [(h0, .inr (8, [.ref hn, .ref hs, .ref hd, .ref hp, .ref qr, .ref qst, .ref qa, .ref qm, .ref qe]))] [2, 1] [0] rfl rfl rfl (by decide) (by decide) (by decide) (c_s_tadd l D cA cB qa htb ln t0 t1 t2 t3 t4 t5 t6 tb v1 (by omega)) w_362 w_358 w_361 w_363 w_364 0 (ci := 7) (T := TX7) (N := 9) rfl rfl (by decide +kernel) rfl rfl (Nat.le_of_ble_eq_true rfl) ⟨(Nat.le_of_ble_eq_true rfl), (Nat.le_of_ble_eq_true rfl)⟩ ⟨(Nat.le_of_ble_eq_true rfl), (Nat.le_of_ble_eq_true rfl)⟩ dX8_feed_19 (fun W1 H locs hw hP hD hS => ?_)
    obtain ⟨tb2_4, rfl⟩ := hw
    have hP : va_P D classes [(h0, .inr (8, [.ref hn, .ref hs, .ref hd, .ref hp, .ref qr, .ref qst, .ref qa, .ref qm, .ref qe])), (qa, .inr (7, [.ref htb, .int (nI (ln + 4)), .int t0, .int t1, .int t2, .int t3, .int t4, .int t5, .int t6])), (htb, .inl (cA, 6000, .inl tb2_4))] H := hP
    have hD : va_D A [(h0, .inr (8, [.ref hn, .ref hs, .ref hd, .ref hp, .ref qr, .ref qst, .ref qa, .ref qm, .ref qe])), (qa, .inr (7, [.ref htb, .int (nI (ln + 4)), .int t0, .int t1, .int t2, .int t3, .int t4, .int t5, .int t6])), (htb, .inl (cA, 6000, .inl tb2_4))] := hD
    refine lv_aload_n hx hb dX8_feed_22 rfl (lv_at hl 0 rfl) ?_
    refine k_get (C := RX8) (T := TX8) (N := 9) (ci := 8) (v := .ref qa) X hE hP 0 rfl rfl iX8 6 (by decide) w_355 rfl dX8_feed_23 ?_
    refine lv_iload_n hx hb dX8_feed_26 rfl (lv_at hl 2 rfl) ?_
    refine kVv (n3 := 1) (As := [.int v2]) (rest := []) X hl.1 hE hP hD hS hA [(qa, .inr (7, [.ref htb, .int (nI (ln + 4)), .int t0, .int t1, .int t2, .int t3, .int t4, .int t5, .int t6])), (htb, .inl (cA, 6000, .inl tb2_4))] [(h0, .inr (8, [.ref hn, .ref hs, .ref hd, .ref hp, .ref qr, .ref qst, .ref qa, .ref qm, .ref qe]))] [1, 2] [0] rfl rfl rfl (by decide) (by decide) (by decide) (c_s_tadd l D cA cB qa htb (ln + 4) t0 t1 t2 t3 t4 t5 t6 tb2_4 v2 (by omega)) w_362 w_358 w_361 w_363 w_364 0 (ci := 7) (T := TX7) (N := 9) rfl rfl (by decide +kernel) rfl rfl (Nat.le_of_ble_eq_true rfl) ⟨(Nat.le_of_ble_eq_true rfl), (Nat.le_of_ble_eq_true rfl)⟩ ⟨(Nat.le_of_ble_eq_true rfl), (Nat.le_of_ble_eq_true rfl)⟩ dX8_feed_27 (fun W1 H locs hw hP hD hS => ?_)
    obtain ⟨tb2_5, rfl⟩ := hw
    have hP : va_P D classes [(h0, .inr (8, [.ref hn, .ref hs, .ref hd, .ref hp, .ref qr, .ref qst, .ref qa, .ref qm, .ref qe])), (qa, .inr (7, [.ref htb, .int (nI ((ln + 4) + 4)), .int t0, .int t1, .int t2, .int t3, .int t4, .int t5, .int t6])), (htb, .inl (cA, 6000, .inl tb2_5))] H := hP
    have hD : va_D A [(h0, .inr (8, [.ref hn, .ref hs, .ref hd, .ref hp, .ref qr, .ref qst, .ref qa, .ref qm, .ref qe])), (qa, .inr (7, [.ref htb, .int (nI ((ln + 4) + 4)), .int t0, .int t1, .int t2, .int t3, .int t4, .int t5, .int t6])), (htb, .inl (cA, 6000, .inl tb2_5))] := hD
    refine lv_aload_n hx hb dX8_feed_30 rfl (lv_at hl 0 rfl) ?_
    refine k_get (C := RX8) (T := TX8) (N := 9) (ci := 8) (v := .ref qa) X hE hP 0 rfl rfl iX8 6 (by decide) w_355 rfl dX8_feed_31 ?_
    refine lv_iload_n hx hb dX8_feed_34 rfl (lv_at hl 3 rfl) ?_
    refine kVv (n3 := 1) (As := [.int v3]) (rest := []) X hl.1 hE hP hD hS hA [(qa, .inr (7, [.ref htb, .int (nI ((ln + 4) + 4)), .int t0, .int t1, .int t2, .int t3, .int t4, .int t5, .int t6])), (htb, .inl (cA, 6000, .inl tb2_5))] [(h0, .inr (8, [.ref hn, .ref hs, .ref hd, .ref hp, .ref qr, .ref qst, .ref qa, .ref qm, .ref qe]))] [1, 2] [0] rfl rfl rfl (by decide) (by decide) (by decide) (c_s_tadd l D cA cB qa htb ((ln + 4) + 4) t0 t1 t2 t3 t4 t5 t6 tb2_5 v3 (by omega)) w_362 w_358 w_361 w_363 w_364 0 (ci := 7) (T := TX7) (N := 9) rfl rfl (by decide +kernel) rfl rfl (Nat.le_of_ble_eq_true rfl) ⟨(Nat.le_of_ble_eq_true rfl), (Nat.le_of_ble_eq_true rfl)⟩ ⟨(Nat.le_of_ble_eq_true rfl), (Nat.le_of_ble_eq_true rfl)⟩ dX8_feed_35 (fun W1 H locs hw hP hD hS => ?_)
    obtain ⟨tb2_6, rfl⟩ := hw
    have hP : va_P D classes [(h0, .inr (8, [.ref hn, .ref hs, .ref hd, .ref hp, .ref qr, .ref qst, .ref qa, .ref qm, .ref qe])), (qa, .inr (7, [.ref htb, .int (nI (((ln + 4) + 4) + 4)), .int t0, .int t1, .int t2, .int t3, .int t4, .int t5, .int t6])), (htb, .inl (cA, 6000, .inl tb2_6))] H := hP
    have hD : va_D A [(h0, .inr (8, [.ref hn, .ref hs, .ref hd, .ref hp, .ref qr, .ref qst, .ref qa, .ref qm, .ref qe])), (qa, .inr (7, [.ref htb, .int (nI (((ln + 4) + 4) + 4)), .int t0, .int t1, .int t2, .int t3, .int t4, .int t5, .int t6])), (htb, .inl (cA, 6000, .inl tb2_6))] := hD
    refine lv_aload_n hx hb dX8_feed_38 rfl (lv_at hl 0 rfl) ?_
    refine k_get (C := RX8) (T := TX8) (N := 9) (ci := 8) (v := .ref qa) X hE hP 0 rfl rfl iX8 6 (by decide) w_355 rfl dX8_feed_39 ?_
    refine lv_iload hx hb dX8_feed_42 (lv_at hl 4 rfl) ?_
    refine kVv (n3 := 1) (As := [.int v4]) (rest := []) X hl.1 hE hP hD hS hA [(qa, .inr (7, [.ref htb, .int (nI (((ln + 4) + 4) + 4)), .int t0, .int t1, .int t2, .int t3, .int t4, .int t5, .int t6])), (htb, .inl (cA, 6000, .inl tb2_6))] [(h0, .inr (8, [.ref hn, .ref hs, .ref hd, .ref hp, .ref qr, .ref qst, .ref qa, .ref qm, .ref qe]))] [1, 2] [0] rfl rfl rfl (by decide) (by decide) (by decide) (c_s_tadd l D cA cB qa htb (((ln + 4) + 4) + 4) t0 t1 t2 t3 t4 t5 t6 tb2_6 v4 (by omega)) w_362 w_358 w_361 w_363 w_364 0 (ci := 7) (T := TX7) (N := 9) rfl rfl (by decide +kernel) rfl rfl (Nat.le_of_ble_eq_true rfl) ⟨(Nat.le_of_ble_eq_true rfl), (Nat.le_of_ble_eq_true rfl)⟩ ⟨(Nat.le_of_ble_eq_true rfl), (Nat.le_of_ble_eq_true rfl)⟩ dX8_feed_44 (fun W1 H locs hw hP hD hS => ?_)
    obtain ⟨tb2_7, rfl⟩ := hw
    have hP : va_P D classes [(h0, .inr (8, [.ref hn, .ref hs, .ref hd, .ref hp, .ref qr, .ref qst, .ref qa, .ref qm, .ref qe])), (qa, .inr (7, [.ref htb, .int (nI ((((ln + 4) + 4) + 4) + 4)), .int t0, .int t1, .int t2, .int t3, .int t4, .int t5, .int t6])), (htb, .inl (cA, 6000, .inl tb2_7))] H := hP
    have hD : va_D A [(h0, .inr (8, [.ref hn, .ref hs, .ref hd, .ref hp, .ref qr, .ref qst, .ref qa, .ref qm, .ref qe])), (qa, .inr (7, [.ref htb, .int (nI ((((ln + 4) + 4) + 4) + 4)), .int t0, .int t1, .int t2, .int t3, .int t4, .int t5, .int t6])), (htb, .inl (cA, 6000, .inl tb2_7))] := hD
    refine lv_aload_n hx hb dX8_feed_47 rfl (lv_at hl 0 rfl) ?_
    refine k_get (C := RX8) (T := TX8) (N := 9) (ci := 8) (v := .ref qa) X hE hP 0 rfl rfl iX8 6 (by decide) w_355 rfl dX8_feed_48 ?_
    refine lv_iload hx hb dX8_feed_51 (lv_at hl 5 rfl) ?_
    refine kVv (n3 := 1) (As := [.int v5]) (rest := []) X hl.1 hE hP hD hS hA [(qa, .inr (7, [.ref htb, .int (nI ((((ln + 4) + 4) + 4) + 4)), .int t0, .int t1, .int t2, .int t3, .int t4, .int t5, .int t6])), (htb, .inl (cA, 6000, .inl tb2_7))] [(h0, .inr (8, [.ref hn, .ref hs, .ref hd, .ref hp, .ref qr, .ref qst, .ref qa, .ref qm, .ref qe]))] [1, 2] [0] rfl rfl rfl (by decide) (by decide) (by decide) (c_s_tadd l D cA cB qa htb ((((ln + 4) + 4) + 4) + 4) t0 t1 t2 t3 t4 t5 t6 tb2_7 v5 (by omega)) w_362 w_358 w_361 w_363 w_364 0 (ci := 7) (T := TX7) (N := 9) rfl rfl (by decide +kernel) rfl rfl (Nat.le_of_ble_eq_true rfl) ⟨(Nat.le_of_ble_eq_true rfl), (Nat.le_of_ble_eq_true rfl)⟩ ⟨(Nat.le_of_ble_eq_true rfl), (Nat.le_of_ble_eq_true rfl)⟩ dX8_feed_53 (fun W1 H locs hw hP hD hS => ?_)
    obtain ⟨tb2_8, rfl⟩ := hw
    have hP : va_P D classes [(h0, .inr (8, [.ref hn, .ref hs, .ref hd, .ref hp, .ref qr, .ref qst, .ref qa, .ref qm, .ref qe])), (qa, .inr (7, [.ref htb, .int (nI (((((ln + 4) + 4) + 4) + 4) + 4)), .int t0, .int t1, .int t2, .int t3, .int t4, .int t5, .int t6])), (htb, .inl (cA, 6000, .inl tb2_8))] H := hP
    have hD : va_D A [(h0, .inr (8, [.ref hn, .ref hs, .ref hd, .ref hp, .ref qr, .ref qst, .ref qa, .ref qm, .ref qe])), (qa, .inr (7, [.ref htb, .int (nI (((((ln + 4) + 4) + 4) + 4) + 4)), .int t0, .int t1, .int t2, .int t3, .int t4, .int t5, .int t6])), (htb, .inl (cA, 6000, .inl tb2_8))] := hD
    refine lv_aload_n hx hb dX8_feed_56 rfl (lv_at hl 0 rfl) ?_
    refine k_get (C := RX8) (T := TX8) (N := 9) (ci := 8) (v := .ref qa) X hE hP 0 rfl rfl iX8 6 (by decide) w_355 rfl dX8_feed_57 ?_
    refine k_getN (C := RX7) (T := TX7) (N := 9) (ci := 7) (v := .int (nI (((((ln + 4) + 4) + 4) + 4) + 4))) X hE hP 1 rfl rfl iX7 1 (by decide) nw_12 rfl dX8_feed_60 ?_
    exact endI X hr hlocks hP hD hS dX8_feed_63 ⟨tb2_8, (((((ln + 4) + 4) + 4) + 4) + 4), (nI (((((ln + 4) + 4) + 4) + 4) + 4)), rfl, (Or.inl ⟨by omega, rfl, rfl⟩), rfl⟩
  · have nc_9_3 : rk_1 = 0 := (nI_eq (a := rk_1) (b := 0) (by omega) (by omega)).mp c_9_3
    refine lv_iconst (v := (-1)) hx hb dX8_feed_12 (by decide) ?_
    have hP : va_P D classes [(h0, .inr (8, [.ref hn, .ref hs, .ref hd, .ref hp, .ref qr, .ref qst, .ref qa, .ref qm, .ref qe])), (qa, .inr (7, [.ref htb, .int (nI ln), .int t0, .int t1, .int t2, .int t3, .int t4, .int t5, .int t6])), (htb, .inl (cA, 6000, .inl tb))] _ := hP.sub [0, 2, 1] rfl
    have hD : va_D A [(h0, .inr (8, [.ref hn, .ref hs, .ref hd, .ref hp, .ref qr, .ref qst, .ref qa, .ref qm, .ref qe])), (qa, .inr (7, [.ref htb, .int (nI ln), .int t0, .int t1, .int t2, .int t3, .int t4, .int t5, .int t6])), (htb, .inl (cA, 6000, .inl tb))] := hD.sub [0, 2, 1] (by decide) rfl
    exact endI X hr hlocks hP hD hS dX8_feed_13 ⟨tb, ln, (-1), rfl, (Or.inr ⟨by omega, rfl, rfl⟩), rfl⟩
