abbrev cX6_set : ByteArray := prog_8_method_2_code
def yX6_set : MethodName := ⟨RX6, "set", "(I)I"⟩
abbrev cX6_lift : ByteArray := prog_8_method_3_code
def yX6_lift : MethodName := ⟨RX6, "lift", "(I)I"⟩
abbrev cX8_stop : ByteArray := prog_1_method_12_code
def yX8_stop : MethodName := ⟨RX8, "stop", "(IZ)I"⟩
set_option maxRecDepth 100000 in
theorem w_344 : (Cond.methodLink "BelfryBox$Stops" 15 yX6_find : Cond) ∈ gw := List.mem_filter.mpr ⟨List.mem_append_right _ (tb3 (List.mem_of_getElem? (i := 160) rfl)), rfl⟩
set_option maxRecDepth 100000 in
theorem w_345 : (Cond.methodLink "BelfryBox" 134 yX6_lift : Cond) ∈ gw := List.mem_filter.mpr ⟨List.mem_append_right _ (tb3 (List.mem_of_getElem? (i := 164) rfl)), rfl⟩
set_option maxRecDepth 100000 in
theorem w_346 : (Cond.code yX6_lift prog_8_method_3_code 3 (Option.some Jvm.ClassFile.FieldType.int) : Cond) ∈ gw := List.mem_filter.mpr ⟨List.mem_append_right _ (tb3 (List.mem_of_getElem? (i := 167) rfl)), rfl⟩
set_option maxRecDepth 100000 in
theorem w_347 : (Cond.instanceMethod yX6_lift : Cond) ∈ gw := List.mem_filter.mpr ⟨List.mem_append_right _ (tb3 (List.mem_of_getElem? (i := 165) rfl)), rfl⟩
set_option maxRecDepth 100000 in
theorem w_348 : (Cond.selects "BelfryBox$Stops" yX6_lift yX6_lift : Cond) ∈ gw := List.mem_filter.mpr ⟨List.mem_append_right _ (tb3 (List.mem_of_getElem? (i := 166) rfl)), rfl⟩
set_option maxRecDepth 100000 in
theorem w_349 : (Cond.methodLink "BelfryBox" 130 yX6_set : Cond) ∈ gw := List.mem_filter.mpr ⟨List.mem_append_right _ (tb3 (List.mem_of_getElem? (i := 156) rfl)), rfl⟩
set_option maxRecDepth 100000 in
theorem w_350 : (Cond.code yX6_set prog_8_method_2_code 2 (Option.some Jvm.ClassFile.FieldType.int) : Cond) ∈ gw := List.mem_filter.mpr ⟨List.mem_append_right _ (tb3 (List.mem_of_getElem? (i := 159) rfl)), rfl⟩
set_option maxRecDepth 100000 in
theorem w_351 : (Cond.instanceMethod yX6_set : Cond) ∈ gw := List.mem_filter.mpr ⟨List.mem_append_right _ (tb3 (List.mem_of_getElem? (i := 157) rfl)), rfl⟩
set_option maxRecDepth 100000 in
theorem w_352 : (Cond.selects "BelfryBox$Stops" yX6_set yX6_set : Cond) ∈ gw := List.mem_filter.mpr ⟨List.mem_append_right _ (tb3 (List.mem_of_getElem? (i := 158) rfl)), rfl⟩
theorem dX6_set_0 : decode cX6_set 0 = .ok (.aload_n 0, 1) := by decide +kernel
theorem dX6_set_1 : decode cX6_set 1 = .ok (.iload_n 1, 1) := by decide +kernel
theorem dX6_set_2 : decode cX6_set 2 = .ok (.invokevirtual 15, 3) := by decide +kernel
theorem dX6_set_5 : decode cX6_set 5 = .ok (.iconst (-1), 1) := by decide +kernel
theorem dX6_set_6 : decode cX6_set 6 = .ok (.if_icmp .eq 8, 3) := by decide +kernel
theorem dX6_set_14 : decode cX6_set 14 = .ok (.aload_n 0, 1) := by decide +kernel
theorem dX6_set_15 : decode cX6_set 15 = .ok (.getfield 19, 3) := by decide +kernel
theorem dX6_set_18 : decode cX6_set 18 = .ok (.bipush 16, 2) := by decide +kernel
theorem dX6_set_20 : decode cX6_set 20 = .ok (.if_icmp .lt 5, 3) := by decide +kernel
theorem dX6_set_25 : decode cX6_set 25 = .ok (.aload_n 0, 1) := by decide +kernel
theorem dX6_set_26 : decode cX6_set 26 = .ok (.getfield 11, 3) := by decide +kernel
theorem dX6_set_29 : decode cX6_set 29 = .ok (.aload_n 0, 1) := by decide +kernel
theorem dX6_set_30 : decode cX6_set 30 = .ok (.getfield 19, 3) := by decide +kernel
theorem dX6_set_33 : decode cX6_set 33 = .ok (.iload_n 1, 1) := by decide +kernel
theorem dX6_set_34 : decode cX6_set 34 = .ok (.iastore, 1) := by decide +kernel
theorem dX6_set_35 : decode cX6_set 35 = .ok (.aload_n 0, 1) := by decide +kernel
theorem dX6_set_36 : decode cX6_set 36 = .ok (.dup, 1) := by decide +kernel
theorem dX6_set_37 : decode cX6_set 37 = .ok (.getfield 19, 3) := by decide +kernel
theorem dX6_set_40 : decode cX6_set 40 = .ok (.iconst 1, 1) := by decide +kernel
theorem dX6_set_41 : decode cX6_set 41 = .ok (.iadd, 1) := by decide +kernel
theorem dX6_set_42 : decode cX6_set 42 = .ok (.putfield 19, 3) := by decide +kernel
theorem dX6_set_45 : decode cX6_set 45 = .ok (.aload_n 0, 1) := by decide +kernel
theorem dX6_set_46 : decode cX6_set 46 = .ok (.getfield 19, 3) := by decide +kernel
theorem dX6_set_49 : decode cX6_set 49 = .ok (.ireturn, 1) := by decide +kernel
theorem dX6_set_23 : decode cX6_set 23 = .ok (.iconst (-1), 1) := by decide +kernel
theorem dX6_set_24 : decode cX6_set 24 = .ok (.ireturn, 1) := by decide +kernel
theorem dX6_set_9 : decode cX6_set 9 = .ok (.aload_n 0, 1) := by decide +kernel
theorem dX6_set_10 : decode cX6_set 10 = .ok (.getfield 19, 3) := by decide +kernel
theorem dX6_set_13 : decode cX6_set 13 = .ok (.ireturn, 1) := by decide +kernel
theorem dX6_lift_0 : decode cX6_lift 0 = .ok (.aload_n 0, 1) := by decide +kernel
theorem dX6_lift_1 : decode cX6_lift 1 = .ok (.iload_n 1, 1) := by decide +kernel
theorem dX6_lift_2 : decode cX6_lift 2 = .ok (.invokevirtual 15, 3) := by decide +kernel
theorem dX6_lift_5 : decode cX6_lift 5 = .ok (.istore_n 2, 1) := by decide +kernel
theorem dX6_lift_6 : decode cX6_lift 6 = .ok (.iload_n 2, 1) := by decide +kernel
theorem dX6_lift_7 : decode cX6_lift 7 = .ok (.iconst (-1), 1) := by decide +kernel
theorem dX6_lift_8 : decode cX6_lift 8 = .ok (.if_icmp .eq 28, 3) := by decide +kernel
theorem dX6_lift_36 : decode cX6_lift 36 = .ok (.aload_n 0, 1) := by decide +kernel
theorem dX6_lift_37 : decode cX6_lift 37 = .ok (.getfield 19, 3) := by decide +kernel
theorem dX6_lift_40 : decode cX6_lift 40 = .ok (.ireturn, 1) := by decide +kernel
theorem dX6_lift_11 : decode cX6_lift 11 = .ok (.aload_n 0, 1) := by decide +kernel
theorem dX6_lift_12 : decode cX6_lift 12 = .ok (.dup, 1) := by decide +kernel
theorem dX6_lift_13 : decode cX6_lift 13 = .ok (.getfield 19, 3) := by decide +kernel
theorem dX6_lift_16 : decode cX6_lift 16 = .ok (.iconst 1, 1) := by decide +kernel
theorem dX6_lift_17 : decode cX6_lift 17 = .ok (.isub, 1) := by decide +kernel
theorem dX6_lift_18 : decode cX6_lift 18 = .ok (.putfield 19, 3) := by decide +kernel
theorem dX6_lift_21 : decode cX6_lift 21 = .ok (.aload_n 0, 1) := by decide +kernel
theorem dX6_lift_22 : decode cX6_lift 22 = .ok (.getfield 11, 3) := by decide +kernel
theorem dX6_lift_25 : decode cX6_lift 25 = .ok (.iload_n 2, 1) := by decide +kernel
theorem dX6_lift_26 : decode cX6_lift 26 = .ok (.aload_n 0, 1) := by decide +kernel
theorem dX6_lift_27 : decode cX6_lift 27 = .ok (.getfield 11, 3) := by decide +kernel
theorem dX6_lift_30 : decode cX6_lift 30 = .ok (.aload_n 0, 1) := by decide +kernel
theorem dX6_lift_31 : decode cX6_lift 31 = .ok (.getfield 19, 3) := by decide +kernel
theorem dX6_lift_34 : decode cX6_lift 34 = .ok (.iaload, 1) := by decide +kernel
theorem dX6_lift_35 : decode cX6_lift 35 = .ok (.iastore, 1) := by decide +kernel
theorem dX8_stop_0 : decode cX8_stop 0 = .ok (.iload_n 1, 1) := by decide +kernel
theorem dX8_stop_1 : decode cX8_stop 1 = .ok (.invokestatic 115, 3) := by decide +kernel
theorem dX8_stop_4 : decode cX8_stop 4 = .ok (.ifCond .ne 5, 3) := by decide +kernel
theorem dX8_stop_9 : decode cX8_stop 9 = .ok (.iload_n 2, 1) := by decide +kernel
theorem dX8_stop_10 : decode cX8_stop 10 = .ok (.ifCond .eq 14, 3) := by decide +kernel
theorem dX8_stop_24 : decode cX8_stop 24 = .ok (.aload_n 0, 1) := by decide +kernel
theorem dX8_stop_25 : decode cX8_stop 25 = .ok (.getfield 44, 3) := by decide +kernel
theorem dX8_stop_28 : decode cX8_stop 28 = .ok (.iload_n 1, 1) := by decide +kernel
theorem dX8_stop_29 : decode cX8_stop 29 = .ok (.invokevirtual 134, 3) := by decide +kernel
theorem dX8_stop_32 : decode cX8_stop 32 = .ok (.ireturn, 1) := by decide +kernel
theorem dX8_stop_13 : decode cX8_stop 13 = .ok (.aload_n 0, 1) := by decide +kernel
theorem dX8_stop_14 : decode cX8_stop 14 = .ok (.getfield 44, 3) := by decide +kernel
theorem dX8_stop_17 : decode cX8_stop 17 = .ok (.iload_n 1, 1) := by decide +kernel
theorem dX8_stop_18 : decode cX8_stop 18 = .ok (.invokevirtual 130, 3) := by decide +kernel
theorem dX8_stop_21 : decode cX8_stop 21 = .ok (.goto 11, 3) := by decide +kernel
theorem dX8_stop_7 : decode cX8_stop 7 = .ok (.iconst (-1), 1) := by decide +kernel
theorem dX8_stop_8 : decode cX8_stop 8 = .ok (.ireturn, 1) := by decide +kernel
set_option maxHeartbeats 4000000 in
set_option maxRecDepth 100000 in
theorem c_s_set (l : Launch) (D : va_G) (cA cB : ClassId) (h0 : Nat) (hsp : Nat) (cn : Nat) (sg : Nat → Int32) (a : Int32) (hcn : cn < 17) : CI l yX6_set cX6_set 2 (some .int) 1 22 0 0 D cA cB [.ref h0, .int a] [(h0, .inr (6, [.ref hsp, .int (nI cn)])), (hsp, .inl (cA, 16, .inl sg))] (fun r W1 => ∃ (cn2 : Nat) (sg2 : Nat → Int32) (rv : Int32), r = rv ∧ (cn2 < 17) ∧ W1 = [(h0, .inr (6, [.ref hsp, .int (nI cn2)])), (hsp, .inl (cA, 16, .inl sg2))]) := by
  refine mkI (lv0 := [(0, .ref h0), (1, .int a)]) (by decide) (Nat.le_of_ble_eq_true rfl) rfl ?_
  intro p e s m below meth c A ls X hr hlocks hnm hE hA hP hD hS hl
  have hx := X.1
  have hb := X.2.1
  refine lv_aload_n hx hb dX6_set_0 rfl (lv_at hl 0 rfl) ?_
  refine lv_iload_n hx hb dX6_set_1 rfl (lv_at hl 1 rfl) ?_
  refine kVi (n3 := 1) (As := [.int a]) (rest := []) X hl.1 hE hP hD hS hA [(h0, .inr (6, [.ref hsp, .int (nI cn)])), (hsp, .inl (cA, 16, .inl sg))] [] [0, 1] [] rfl rfl rfl (by decide +kernel) (by decide +kernel) (by decide +kernel) (c_s_find l D cA cB h0 hsp cn sg a (by first | assumption | decide | rfl | omega)) w_306 w_307 w_344 w_308 w_309 0 (ci := 6) (T := TX6) (N := 2) rfl rfl (by decide +kernel) rfl rfl (Nat.le_of_ble_eq_true rfl) ⟨(Nat.le_of_ble_eq_true rfl), (Nat.le_of_ble_eq_true rfl)⟩ ⟨(Nat.le_of_ble_eq_true rfl), (Nat.le_of_ble_eq_true rfl)⟩ dX6_set_2 (fun r W1 H locs hw hP hD hS => ?_)
  obtain ⟨rv_1, er_3, hf_2, rfl⟩ := hw
  have hP : va_P D classes [(h0, .inr (6, [.ref hsp, .int (nI cn)])), (hsp, .inl (cA, 16, .inl sg))] H := hP
  have hD : va_D A [(h0, .inr (6, [.ref hsp, .int (nI cn)])), (hsp, .inl (cA, 16, .inl sg))] := hD
  refine tk (y := rv_1) er_3 ?_
  refine lv_iconst (v := (-1)) hx hb dX6_set_5 (by decide) ?_
  refine lv_icmp_eq (tgt := 14) hx hb dX6_set_6 (by decide) (fun c_6 => ?_) (fun c_6 => ?_)
  · skip
    refine lv_aload_n hx hb dX6_set_14 rfl (lv_at hl 0 rfl) ?_
    refine k_get (C := RX6) (T := TX6) (N := 2) (ci := 6) (v := .int (nI cn)) X hE hP 0 rfl rfl iX6 1 (by decide) w_293 rfl dX6_set_15 ?_
    refine lv_bipush (v := 16) hx hb dX6_set_18 (by decide) ?_
    refine lv_icmp_lt (tgt := 25) hx hb dX6_set_20 (by decide) (fun c_20_4 => ?_) (fun c_20_4 => ?_)
    · have nc_20_4 : cn < 16 := (nI_ltI (a := cn) (b := 16) (by omega) (by omega)).mp c_20_4
      refine lv_aload_n hx hb dX6_set_25 rfl (lv_at hl 0 rfl) ?_
      refine k_get (C := RX6) (T := TX6) (N := 2) (ci := 6) (v := .ref hsp) X hE hP 0 rfl rfl iX6 0 (by decide) w_294 rfl dX6_set_26 ?_
      refine lv_aload_n hx hb dX6_set_29 rfl (lv_at hl 0 rfl) ?_
      refine k_get (C := RX6) (T := TX6) (N := 2) (ci := 6) (v := .int (nI cn)) X hE hP 0 rfl rfl iX6 1 (by decide) w_293 rfl dX6_set_30 ?_
      refine lv_iload_n hx hb dX6_set_33 rfl (lv_at hl 1 rfl) ?_
      refine k_ast X hE hP hD hS 1 rfl cn rfl (by omega) (by decide) [(h0, .inr (6, [.ref hsp, .int (nI cn)])), (hsp, .inl (cA, 16, .inl (upd sg cn a)))] rfl dX6_set_34 (fun H locs hP hD hS => ?_)
      obtain ⟨g_5, eg_5⟩ : ∃ z, z = upd sg cn a := ⟨_, rfl⟩
      rw [← eg_5] at hP hD
      have hP : va_P D classes [(h0, .inr (6, [.ref hsp, .int (nI cn)])), (hsp, .inl (cA, 16, .inl g_5))] H := hP
      have hD : va_D A [(h0, .inr (6, [.ref hsp, .int (nI cn)])), (hsp, .inl (cA, 16, .inl g_5))] := hD
      refine lv_aload_n hx hb dX6_set_35 rfl (lv_at hl 0 rfl) ?_
      refine lv_dup hx hb dX6_set_36 rfl ?_
      refine k_get (C := RX6) (T := TX6) (N := 2) (ci := 6) (v := .int (nI cn)) X hE hP 0 rfl rfl iX6 1 (by decide) w_293 rfl dX6_set_37 ?_
      refine lv_iconst (v := 1) hx hb dX6_set_40 (by decide) ?_
      refine lv_iadd hx hb dX6_set_41 ?_
      refine tk (y := nI (cn + 1)) (nI_add cn 1) ?_
      refine k_put (C := RX6) (T := TX6) (N := 2) (ci := 6) (v := .int (nI (cn + 1))) (ty := .int) X hE hP hD hS 0 rfl rfl iX6 tyX6 tyX6_ok nmX6 1 (by decide) w_293 rfl (by decide +kernel) rfl rfl (Nat.le_of_ble_eq_true rfl) [(h0, .inr (6, [.ref hsp, .int (nI (cn + 1))])), (hsp, .inl (cA, 16, .inl g_5))] rfl dX6_set_42 (fun H locs hP hD hS => ?_)
      refine lv_aload_n hx hb dX6_set_45 rfl (lv_at hl 0 rfl) ?_
      refine k_get (C := RX6) (T := TX6) (N := 2) (ci := 6) (v := .int (nI (cn + 1))) X hE hP 0 rfl rfl iX6 1 (by decide) w_293 rfl dX6_set_46 ?_
      exact endI X hr hlocks hP hD hS dX6_set_49 ⟨(cn + 1), g_5, (nI (cn + 1)), rfl, (by omega), rfl⟩
    · have nc_20_4 : 16 ≤ cn := Nat.not_lt.mp (fun q => c_20_4 ((nI_ltI (a := cn) (b := 16) (by omega) (by omega)).mpr q))
      refine lv_iconst (v := (-1)) hx hb dX6_set_23 (by decide) ?_
      exact endI X hr hlocks hP hD hS dX6_set_24 ⟨cn, sg, (-1), rfl, (by omega), rfl⟩
  · skip
    refine lv_aload_n hx hb dX6_set_9 rfl (lv_at hl 0 rfl) ?_
    refine k_get (C := RX6) (T := TX6) (N := 2) (ci := 6) (v := .int (nI cn)) X hE hP 0 rfl rfl iX6 1 (by decide) w_293 rfl dX6_set_10 ?_
    exact endI X hr hlocks hP hD hS dX6_set_13 ⟨cn, sg, (nI cn), rfl, (by omega), rfl⟩
set_option maxHeartbeats 4000000 in
set_option maxRecDepth 100000 in
theorem c_s_lift (l : Launch) (D : va_G) (cA cB : ClassId) (h0 : Nat) (hsp : Nat) (cn : Nat) (sg : Nat → Int32) (a : Int32) (hcn : cn < 17) : CI l yX6_lift cX6_lift 3 (some .int) 1 22 0 0 D cA cB [.ref h0, .int a] [(h0, .inr (6, [.ref hsp, .int (nI cn)])), (hsp, .inl (cA, 16, .inl sg))] (fun r W1 => ∃ (cn2 : Nat) (sg2 : Nat → Int32) (rv : Int32), r = rv ∧ (cn2 < 17) ∧ W1 = [(h0, .inr (6, [.ref hsp, .int (nI cn2)])), (hsp, .inl (cA, 16, .inl sg2))]) := by
  refine mkI (lv0 := [(0, .ref h0), (1, .int a)]) (by decide) (Nat.le_of_ble_eq_true rfl) rfl ?_
  intro p e s m below meth c A ls X hr hlocks hnm hE hA hP hD hS hl
  have hx := X.1
  have hb := X.2.1
  refine lv_aload_n hx hb dX6_lift_0 rfl (lv_at hl 0 rfl) ?_
  refine lv_iload_n hx hb dX6_lift_1 rfl (lv_at hl 1 rfl) ?_
  refine kVi (n3 := 1) (As := [.int a]) (rest := []) X hl.1 hE hP hD hS hA [(h0, .inr (6, [.ref hsp, .int (nI cn)])), (hsp, .inl (cA, 16, .inl sg))] [] [0, 1] [] rfl rfl rfl (by decide +kernel) (by decide +kernel) (by decide +kernel) (c_s_find l D cA cB h0 hsp cn sg a (by first | assumption | decide | rfl | omega)) w_306 w_307 w_344 w_308 w_309 0 (ci := 6) (T := TX6) (N := 2) rfl rfl (by decide +kernel) rfl rfl (Nat.le_of_ble_eq_true rfl) ⟨(Nat.le_of_ble_eq_true rfl), (Nat.le_of_ble_eq_true rfl)⟩ ⟨(Nat.le_of_ble_eq_true rfl), (Nat.le_of_ble_eq_true rfl)⟩ dX6_lift_2 (fun r W1 H locs hw hP hD hS => ?_)
  obtain ⟨rv_1, er_3, hf_2, rfl⟩ := hw
  have hP : va_P D classes [(h0, .inr (6, [.ref hsp, .int (nI cn)])), (hsp, .inl (cA, 16, .inl sg))] H := hP
  have hD : va_D A [(h0, .inr (6, [.ref hsp, .int (nI cn)])), (hsp, .inl (cA, 16, .inl sg))] := hD
  refine tk (y := rv_1) er_3 ?_
  refine lv_istore_n (lv' := [(2, .int rv_1), (0, .ref h0), (1, .int a)]) hx hb dX6_lift_5 rfl hl (by decide) rfl (fun ls hl => ?_)
  refine lv_iload_n hx hb dX6_lift_6 rfl (lv_at hl 0 rfl) ?_
  refine lv_iconst (v := (-1)) hx hb dX6_lift_7 (by decide) ?_
  refine lv_icmp_eq (tgt := 36) hx hb dX6_lift_8 (by decide) (fun c_8 => ?_) (fun c_8 => ?_)
  · skip
    refine lv_aload_n hx hb dX6_lift_36 rfl (lv_at hl 1 rfl) ?_
    refine k_get (C := RX6) (T := TX6) (N := 2) (ci := 6) (v := .int (nI cn)) X hE hP 0 rfl rfl iX6 1 (by decide) w_293 rfl dX6_lift_37 ?_
    exact endI X hr hlocks hP hD hS dX6_lift_40 ⟨cn, sg, (nI cn), rfl, (by omega), rfl⟩
  · skip
    obtain ⟨k9, hk9, ek9⟩ := hf_2.resolve_left c_8
    rw [ek9] at hl
    refine lv_aload_n hx hb dX6_lift_11 rfl (lv_at hl 1 rfl) ?_
    refine lv_dup hx hb dX6_lift_12 rfl ?_
    refine k_get (C := RX6) (T := TX6) (N := 2) (ci := 6) (v := .int (nI cn)) X hE hP 0 rfl rfl iX6 1 (by decide) w_293 rfl dX6_lift_13 ?_
    refine lv_iconst (v := 1) hx hb dX6_lift_16 (by decide) ?_
    refine lv_isub hx hb dX6_lift_17 ?_
    refine tk (y := nI (cn - 1)) (pk_sub (a := cn) (b := 1) (by omega)) ?_
    refine k_put (C := RX6) (T := TX6) (N := 2) (ci := 6) (v := .int (nI (cn - 1))) (ty := .int) X hE hP hD hS 0 rfl rfl iX6 tyX6 tyX6_ok nmX6 1 (by decide) w_293 rfl (by decide +kernel) rfl rfl (Nat.le_of_ble_eq_true rfl) [(h0, .inr (6, [.ref hsp, .int (nI (cn - 1))])), (hsp, .inl (cA, 16, .inl sg))] rfl dX6_lift_18 (fun H locs hP hD hS => ?_)
    refine lv_aload_n hx hb dX6_lift_21 rfl (lv_at hl 1 rfl) ?_
    refine k_get (C := RX6) (T := TX6) (N := 2) (ci := 6) (v := .ref hsp) X hE hP 0 rfl rfl iX6 0 (by decide) w_294 rfl dX6_lift_22 ?_
    refine lv_iload_n hx hb dX6_lift_25 rfl (lv_at hl 0 rfl) ?_
    refine lv_aload_n hx hb dX6_lift_26 rfl (lv_at hl 1 rfl) ?_
    refine k_get (C := RX6) (T := TX6) (N := 2) (ci := 6) (v := .ref hsp) X hE hP 0 rfl rfl iX6 0 (by decide) w_294 rfl dX6_lift_27 ?_
    refine lv_aload_n hx hb dX6_lift_30 rfl (lv_at hl 1 rfl) ?_
    refine k_get (C := RX6) (T := TX6) (N := 2) (ci := 6) (v := .int (nI (cn - 1))) X hE hP 0 rfl rfl iX6 1 (by decide) w_293 rfl dX6_lift_31 ?_
    refine k_ald (v := sg (cn - 1)) X hE hP 1 rfl (cn - 1) rfl (by omega) (by decide) rfl dX6_lift_34 ?_
    refine k_ast X hE hP hD hS 1 rfl k9 rfl (by omega) (by decide) [(h0, .inr (6, [.ref hsp, .int (nI (cn - 1))])), (hsp, .inl (cA, 16, .inl (upd sg k9 (sg (cn - 1)))))] rfl dX6_lift_35 (fun H locs hP hD hS => ?_)
    obtain ⟨g_4, eg_4⟩ : ∃ z, z = upd sg k9 (sg (cn - 1)) := ⟨_, rfl⟩
    rw [← eg_4] at hP hD
    have hP : va_P D classes [(h0, .inr (6, [.ref hsp, .int (nI (cn - 1))])), (hsp, .inl (cA, 16, .inl g_4))] H := hP
    have hD : va_D A [(h0, .inr (6, [.ref hsp, .int (nI (cn - 1))])), (hsp, .inl (cA, 16, .inl g_4))] := hD
    refine lv_aload_n hx hb dX6_lift_36 rfl (lv_at hl 1 rfl) ?_
    refine k_get (C := RX6) (T := TX6) (N := 2) (ci := 6) (v := .int (nI (cn - 1))) X hE hP 0 rfl rfl iX6 1 (by decide) w_293 rfl dX6_lift_37 ?_
    exact endI X hr hlocks hP hD hS dX6_lift_40 ⟨(cn - 1), g_4, (nI (cn - 1)), rfl, (by omega), rfl⟩
set_option maxHeartbeats 4000000 in
set_option maxRecDepth 100000 in
theorem c_s_stop (l : Launch) (D : va_G) (cA cB : ClassId) (h0 : Nat) (hn : Nat) (hs : Nat) (hd : Nat) (hp : Nat) (qr : Nat) (qst : Nat) (qa : Nat) (qm : Nat) (qe : Nat) (hc : Nat) (h1 : Nat) (h2 : Nat) (h3 : Nat) (h4 : Nat) (he : Nat) (qsp : Nat) (wy : Int32) (dn : Int32) (la : Nat) (ke : Nat) (cn : Nat) (f : Nat → Int32) (st : Nat → Int32) (pn : Nat → Int32) (wt : Nat → Int32) (rg : Nat → Int32) (pa : Nat → Int32) (en : Nat → Int32) (ct : Nat → Int32) (sg : Nat → Int32) (a : Int32) (o : Int32) (hla : la < 256) (hke : ke < 257) (hcn : cn < 17) (hf : okN f) (hst : ∀ j, j < 4096 → ∃ k : Nat, k < 256 ∧ st j = nI k) (hpn : ∀ j, j < 64 → ∃ k : Nat, k < 256 ∧ pn j = nI k) (hwt : ∀ j, j < 16 → ∃ k : Nat, k < 256 ∧ wt j = nI k) (hen : okE en) : CI l yX8_stop cX8_stop 3 (some .int) 2 44 0 0 D cA cB [.ref h0, .int a, .int o] [(h0, .inr (8, [.ref hn, .ref hs, .ref hd, .ref hp, .ref qr, .ref qst, .ref qa, .ref qm, .ref qe])), (qr, .inr (4, [.ref hn, .ref hs, .ref hd, .ref hp, .ref hc, .int wy, .int dn])), (hd, .inr (1, [.ref hn, .ref h1, .ref h2, .ref h3, .ref h4])), (hp, .inr (3, [.ref he, .int (nI la), .int (nI ke)])), (qst, .inr (6, [.ref qsp, .int (nI cn)])), (hn, .inl (cA, 34, .inl f)), (hs, .inl (cA, 4096, .inl st)), (h1, .inl (cA, 64, .inl pn)), (h2, .inl (cA, 16, .inl wt)), (h3, .inl (cA, 900, .inl rg)), (h4, .inl (cA, 200, .inl pa)), (he, .inl (cA, 10752, .inl en)), (hc, .inl (cA, 257, .inl ct)), (qsp, .inl (cA, 16, .inl sg))] (fun r W1 => ∃ (wy2 : Int32) (dn2 : Int32) (la2 : Nat) (ke2 : Nat) (cn2 : Nat) (f2 : Nat → Int32) (st2 : Nat → Int32) (pn2 : Nat → Int32) (wt2 : Nat → Int32) (rg2 : Nat → Int32) (pa2 : Nat → Int32) (en2 : Nat → Int32) (ct2 : Nat → Int32) (sg2 : Nat → Int32) (rv : Int32), r = rv ∧ (la2 < 256) ∧ (ke2 < 257) ∧ (cn2 < 17) ∧ (okN f2) ∧ (∀ j, j < 4096 → ∃ k : Nat, k < 256 ∧ st2 j = nI k) ∧ (∀ j, j < 64 → ∃ k : Nat, k < 256 ∧ pn2 j = nI k) ∧ (∀ j, j < 16 → ∃ k : Nat, k < 256 ∧ wt2 j = nI k) ∧ (okE en2) ∧ W1 = [(h0, .inr (8, [.ref hn, .ref hs, .ref hd, .ref hp, .ref qr, .ref qst, .ref qa, .ref qm, .ref qe])), (qr, .inr (4, [.ref hn, .ref hs, .ref hd, .ref hp, .ref hc, .int wy2, .int dn2])), (hd, .inr (1, [.ref hn, .ref h1, .ref h2, .ref h3, .ref h4])), (hp, .inr (3, [.ref he, .int (nI la2), .int (nI ke2)])), (qst, .inr (6, [.ref qsp, .int (nI cn2)])), (hn, .inl (cA, 34, .inl f2)), (hs, .inl (cA, 4096, .inl st2)), (h1, .inl (cA, 64, .inl pn2)), (h2, .inl (cA, 16, .inl wt2)), (h3, .inl (cA, 900, .inl rg2)), (h4, .inl (cA, 200, .inl pa2)), (he, .inl (cA, 10752, .inl en2)), (hc, .inl (cA, 257, .inl ct2)), (qsp, .inl (cA, 16, .inl sg2))]) := by
  refine mkI (lv0 := [(0, .ref h0), (1, .int a), (2, .int o)]) (by decide) (Nat.le_of_ble_eq_true rfl) rfl ?_
  intro p e s m below meth c A ls X hr hlocks hnm hE hA hP hD hS hl
  have hx := X.1
  have hb := X.2.1
  refine lv_iload_n hx hb dX8_stop_0 rfl (lv_at hl 1 rfl) ?_
  refine kSi (n3 := 1) (As := [.int a]) (rest := []) X hl.1 hE hP hD hS hA [] [(h0, .inr (8, [.ref hn, .ref hs, .ref hd, .ref hp, .ref qr, .ref qst, .ref qa, .ref qm, .ref qe])), (qr, .inr (4, [.ref hn, .ref hs, .ref hd, .ref hp, .ref hc, .int wy, .int dn])), (hd, .inr (1, [.ref hn, .ref h1, .ref h2, .ref h3, .ref h4])), (hp, .inr (3, [.ref he, .int (nI la), .int (nI ke)])), (qst, .inr (6, [.ref qsp, .int (nI cn)])), (hn, .inl (cA, 34, .inl f)), (hs, .inl (cA, 4096, .inl st)), (h1, .inl (cA, 64, .inl pn)), (h2, .inl (cA, 16, .inl wt)), (h3, .inl (cA, 900, .inl rg)), (h4, .inl (cA, 200, .inl pa)), (he, .inl (cA, 10752, .inl en)), (hc, .inl (cA, 257, .inl ct)), (qsp, .inl (cA, 16, .inl sg))] [] [0, 1, 2, 3, 4, 5, 6, 7, 8, 9, 10, 11, 12, 13] rfl rfl rfl (by decide +kernel) (by decide +kernel) (by decide +kernel) (c_isAddress l D cA cB a ) w_311 w_107 w_310 w_312 (by decide +kernel) rfl rfl (Nat.le_of_ble_eq_true rfl) ⟨(Nat.le_of_ble_eq_true rfl), (Nat.le_of_ble_eq_true rfl)⟩ ⟨(Nat.le_of_ble_eq_true rfl), (Nat.le_of_ble_eq_true rfl)⟩ dX8_stop_1 (fun r W1 H locs hw hP hD hS => ?_)
  obtain ⟨rfl, rfl⟩ := hw
  have hP : va_P D classes [(h0, .inr (8, [.ref hn, .ref hs, .ref hd, .ref hp, .ref qr, .ref qst, .ref qa, .ref qm, .ref qe])), (qr, .inr (4, [.ref hn, .ref hs, .ref hd, .ref hp, .ref hc, .int wy, .int dn])), (hd, .inr (1, [.ref hn, .ref h1, .ref h2, .ref h3, .ref h4])), (hp, .inr (3, [.ref he, .int (nI la), .int (nI ke)])), (qst, .inr (6, [.ref qsp, .int (nI cn)])), (hn, .inl (cA, 34, .inl f)), (hs, .inl (cA, 4096, .inl st)), (h1, .inl (cA, 64, .inl pn)), (h2, .inl (cA, 16, .inl wt)), (h3, .inl (cA, 900, .inl rg)), (h4, .inl (cA, 200, .inl pa)), (he, .inl (cA, 10752, .inl en)), (hc, .inl (cA, 257, .inl ct)), (qsp, .inl (cA, 16, .inl sg))] H := hP
  have hD : va_D A [(h0, .inr (8, [.ref hn, .ref hs, .ref hd, .ref hp, .ref qr, .ref qst, .ref qa, .ref qm, .ref qe])), (qr, .inr (4, [.ref hn, .ref hs, .ref hd, .ref hp, .ref hc, .int wy, .int dn])), (hd, .inr (1, [.ref hn, .ref h1, .ref h2, .ref h3, .ref h4])), (hp, .inr (3, [.ref he, .int (nI la), .int (nI ke)])), (qst, .inr (6, [.ref qsp, .int (nI cn)])), (hn, .inl (cA, 34, .inl f)), (hs, .inl (cA, 4096, .inl st)), (h1, .inl (cA, 64, .inl pn)), (h2, .inl (cA, 16, .inl wt)), (h3, .inl (cA, 900, .inl rg)), (h4, .inl (cA, 200, .inl pa)), (he, .inl (cA, 10752, .inl en)), (hc, .inl (cA, 257, .inl ct)), (qsp, .inl (cA, 16, .inl sg))] := hD
  refine lv_if_ne (tgt := 9) hx hb dX8_stop_4 (by decide) (fun c_4 => ?_) (fun c_4 => ?_)
  · skip
    refine lv_iload_n hx hb dX8_stop_9 rfl (lv_at hl 2 rfl) ?_
    refine lv_if_eq (tgt := 24) hx hb dX8_stop_10 (by decide) (fun c_10 => ?_) (fun c_10 => ?_)
    · skip
      refine lv_aload_n hx hb dX8_stop_24 rfl (lv_at hl 0 rfl) ?_
      refine k_get (C := RX8) (T := TX8) (N := 9) (ci := 8) (v := .ref qst) X hE hP 0 rfl rfl iX8 5 (by decide) w_319 rfl dX8_stop_25 ?_
      refine lv_iload_n hx hb dX8_stop_28 rfl (lv_at hl 1 rfl) ?_
      refine kVi (n3 := 1) (As := [.int a]) (rest := []) X hl.1 hE hP hD hS hA [(qst, .inr (6, [.ref qsp, .int (nI cn)])), (qsp, .inl (cA, 16, .inl sg))] [(h0, .inr (8, [.ref hn, .ref hs, .ref hd, .ref hp, .ref qr, .ref qst, .ref qa, .ref qm, .ref qe])), (qr, .inr (4, [.ref hn, .ref hs, .ref hd, .ref hp, .ref hc, .int wy, .int dn])), (hd, .inr (1, [.ref hn, .ref h1, .ref h2, .ref h3, .ref h4])), (hp, .inr (3, [.ref he, .int (nI la), .int (nI ke)])), (hn, .inl (cA, 34, .inl f)), (hs, .inl (cA, 4096, .inl st)), (h1, .inl (cA, 64, .inl pn)), (h2, .inl (cA, 16, .inl wt)), (h3, .inl (cA, 900, .inl rg)), (h4, .inl (cA, 200, .inl pa)), (he, .inl (cA, 10752, .inl en)), (hc, .inl (cA, 257, .inl ct))] [4, 13] [0, 1, 2, 3, 5, 6, 7, 8, 9, 10, 11, 12] rfl rfl rfl (by decide +kernel) (by decide +kernel) (by decide +kernel) (c_s_lift l D cA cB qst qsp cn sg a (by first | assumption | decide | rfl | omega)) w_346 w_307 w_345 w_347 w_348 0 (ci := 6) (T := TX6) (N := 2) rfl rfl (by decide +kernel) rfl rfl (Nat.le_of_ble_eq_true rfl) ⟨(Nat.le_of_ble_eq_true rfl), (Nat.le_of_ble_eq_true rfl)⟩ ⟨(Nat.le_of_ble_eq_true rfl), (Nat.le_of_ble_eq_true rfl)⟩ dX8_stop_29 (fun r W1 H locs hw hP hD hS => ?_)
      obtain ⟨cn2_1, sg2_2, rv_3, er_5, hf_4, rfl⟩ := hw
      have hP : va_P D classes [(h0, .inr (8, [.ref hn, .ref hs, .ref hd, .ref hp, .ref qr, .ref qst, .ref qa, .ref qm, .ref qe])), (qr, .inr (4, [.ref hn, .ref hs, .ref hd, .ref hp, .ref hc, .int wy, .int dn])), (hd, .inr (1, [.ref hn, .ref h1, .ref h2, .ref h3, .ref h4])), (hp, .inr (3, [.ref he, .int (nI la), .int (nI ke)])), (hn, .inl (cA, 34, .inl f)), (hs, .inl (cA, 4096, .inl st)), (h1, .inl (cA, 64, .inl pn)), (h2, .inl (cA, 16, .inl wt)), (h3, .inl (cA, 900, .inl rg)), (h4, .inl (cA, 200, .inl pa)), (he, .inl (cA, 10752, .inl en)), (hc, .inl (cA, 257, .inl ct)), (qst, .inr (6, [.ref qsp, .int (nI cn2_1)])), (qsp, .inl (cA, 16, .inl sg2_2))] H := hP
      have hD : va_D A [(h0, .inr (8, [.ref hn, .ref hs, .ref hd, .ref hp, .ref qr, .ref qst, .ref qa, .ref qm, .ref qe])), (qr, .inr (4, [.ref hn, .ref hs, .ref hd, .ref hp, .ref hc, .int wy, .int dn])), (hd, .inr (1, [.ref hn, .ref h1, .ref h2, .ref h3, .ref h4])), (hp, .inr (3, [.ref he, .int (nI la), .int (nI ke)])), (hn, .inl (cA, 34, .inl f)), (hs, .inl (cA, 4096, .inl st)), (h1, .inl (cA, 64, .inl pn)), (h2, .inl (cA, 16, .inl wt)), (h3, .inl (cA, 900, .inl rg)), (h4, .inl (cA, 200, .inl pa)), (he, .inl (cA, 10752, .inl en)), (hc, .inl (cA, 257, .inl ct)), (qst, .inr (6, [.ref qsp, .int (nI cn2_1)])), (qsp, .inl (cA, 16, .inl sg2_2))] := hD
      refine tk (y := rv_3) er_5 ?_
      have hP : va_P D classes [(h0, .inr (8, [.ref hn, .ref hs, .ref hd, .ref hp, .ref qr, .ref qst, .ref qa, .ref qm, .ref qe])), (qr, .inr (4, [.ref hn, .ref hs, .ref hd, .ref hp, .ref hc, .int wy, .int dn])), (hd, .inr (1, [.ref hn, .ref h1, .ref h2, .ref h3, .ref h4])), (hp, .inr (3, [.ref he, .int (nI la), .int (nI ke)])), (qst, .inr (6, [.ref qsp, .int (nI cn2_1)])), (hn, .inl (cA, 34, .inl f)), (hs, .inl (cA, 4096, .inl st)), (h1, .inl (cA, 64, .inl pn)), (h2, .inl (cA, 16, .inl wt)), (h3, .inl (cA, 900, .inl rg)), (h4, .inl (cA, 200, .inl pa)), (he, .inl (cA, 10752, .inl en)), (hc, .inl (cA, 257, .inl ct)), (qsp, .inl (cA, 16, .inl sg2_2))] _ := hP.sub [0, 1, 2, 3, 12, 4, 5, 6, 7, 8, 9, 10, 11, 13] rfl
      have hD : va_D A [(h0, .inr (8, [.ref hn, .ref hs, .ref hd, .ref hp, .ref qr, .ref qst, .ref qa, .ref qm, .ref qe])), (qr, .inr (4, [.ref hn, .ref hs, .ref hd, .ref hp, .ref hc, .int wy, .int dn])), (hd, .inr (1, [.ref hn, .ref h1, .ref h2, .ref h3, .ref h4])), (hp, .inr (3, [.ref he, .int (nI la), .int (nI ke)])), (qst, .inr (6, [.ref qsp, .int (nI cn2_1)])), (hn, .inl (cA, 34, .inl f)), (hs, .inl (cA, 4096, .inl st)), (h1, .inl (cA, 64, .inl pn)), (h2, .inl (cA, 16, .inl wt)), (h3, .inl (cA, 900, .inl rg)), (h4, .inl (cA, 200, .inl pa)), (he, .inl (cA, 10752, .inl en)), (hc, .inl (cA, 257, .inl ct)), (qsp, .inl (cA, 16, .inl sg2_2))] := hD.sub [0, 1, 2, 3, 12, 4, 5, 6, 7, 8, 9, 10, 11, 13] (by decide) rfl
      exact endI X hr hlocks hP hD hS dX8_stop_32 ⟨wy, dn, la, ke, cn2_1, f, st, pn, wt, rg, pa, en, ct, sg2_2, rv_3, rfl, (by omega), (by omega), (by omega), hf, hst, hpn, hwt, hen, rfl⟩
    · skip
      refine lv_aload_n hx hb dX8_stop_13 rfl (lv_at hl 0 rfl) ?_
      refine k_get (C := RX8) (T := TX8) (N := 9) (ci := 8) (v := .ref qst) X hE hP 0 rfl rfl iX8 5 (by decide) w_319 rfl dX8_stop_14 ?_
      refine lv_iload_n hx hb dX8_stop_17 rfl (lv_at hl 1 rfl) ?_
      refine kVi (n3 := 1) (As := [.int a]) (rest := []) X hl.1 hE hP hD hS hA [(qst, .inr (6, [.ref qsp, .int (nI cn)])), (qsp, .inl (cA, 16, .inl sg))] [(h0, .inr (8, [.ref hn, .ref hs, .ref hd, .ref hp, .ref qr, .ref qst, .ref qa, .ref qm, .ref qe])), (qr, .inr (4, [.ref hn, .ref hs, .ref hd, .ref hp, .ref hc, .int wy, .int dn])), (hd, .inr (1, [.ref hn, .ref h1, .ref h2, .ref h3, .ref h4])), (hp, .inr (3, [.ref he, .int (nI la), .int (nI ke)])), (hn, .inl (cA, 34, .inl f)), (hs, .inl (cA, 4096, .inl st)), (h1, .inl (cA, 64, .inl pn)), (h2, .inl (cA, 16, .inl wt)), (h3, .inl (cA, 900, .inl rg)), (h4, .inl (cA, 200, .inl pa)), (he, .inl (cA, 10752, .inl en)), (hc, .inl (cA, 257, .inl ct))] [4, 13] [0, 1, 2, 3, 5, 6, 7, 8, 9, 10, 11, 12] rfl rfl rfl (by decide +kernel) (by decide +kernel) (by decide +kernel) (c_s_set l D cA cB qst qsp cn sg a (by first | assumption | decide | rfl | omega)) w_350 w_307 w_349 w_351 w_352 0 (ci := 6) (T := TX6) (N := 2) rfl rfl (by decide +kernel) rfl rfl (Nat.le_of_ble_eq_true rfl) ⟨(Nat.le_of_ble_eq_true rfl), (Nat.le_of_ble_eq_true rfl)⟩ ⟨(Nat.le_of_ble_eq_true rfl), (Nat.le_of_ble_eq_true rfl)⟩ dX8_stop_18 (fun r W1 H locs hw hP hD hS => ?_)
      obtain ⟨cn2_6, sg2_7, rv_8, er_10, hf_9, rfl⟩ := hw
      have hP : va_P D classes [(h0, .inr (8, [.ref hn, .ref hs, .ref hd, .ref hp, .ref qr, .ref qst, .ref qa, .ref qm, .ref qe])), (qr, .inr (4, [.ref hn, .ref hs, .ref hd, .ref hp, .ref hc, .int wy, .int dn])), (hd, .inr (1, [.ref hn, .ref h1, .ref h2, .ref h3, .ref h4])), (hp, .inr (3, [.ref he, .int (nI la), .int (nI ke)])), (hn, .inl (cA, 34, .inl f)), (hs, .inl (cA, 4096, .inl st)), (h1, .inl (cA, 64, .inl pn)), (h2, .inl (cA, 16, .inl wt)), (h3, .inl (cA, 900, .inl rg)), (h4, .inl (cA, 200, .inl pa)), (he, .inl (cA, 10752, .inl en)), (hc, .inl (cA, 257, .inl ct)), (qst, .inr (6, [.ref qsp, .int (nI cn2_6)])), (qsp, .inl (cA, 16, .inl sg2_7))] H := hP
      have hD : va_D A [(h0, .inr (8, [.ref hn, .ref hs, .ref hd, .ref hp, .ref qr, .ref qst, .ref qa, .ref qm, .ref qe])), (qr, .inr (4, [.ref hn, .ref hs, .ref hd, .ref hp, .ref hc, .int wy, .int dn])), (hd, .inr (1, [.ref hn, .ref h1, .ref h2, .ref h3, .ref h4])), (hp, .inr (3, [.ref he, .int (nI la), .int (nI ke)])), (hn, .inl (cA, 34, .inl f)), (hs, .inl (cA, 4096, .inl st)), (h1, .inl (cA, 64, .inl pn)), (h2, .inl (cA, 16, .inl wt)), (h3, .inl (cA, 900, .inl rg)), (h4, .inl (cA, 200, .inl pa)), (he, .inl (cA, 10752, .inl en)), (hc, .inl (cA, 257, .inl ct)), (qst, .inr (6, [.ref qsp, .int (nI cn2_6)])), (qsp, .inl (cA, 16, .inl sg2_7))] := hD
      refine tk (y := rv_8) er_10 ?_
      refine lv_goto (tgt := 32) hx hb dX8_stop_21 (by decide) ?_
      have hP : va_P D classes [(h0, .inr (8, [.ref hn, .ref hs, .ref hd, .ref hp, .ref qr, .ref qst, .ref qa, .ref qm, .ref qe])), (qr, .inr (4, [.ref hn, .ref hs, .ref hd, .ref hp, .ref hc, .int wy, .int dn])), (hd, .inr (1, [.ref hn, .ref h1, .ref h2, .ref h3, .ref h4])), (hp, .inr (3, [.ref he, .int (nI la), .int (nI ke)])), (qst, .inr (6, [.ref qsp, .int (nI cn2_6)])), (hn, .inl (cA, 34, .inl f)), (hs, .inl (cA, 4096, .inl st)), (h1, .inl (cA, 64, .inl pn)), (h2, .inl (cA, 16, .inl wt)), (h3, .inl (cA, 900, .inl rg)), (h4, .inl (cA, 200, .inl pa)), (he, .inl (cA, 10752, .inl en)), (hc, .inl (cA, 257, .inl ct)), (qsp, .inl (cA, 16, .inl sg2_7))] _ := hP.sub [0, 1, 2, 3, 12, 4, 5, 6, 7, 8, 9, 10, 11, 13] rfl
      have hD : va_D A [(h0, .inr (8, [.ref hn, .ref hs, .ref hd, .ref hp, .ref qr, .ref qst, .ref qa, .ref qm, .ref qe])), (qr, .inr (4, [.ref hn, .ref hs, .ref hd, .ref hp, .ref hc, .int wy, .int dn])), (hd, .inr (1, [.ref hn, .ref h1, .ref h2, .ref h3, .ref h4])), (hp, .inr (3, [.ref he, .int (nI la), .int (nI ke)])), (qst, .inr (6, [.ref qsp, .int (nI cn2_6)])), (hn, .inl (cA, 34, .inl f)), (hs, .inl (cA, 4096, .inl st)), (h1, .inl (cA, 64, .inl pn)), (h2, .inl (cA, 16, .inl wt)), (h3, .inl (cA, 900, .inl rg)), (h4, .inl (cA, 200, .inl pa)), (he, .inl (cA, 10752, .inl en)), (hc, .inl (cA, 257, .inl ct)), (qsp, .inl (cA, 16, .inl sg2_7))] := hD.sub [0, 1, 2, 3, 12, 4, 5, 6, 7, 8, 9, 10, 11, 13] (by decide) rfl
      exact endI X hr hlocks hP hD hS dX8_stop_32 ⟨wy, dn, la, ke, cn2_6, f, st, pn, wt, rg, pa, en, ct, sg2_7, rv_8, rfl, (by omega), (by omega), (by omega), hf, hst, hpn, hwt, hen, rfl⟩
  · skip
    refine lv_iconst (v := (-1)) hx hb dX8_stop_7 (by decide) ?_
    exact endI X hr hlocks hP hD hS dX8_stop_8 ⟨wy, dn, la, ke, cn, f, st, pn, wt, rg, pa, en, ct, sg, (-1), rfl, (by omega), (by omega), (by omega), hf, hst, hpn, hwt, hen, rfl⟩
