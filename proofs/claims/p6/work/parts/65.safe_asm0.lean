abbrev cX0_partOf : ByteArray := prog_2_method_16_code
def yX0_partOf : MethodName := ⟨RX0, "partOf", "(II)I"⟩
abbrev cX0_fail : ByteArray := prog_2_method_6_code
def yX0_fail : MethodName := ⟨RX0, "fail", "(II)Z"⟩
abbrev cX0_needRange : ByteArray := prog_2_method_18_code
def yX0_needRange : MethodName := ⟨RX0, "needRange", "(II)V"⟩
abbrev cX0_leaveSpace : ByteArray := prog_2_method_22_code
def yX0_leaveSpace : MethodName := ⟨RX0, "leaveSpace", "()V"⟩
abbrev cX0_lay : ByteArray := prog_2_method_19_code
def yX0_lay : MethodName := ⟨RX0, "lay", "(I)V"⟩
abbrev cX2_isFull : ByteArray := prog_4_method_2_code
def yX2_isFull : MethodName := ⟨RX2, "isFull", "()Z"⟩
set_option maxRecDepth 100000 in
theorem w_384 : (Cond.fieldLink "BelfryBox$Assembler" 25 "BelfryBox$Assembler" "faultKind" "I" : Cond) ∈ gw := List.mem_filter.mpr ⟨List.mem_append_right _ (tb1 (List.mem_of_getElem? (i := 194) rfl)), rfl⟩
set_option maxRecDepth 100000 in
theorem w_385 : (Cond.fieldLink "BelfryBox$Assembler" 29 "BelfryBox$Assembler" "faultPlace" "I" : Cond) ∈ gw := List.mem_filter.mpr ⟨List.mem_append_right _ (tb1 (List.mem_of_getElem? (i := 196) rfl)), rfl⟩
set_option maxRecDepth 100000 in
theorem w_386 : (Cond.fieldLink "BelfryBox$Assembler" 104 "BelfryBox$Assembler" "rangePlace" "I" : Cond) ∈ gw := List.mem_filter.mpr ⟨List.mem_append_right _ (tb1 (List.mem_of_getElem? (i := 210) rfl)), rfl⟩
set_option maxRecDepth 100000 in
theorem w_387 : (Cond.fieldLink "BelfryBox$Assembler" 86 "BelfryBox$Assembler" "sum" "I" : Cond) ∈ gw := List.mem_filter.mpr ⟨List.mem_append_right _ (tb1 (List.mem_of_getElem? (i := 207) rfl)), rfl⟩
set_option maxRecDepth 100000 in
theorem w_388 : (Cond.fieldLink "BelfryBox$Assembler" 169 "BelfryBox$Assembler" "sumPlace" "I" : Cond) ∈ gw := List.mem_filter.mpr ⟨List.mem_append_right _ (tb1 (List.mem_of_getElem? (i := 208) rfl)), rfl⟩
set_option maxRecDepth 100000 in
theorem w_389 : (Cond.fieldLink "BelfryBox$Assembler" 83 "BelfryBox$Assembler" "word" "I" : Cond) ∈ gw := List.mem_filter.mpr ⟨List.mem_append_right _ (tb1 (List.mem_of_getElem? (i := 204) rfl)), rfl⟩
set_option maxRecDepth 100000 in
theorem w_390 : (Cond.fieldLink "BelfryBox$Assembler" 89 "BelfryBox$Assembler" "size" "I" : Cond) ∈ gw := List.mem_filter.mpr ⟨List.mem_append_right _ (tb1 (List.mem_of_getElem? (i := 206) rfl)), rfl⟩
set_option maxRecDepth 100000 in
theorem w_391 : (Cond.fieldLink "BelfryBox$Assembler" 55 "BelfryBox$Assembler" "address" "I" : Cond) ∈ gw := List.mem_filter.mpr ⟨List.mem_append_right _ (tb1 (List.mem_of_getElem? (i := 198) rfl)), rfl⟩
set_option maxRecDepth 100000 in
theorem w_392 : (Cond.fieldLink "BelfryBox$Assembler" 51 "BelfryBox$Assembler" "laying" "Z" : Cond) ∈ gw := List.mem_filter.mpr ⟨List.mem_append_right _ (tb1 (List.mem_of_getElem? (i := 200) rfl)), rfl⟩
set_option maxRecDepth 100000 in
theorem w_393 : (Cond.fieldLink "BelfryBox$Assembler" 9 "BelfryBox$Assembler" "image" "[I" : Cond) ∈ gw := List.mem_filter.mpr ⟨List.mem_append_right _ (tb1 (List.mem_of_getElem? (i := 190) rfl)), rfl⟩
theorem dX0_partOf_0 : decode cX0_partOf 0 = .ok (.iload_n 0, 1) := by decide +kernel
theorem dX0_partOf_1 : decode cX0_partOf 1 = .ok (.bipush 37, 2) := by decide +kernel
theorem dX0_partOf_3 : decode cX0_partOf 3 = .ok (.if_icmp .ne 12, 3) := by decide +kernel
theorem dX0_partOf_15 : decode cX0_partOf 15 = .ok (.iload_n 0, 1) := by decide +kernel
theorem dX0_partOf_16 : decode cX0_partOf 16 = .ok (.bipush 38, 2) := by decide +kernel
theorem dX0_partOf_18 : decode cX0_partOf 18 = .ok (.if_icmp .ne 11, 3) := by decide +kernel
theorem dX0_partOf_29 : decode cX0_partOf 29 = .ok (.iload_n 1, 1) := by decide +kernel
theorem dX0_partOf_30 : decode cX0_partOf 30 = .ok (.ireturn, 1) := by decide +kernel
theorem dX0_partOf_21 : decode cX0_partOf 21 = .ok (.iload_n 1, 1) := by decide +kernel
theorem dX0_partOf_22 : decode cX0_partOf 22 = .ok (.sipush 255, 3) := by decide +kernel
theorem dX0_partOf_25 : decode cX0_partOf 25 = .ok (.iand, 1) := by decide +kernel
theorem dX0_partOf_26 : decode cX0_partOf 26 = .ok (.goto 4, 3) := by decide +kernel
theorem dX0_partOf_6 : decode cX0_partOf 6 = .ok (.iload_n 1, 1) := by decide +kernel
theorem dX0_partOf_7 : decode cX0_partOf 7 = .ok (.bipush 8, 2) := by decide +kernel
theorem dX0_partOf_9 : decode cX0_partOf 9 = .ok (.ishr, 1) := by decide +kernel
theorem dX0_partOf_10 : decode cX0_partOf 10 = .ok (.sipush 255, 3) := by decide +kernel
theorem dX0_partOf_13 : decode cX0_partOf 13 = .ok (.iand, 1) := by decide +kernel
theorem dX0_partOf_14 : decode cX0_partOf 14 = .ok (.ireturn, 1) := by decide +kernel
theorem dX0_fail_0 : decode cX0_fail 0 = .ok (.aload_n 0, 1) := by decide +kernel
theorem dX0_fail_1 : decode cX0_fail 1 = .ok (.iload_n 1, 1) := by decide +kernel
theorem dX0_fail_2 : decode cX0_fail 2 = .ok (.putfield 25, 3) := by decide +kernel
theorem dX0_fail_5 : decode cX0_fail 5 = .ok (.aload_n 0, 1) := by decide +kernel
theorem dX0_fail_6 : decode cX0_fail 6 = .ok (.iload_n 2, 1) := by decide +kernel
theorem dX0_fail_7 : decode cX0_fail 7 = .ok (.putfield 29, 3) := by decide +kernel
theorem dX0_fail_10 : decode cX0_fail 10 = .ok (.iconst 0, 1) := by decide +kernel
theorem dX0_fail_11 : decode cX0_fail 11 = .ok (.ireturn, 1) := by decide +kernel
theorem dX0_needRange_0 : decode cX0_needRange 0 = .ok (.aload_n 0, 1) := by decide +kernel
theorem dX0_needRange_1 : decode cX0_needRange 1 = .ok (.getfield 104, 3) := by decide +kernel
theorem dX0_needRange_4 : decode cX0_needRange 4 = .ok (.iconst (-1), 1) := by decide +kernel
theorem dX0_needRange_5 : decode cX0_needRange 5 = .ok (.if_icmp .ne 27, 3) := by decide +kernel
theorem dX0_needRange_32 : decode cX0_needRange 32 = .ok (.return_, 1) := by decide +kernel
theorem dX0_needRange_8 : decode cX0_needRange 8 = .ok (.aload_n 0, 1) := by decide +kernel
theorem dX0_needRange_9 : decode cX0_needRange 9 = .ok (.getfield 86, 3) := by decide +kernel
theorem dX0_needRange_12 : decode cX0_needRange 12 = .ok (.iload_n 1, 1) := by decide +kernel
theorem dX0_needRange_13 : decode cX0_needRange 13 = .ok (.if_icmp .lt 11, 3) := by decide +kernel
theorem dX0_needRange_24 : decode cX0_needRange 24 = .ok (.aload_n 0, 1) := by decide +kernel
theorem dX0_needRange_25 : decode cX0_needRange 25 = .ok (.aload_n 0, 1) := by decide +kernel
theorem dX0_needRange_26 : decode cX0_needRange 26 = .ok (.getfield 169, 3) := by decide +kernel
theorem dX0_needRange_29 : decode cX0_needRange 29 = .ok (.putfield 104, 3) := by decide +kernel
theorem dX0_needRange_16 : decode cX0_needRange 16 = .ok (.aload_n 0, 1) := by decide +kernel
theorem dX0_needRange_17 : decode cX0_needRange 17 = .ok (.getfield 86, 3) := by decide +kernel
theorem dX0_needRange_20 : decode cX0_needRange 20 = .ok (.iload_n 2, 1) := by decide +kernel
theorem dX0_needRange_21 : decode cX0_needRange 21 = .ok (.if_icmp .le 11, 3) := by decide +kernel
theorem dX0_leaveSpace_0 : decode cX0_leaveSpace 0 = .ok (.aload_n 0, 1) := by decide +kernel
theorem dX0_leaveSpace_1 : decode cX0_leaveSpace 1 = .ok (.getfield 83, 3) := by decide +kernel
theorem dX0_leaveSpace_4 : decode cX0_leaveSpace 4 = .ok (.bipush 81, 2) := by decide +kernel
theorem dX0_leaveSpace_6 : decode cX0_leaveSpace 6 = .ok (.if_icmp .ne 11, 3) := by decide +kernel
theorem dX0_leaveSpace_17 : decode cX0_leaveSpace 17 = .ok (.return_, 1) := by decide +kernel
theorem dX0_leaveSpace_9 : decode cX0_leaveSpace 9 = .ok (.aload_n 0, 1) := by decide +kernel
theorem dX0_leaveSpace_10 : decode cX0_leaveSpace 10 = .ok (.aload_n 0, 1) := by decide +kernel
theorem dX0_leaveSpace_11 : decode cX0_leaveSpace 11 = .ok (.getfield 86, 3) := by decide +kernel
theorem dX0_leaveSpace_14 : decode cX0_leaveSpace 14 = .ok (.putfield 89, 3) := by decide +kernel
theorem dX0_lay_0 : decode cX0_lay 0 = .ok (.aload_n 0, 1) := by decide +kernel
theorem dX0_lay_1 : decode cX0_lay 1 = .ok (.getfield 55, 3) := by decide +kernel
theorem dX0_lay_4 : decode cX0_lay 4 = .ok (.aload_n 0, 1) := by decide +kernel
theorem dX0_lay_5 : decode cX0_lay 5 = .ok (.getfield 89, 3) := by decide +kernel
theorem dX0_lay_8 : decode cX0_lay 8 = .ok (.iadd, 1) := by decide +kernel
theorem dX0_lay_9 : decode cX0_lay 9 = .ok (.istore_n 2, 1) := by decide +kernel
theorem dX0_lay_10 : decode cX0_lay 10 = .ok (.aload_n 0, 1) := by decide +kernel
theorem dX0_lay_11 : decode cX0_lay 11 = .ok (.getfield 51, 3) := by decide +kernel
theorem dX0_lay_14 : decode cX0_lay 14 = .ok (.ifCond .eq 25, 3) := by decide +kernel
theorem dX0_lay_39 : decode cX0_lay 39 = .ok (.aload_n 0, 1) := by decide +kernel
theorem dX0_lay_40 : decode cX0_lay 40 = .ok (.dup, 1) := by decide +kernel
theorem dX0_lay_41 : decode cX0_lay 41 = .ok (.getfield 89, 3) := by decide +kernel
theorem dX0_lay_44 : decode cX0_lay 44 = .ok (.iconst 1, 1) := by decide +kernel
theorem dX0_lay_45 : decode cX0_lay 45 = .ok (.iadd, 1) := by decide +kernel
theorem dX0_lay_46 : decode cX0_lay 46 = .ok (.putfield 89, 3) := by decide +kernel
theorem dX0_lay_49 : decode cX0_lay 49 = .ok (.return_, 1) := by decide +kernel
theorem dX0_lay_17 : decode cX0_lay 17 = .ok (.iload_n 2, 1) := by decide +kernel
theorem dX0_lay_18 : decode cX0_lay 18 = .ok (.ifCond .lt 21, 3) := by decide +kernel
theorem dX0_lay_21 : decode cX0_lay 21 = .ok (.iload_n 2, 1) := by decide +kernel
theorem dX0_lay_22 : decode cX0_lay 22 = .ok (.sipush 4080, 3) := by decide +kernel
theorem dX0_lay_25 : decode cX0_lay 25 = .ok (.if_icmp .ge 14, 3) := by decide +kernel
theorem dX0_lay_28 : decode cX0_lay 28 = .ok (.aload_n 0, 1) := by decide +kernel
theorem dX0_lay_29 : decode cX0_lay 29 = .ok (.getfield 9, 3) := by decide +kernel
theorem dX0_lay_32 : decode cX0_lay 32 = .ok (.iload_n 2, 1) := by decide +kernel
theorem dX0_lay_33 : decode cX0_lay 33 = .ok (.iload_n 1, 1) := by decide +kernel
theorem dX0_lay_34 : decode cX0_lay 34 = .ok (.sipush 255, 3) := by decide +kernel
theorem dX0_lay_37 : decode cX0_lay 37 = .ok (.iand, 1) := by decide +kernel
theorem dX0_lay_38 : decode cX0_lay 38 = .ok (.iastore, 1) := by decide +kernel
theorem dX2_isFull_0 : decode cX2_isFull 0 = .ok (.aload_n 0, 1) := by decide +kernel
theorem dX2_isFull_1 : decode cX2_isFull 1 = .ok (.getfield 24, 3) := by decide +kernel
theorem dX2_isFull_4 : decode cX2_isFull 4 = .ok (.bipush 60, 2) := by decide +kernel
theorem dX2_isFull_6 : decode cX2_isFull 6 = .ok (.if_icmp .lt 7, 3) := by decide +kernel
theorem dX2_isFull_13 : decode cX2_isFull 13 = .ok (.iconst 0, 1) := by decide +kernel
theorem dX2_isFull_14 : decode cX2_isFull 14 = .ok (.ireturn, 1) := by decide +kernel
theorem dX2_isFull_9 : decode cX2_isFull 9 = .ok (.iconst 1, 1) := by decide +kernel
theorem dX2_isFull_10 : decode cX2_isFull 10 = .ok (.goto 4, 3) := by decide +kernel
set_option maxHeartbeats 4000000 in
set_option maxRecDepth 100000 in
theorem c_s_partOf (l : Launch) (D : va_G) (cA cB : ClassId) (v : Int32) (w : Int32)  : CI l yX0_partOf cX0_partOf 2 (some .int) 0 0 0 0 D cA cB [.int v, .int w] [] (fun r W1 => ∃ (rv : Int32), r = rv ∧ W1 = []) := by
  refine mkI (lv0 := [(0, .int v), (1, .int w)]) (by decide) (Nat.le_of_ble_eq_true rfl) rfl ?_
  intro p e s m below meth c A ls X hr hlocks hnm hE hA hP hD hS hl
  have hx := X.1
  have hb := X.2.1
  refine lv_iload_n hx hb dX0_partOf_0 rfl (lv_at hl 0 rfl) ?_
  refine lv_bipush (v := 37) hx hb dX0_partOf_1 (by decide) ?_
  refine lv_icmp_ne (tgt := 15) hx hb dX0_partOf_3 (by decide) (fun c_3 => ?_) (fun c_3 => ?_)
  · skip
    refine lv_iload_n hx hb dX0_partOf_15 rfl (lv_at hl 0 rfl) ?_
    refine lv_bipush (v := 38) hx hb dX0_partOf_16 (by decide) ?_
    refine lv_icmp_ne (tgt := 29) hx hb dX0_partOf_18 (by decide) (fun c_18 => ?_) (fun c_18 => ?_)
    · skip
      refine lv_iload_n hx hb dX0_partOf_29 rfl (lv_at hl 1 rfl) ?_
      exact endI X hr hlocks hP hD hS dX0_partOf_30 ⟨w, rfl, rfl⟩
    · skip
      refine lv_iload_n hx hb dX0_partOf_21 rfl (lv_at hl 1 rfl) ?_
      refine lv_sipush (v := 255) hx hb dX0_partOf_22 (by decide) ?_
      refine lv_iand hx hb dX0_partOf_25 ?_
      obtain ⟨k_1, hk_1, ek_1⟩ := pk_andE w (m := 255) 8 (by decide)
      have hk_1 : k_1 < 256 := hk_1
      refine tk (y := nI k_1) ek_1 ?_
      refine lv_goto (tgt := 30) hx hb dX0_partOf_26 (by decide) ?_
      exact endI X hr hlocks hP hD hS dX0_partOf_30 ⟨(nI k_1), rfl, rfl⟩
  · skip
    refine lv_iload_n hx hb dX0_partOf_6 rfl (lv_at hl 1 rfl) ?_
    refine lv_bipush (v := 8) hx hb dX0_partOf_7 (by decide) ?_
    refine lv_ishr hx hb dX0_partOf_9 ?_
    refine lv_sipush (v := 255) hx hb dX0_partOf_10 (by decide) ?_
    refine lv_iand hx hb dX0_partOf_13 ?_
    obtain ⟨k_2, hk_2, ek_2⟩ := pk_andE (w >>> (8 &&& 31)) (m := 255) 8 (by decide)
    have hk_2 : k_2 < 256 := hk_2
    refine tk (y := nI k_2) ek_2 ?_
    exact endI X hr hlocks hP hD hS dX0_partOf_14 ⟨(nI k_2), rfl, rfl⟩
set_option maxHeartbeats 4000000 in
set_option maxRecDepth 100000 in
theorem c_s_fail (l : Launch) (D : va_G) (cA cB : ClassId) (h0 : Nat) (qa : Nat) (qmi : Nat) (qmt : Nat) (qms : Nat) (ua : Int32) (ub : Int32) (uc : Int32) (ud : Int32) (ue : Int32) (uf : Int32) (ug : Int32) (uh : Int32) (ui : Int32) (uj : Int32) (uk : Int32) (ul : Int32) (um : Int32) (un : Int32) (v : Int32) (w : Int32)  : CI l yX0_fail cX0_fail 3 (some .boolean) 0 0 0 0 D cA cB [.ref h0, .int v, .int w] [(h0, .inr (0, [.ref qa, .ref qmi, .ref qmt, .ref qms, .int ua, .int ub, .int uc, .int ud, .int ue, .int uf, .int ug, .int uh, .int ui, .int uj, .int uk, .int ul, .int um, .int un]))] (fun r W1 => ∃ (ua2 : Int32) (ub2 : Int32) (rk : Nat), r = nI rk ∧ (rk < 2) ∧ W1 = [(h0, .inr (0, [.ref qa, .ref qmi, .ref qmt, .ref qms, .int ua2, .int ub2, .int uc, .int ud, .int ue, .int uf, .int ug, .int uh, .int ui, .int uj, .int uk, .int ul, .int um, .int un]))]) := by
  refine mkI (lv0 := [(0, .ref h0), (1, .int v), (2, .int w)]) (by decide) (Nat.le_of_ble_eq_true rfl) rfl ?_
  intro p e s m below meth c A ls X hr hlocks hnm hE hA hP hD hS hl
  have hx := X.1
  have hb := X.2.1
  refine qW (fun Q9 hQ9 => ?_)
  refine lv_aload_n hx hb dX0_fail_0 rfl (lv_at hl 0 rfl) ?_
  refine lv_iload_n hx hb dX0_fail_1 rfl (lv_at hl 1 rfl) ?_
  refine k_put (C := RX0) (T := TX0) (N := 18) (ci := 0) (v := .int v) (ty := .int) X hE hP hD hS 0 rfl rfl iX0 tyX0 tyX0_ok nmX0 4 (by decide) w_384 rfl (by decide +kernel) rfl rfl (Nat.le_of_ble_eq_true rfl) [(h0, .inr (0, [.ref qa, .ref qmi, .ref qmt, .ref qms, .int v, .int ub, .int uc, .int ud, .int ue, .int uf, .int ug, .int uh, .int ui, .int uj, .int uk, .int ul, .int um, .int un]))] rfl dX0_fail_2 (fun H locs hP hD hS => ?_)
  refine lv_aload_n hx hb dX0_fail_5 rfl (lv_at hl 0 rfl) ?_
  refine lv_iload_n hx hb dX0_fail_6 rfl (lv_at hl 2 rfl) ?_
  refine k_put (C := RX0) (T := TX0) (N := 18) (ci := 0) (v := .int w) (ty := .int) X hE hP hD hS 0 rfl rfl iX0 tyX0 tyX0_ok nmX0 5 (by decide) w_385 rfl (by decide +kernel) rfl rfl (Nat.le_of_ble_eq_true rfl) [(h0, .inr (0, [.ref qa, .ref qmi, .ref qmt, .ref qms, .int v, .int w, .int uc, .int ud, .int ue, .int uf, .int ug, .int uh, .int ui, .int uj, .int uk, .int ul, .int um, .int un]))] rfl dX0_fail_7 (fun H locs hP hD hS => ?_)
  refine lv_iconst (v := 0) hx hb dX0_fail_10 (by decide) ?_
  rw [hQ9]
  exact endZ X hr rfl hlocks hP hD hS dX0_fail_11 ⟨v, w, 0, rfl, (by decide), rfl⟩
set_option maxHeartbeats 4000000 in
set_option maxRecDepth 100000 in
theorem c_s_needRange (l : Launch) (D : va_G) (cA cB : ClassId) (h0 : Nat) (qa : Nat) (qmi : Nat) (qmt : Nat) (qms : Nat) (ua : Int32) (ub : Int32) (uc : Int32) (ud : Int32) (ue : Int32) (uf : Int32) (ug : Int32) (uh : Int32) (ui : Int32) (uj : Int32) (uk : Int32) (ul : Int32) (um : Int32) (un : Int32) (v : Int32) (w : Int32)  : CV l yX0_needRange cX0_needRange 3 none 0 0 0 0 D cA cB [.ref h0, .int v, .int w] [(h0, .inr (0, [.ref qa, .ref qmi, .ref qmt, .ref qms, .int ua, .int ub, .int uc, .int ud, .int ue, .int uf, .int ug, .int uh, .int ui, .int uj, .int uk, .int ul, .int um, .int un]))] (fun W1 => ∃ (un2 : Int32), W1 = [(h0, .inr (0, [.ref qa, .ref qmi, .ref qmt, .ref qms, .int ua, .int ub, .int uc, .int ud, .int ue, .int uf, .int ug, .int uh, .int ui, .int uj, .int uk, .int ul, .int um, .int un2]))]) := by
  refine mkV (lv0 := [(0, .ref h0), (1, .int v), (2, .int w)]) (by decide) (Nat.le_of_ble_eq_true rfl) rfl ?_
  intro p e s m below meth c A ls X hr hlocks hnm hE hA hP hD hS hl
  have hx := X.1
  have hb := X.2.1
  refine qW (fun Q9 hQ9 => ?_)
  refine lv_aload_n hx hb dX0_needRange_0 rfl (lv_at hl 0 rfl) ?_
  refine k_get (C := RX0) (T := TX0) (N := 18) (ci := 0) (v := .int un) X hE hP 0 rfl rfl iX0 17 (by decide) w_386 rfl dX0_needRange_1 ?_
  refine lv_iconst (v := (-1)) hx hb dX0_needRange_4 (by decide) ?_
  refine lv_icmp_ne (tgt := 32) hx hb dX0_needRange_5 (by decide) (fun c_5 => ?_) (fun c_5 => ?_)
  · skip
    rw [hQ9]
    exact endV X hr hlocks hP hD hS dX0_needRange_32 ⟨un, rfl⟩
  · skip
    refine lv_aload_n hx hb dX0_needRange_8 rfl (lv_at hl 0 rfl) ?_
    refine k_get (C := RX0) (T := TX0) (N := 18) (ci := 0) (v := .int uk) X hE hP 0 rfl rfl iX0 14 (by decide) w_387 rfl dX0_needRange_9 ?_
    refine lv_iload_n hx hb dX0_needRange_12 rfl (lv_at hl 1 rfl) ?_
    refine lv_icmp_lt (tgt := 24) hx hb dX0_needRange_13 (by decide) (fun c_13 => ?_) (fun c_13 => ?_)
    · skip
      refine lv_aload_n hx hb dX0_needRange_24 rfl (lv_at hl 0 rfl) ?_
      refine lv_aload_n hx hb dX0_needRange_25 rfl (lv_at hl 0 rfl) ?_
      refine k_get (C := RX0) (T := TX0) (N := 18) (ci := 0) (v := .int ul) X hE hP 0 rfl rfl iX0 15 (by decide) w_388 rfl dX0_needRange_26 ?_
      refine k_put (C := RX0) (T := TX0) (N := 18) (ci := 0) (v := .int ul) (ty := .int) X hE hP hD hS 0 rfl rfl iX0 tyX0 tyX0_ok nmX0 17 (by decide) w_386 rfl (by decide +kernel) rfl rfl (Nat.le_of_ble_eq_true rfl) [(h0, .inr (0, [.ref qa, .ref qmi, .ref qmt, .ref qms, .int ua, .int ub, .int uc, .int ud, .int ue, .int uf, .int ug, .int uh, .int ui, .int uj, .int uk, .int ul, .int um, .int ul]))] rfl dX0_needRange_29 (fun H locs hP hD hS => ?_)
      rw [hQ9]
      exact endV X hr hlocks hP hD hS dX0_needRange_32 ⟨ul, rfl⟩
    · skip
      refine lv_aload_n hx hb dX0_needRange_16 rfl (lv_at hl 0 rfl) ?_
      refine k_get (C := RX0) (T := TX0) (N := 18) (ci := 0) (v := .int uk) X hE hP 0 rfl rfl iX0 14 (by decide) w_387 rfl dX0_needRange_17 ?_
      refine lv_iload_n hx hb dX0_needRange_20 rfl (lv_at hl 2 rfl) ?_
      refine lv_icmp_le (tgt := 32) hx hb dX0_needRange_21 (by decide) (fun c_21 => ?_) (fun c_21 => ?_)
      · skip
        rw [hQ9]
        exact endV X hr hlocks hP hD hS dX0_needRange_32 ⟨un, rfl⟩
      · skip
        refine lv_aload_n hx hb dX0_needRange_24 rfl (lv_at hl 0 rfl) ?_
        refine lv_aload_n hx hb dX0_needRange_25 rfl (lv_at hl 0 rfl) ?_
        refine k_get (C := RX0) (T := TX0) (N := 18) (ci := 0) (v := .int ul) X hE hP 0 rfl rfl iX0 15 (by decide) w_388 rfl dX0_needRange_26 ?_
        refine k_put (C := RX0) (T := TX0) (N := 18) (ci := 0) (v := .int ul) (ty := .int) X hE hP hD hS 0 rfl rfl iX0 tyX0 tyX0_ok nmX0 17 (by decide) w_386 rfl (by decide +kernel) rfl rfl (Nat.le_of_ble_eq_true rfl) [(h0, .inr (0, [.ref qa, .ref qmi, .ref qmt, .ref qms, .int ua, .int ub, .int uc, .int ud, .int ue, .int uf, .int ug, .int uh, .int ui, .int uj, .int uk, .int ul, .int um, .int ul]))] rfl dX0_needRange_29 (fun H locs hP hD hS => ?_)
        rw [hQ9]
        exact endV X hr hlocks hP hD hS dX0_needRange_32 ⟨ul, rfl⟩
set_option maxHeartbeats 4000000 in
set_option maxRecDepth 100000 in
theorem c_s_leaveSpace (l : Launch) (D : va_G) (cA cB : ClassId) (h0 : Nat) (qa : Nat) (qmi : Nat) (qmt : Nat) (qms : Nat) (ua : Int32) (ub : Int32) (uc : Int32) (ud : Int32) (ue : Int32) (uf : Int32) (ug : Int32) (uh : Int32) (ui : Int32) (uj : Int32) (uk : Int32) (ul : Int32) (um : Int32) (un : Int32)  : CV l yX0_leaveSpace cX0_leaveSpace 1 none 0 0 0 0 D cA cB [.ref h0] [(h0, .inr (0, [.ref qa, .ref qmi, .ref qmt, .ref qms, .int ua, .int ub, .int uc, .int ud, .int ue, .int uf, .int ug, .int uh, .int ui, .int uj, .int uk, .int ul, .int um, .int un]))] (fun W1 => ∃ (uj2 : Int32), W1 = [(h0, .inr (0, [.ref qa, .ref qmi, .ref qmt, .ref qms, .int ua, .int ub, .int uc, .int ud, .int ue, .int uf, .int ug, .int uh, .int ui, .int uj2, .int uk, .int ul, .int um, .int un]))]) := by
  refine mkV (lv0 := [(0, .ref h0)]) (by decide) (Nat.le_of_ble_eq_true rfl) rfl ?_
  intro p e s m below meth c A ls X hr hlocks hnm hE hA hP hD hS hl
  have hx := X.1
  have hb := X.2.1
  refine qW (fun Q9 hQ9 => ?_)
  refine lv_aload_n hx hb dX0_leaveSpace_0 rfl (lv_at hl 0 rfl) ?_
  refine k_get (C := RX0) (T := TX0) (N := 18) (ci := 0) (v := .int uh) X hE hP 0 rfl rfl iX0 11 (by decide) w_389 rfl dX0_leaveSpace_1 ?_
  refine lv_bipush (v := 81) hx hb dX0_leaveSpace_4 (by decide) ?_
  refine lv_icmp_ne (tgt := 17) hx hb dX0_leaveSpace_6 (by decide) (fun c_6 => ?_) (fun c_6 => ?_)
  · skip
    rw [hQ9]
    exact endV X hr hlocks hP hD hS dX0_leaveSpace_17 ⟨uj, rfl⟩
  · skip
    refine lv_aload_n hx hb dX0_leaveSpace_9 rfl (lv_at hl 0 rfl) ?_
    refine lv_aload_n hx hb dX0_leaveSpace_10 rfl (lv_at hl 0 rfl) ?_
    refine k_get (C := RX0) (T := TX0) (N := 18) (ci := 0) (v := .int uk) X hE hP 0 rfl rfl iX0 14 (by decide) w_387 rfl dX0_leaveSpace_11 ?_
    refine k_put (C := RX0) (T := TX0) (N := 18) (ci := 0) (v := .int uk) (ty := .int) X hE hP hD hS 0 rfl rfl iX0 tyX0 tyX0_ok nmX0 13 (by decide) w_390 rfl (by decide +kernel) rfl rfl (Nat.le_of_ble_eq_true rfl) [(h0, .inr (0, [.ref qa, .ref qmi, .ref qmt, .ref qms, .int ua, .int ub, .int uc, .int ud, .int ue, .int uf, .int ug, .int uh, .int ui, .int uk, .int uk, .int ul, .int um, .int un]))] rfl dX0_leaveSpace_14 (fun H locs hP hD hS => ?_)
    rw [hQ9]
    exact endV X hr hlocks hP hD hS dX0_leaveSpace_17 ⟨uk, rfl⟩
set_option maxHeartbeats 4000000 in
set_option maxRecDepth 100000 in
theorem c_s_lay (l : Launch) (D : va_G) (cA cB : ClassId) (h0 : Nat) (qa : Nat) (qmi : Nat) (qmt : Nat) (qms : Nat) (ua : Int32) (ub : Int32) (uc : Int32) (ud : Int32) (ue : Int32) (uf : Int32) (ug : Int32) (uh : Int32) (ui : Int32) (uj : Int32) (uk : Int32) (ul : Int32) (um : Int32) (un : Int32) (im : Nat → Int32) (v : Int32) (him : ∀ j, j < 4096 → ∃ k : Nat, k < 256 ∧ im j = nI k) : CV l yX0_lay cX0_lay 3 none 0 0 0 0 D cA cB [.ref h0, .int v] [(h0, .inr (0, [.ref qa, .ref qmi, .ref qmt, .ref qms, .int ua, .int ub, .int uc, .int ud, .int ue, .int uf, .int ug, .int uh, .int ui, .int uj, .int uk, .int ul, .int um, .int un])), (qmi, .inl (cA, 4096, .inl im))] (fun W1 => ∃ (uj2 : Int32) (im2 : Nat → Int32), (∀ j, j < 4096 → ∃ k : Nat, k < 256 ∧ im2 j = nI k) ∧ W1 = [(h0, .inr (0, [.ref qa, .ref qmi, .ref qmt, .ref qms, .int ua, .int ub, .int uc, .int ud, .int ue, .int uf, .int ug, .int uh, .int ui, .int uj2, .int uk, .int ul, .int um, .int un])), (qmi, .inl (cA, 4096, .inl im2))]) := by
  refine mkV (lv0 := [(0, .ref h0), (1, .int v)]) (by decide) (Nat.le_of_ble_eq_true rfl) rfl ?_
  intro p e s m below meth c A ls X hr hlocks hnm hE hA hP hD hS hl
  have hx := X.1
  have hb := X.2.1
  refine qW (fun Q9 hQ9 => ?_)
  refine lv_aload_n hx hb dX0_lay_0 rfl (lv_at hl 0 rfl) ?_
  refine k_get (C := RX0) (T := TX0) (N := 18) (ci := 0) (v := .int uc) X hE hP 0 rfl rfl iX0 6 (by decide) w_391 rfl dX0_lay_1 ?_
  refine lv_aload_n hx hb dX0_lay_4 rfl (lv_at hl 0 rfl) ?_
  refine k_get (C := RX0) (T := TX0) (N := 18) (ci := 0) (v := .int uj) X hE hP 0 rfl rfl iX0 13 (by decide) w_390 rfl dX0_lay_5 ?_
  refine lv_iadd hx hb dX0_lay_8 ?_
  refine lv_istore_n (lv' := [(2, .int (uc + uj)), (0, .ref h0), (1, .int v)]) hx hb dX0_lay_9 rfl hl (by decide) rfl (fun ls hl => ?_)
  refine lv_aload_n hx hb dX0_lay_10 rfl (lv_at hl 1 rfl) ?_
  refine k_get (C := RX0) (T := TX0) (N := 18) (ci := 0) (v := .int ud) X hE hP 0 rfl rfl iX0 7 (by decide) w_392 rfl dX0_lay_11 ?_
  refine lv_if_eq (tgt := 39) hx hb dX0_lay_14 (by decide) (fun c_14 => ?_) (fun c_14 => ?_)
  · skip
    refine lv_aload_n hx hb dX0_lay_39 rfl (lv_at hl 1 rfl) ?_
    refine lv_dup hx hb dX0_lay_40 rfl ?_
    refine k_get (C := RX0) (T := TX0) (N := 18) (ci := 0) (v := .int uj) X hE hP 0 rfl rfl iX0 13 (by decide) w_390 rfl dX0_lay_41 ?_
    refine lv_iconst (v := 1) hx hb dX0_lay_44 (by decide) ?_
    refine lv_iadd hx hb dX0_lay_45 ?_
    refine k_put (C := RX0) (T := TX0) (N := 18) (ci := 0) (v := .int (uj + 1)) (ty := .int) X hE hP hD hS 0 rfl rfl iX0 tyX0 tyX0_ok nmX0 13 (by decide) w_390 rfl (by decide +kernel) rfl rfl (Nat.le_of_ble_eq_true rfl) [(h0, .inr (0, [.ref qa, .ref qmi, .ref qmt, .ref qms, .int ua, .int ub, .int uc, .int ud, .int ue, .int uf, .int ug, .int uh, .int ui, .int (uj + 1), .int uk, .int ul, .int um, .int un])), (qmi, .inl (cA, 4096, .inl im))] rfl dX0_lay_46 (fun H locs hP hD hS => ?_)
    rw [hQ9]
    exact endV X hr hlocks hP hD hS dX0_lay_49 ⟨(uj + 1), im, him, rfl⟩
  · skip
    refine lv_iload_n hx hb dX0_lay_17 rfl (lv_at hl 0 rfl) ?_
    refine lv_if_lt (tgt := 39) hx hb dX0_lay_18 (by decide) (fun c_18 => ?_) (fun c_18 => ?_)
    · skip
      refine lv_aload_n hx hb dX0_lay_39 rfl (lv_at hl 1 rfl) ?_
      refine lv_dup hx hb dX0_lay_40 rfl ?_
      refine k_get (C := RX0) (T := TX0) (N := 18) (ci := 0) (v := .int uj) X hE hP 0 rfl rfl iX0 13 (by decide) w_390 rfl dX0_lay_41 ?_
      refine lv_iconst (v := 1) hx hb dX0_lay_44 (by decide) ?_
      refine lv_iadd hx hb dX0_lay_45 ?_
      refine k_put (C := RX0) (T := TX0) (N := 18) (ci := 0) (v := .int (uj + 1)) (ty := .int) X hE hP hD hS 0 rfl rfl iX0 tyX0 tyX0_ok nmX0 13 (by decide) w_390 rfl (by decide +kernel) rfl rfl (Nat.le_of_ble_eq_true rfl) [(h0, .inr (0, [.ref qa, .ref qmi, .ref qmt, .ref qms, .int ua, .int ub, .int uc, .int ud, .int ue, .int uf, .int ug, .int uh, .int ui, .int (uj + 1), .int uk, .int ul, .int um, .int un])), (qmi, .inl (cA, 4096, .inl im))] rfl dX0_lay_46 (fun H locs hP hD hS => ?_)
      rw [hQ9]
      exact endV X hr hlocks hP hD hS dX0_lay_49 ⟨(uj + 1), im, him, rfl⟩
    · skip
      refine lv_iload_n hx hb dX0_lay_21 rfl (lv_at hl 0 rfl) ?_
      refine lv_sipush (v := 4080) hx hb dX0_lay_22 (by decide) ?_
      refine lv_icmp_ge (tgt := 39) hx hb dX0_lay_25 (by decide) (fun c_25 => ?_) (fun c_25 => ?_)
      · skip
        refine lv_aload_n hx hb dX0_lay_39 rfl (lv_at hl 1 rfl) ?_
        refine lv_dup hx hb dX0_lay_40 rfl ?_
        refine k_get (C := RX0) (T := TX0) (N := 18) (ci := 0) (v := .int uj) X hE hP 0 rfl rfl iX0 13 (by decide) w_390 rfl dX0_lay_41 ?_
        refine lv_iconst (v := 1) hx hb dX0_lay_44 (by decide) ?_
        refine lv_iadd hx hb dX0_lay_45 ?_
        refine k_put (C := RX0) (T := TX0) (N := 18) (ci := 0) (v := .int (uj + 1)) (ty := .int) X hE hP hD hS 0 rfl rfl iX0 tyX0 tyX0_ok nmX0 13 (by decide) w_390 rfl (by decide +kernel) rfl rfl (Nat.le_of_ble_eq_true rfl) [(h0, .inr (0, [.ref qa, .ref qmi, .ref qmt, .ref qms, .int ua, .int ub, .int uc, .int ud, .int ue, .int uf, .int ug, .int uh, .int ui, .int (uj + 1), .int uk, .int ul, .int um, .int un])), (qmi, .inl (cA, 4096, .inl im))] rfl dX0_lay_46 (fun H locs hP hD hS => ?_)
        rw [hQ9]
        exact endV X hr hlocks hP hD hS dX0_lay_49 ⟨(uj + 1), im, him, rfl⟩
      · skip
        obtain ⟨j, hj, ej⟩ := idx_of (n := 4080) (by decide) c_18 c_25
        rw [ej] at hl
        refine lv_aload_n hx hb dX0_lay_28 rfl (lv_at hl 1 rfl) ?_
        refine k_get (C := RX0) (T := TX0) (N := 18) (ci := 0) (v := .ref qmi) X hE hP 0 rfl rfl iX0 1 (by decide) w_393 rfl dX0_lay_29 ?_
        refine lv_iload_n hx hb dX0_lay_32 rfl (lv_at hl 0 rfl) ?_
        refine lv_iload_n hx hb dX0_lay_33 rfl (lv_at hl 2 rfl) ?_
        refine lv_sipush (v := 255) hx hb dX0_lay_34 (by decide) ?_
        refine lv_iand hx hb dX0_lay_37 ?_
        obtain ⟨k_1, hk_1, ek_1⟩ := pk_andE v (m := 255) 8 (by decide)
        have hk_1 : k_1 < 256 := hk_1
        refine tk (y := nI k_1) ek_1 ?_
        refine k_ast X hE hP hD hS 1 rfl j rfl (by omega) (by decide) [(h0, .inr (0, [.ref qa, .ref qmi, .ref qmt, .ref qms, .int ua, .int ub, .int uc, .int ud, .int ue, .int uf, .int ug, .int uh, .int ui, .int uj, .int uk, .int ul, .int um, .int un])), (qmi, .inl (cA, 4096, .inl (upd im j (nI k_1))))] rfl dX0_lay_38 (fun H locs hP hD hS => ?_)
        obtain ⟨g_2, eg_2⟩ : ∃ z, z = upd im j (nI k_1) := ⟨_, rfl⟩
        rw [← eg_2] at hP hD
        have hg_2 := okB_upd him j (nI k_1) ⟨k_1, by omega, rfl⟩
        rw [← eg_2] at hg_2
        have hP : va_P D classes [(h0, .inr (0, [.ref qa, .ref qmi, .ref qmt, .ref qms, .int ua, .int ub, .int uc, .int ud, .int ue, .int uf, .int ug, .int uh, .int ui, .int uj, .int uk, .int ul, .int um, .int un])), (qmi, .inl (cA, 4096, .inl g_2))] H := hP
        have hD : va_D A [(h0, .inr (0, [.ref qa, .ref qmi, .ref qmt, .ref qms, .int ua, .int ub, .int uc, .int ud, .int ue, .int uf, .int ug, .int uh, .int ui, .int uj, .int uk, .int ul, .int um, .int un])), (qmi, .inl (cA, 4096, .inl g_2))] := hD
        refine lv_aload_n hx hb dX0_lay_39 rfl (lv_at hl 1 rfl) ?_
        refine lv_dup hx hb dX0_lay_40 rfl ?_
        refine k_get (C := RX0) (T := TX0) (N := 18) (ci := 0) (v := .int uj) X hE hP 0 rfl rfl iX0 13 (by decide) w_390 rfl dX0_lay_41 ?_
        refine lv_iconst (v := 1) hx hb dX0_lay_44 (by decide) ?_
        refine lv_iadd hx hb dX0_lay_45 ?_
        refine k_put (C := RX0) (T := TX0) (N := 18) (ci := 0) (v := .int (uj + 1)) (ty := .int) X hE hP hD hS 0 rfl rfl iX0 tyX0 tyX0_ok nmX0 13 (by decide) w_390 rfl (by decide +kernel) rfl rfl (Nat.le_of_ble_eq_true rfl) [(h0, .inr (0, [.ref qa, .ref qmi, .ref qmt, .ref qms, .int ua, .int ub, .int uc, .int ud, .int ue, .int uf, .int ug, .int uh, .int ui, .int (uj + 1), .int uk, .int ul, .int um, .int un])), (qmi, .inl (cA, 4096, .inl g_2))] rfl dX0_lay_46 (fun H locs hP hD hS => ?_)
        rw [hQ9]
        exact endV X hr hlocks hP hD hS dX0_lay_49 ⟨(uj + 1), g_2, hg_2, rfl⟩
set_option maxHeartbeats 4000000 in
set_option maxRecDepth 100000 in
theorem c_s_isFull (l : Launch) (D : va_G) (cA cB : ClassId) (h0 : Nat) (ha : Nat) (hb9 : Nat) (hc9 : Nat) (hd9 : Nat) (cn : Nat) (hcn : cn < 61) : CI l yX2_isFull cX2_isFull 1 (some .boolean) 0 0 0 0 D cA cB [.ref h0] [(h0, .inr (2, [.ref ha, .ref hb9, .ref hc9, .ref hd9, .int (nI cn)]))] (fun r W1 => ∃ (rk : Nat), r = nI rk ∧ (rk < 2) ∧ W1 = [(h0, .inr (2, [.ref ha, .ref hb9, .ref hc9, .ref hd9, .int (nI cn)]))]) := by
  refine mkI (lv0 := [(0, .ref h0)]) (by decide) (Nat.le_of_ble_eq_true rfl) rfl ?_
  intro p e s m below meth c A ls X hr hlocks hnm hE hA hP hD hS hl
  have hx := X.1
  have hb := X.2.1
  refine qW (fun Q9 hQ9 => ?_)
  refine lv_aload_n hx hb dX2_isFull_0 rfl (lv_at hl 0 rfl) ?_
  refine k_get (C := RX2) (T := TX2) (N := 5) (ci := 2) (v := .int (nI cn)) X hE hP 0 rfl rfl iX2 4 (by decide) w_355 rfl dX2_isFull_1 ?_
  refine lv_bipush (v := 60) hx hb dX2_isFull_4 (by decide) ?_
  refine lv_icmp_lt (tgt := 13) hx hb dX2_isFull_6 (by decide) (fun c_6_1 => ?_) (fun c_6_1 => ?_)
  · have nc_6_1 : cn < 60 := (nI_ltI (a := cn) (b := 60) (by omega) (by omega)).mp c_6_1
    refine lv_iconst (v := 0) hx hb dX2_isFull_13 (by decide) ?_
    rw [hQ9]
    exact endZ X hr rfl hlocks hP hD hS dX2_isFull_14 ⟨0, rfl, (by decide), rfl⟩
  · have nc_6_1 : 60 ≤ cn := Nat.not_lt.mp (fun q => c_6_1 ((nI_ltI (a := cn) (b := 60) (by omega) (by omega)).mpr q))
    refine lv_iconst (v := 1) hx hb dX2_isFull_9 (by decide) ?_
    refine lv_goto (tgt := 14) hx hb dX2_isFull_10 (by decide) ?_
    rw [hQ9]
    exact endZ X hr rfl hlocks hP hD hS dX2_isFull_14 ⟨1, rfl, (by decide), rfl⟩
