abbrev cX8_end : ByteArray := prog_1_method_3_code
def yX8_end : MethodName := ⟨RX8, "end", "(I)I"⟩
abbrev cX2_tell : ByteArray := prog_4_method_5_code
def yX2_tell : MethodName := ⟨RX2, "tell", "(II)I"⟩
abbrev cX8_name : ByteArray := prog_1_method_6_code
def yX8_name : MethodName := ⟨RX8, "name", "(II)I"⟩
abbrev cX8_fault : ByteArray := prog_1_method_5_code
def yX8_fault : MethodName := ⟨RX8, "fault", "(I)I"⟩
abbrev cX8_out : ByteArray := prog_1_method_22_code
def yX8_out : MethodName := ⟨RX8, "out", "(I)I"⟩
set_option maxRecDepth 100000 in
theorem w_354 : (Cond.fieldLink "BelfryBox" 51 "BelfryBox" "tape" "LBelfryBox$Tape;" : Cond) ∈ gw := List.mem_filter.mpr ⟨List.mem_append_right _ (tb2 (List.mem_of_getElem? (i := 52) rfl)), rfl⟩
set_option maxRecDepth 100000 in
theorem w_355 : (Cond.fieldLink "BelfryBox$Names" 24 "BelfryBox$Names" "count" "I" : Cond) ∈ gw := List.mem_filter.mpr ⟨List.mem_append_right _ (tb1 (List.mem_of_getElem? (i := 175) rfl)), rfl⟩
set_option maxRecDepth 100000 in
theorem w_356 : (Cond.fieldLink "BelfryBox$Names" 18 "BelfryBox$Names" "values" "[I" : Cond) ∈ gw := List.mem_filter.mpr ⟨List.mem_append_right _ (tb1 (List.mem_of_getElem? (i := 173) rfl)), rfl⟩
set_option maxRecDepth 100000 in
theorem w_357 : (Cond.fieldLink "BelfryBox$Names" 11 "BelfryBox$Names" "places" "[I" : Cond) ∈ gw := List.mem_filter.mpr ⟨List.mem_append_right _ (tb1 (List.mem_of_getElem? (i := 171) rfl)), rfl⟩
set_option maxRecDepth 100000 in
theorem w_358 : (Cond.fieldLink "BelfryBox$Names" 21 "BelfryBox$Names" "equations" "[I" : Cond) ∈ gw := List.mem_filter.mpr ⟨List.mem_append_right _ (tb1 (List.mem_of_getElem? (i := 174) rfl)), rfl⟩
set_option maxRecDepth 100000 in
theorem w_359 : (Cond.fieldLink "BelfryBox" 60 "BelfryBox" "assembler" "LBelfryBox$Assembler;" : Cond) ∈ gw := List.mem_filter.mpr ⟨List.mem_append_right _ (tb2 (List.mem_of_getElem? (i := 53) rfl)), rfl⟩
set_option maxRecDepth 100000 in
theorem w_360 : (Cond.methodLink "BelfryBox" 109 yX2_tell : Cond) ∈ gw := List.mem_filter.mpr ⟨List.mem_append_right _ (tb3 (List.mem_of_getElem? (i := 120) rfl)), rfl⟩
set_option maxRecDepth 100000 in
theorem w_361 : (Cond.code yX2_tell prog_4_method_5_code 3 (Option.some Jvm.ClassFile.FieldType.int) : Cond) ∈ gw := List.mem_filter.mpr ⟨List.mem_append_right _ (tb3 (List.mem_of_getElem? (i := 48) rfl)), rfl⟩
set_option maxRecDepth 100000 in
theorem w_362 : (Cond.initialized "BelfryBox$Names" : Cond) ∈ gw := List.mem_filter.mpr ⟨List.mem_append_right _ (tb1 (List.mem_of_getElem? (i := 8) rfl)), rfl⟩
set_option maxRecDepth 100000 in
theorem w_363 : (Cond.instanceMethod yX2_tell : Cond) ∈ gw := List.mem_filter.mpr ⟨List.mem_append_right _ (tb3 (List.mem_of_getElem? (i := 46) rfl)), rfl⟩
set_option maxRecDepth 100000 in
theorem w_364 : (Cond.selects "BelfryBox$Names" yX2_tell yX2_tell : Cond) ∈ gw := List.mem_filter.mpr ⟨List.mem_append_right _ (tb3 (List.mem_of_getElem? (i := 47) rfl)), rfl⟩
set_option maxRecDepth 100000 in
theorem w_365 : (Cond.fieldLink "BelfryBox" 67 "BelfryBox" "reader" "LBelfryBox$Reader;" : Cond) ∈ gw := List.mem_filter.mpr ⟨List.mem_append_right _ (tb2 (List.mem_of_getElem? (i := 54) rfl)), rfl⟩
theorem nw_12 : (Cond.fieldLinkNest "BelfryBox" 82 "BelfryBox$Tape" "length" "I" "BelfryBox" : Cond) ∈ nests := List.mem_of_getElem? (i := 12) rfl
theorem nw_24 : (Cond.fieldLinkNest "BelfryBox" 105 "BelfryBox$Assembler" "settled" "LBelfryBox$Names;" "BelfryBox" : Cond) ∈ nests := List.mem_of_getElem? (i := 24) rfl
theorem nw_25 : (Cond.fieldLinkNest "BelfryBox" 99 "BelfryBox$Assembler" "faultKind" "I" "BelfryBox" : Cond) ∈ nests := List.mem_of_getElem? (i := 25) rfl
theorem nw_26 : (Cond.fieldLinkNest "BelfryBox" 102 "BelfryBox$Assembler" "faultPlace" "I" "BelfryBox" : Cond) ∈ nests := List.mem_of_getElem? (i := 26) rfl
theorem nw_30 : (Cond.fieldLinkNest "BelfryBox" 177 "BelfryBox$Reader" "length" "I" "BelfryBox" : Cond) ∈ nests := List.mem_of_getElem? (i := 30) rfl
theorem nw_29 : (Cond.fieldLinkNest "BelfryBox" 178 "BelfryBox$Reader" "letters" "[I" "BelfryBox" : Cond) ∈ nests := List.mem_of_getElem? (i := 29) rfl
theorem dX8_end_0 : decode cX8_end 0 = .ok (.iload_n 1, 1) := by decide +kernel
theorem dX8_end_1 : decode cX8_end 1 = .ok (.ifCond .lt 14, 3) := by decide +kernel
theorem dX8_end_15 : decode cX8_end 15 = .ok (.iconst (-1), 1) := by decide +kernel
theorem dX8_end_16 : decode cX8_end 16 = .ok (.ireturn, 1) := by decide +kernel
theorem dX8_end_4 : decode cX8_end 4 = .ok (.iload_n 1, 1) := by decide +kernel
theorem dX8_end_5 : decode cX8_end 5 = .ok (.aload_n 0, 1) := by decide +kernel
theorem dX8_end_6 : decode cX8_end 6 = .ok (.getfield 51, 3) := by decide +kernel
theorem dX8_end_9 : decode cX8_end 9 = .ok (.getfield 82, 3) := by decide +kernel
theorem dX8_end_12 : decode cX8_end 12 = .ok (.if_icmp .le 5, 3) := by decide +kernel
theorem dX8_end_17 : decode cX8_end 17 = .ok (.aload_n 0, 1) := by decide +kernel
theorem dX8_end_18 : decode cX8_end 18 = .ok (.getfield 51, 3) := by decide +kernel
theorem dX8_end_21 : decode cX8_end 21 = .ok (.iload_n 1, 1) := by decide +kernel
theorem dX8_end_22 : decode cX8_end 22 = .ok (.putfield 82, 3) := by decide +kernel
theorem dX8_end_25 : decode cX8_end 25 = .ok (.iload_n 1, 1) := by decide +kernel
theorem dX8_end_26 : decode cX8_end 26 = .ok (.ireturn, 1) := by decide +kernel
theorem dX2_tell_0 : decode cX2_tell 0 = .ok (.iload_n 1, 1) := by decide +kernel
theorem dX2_tell_1 : decode cX2_tell 1 = .ok (.ifCond .lt 11, 3) := by decide +kernel
theorem dX2_tell_12 : decode cX2_tell 12 = .ok (.iconst 0, 1) := by decide +kernel
theorem dX2_tell_13 : decode cX2_tell 13 = .ok (.ireturn, 1) := by decide +kernel
theorem dX2_tell_4 : decode cX2_tell 4 = .ok (.iload_n 1, 1) := by decide +kernel
theorem dX2_tell_5 : decode cX2_tell 5 = .ok (.aload_n 0, 1) := by decide +kernel
theorem dX2_tell_6 : decode cX2_tell 6 = .ok (.getfield 24, 3) := by decide +kernel
theorem dX2_tell_9 : decode cX2_tell 9 = .ok (.if_icmp .lt 5, 3) := by decide +kernel
theorem dX2_tell_14 : decode cX2_tell 14 = .ok (.iload_n 2, 1) := by decide +kernel
theorem dX2_tell_15 : decode cX2_tell 15 = .ok (.tableswitch 46 0 2 #[25, 32, 39], 25) := by decide +kernel
theorem dX2_tell_40 : decode cX2_tell 40 = .ok (.aload_n 0, 1) := by decide +kernel
theorem dX2_tell_41 : decode cX2_tell 41 = .ok (.getfield 18, 3) := by decide +kernel
theorem dX2_tell_44 : decode cX2_tell 44 = .ok (.iload_n 1, 1) := by decide +kernel
theorem dX2_tell_45 : decode cX2_tell 45 = .ok (.iaload, 1) := by decide +kernel
theorem dX2_tell_46 : decode cX2_tell 46 = .ok (.ireturn, 1) := by decide +kernel
theorem dX2_tell_47 : decode cX2_tell 47 = .ok (.aload_n 0, 1) := by decide +kernel
theorem dX2_tell_48 : decode cX2_tell 48 = .ok (.getfield 11, 3) := by decide +kernel
theorem dX2_tell_51 : decode cX2_tell 51 = .ok (.iload_n 1, 1) := by decide +kernel
theorem dX2_tell_52 : decode cX2_tell 52 = .ok (.iaload, 1) := by decide +kernel
theorem dX2_tell_53 : decode cX2_tell 53 = .ok (.ireturn, 1) := by decide +kernel
theorem dX2_tell_54 : decode cX2_tell 54 = .ok (.aload_n 0, 1) := by decide +kernel
theorem dX2_tell_55 : decode cX2_tell 55 = .ok (.getfield 21, 3) := by decide +kernel
theorem dX2_tell_58 : decode cX2_tell 58 = .ok (.iload_n 1, 1) := by decide +kernel
theorem dX2_tell_59 : decode cX2_tell 59 = .ok (.iaload, 1) := by decide +kernel
theorem dX2_tell_60 : decode cX2_tell 60 = .ok (.ireturn, 1) := by decide +kernel
theorem dX2_tell_61 : decode cX2_tell 61 = .ok (.iconst 0, 1) := by decide +kernel
theorem dX2_tell_62 : decode cX2_tell 62 = .ok (.ireturn, 1) := by decide +kernel
theorem dX8_name_0 : decode cX8_name 0 = .ok (.aload_n 0, 1) := by decide +kernel
theorem dX8_name_1 : decode cX8_name 1 = .ok (.getfield 60, 3) := by decide +kernel
theorem dX8_name_4 : decode cX8_name 4 = .ok (.getfield 105, 3) := by decide +kernel
theorem dX8_name_7 : decode cX8_name 7 = .ok (.iload_n 1, 1) := by decide +kernel
theorem dX8_name_8 : decode cX8_name 8 = .ok (.iload_n 2, 1) := by decide +kernel
theorem dX8_name_9 : decode cX8_name 9 = .ok (.invokevirtual 109, 3) := by decide +kernel
theorem dX8_name_12 : decode cX8_name 12 = .ok (.ireturn, 1) := by decide +kernel
theorem dX8_fault_0 : decode cX8_fault 0 = .ok (.iload_n 1, 1) := by decide +kernel
theorem dX8_fault_1 : decode cX8_fault 1 = .ok (.lookupswitch 43 #[(0, 27), (1, 35)], 27) := by decide +kernel
theorem dX8_fault_28 : decode cX8_fault 28 = .ok (.aload_n 0, 1) := by decide +kernel
theorem dX8_fault_29 : decode cX8_fault 29 = .ok (.getfield 60, 3) := by decide +kernel
theorem dX8_fault_32 : decode cX8_fault 32 = .ok (.getfield 99, 3) := by decide +kernel
theorem dX8_fault_35 : decode cX8_fault 35 = .ok (.ireturn, 1) := by decide +kernel
theorem dX8_fault_36 : decode cX8_fault 36 = .ok (.aload_n 0, 1) := by decide +kernel
theorem dX8_fault_37 : decode cX8_fault 37 = .ok (.getfield 60, 3) := by decide +kernel
theorem dX8_fault_40 : decode cX8_fault 40 = .ok (.getfield 102, 3) := by decide +kernel
theorem dX8_fault_43 : decode cX8_fault 43 = .ok (.ireturn, 1) := by decide +kernel
theorem dX8_fault_44 : decode cX8_fault 44 = .ok (.iconst (-1), 1) := by decide +kernel
theorem dX8_fault_45 : decode cX8_fault 45 = .ok (.ireturn, 1) := by decide +kernel
theorem dX8_out_0 : decode cX8_out 0 = .ok (.iload_n 1, 1) := by decide +kernel
theorem dX8_out_1 : decode cX8_out 1 = .ok (.ifCond .lt 26, 3) := by decide +kernel
theorem dX8_out_27 : decode cX8_out 27 = .ok (.iconst (-1), 1) := by decide +kernel
theorem dX8_out_28 : decode cX8_out 28 = .ok (.ireturn, 1) := by decide +kernel
theorem dX8_out_4 : decode cX8_out 4 = .ok (.iload_n 1, 1) := by decide +kernel
theorem dX8_out_5 : decode cX8_out 5 = .ok (.aload_n 0, 1) := by decide +kernel
theorem dX8_out_6 : decode cX8_out 6 = .ok (.getfield 67, 3) := by decide +kernel
theorem dX8_out_9 : decode cX8_out 9 = .ok (.getfield 177, 3) := by decide +kernel
theorem dX8_out_12 : decode cX8_out 12 = .ok (.if_icmp .ge 15, 3) := by decide +kernel
theorem dX8_out_15 : decode cX8_out 15 = .ok (.aload_n 0, 1) := by decide +kernel
theorem dX8_out_16 : decode cX8_out 16 = .ok (.getfield 67, 3) := by decide +kernel
theorem dX8_out_19 : decode cX8_out 19 = .ok (.getfield 178, 3) := by decide +kernel
theorem dX8_out_22 : decode cX8_out 22 = .ok (.iload_n 1, 1) := by decide +kernel
theorem dX8_out_23 : decode cX8_out 23 = .ok (.iaload, 1) := by decide +kernel
theorem dX8_out_24 : decode cX8_out 24 = .ok (.goto 4, 3) := by decide +kernel
set_option maxHeartbeats 4000000 in
set_option maxRecDepth 100000 in
theorem c_s_end (l : Launch) (D : va_G) (cA cB : ClassId) (h0 : Nat) (hn : Nat) (hs : Nat) (hd : Nat) (hp : Nat) (qr : Nat) (qst : Nat) (qa : Nat) (qm : Nat) (qe : Nat) (htb : Nat) (ln : Nat) (t0 : Int32) (t1 : Int32) (t2 : Int32) (t3 : Int32) (t4 : Int32) (t5 : Int32) (t6 : Int32) (a : Int32) (hln : ln < 6001) : CI l yX8_end cX8_end 2 (some .int) 0 0 0 0 D cA cB [.ref h0, .int a] [(h0, .inr (8, [.ref hn, .ref hs, .ref hd, .ref hp, .ref qr, .ref qst, .ref qa, .ref qm, .ref qe])), (qa, .inr (7, [.ref htb, .int (nI ln), .int t0, .int t1, .int t2, .int t3, .int t4, .int t5, .int t6]))] (fun r W1 => ∃ (ln2 : Nat) (rv : Int32), r = rv ∧ ((∃ j : Nat, j ≤ ln ∧ a = nI j ∧ rv = a ∧ ln2 = j) ∨ ((a < 0 ∨ nI ln < a) ∧ rv = -1 ∧ ln2 = ln)) ∧ W1 = [(h0, .inr (8, [.ref hn, .ref hs, .ref hd, .ref hp, .ref qr, .ref qst, .ref qa, .ref qm, .ref qe])), (qa, .inr (7, [.ref htb, .int (nI ln2), .int t0, .int t1, .int t2, .int t3, .int t4, .int t5, .int t6]))]) := by
  refine mkI (lv0 := [(0, .ref h0), (1, .int a)]) (by decide) (Nat.le_of_ble_eq_true rfl) rfl ?_
  intro p e s m below meth c A ls X hr hlocks hnm hE hA hP hD hS hl
  have hx := X.1
  have hb := X.2.1
  refine qW (fun Q9 hQ9 => ?_)
  refine lv_iload_n hx hb dX8_end_0 rfl (lv_at hl 1 rfl) ?_
  refine lv_if_lt (tgt := 15) hx hb dX8_end_1 (by decide) (fun c_1 => ?_) (fun c_1 => ?_)
  · skip
    refine lv_iconst (v := (-1)) hx hb dX8_end_15 (by decide) ?_
    rw [hQ9]
    exact endI X hr hlocks hP hD hS dX8_end_16 ⟨ln, (-1), rfl, (Or.inr ⟨Or.inl c_1, rfl, rfl⟩), rfl⟩
  · skip
    obtain ⟨j, hj, ej⟩ := nI_of c_1
    rw [ej] at hl
    refine lv_iload_n hx hb dX8_end_4 rfl (lv_at hl 1 rfl) ?_
    refine lv_aload_n hx hb dX8_end_5 rfl (lv_at hl 0 rfl) ?_
    refine k_get (C := RX8) (T := TX8) (N := 9) (ci := 8) (v := .ref qa) X hE hP 0 rfl rfl iX8 6 (by decide) w_354 rfl dX8_end_6 ?_
    refine k_getN (C := RX7) (T := TX7) (N := 9) (ci := 7) (v := .int (nI ln)) X hE hP 1 rfl rfl iX7 1 (by decide) nw_12 rfl dX8_end_9 ?_
    refine lv_icmp_le (tgt := 17) hx hb dX8_end_12 (by decide) (fun c_12_1 => ?_) (fun c_12_1 => ?_)
    · have nc_12_1 : j ≤ ln := (nI_leI (a := j) (b := ln) (by omega) (by omega)).mp c_12_1
      refine lv_aload_n hx hb dX8_end_17 rfl (lv_at hl 0 rfl) ?_
      refine k_get (C := RX8) (T := TX8) (N := 9) (ci := 8) (v := .ref qa) X hE hP 0 rfl rfl iX8 6 (by decide) w_354 rfl dX8_end_18 ?_
      refine lv_iload_n hx hb dX8_end_21 rfl (lv_at hl 1 rfl) ?_
      refine k_putN (C := RX7) (T := TX7) (N := 9) (ci := 7) (v := .int (nI j)) (ty := .int) X hE hP hD hS 1 rfl rfl iX7 tyX7 tyX7_ok nmX7 1 (by decide) nw_12 rfl (by decide +kernel) rfl rfl (Nat.le_of_ble_eq_true rfl) [(h0, .inr (8, [.ref hn, .ref hs, .ref hd, .ref hp, .ref qr, .ref qst, .ref qa, .ref qm, .ref qe])), (qa, .inr (7, [.ref htb, .int (nI j), .int t0, .int t1, .int t2, .int t3, .int t4, .int t5, .int t6]))] rfl dX8_end_22 (fun H locs hP hD hS => ?_)
      refine lv_iload_n hx hb dX8_end_25 rfl (lv_at hl 1 rfl) ?_
      rw [hQ9]
      exact endI X hr hlocks hP hD hS dX8_end_26 ⟨j, (nI j), rfl, (Or.inl ⟨j, by omega, ej, ej.symm, rfl⟩), rfl⟩
    · have nc_12_1 : ln < j := Nat.not_le.mp (fun q => c_12_1 ((nI_leI (a := j) (b := ln) (by omega) (by omega)).mpr q))
      refine lv_iconst (v := (-1)) hx hb dX8_end_15 (by decide) ?_
      rw [hQ9]
      exact endI X hr hlocks hP hD hS dX8_end_16 ⟨ln, (-1), rfl, (Or.inr ⟨Or.inr (by rw [ej]; exact nI_lt (by omega) (by omega)), rfl, rfl⟩), rfl⟩
set_option maxHeartbeats 4000000 in
set_option maxRecDepth 100000 in
theorem c_s_tell (l : Launch) (D : va_G) (cA cB : ClassId) (h0 : Nat) (ha : Nat) (hb9 : Nat) (hc9 : Nat) (hd9 : Nat) (cn : Nat) (na : Nat → Int32) (nb : Nat → Int32) (nc : Nat → Int32) (nd : Nat → Int32) (a : Int32) (v : Int32) (hcn : cn < 61) : CI l yX2_tell cX2_tell 3 (some .int) 0 0 0 0 D cA cB [.ref h0, .int a, .int v] [(h0, .inr (2, [.ref ha, .ref hb9, .ref hc9, .ref hd9, .int (nI cn)])), (ha, .inl (cA, 60, .inl na)), (hb9, .inl (cA, 60, .inl nb)), (hc9, .inl (cA, 60, .inl nc)), (hd9, .inl (cA, 60, .inl nd))] (fun r W1 => ∃ (rv : Int32), r = rv ∧ W1 = [(h0, .inr (2, [.ref ha, .ref hb9, .ref hc9, .ref hd9, .int (nI cn)])), (ha, .inl (cA, 60, .inl na)), (hb9, .inl (cA, 60, .inl nb)), (hc9, .inl (cA, 60, .inl nc)), (hd9, .inl (cA, 60, .inl nd))]) := by
  refine mkI (lv0 := [(0, .ref h0), (1, .int a), (2, .int v)]) (by decide) (Nat.le_of_ble_eq_true rfl) rfl ?_
  intro p e s m below meth c A ls X hr hlocks hnm hE hA hP hD hS hl
  have hx := X.1
  have hb := X.2.1
  refine qW (fun Q9 hQ9 => ?_)
  refine lv_iload_n hx hb dX2_tell_0 rfl (lv_at hl 1 rfl) ?_
  refine lv_if_lt (tgt := 12) hx hb dX2_tell_1 (by decide) (fun c_1 => ?_) (fun c_1 => ?_)
  · skip
    refine lv_iconst (v := 0) hx hb dX2_tell_12 (by decide) ?_
    rw [hQ9]
    exact endI X hr hlocks hP hD hS dX2_tell_13 ⟨0, rfl, rfl⟩
  · skip
    obtain ⟨j, hj, ej⟩ := nI_of c_1
    rw [ej] at hl
    refine lv_iload_n hx hb dX2_tell_4 rfl (lv_at hl 1 rfl) ?_
    refine lv_aload_n hx hb dX2_tell_5 rfl (lv_at hl 0 rfl) ?_
    refine k_get (C := RX2) (T := TX2) (N := 5) (ci := 2) (v := .int (nI cn)) X hE hP 0 rfl rfl iX2 4 (by decide) w_355 rfl dX2_tell_6 ?_
    refine lv_icmp_lt (tgt := 14) hx hb dX2_tell_9 (by decide) (fun c_9_1 => ?_) (fun c_9_1 => ?_)
    · have nc_9_1 : j < cn := (nI_ltI (a := j) (b := cn) (by omega) (by omega)).mp c_9_1
      refine lv_iload_n hx hb dX2_tell_14 rfl (lv_at hl 2 rfl) ?_
      by_cases c_15_2 : v = 0
      · refine lv_tableIn (tgt := 40) (off := 25) hx hb dX2_tell_15 (by rw [c_15_2]; decide) (by rw [c_15_2]; decide) (by rw [c_15_2]; decide) (by decide) ?_
        refine lv_aload_n hx hb dX2_tell_40 rfl (lv_at hl 0 rfl) ?_
        refine k_get (C := RX2) (T := TX2) (N := 5) (ci := 2) (v := .ref hc9) X hE hP 0 rfl rfl iX2 2 (by decide) w_356 rfl dX2_tell_41 ?_
        refine lv_iload_n hx hb dX2_tell_44 rfl (lv_at hl 1 rfl) ?_
        refine k_ald (v := nc j) X hE hP 3 rfl j rfl (by omega) (by decide) rfl dX2_tell_45 ?_
        rw [hQ9]
        exact endI X hr hlocks hP hD hS dX2_tell_46 ⟨(nc j), rfl, rfl⟩
      · skip
        by_cases c_15_3 : v = 1
        · refine lv_tableIn (tgt := 47) (off := 32) hx hb dX2_tell_15 (by rw [c_15_3]; decide) (by rw [c_15_3]; decide) (by rw [c_15_3]; decide) (by decide) ?_
          refine lv_aload_n hx hb dX2_tell_47 rfl (lv_at hl 0 rfl) ?_
          refine k_get (C := RX2) (T := TX2) (N := 5) (ci := 2) (v := .ref ha) X hE hP 0 rfl rfl iX2 0 (by decide) w_357 rfl dX2_tell_48 ?_
          refine lv_iload_n hx hb dX2_tell_51 rfl (lv_at hl 1 rfl) ?_
          refine k_ald (v := na j) X hE hP 1 rfl j rfl (by omega) (by decide) rfl dX2_tell_52 ?_
          rw [hQ9]
          exact endI X hr hlocks hP hD hS dX2_tell_53 ⟨(na j), rfl, rfl⟩
        · skip
          by_cases c_15_4 : v = 2
          · refine lv_tableIn (tgt := 54) (off := 39) hx hb dX2_tell_15 (by rw [c_15_4]; decide) (by rw [c_15_4]; decide) (by rw [c_15_4]; decide) (by decide) ?_
            refine lv_aload_n hx hb dX2_tell_54 rfl (lv_at hl 0 rfl) ?_
            refine k_get (C := RX2) (T := TX2) (N := 5) (ci := 2) (v := .ref hd9) X hE hP 0 rfl rfl iX2 3 (by decide) w_358 rfl dX2_tell_55 ?_
            refine lv_iload_n hx hb dX2_tell_58 rfl (lv_at hl 1 rfl) ?_
            refine k_ald (v := nd j) X hE hP 4 rfl j rfl (by omega) (by decide) rfl dX2_tell_59 ?_
            rw [hQ9]
            exact endI X hr hlocks hP hD hS dX2_tell_60 ⟨(nd j), rfl, rfl⟩
          · skip
            refine lv_tableOut (tgt := 61) hx hb dX2_tell_15 (by have n_0 := lv_neT (k := 0) (a := 0) c_15_2 (by decide); have n_1 := lv_neT (k := 1) (a := 1) c_15_3 (by decide); have n_2 := lv_neT (k := 2) (a := 2) c_15_4 (by decide); omega) (by decide) ?_
            refine lv_iconst (v := 0) hx hb dX2_tell_61 (by decide) ?_
            rw [hQ9]
            exact endI X hr hlocks hP hD hS dX2_tell_62 ⟨0, rfl, rfl⟩
    · have nc_9_1 : cn ≤ j := Nat.not_lt.mp (fun q => c_9_1 ((nI_ltI (a := j) (b := cn) (by omega) (by omega)).mpr q))
      refine lv_iconst (v := 0) hx hb dX2_tell_12 (by decide) ?_
      rw [hQ9]
      exact endI X hr hlocks hP hD hS dX2_tell_13 ⟨0, rfl, rfl⟩
set_option maxHeartbeats 4000000 in
set_option maxRecDepth 100000 in
theorem c_s_name (l : Launch) (D : va_G) (cA cB : ClassId) (h0 : Nat) (hn : Nat) (hs : Nat) (hd : Nat) (hp : Nat) (qr : Nat) (qst : Nat) (qa : Nat) (qm : Nat) (qe : Nat) (qmi : Nat) (qmt : Nat) (qms : Nat) (ha : Nat) (hb9 : Nat) (hc9 : Nat) (hd9 : Nat) (ua : Int32) (ub : Int32) (uc : Int32) (ud : Int32) (ue : Int32) (uf : Int32) (ug : Int32) (uh : Int32) (ui : Int32) (uj : Int32) (uk : Int32) (ul : Int32) (um : Int32) (un : Int32) (cm : Nat) (na : Nat → Int32) (nb : Nat → Int32) (nc : Nat → Int32) (nd : Nat → Int32) (a : Int32) (v : Int32) (hcm : cm < 61) : CI l yX8_name cX8_name 3 (some .int) 1 22 0 0 D cA cB [.ref h0, .int a, .int v] [(h0, .inr (8, [.ref hn, .ref hs, .ref hd, .ref hp, .ref qr, .ref qst, .ref qa, .ref qm, .ref qe])), (qm, .inr (0, [.ref qa, .ref qmi, .ref qmt, .ref qms, .int ua, .int ub, .int uc, .int ud, .int ue, .int uf, .int ug, .int uh, .int ui, .int uj, .int uk, .int ul, .int um, .int un])), (qms, .inr (2, [.ref ha, .ref hb9, .ref hc9, .ref hd9, .int (nI cm)])), (ha, .inl (cA, 60, .inl na)), (hb9, .inl (cA, 60, .inl nb)), (hc9, .inl (cA, 60, .inl nc)), (hd9, .inl (cA, 60, .inl nd))] (fun r W1 => ∃ (ua2 : Int32) (ub2 : Int32) (uc2 : Int32) (ud2 : Int32) (ue2 : Int32) (uf2 : Int32) (ug2 : Int32) (uh2 : Int32) (ui2 : Int32) (uj2 : Int32) (uk2 : Int32) (ul2 : Int32) (um2 : Int32) (un2 : Int32) (cm2 : Nat) (na2 : Nat → Int32) (nb2 : Nat → Int32) (nc2 : Nat → Int32) (nd2 : Nat → Int32) (rv : Int32), r = rv ∧ (cm2 < 61) ∧ W1 = [(h0, .inr (8, [.ref hn, .ref hs, .ref hd, .ref hp, .ref qr, .ref qst, .ref qa, .ref qm, .ref qe])), (qm, .inr (0, [.ref qa, .ref qmi, .ref qmt, .ref qms, .int ua2, .int ub2, .int uc2, .int ud2, .int ue2, .int uf2, .int ug2, .int uh2, .int ui2, .int uj2, .int uk2, .int ul2, .int um2, .int un2])), (qms, .inr (2, [.ref ha, .ref hb9, .ref hc9, .ref hd9, .int (nI cm2)])), (ha, .inl (cA, 60, .inl na2)), (hb9, .inl (cA, 60, .inl nb2)), (hc9, .inl (cA, 60, .inl nc2)), (hd9, .inl (cA, 60, .inl nd2))]) := by
  refine mkI (lv0 := [(0, .ref h0), (1, .int a), (2, .int v)]) (by decide) (Nat.le_of_ble_eq_true rfl) rfl ?_
  intro p e s m below meth c A ls X hr hlocks hnm hE hA hP hD hS hl
  have hx := X.1
  have hb := X.2.1
  refine lv_aload_n hx hb dX8_name_0 rfl (lv_at hl 0 rfl) ?_
  refine k_get (C := RX8) (T := TX8) (N := 9) (ci := 8) (v := .ref qm) X hE hP 0 rfl rfl iX8 7 (by decide) w_359 rfl dX8_name_1 ?_
  refine k_getN (C := RX0) (T := TX0) (N := 18) (ci := 0) (v := .ref qms) X hE hP 1 rfl rfl iX0 3 (by decide) nw_24 rfl dX8_name_4 ?_
  refine lv_iload_n hx hb dX8_name_7 rfl (lv_at hl 1 rfl) ?_
  refine lv_iload_n hx hb dX8_name_8 rfl (lv_at hl 2 rfl) ?_
  refine kVi (n3 := 2) (As := [.int a, .int v]) (rest := []) X hl.1 hE hP hD hS hA [(qms, .inr (2, [.ref ha, .ref hb9, .ref hc9, .ref hd9, .int (nI cm)])), (ha, .inl (cA, 60, .inl na)), (hb9, .inl (cA, 60, .inl nb)), (hc9, .inl (cA, 60, .inl nc)), (hd9, .inl (cA, 60, .inl nd))] [(h0, .inr (8, [.ref hn, .ref hs, .ref hd, .ref hp, .ref qr, .ref qst, .ref qa, .ref qm, .ref qe])), (qm, .inr (0, [.ref qa, .ref qmi, .ref qmt, .ref qms, .int ua, .int ub, .int uc, .int ud, .int ue, .int uf, .int ug, .int uh, .int ui, .int uj, .int uk, .int ul, .int um, .int un]))] [2, 3, 4, 5, 6] [0, 1] rfl rfl rfl (by decide +kernel) (by decide +kernel) (by decide +kernel) (c_s_tell l D cA cB qms ha hb9 hc9 hd9 cm na nb nc nd a v (by first | assumption | decide | rfl | omega)) w_361 w_362 w_360 w_363 w_364 0 (ci := 2) (T := TX2) (N := 5) rfl rfl (by decide +kernel) rfl rfl (Nat.le_of_ble_eq_true rfl) ⟨(Nat.le_of_ble_eq_true rfl), (Nat.le_of_ble_eq_true rfl)⟩ ⟨(Nat.le_of_ble_eq_true rfl), (Nat.le_of_ble_eq_true rfl)⟩ dX8_name_9 (fun r W1 H locs hw hP hD hS => ?_)
  obtain ⟨rv_1, er_2, rfl⟩ := hw
  have hP : va_P D classes [(h0, .inr (8, [.ref hn, .ref hs, .ref hd, .ref hp, .ref qr, .ref qst, .ref qa, .ref qm, .ref qe])), (qm, .inr (0, [.ref qa, .ref qmi, .ref qmt, .ref qms, .int ua, .int ub, .int uc, .int ud, .int ue, .int uf, .int ug, .int uh, .int ui, .int uj, .int uk, .int ul, .int um, .int un])), (qms, .inr (2, [.ref ha, .ref hb9, .ref hc9, .ref hd9, .int (nI cm)])), (ha, .inl (cA, 60, .inl na)), (hb9, .inl (cA, 60, .inl nb)), (hc9, .inl (cA, 60, .inl nc)), (hd9, .inl (cA, 60, .inl nd))] H := hP
  have hD : va_D A [(h0, .inr (8, [.ref hn, .ref hs, .ref hd, .ref hp, .ref qr, .ref qst, .ref qa, .ref qm, .ref qe])), (qm, .inr (0, [.ref qa, .ref qmi, .ref qmt, .ref qms, .int ua, .int ub, .int uc, .int ud, .int ue, .int uf, .int ug, .int uh, .int ui, .int uj, .int uk, .int ul, .int um, .int un])), (qms, .inr (2, [.ref ha, .ref hb9, .ref hc9, .ref hd9, .int (nI cm)])), (ha, .inl (cA, 60, .inl na)), (hb9, .inl (cA, 60, .inl nb)), (hc9, .inl (cA, 60, .inl nc)), (hd9, .inl (cA, 60, .inl nd))] := hD
  refine tk (y := rv_1) er_2 ?_
  exact endI X hr hlocks hP hD hS dX8_name_12 ⟨ua, ub, uc, ud, ue, uf, ug, uh, ui, uj, uk, ul, um, un, cm, na, nb, nc, nd, rv_1, rfl, (by omega), rfl⟩
set_option maxHeartbeats 4000000 in
set_option maxRecDepth 100000 in
theorem c_s_fault (l : Launch) (D : va_G) (cA cB : ClassId) (h0 : Nat) (hn : Nat) (hs : Nat) (hd : Nat) (hp : Nat) (qr : Nat) (qst : Nat) (qa : Nat) (qm : Nat) (qe : Nat) (qmi : Nat) (qmt : Nat) (qms : Nat) (ha : Nat) (hb9 : Nat) (hc9 : Nat) (hd9 : Nat) (ua : Int32) (ub : Int32) (uc : Int32) (ud : Int32) (ue : Int32) (uf : Int32) (ug : Int32) (uh : Int32) (ui : Int32) (uj : Int32) (uk : Int32) (ul : Int32) (um : Int32) (un : Int32) (cm : Nat) (na : Nat → Int32) (nb : Nat → Int32) (nc : Nat → Int32) (nd : Nat → Int32) (a : Int32) (hcm : cm < 61) : CI l yX8_fault cX8_fault 2 (some .int) 0 0 0 0 D cA cB [.ref h0, .int a] [(h0, .inr (8, [.ref hn, .ref hs, .ref hd, .ref hp, .ref qr, .ref qst, .ref qa, .ref qm, .ref qe])), (qm, .inr (0, [.ref qa, .ref qmi, .ref qmt, .ref qms, .int ua, .int ub, .int uc, .int ud, .int ue, .int uf, .int ug, .int uh, .int ui, .int uj, .int uk, .int ul, .int um, .int un])), (qms, .inr (2, [.ref ha, .ref hb9, .ref hc9, .ref hd9, .int (nI cm)])), (ha, .inl (cA, 60, .inl na)), (hb9, .inl (cA, 60, .inl nb)), (hc9, .inl (cA, 60, .inl nc)), (hd9, .inl (cA, 60, .inl nd))] (fun r W1 => ∃ (ua2 : Int32) (ub2 : Int32) (uc2 : Int32) (ud2 : Int32) (ue2 : Int32) (uf2 : Int32) (ug2 : Int32) (uh2 : Int32) (ui2 : Int32) (uj2 : Int32) (uk2 : Int32) (ul2 : Int32) (um2 : Int32) (un2 : Int32) (cm2 : Nat) (na2 : Nat → Int32) (nb2 : Nat → Int32) (nc2 : Nat → Int32) (nd2 : Nat → Int32) (rv : Int32), r = rv ∧ (cm2 < 61) ∧ W1 = [(h0, .inr (8, [.ref hn, .ref hs, .ref hd, .ref hp, .ref qr, .ref qst, .ref qa, .ref qm, .ref qe])), (qm, .inr (0, [.ref qa, .ref qmi, .ref qmt, .ref qms, .int ua2, .int ub2, .int uc2, .int ud2, .int ue2, .int uf2, .int ug2, .int uh2, .int ui2, .int uj2, .int uk2, .int ul2, .int um2, .int un2])), (qms, .inr (2, [.ref ha, .ref hb9, .ref hc9, .ref hd9, .int (nI cm2)])), (ha, .inl (cA, 60, .inl na2)), (hb9, .inl (cA, 60, .inl nb2)), (hc9, .inl (cA, 60, .inl nc2)), (hd9, .inl (cA, 60, .inl nd2))]) := by
  refine mkI (lv0 := [(0, .ref h0), (1, .int a)]) (by decide) (Nat.le_of_ble_eq_true rfl) rfl ?_
  intro p e s m below meth c A ls X hr hlocks hnm hE hA hP hD hS hl
  have hx := X.1
  have hb := X.2.1
  refine lv_iload_n hx hb dX8_fault_0 rfl (lv_at hl 1 rfl) ?_
  by_cases c_1_1 : a = 0
  · refine lv_lookup (tgt := 28) (off := 27) hx hb dX8_fault_1 (by decide) (by rw [c_1_1]; decide) (by decide) ?_
    refine lv_aload_n hx hb dX8_fault_28 rfl (lv_at hl 0 rfl) ?_
    refine k_get (C := RX8) (T := TX8) (N := 9) (ci := 8) (v := .ref qm) X hE hP 0 rfl rfl iX8 7 (by decide) w_359 rfl dX8_fault_29 ?_
    refine k_getN (C := RX0) (T := TX0) (N := 18) (ci := 0) (v := .int ua) X hE hP 1 rfl rfl iX0 4 (by decide) nw_25 rfl dX8_fault_32 ?_
    exact endI X hr hlocks hP hD hS dX8_fault_35 ⟨ua, ub, uc, ud, ue, uf, ug, uh, ui, uj, uk, ul, um, un, cm, na, nb, nc, nd, ua, rfl, (by omega), rfl⟩
  · skip
    by_cases c_1_2 : a = 1
    · refine lv_lookup (tgt := 36) (off := 35) hx hb dX8_fault_1 (by decide) (by rw [c_1_2]; decide) (by decide) ?_
      refine lv_aload_n hx hb dX8_fault_36 rfl (lv_at hl 0 rfl) ?_
      refine k_get (C := RX8) (T := TX8) (N := 9) (ci := 8) (v := .ref qm) X hE hP 0 rfl rfl iX8 7 (by decide) w_359 rfl dX8_fault_37 ?_
      refine k_getN (C := RX0) (T := TX0) (N := 18) (ci := 0) (v := .int ub) X hE hP 1 rfl rfl iX0 5 (by decide) nw_26 rfl dX8_fault_40 ?_
      exact endI X hr hlocks hP hD hS dX8_fault_43 ⟨ua, ub, uc, ud, ue, uf, ug, uh, ui, uj, uk, ul, um, un, cm, na, nb, nc, nd, ub, rfl, (by omega), rfl⟩
    · skip
      refine lv_lookup (tgt := 44) (off := 43) hx hb dX8_fault_1 (by decide) (by show Op.lookupswitch.offset [(0, 27), (1, 35)] 43 a.toInt = 43; rw [lv_osw (k := 0) c_1_1 (by decide), lv_osw (k := 1) c_1_2 (by decide)]; rfl) (by decide) ?_
      refine lv_iconst (v := (-1)) hx hb dX8_fault_44 (by decide) ?_
      exact endI X hr hlocks hP hD hS dX8_fault_45 ⟨ua, ub, uc, ud, ue, uf, ug, uh, ui, uj, uk, ul, um, un, cm, na, nb, nc, nd, (-1), rfl, (by omega), rfl⟩
set_option maxHeartbeats 4000000 in
set_option maxRecDepth 100000 in
theorem c_s_out (l : Launch) (D : va_G) (cA cB : ClassId) (h0 : Nat) (hn : Nat) (hs : Nat) (hd : Nat) (hp : Nat) (qr : Nat) (qst : Nat) (qa : Nat) (qm : Nat) (qe : Nat) (qel : Nat) (rl : Nat) (lt : Nat → Int32) (a : Int32) (hrl : rl < 17) : CI l yX8_out cX8_out 2 (some .int) 0 0 0 0 D cA cB [.ref h0, .int a] [(h0, .inr (8, [.ref hn, .ref hs, .ref hd, .ref hp, .ref qr, .ref qst, .ref qa, .ref qm, .ref qe])), (qe, .inr (5, [.ref qel, .int (nI rl)])), (qel, .inl (cA, 16, .inl lt))] (fun r W1 => ∃ (rl2 : Nat) (lt2 : Nat → Int32) (rv : Int32), r = rv ∧ (rl2 < 17) ∧ W1 = [(h0, .inr (8, [.ref hn, .ref hs, .ref hd, .ref hp, .ref qr, .ref qst, .ref qa, .ref qm, .ref qe])), (qe, .inr (5, [.ref qel, .int (nI rl2)])), (qel, .inl (cA, 16, .inl lt2))]) := by
  refine mkI (lv0 := [(0, .ref h0), (1, .int a)]) (by decide) (Nat.le_of_ble_eq_true rfl) rfl ?_
  intro p e s m below meth c A ls X hr hlocks hnm hE hA hP hD hS hl
  have hx := X.1
  have hb := X.2.1
  refine lv_iload_n hx hb dX8_out_0 rfl (lv_at hl 1 rfl) ?_
  refine lv_if_lt (tgt := 27) hx hb dX8_out_1 (by decide) (fun c_1 => ?_) (fun c_1 => ?_)
  · skip
    refine lv_iconst (v := (-1)) hx hb dX8_out_27 (by decide) ?_
    exact endI X hr hlocks hP hD hS dX8_out_28 ⟨rl, lt, (-1), rfl, (by omega), rfl⟩
  · skip
    obtain ⟨j, hj, ej⟩ := nI_of c_1
    rw [ej] at hl
    refine lv_iload_n hx hb dX8_out_4 rfl (lv_at hl 1 rfl) ?_
    refine lv_aload_n hx hb dX8_out_5 rfl (lv_at hl 0 rfl) ?_
    refine k_get (C := RX8) (T := TX8) (N := 9) (ci := 8) (v := .ref qe) X hE hP 0 rfl rfl iX8 8 (by decide) w_365 rfl dX8_out_6 ?_
    refine k_getN (C := RX5) (T := TX5) (N := 2) (ci := 5) (v := .int (nI rl)) X hE hP 1 rfl rfl iX5 1 (by decide) nw_30 rfl dX8_out_9 ?_
    refine lv_icmp_ge (tgt := 27) hx hb dX8_out_12 (by decide) (fun c_12_1 => ?_) (fun c_12_1 => ?_)
    · have nc_12_1 : rl ≤ j := (nI_leI (a := rl) (b := j) (by omega) (by omega)).mp c_12_1
      refine lv_iconst (v := (-1)) hx hb dX8_out_27 (by decide) ?_
      exact endI X hr hlocks hP hD hS dX8_out_28 ⟨rl, lt, (-1), rfl, (by omega), rfl⟩
    · have nc_12_1 : j < rl := Nat.not_le.mp (fun q => c_12_1 ((nI_leI (a := rl) (b := j) (by omega) (by omega)).mpr q))
      refine lv_aload_n hx hb dX8_out_15 rfl (lv_at hl 0 rfl) ?_
      refine k_get (C := RX8) (T := TX8) (N := 9) (ci := 8) (v := .ref qe) X hE hP 0 rfl rfl iX8 8 (by decide) w_365 rfl dX8_out_16 ?_
      refine k_getN (C := RX5) (T := TX5) (N := 2) (ci := 5) (v := .ref qel) X hE hP 1 rfl rfl iX5 0 (by decide) nw_29 rfl dX8_out_19 ?_
      refine lv_iload_n hx hb dX8_out_22 rfl (lv_at hl 1 rfl) ?_
      refine k_ald (v := lt j) X hE hP 2 rfl j rfl (by omega) (by decide) rfl dX8_out_23 ?_
      refine lv_goto (tgt := 28) hx hb dX8_out_24 (by decide) ?_
      exact endI X hr hlocks hP hD hS dX8_out_28 ⟨rl, lt, (lt j), rfl, (by omega), rfl⟩
