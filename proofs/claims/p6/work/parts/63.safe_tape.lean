abbrev cX7_isLetter : ByteArray := prog_9_method_11_code
def yX7_isLetter : MethodName := ⟨RX7, "isLetter", "(I)Z"⟩
abbrev cX7_isDecimal : ByteArray := prog_9_method_12_code
def yX7_isDecimal : MethodName := ⟨RX7, "isDecimal", "(I)Z"⟩
abbrev cX7_digit : ByteArray := prog_9_method_13_code
def yX7_digit : MethodName := ⟨RX7, "digit", "(I)I"⟩
abbrev cX7_beginLine : ByteArray := prog_9_method_4_code
def yX7_beginLine : MethodName := ⟨RX7, "beginLine", "(I)V"⟩
set_option maxRecDepth 100000 in
theorem w_366 : (Cond.fieldLink "BelfryBox$Tape" 19 "BelfryBox$Tape" "at" "I" : Cond) ∈ gw := List.mem_filter.mpr ⟨List.mem_append_right _ (tb1 (List.mem_of_getElem? (i := 128) rfl)), rfl⟩
set_option maxRecDepth 100000 in
theorem w_367 : (Cond.fieldLink "BelfryBox$Tape" 22 "BelfryBox$Tape" "lineEnd" "I" : Cond) ∈ gw := List.mem_filter.mpr ⟨List.mem_append_right _ (tb1 (List.mem_of_getElem? (i := 126) rfl)), rfl⟩
set_option maxRecDepth 100000 in
theorem w_368 : (Cond.fieldLink "BelfryBox$Tape" 11 "BelfryBox$Tape" "bytes" "[I" : Cond) ∈ gw := List.mem_filter.mpr ⟨List.mem_append_right _ (tb1 (List.mem_of_getElem? (i := 121) rfl)), rfl⟩
theorem dX7_isLetter_0 : decode cX7_isLetter 0 = .ok (.iload_n 0, 1) := by decide +kernel
theorem dX7_isLetter_1 : decode cX7_isLetter 1 = .ok (.bipush 97, 2) := by decide +kernel
theorem dX7_isLetter_3 : decode cX7_isLetter 3 = .ok (.if_icmp .lt 13, 3) := by decide +kernel
theorem dX7_isLetter_16 : decode cX7_isLetter 16 = .ok (.iconst 0, 1) := by decide +kernel
theorem dX7_isLetter_17 : decode cX7_isLetter 17 = .ok (.ireturn, 1) := by decide +kernel
theorem dX7_isLetter_6 : decode cX7_isLetter 6 = .ok (.iload_n 0, 1) := by decide +kernel
theorem dX7_isLetter_7 : decode cX7_isLetter 7 = .ok (.bipush 122, 2) := by decide +kernel
theorem dX7_isLetter_9 : decode cX7_isLetter 9 = .ok (.if_icmp .gt 7, 3) := by decide +kernel
theorem dX7_isLetter_12 : decode cX7_isLetter 12 = .ok (.iconst 1, 1) := by decide +kernel
theorem dX7_isLetter_13 : decode cX7_isLetter 13 = .ok (.goto 4, 3) := by decide +kernel
theorem dX7_isDecimal_0 : decode cX7_isDecimal 0 = .ok (.iload_n 0, 1) := by decide +kernel
theorem dX7_isDecimal_1 : decode cX7_isDecimal 1 = .ok (.bipush 48, 2) := by decide +kernel
theorem dX7_isDecimal_3 : decode cX7_isDecimal 3 = .ok (.if_icmp .lt 13, 3) := by decide +kernel
theorem dX7_isDecimal_16 : decode cX7_isDecimal 16 = .ok (.iconst 0, 1) := by decide +kernel
theorem dX7_isDecimal_17 : decode cX7_isDecimal 17 = .ok (.ireturn, 1) := by decide +kernel
theorem dX7_isDecimal_6 : decode cX7_isDecimal 6 = .ok (.iload_n 0, 1) := by decide +kernel
theorem dX7_isDecimal_7 : decode cX7_isDecimal 7 = .ok (.bipush 57, 2) := by decide +kernel
theorem dX7_isDecimal_9 : decode cX7_isDecimal 9 = .ok (.if_icmp .gt 7, 3) := by decide +kernel
theorem dX7_isDecimal_12 : decode cX7_isDecimal 12 = .ok (.iconst 1, 1) := by decide +kernel
theorem dX7_isDecimal_13 : decode cX7_isDecimal 13 = .ok (.goto 4, 3) := by decide +kernel
theorem dX7_digit_0 : decode cX7_digit 0 = .ok (.iload_n 0, 1) := by decide +kernel
theorem dX7_digit_1 : decode cX7_digit 1 = .ok (.bipush 48, 2) := by decide +kernel
theorem dX7_digit_3 : decode cX7_digit 3 = .ok (.if_icmp .lt 14, 3) := by decide +kernel
theorem dX7_digit_17 : decode cX7_digit 17 = .ok (.iload_n 0, 1) := by decide +kernel
theorem dX7_digit_18 : decode cX7_digit 18 = .ok (.bipush 97, 2) := by decide +kernel
theorem dX7_digit_20 : decode cX7_digit 20 = .ok (.if_icmp .lt 19, 3) := by decide +kernel
theorem dX7_digit_39 : decode cX7_digit 39 = .ok (.iconst (-1), 1) := by decide +kernel
theorem dX7_digit_40 : decode cX7_digit 40 = .ok (.ireturn, 1) := by decide +kernel
theorem dX7_digit_23 : decode cX7_digit 23 = .ok (.iload_n 0, 1) := by decide +kernel
theorem dX7_digit_24 : decode cX7_digit 24 = .ok (.bipush 102, 2) := by decide +kernel
theorem dX7_digit_26 : decode cX7_digit 26 = .ok (.if_icmp .gt 13, 3) := by decide +kernel
theorem dX7_digit_29 : decode cX7_digit 29 = .ok (.iload_n 0, 1) := by decide +kernel
theorem dX7_digit_30 : decode cX7_digit 30 = .ok (.bipush 97, 2) := by decide +kernel
theorem dX7_digit_32 : decode cX7_digit 32 = .ok (.isub, 1) := by decide +kernel
theorem dX7_digit_33 : decode cX7_digit 33 = .ok (.bipush 10, 2) := by decide +kernel
theorem dX7_digit_35 : decode cX7_digit 35 = .ok (.iadd, 1) := by decide +kernel
theorem dX7_digit_36 : decode cX7_digit 36 = .ok (.goto 4, 3) := by decide +kernel
theorem dX7_digit_6 : decode cX7_digit 6 = .ok (.iload_n 0, 1) := by decide +kernel
theorem dX7_digit_7 : decode cX7_digit 7 = .ok (.bipush 57, 2) := by decide +kernel
theorem dX7_digit_9 : decode cX7_digit 9 = .ok (.if_icmp .gt 8, 3) := by decide +kernel
theorem dX7_digit_12 : decode cX7_digit 12 = .ok (.iload_n 0, 1) := by decide +kernel
theorem dX7_digit_13 : decode cX7_digit 13 = .ok (.bipush 48, 2) := by decide +kernel
theorem dX7_digit_15 : decode cX7_digit 15 = .ok (.isub, 1) := by decide +kernel
theorem dX7_digit_16 : decode cX7_digit 16 = .ok (.ireturn, 1) := by decide +kernel
theorem dX7_beginLine_0 : decode cX7_beginLine 0 = .ok (.aload_n 0, 1) := by decide +kernel
theorem dX7_beginLine_1 : decode cX7_beginLine 1 = .ok (.iload_n 1, 1) := by decide +kernel
theorem dX7_beginLine_2 : decode cX7_beginLine 2 = .ok (.putfield 19, 3) := by decide +kernel
theorem dX7_beginLine_5 : decode cX7_beginLine 5 = .ok (.aload_n 0, 1) := by decide +kernel
theorem dX7_beginLine_6 : decode cX7_beginLine 6 = .ok (.iload_n 1, 1) := by decide +kernel
theorem dX7_beginLine_7 : decode cX7_beginLine 7 = .ok (.putfield 22, 3) := by decide +kernel
theorem dX7_beginLine_10 : decode cX7_beginLine 10 = .ok (.aload_n 0, 1) := by decide +kernel
theorem dX7_beginLine_11 : decode cX7_beginLine 11 = .ok (.getfield 22, 3) := by decide +kernel
theorem dX7_beginLine_14 : decode cX7_beginLine 14 = .ok (.aload_n 0, 1) := by decide +kernel
theorem dX7_beginLine_15 : decode cX7_beginLine 15 = .ok (.getfield 15, 3) := by decide +kernel
theorem dX7_beginLine_18 : decode cX7_beginLine 18 = .ok (.if_icmp .ge 30, 3) := by decide +kernel
theorem dX7_beginLine_48 : decode cX7_beginLine 48 = .ok (.return_, 1) := by decide +kernel
theorem dX7_beginLine_21 : decode cX7_beginLine 21 = .ok (.aload_n 0, 1) := by decide +kernel
theorem dX7_beginLine_22 : decode cX7_beginLine 22 = .ok (.getfield 11, 3) := by decide +kernel
theorem dX7_beginLine_25 : decode cX7_beginLine 25 = .ok (.aload_n 0, 1) := by decide +kernel
theorem dX7_beginLine_26 : decode cX7_beginLine 26 = .ok (.getfield 22, 3) := by decide +kernel
theorem dX7_beginLine_29 : decode cX7_beginLine 29 = .ok (.iaload, 1) := by decide +kernel
theorem dX7_beginLine_30 : decode cX7_beginLine 30 = .ok (.bipush 10, 2) := by decide +kernel
theorem dX7_beginLine_32 : decode cX7_beginLine 32 = .ok (.if_icmp .eq 16, 3) := by decide +kernel
theorem dX7_beginLine_35 : decode cX7_beginLine 35 = .ok (.aload_n 0, 1) := by decide +kernel
theorem dX7_beginLine_36 : decode cX7_beginLine 36 = .ok (.dup, 1) := by decide +kernel
theorem dX7_beginLine_37 : decode cX7_beginLine 37 = .ok (.getfield 22, 3) := by decide +kernel
theorem dX7_beginLine_40 : decode cX7_beginLine 40 = .ok (.iconst 1, 1) := by decide +kernel
theorem dX7_beginLine_41 : decode cX7_beginLine 41 = .ok (.iadd, 1) := by decide +kernel
theorem dX7_beginLine_42 : decode cX7_beginLine 42 = .ok (.putfield 22, 3) := by decide +kernel
theorem dX7_beginLine_45 : decode cX7_beginLine 45 = .ok (.goto (-35), 3) := by decide +kernel
set_option maxHeartbeats 4000000 in
set_option maxRecDepth 100000 in
theorem c_s_isLetter (l : Launch) (D : va_G) (cA cB : ClassId) (v : Int32)  : CI l yX7_isLetter cX7_isLetter 1 (some .boolean) 0 0 0 0 D cA cB [.int v] [] (fun r W1 => ∃ (rk : Nat), r = nI rk ∧ (rk < 2) ∧ W1 = []) := by
  refine mkI (lv0 := [(0, .int v)]) (by decide) (Nat.le_of_ble_eq_true rfl) rfl ?_
  intro p e s m below meth c A ls X hr hlocks hnm hE hA hP hD hS hl
  have hx := X.1
  have hb := X.2.1
  refine lv_iload_n hx hb dX7_isLetter_0 rfl (lv_at hl 0 rfl) ?_
  refine lv_bipush (v := 97) hx hb dX7_isLetter_1 (by decide) ?_
  refine lv_icmp_lt (tgt := 16) hx hb dX7_isLetter_3 (by decide) (fun c_3 => ?_) (fun c_3 => ?_)
  · skip
    refine lv_iconst (v := 0) hx hb dX7_isLetter_16 (by decide) ?_
    exact endZ X hr rfl hlocks hP hD hS dX7_isLetter_17 ⟨0, rfl, (by omega), rfl⟩
  · skip
    refine lv_iload_n hx hb dX7_isLetter_6 rfl (lv_at hl 0 rfl) ?_
    refine lv_bipush (v := 122) hx hb dX7_isLetter_7 (by decide) ?_
    refine lv_icmp_gt (tgt := 16) hx hb dX7_isLetter_9 (by decide) (fun c_9 => ?_) (fun c_9 => ?_)
    · skip
      refine lv_iconst (v := 0) hx hb dX7_isLetter_16 (by decide) ?_
      exact endZ X hr rfl hlocks hP hD hS dX7_isLetter_17 ⟨0, rfl, (by omega), rfl⟩
    · skip
      refine lv_iconst (v := 1) hx hb dX7_isLetter_12 (by decide) ?_
      refine lv_goto (tgt := 17) hx hb dX7_isLetter_13 (by decide) ?_
      exact endZ X hr rfl hlocks hP hD hS dX7_isLetter_17 ⟨1, rfl, (by omega), rfl⟩
set_option maxHeartbeats 4000000 in
set_option maxRecDepth 100000 in
theorem c_s_isDecimal (l : Launch) (D : va_G) (cA cB : ClassId) (v : Int32)  : CI l yX7_isDecimal cX7_isDecimal 1 (some .boolean) 0 0 0 0 D cA cB [.int v] [] (fun r W1 => ∃ (rk : Nat), r = nI rk ∧ (rk < 2) ∧ W1 = []) := by
  refine mkI (lv0 := [(0, .int v)]) (by decide) (Nat.le_of_ble_eq_true rfl) rfl ?_
  intro p e s m below meth c A ls X hr hlocks hnm hE hA hP hD hS hl
  have hx := X.1
  have hb := X.2.1
  refine lv_iload_n hx hb dX7_isDecimal_0 rfl (lv_at hl 0 rfl) ?_
  refine lv_bipush (v := 48) hx hb dX7_isDecimal_1 (by decide) ?_
  refine lv_icmp_lt (tgt := 16) hx hb dX7_isDecimal_3 (by decide) (fun c_3 => ?_) (fun c_3 => ?_)
  · skip
    refine lv_iconst (v := 0) hx hb dX7_isDecimal_16 (by decide) ?_
    exact endZ X hr rfl hlocks hP hD hS dX7_isDecimal_17 ⟨0, rfl, (by omega), rfl⟩
  · skip
    refine lv_iload_n hx hb dX7_isDecimal_6 rfl (lv_at hl 0 rfl) ?_
    refine lv_bipush (v := 57) hx hb dX7_isDecimal_7 (by decide) ?_
    refine lv_icmp_gt (tgt := 16) hx hb dX7_isDecimal_9 (by decide) (fun c_9 => ?_) (fun c_9 => ?_)
    · skip
      refine lv_iconst (v := 0) hx hb dX7_isDecimal_16 (by decide) ?_
      exact endZ X hr rfl hlocks hP hD hS dX7_isDecimal_17 ⟨0, rfl, (by omega), rfl⟩
    · skip
      refine lv_iconst (v := 1) hx hb dX7_isDecimal_12 (by decide) ?_
      refine lv_goto (tgt := 17) hx hb dX7_isDecimal_13 (by decide) ?_
      exact endZ X hr rfl hlocks hP hD hS dX7_isDecimal_17 ⟨1, rfl, (by omega), rfl⟩
set_option maxHeartbeats 4000000 in
set_option maxRecDepth 100000 in
theorem c_s_digit (l : Launch) (D : va_G) (cA cB : ClassId) (v : Int32)  : CI l yX7_digit cX7_digit 1 (some .int) 0 0 0 0 D cA cB [.int v] [] (fun r W1 => ∃ (rv : Int32), r = rv ∧ W1 = []) := by
  refine mkI (lv0 := [(0, .int v)]) (by decide) (Nat.le_of_ble_eq_true rfl) rfl ?_
  intro p e s m below meth c A ls X hr hlocks hnm hE hA hP hD hS hl
  have hx := X.1
  have hb := X.2.1
  refine lv_iload_n hx hb dX7_digit_0 rfl (lv_at hl 0 rfl) ?_
  refine lv_bipush (v := 48) hx hb dX7_digit_1 (by decide) ?_
  refine lv_icmp_lt (tgt := 17) hx hb dX7_digit_3 (by decide) (fun c_3 => ?_) (fun c_3 => ?_)
  · skip
    refine lv_iload_n hx hb dX7_digit_17 rfl (lv_at hl 0 rfl) ?_
    refine lv_bipush (v := 97) hx hb dX7_digit_18 (by decide) ?_
    refine lv_icmp_lt (tgt := 39) hx hb dX7_digit_20 (by decide) (fun c_20 => ?_) (fun c_20 => ?_)
    · skip
      refine lv_iconst (v := (-1)) hx hb dX7_digit_39 (by decide) ?_
      exact endI X hr hlocks hP hD hS dX7_digit_40 ⟨(-1), rfl, rfl⟩
    · skip
      refine lv_iload_n hx hb dX7_digit_23 rfl (lv_at hl 0 rfl) ?_
      refine lv_bipush (v := 102) hx hb dX7_digit_24 (by decide) ?_
      refine lv_icmp_gt (tgt := 39) hx hb dX7_digit_26 (by decide) (fun c_26 => ?_) (fun c_26 => ?_)
      · skip
        refine lv_iconst (v := (-1)) hx hb dX7_digit_39 (by decide) ?_
        exact endI X hr hlocks hP hD hS dX7_digit_40 ⟨(-1), rfl, rfl⟩
      · skip
        refine lv_iload_n hx hb dX7_digit_29 rfl (lv_at hl 0 rfl) ?_
        refine lv_bipush (v := 97) hx hb dX7_digit_30 (by decide) ?_
        refine lv_isub hx hb dX7_digit_32 ?_
        refine lv_bipush (v := 10) hx hb dX7_digit_33 (by decide) ?_
        refine lv_iadd hx hb dX7_digit_35 ?_
        refine lv_goto (tgt := 40) hx hb dX7_digit_36 (by decide) ?_
        exact endI X hr hlocks hP hD hS dX7_digit_40 ⟨((v - 97) + 10), rfl, rfl⟩
  · skip
    refine lv_iload_n hx hb dX7_digit_6 rfl (lv_at hl 0 rfl) ?_
    refine lv_bipush (v := 57) hx hb dX7_digit_7 (by decide) ?_
    refine lv_icmp_gt (tgt := 17) hx hb dX7_digit_9 (by decide) (fun c_9 => ?_) (fun c_9 => ?_)
    · skip
      refine lv_iload_n hx hb dX7_digit_17 rfl (lv_at hl 0 rfl) ?_
      refine lv_bipush (v := 97) hx hb dX7_digit_18 (by decide) ?_
      refine lv_icmp_lt (tgt := 39) hx hb dX7_digit_20 (by decide) (fun c_20 => ?_) (fun c_20 => ?_)
      · skip
        refine lv_iconst (v := (-1)) hx hb dX7_digit_39 (by decide) ?_
        exact endI X hr hlocks hP hD hS dX7_digit_40 ⟨(-1), rfl, rfl⟩
      · skip
        refine lv_iload_n hx hb dX7_digit_23 rfl (lv_at hl 0 rfl) ?_
        refine lv_bipush (v := 102) hx hb dX7_digit_24 (by decide) ?_
        refine lv_icmp_gt (tgt := 39) hx hb dX7_digit_26 (by decide) (fun c_26 => ?_) (fun c_26 => ?_)
        · skip
          refine lv_iconst (v := (-1)) hx hb dX7_digit_39 (by decide) ?_
          exact endI X hr hlocks hP hD hS dX7_digit_40 ⟨(-1), rfl, rfl⟩
        · skip
          refine lv_iload_n hx hb dX7_digit_29 rfl (lv_at hl 0 rfl) ?_
          refine lv_bipush (v := 97) hx hb dX7_digit_30 (by decide) ?_
          refine lv_isub hx hb dX7_digit_32 ?_
          refine lv_bipush (v := 10) hx hb dX7_digit_33 (by decide) ?_
          refine lv_iadd hx hb dX7_digit_35 ?_
          refine lv_goto (tgt := 40) hx hb dX7_digit_36 (by decide) ?_
          exact endI X hr hlocks hP hD hS dX7_digit_40 ⟨((v - 97) + 10), rfl, rfl⟩
    · skip
      refine lv_iload_n hx hb dX7_digit_12 rfl (lv_at hl 0 rfl) ?_
      refine lv_bipush (v := 48) hx hb dX7_digit_13 (by decide) ?_
      refine lv_isub hx hb dX7_digit_15 ?_
      exact endI X hr hlocks hP hD hS dX7_digit_16 ⟨(v - 48), rfl, rfl⟩
set_option maxHeartbeats 4000000 in
set_option maxRecDepth 100000 in
theorem c_s_tbeginLine (l : Launch) (D : va_G) (cA cB : ClassId) (h0 : Nat) (htb : Nat) (ln : Nat) (t0 : Int32) (t1 : Int32) (t2 : Int32) (t3 : Int32) (t4 : Int32) (t5 : Int32) (t6 : Int32) (tb : Nat → Int32) (st0 : Nat) (hln : ln < 6001) (hst0 : st0 ≤ ln) : CV l yX7_beginLine cX7_beginLine 2 none 0 0 0 0 D cA cB [.ref h0, .int (nI st0)] [(h0, .inr (7, [.ref htb, .int (nI ln), .int t0, .int t1, .int t2, .int t3, .int t4, .int t5, .int t6])), (htb, .inl (cA, 6000, .inl tb))] (fun W1 => ∃ (le2 : Nat), (st0 ≤ le2) ∧ (le2 ≤ ln) ∧ W1 = [(h0, .inr (7, [.ref htb, .int (nI ln), .int (nI le2), .int (nI st0), .int t2, .int t3, .int t4, .int t5, .int t6])), (htb, .inl (cA, 6000, .inl tb))]) := by
  refine mkV (lv0 := [(0, .ref h0), (1, .int (nI st0))]) (by decide) (Nat.le_of_ble_eq_true rfl) rfl ?_
  intro p e s m below meth c A ls X hr hlocks hnm hE hA hP hD hS hl
  have hx := X.1
  have hb := X.2.1
  refine qW (fun Q9 hQ9 => ?_)
  refine lv_aload_n hx hb dX7_beginLine_0 rfl (lv_at hl 0 rfl) ?_
  refine lv_iload_n hx hb dX7_beginLine_1 rfl (lv_at hl 1 rfl) ?_
  refine k_put (C := RX7) (T := TX7) (N := 9) (ci := 7) (v := .int (nI st0)) (ty := .int) X hE hP hD hS 0 rfl rfl iX7 tyX7 tyX7_ok nmX7 3 (by decide) w_366 rfl (by decide +kernel) rfl rfl (Nat.le_of_ble_eq_true rfl) [(h0, .inr (7, [.ref htb, .int (nI ln), .int t0, .int (nI st0), .int t2, .int t3, .int t4, .int t5, .int t6])), (htb, .inl (cA, 6000, .inl tb))] rfl dX7_beginLine_2 (fun H locs hP hD hS => ?_)
  refine lv_aload_n hx hb dX7_beginLine_5 rfl (lv_at hl 0 rfl) ?_
  refine lv_iload_n hx hb dX7_beginLine_6 rfl (lv_at hl 1 rfl) ?_
  refine k_put (C := RX7) (T := TX7) (N := 9) (ci := 7) (v := .int (nI st0)) (ty := .int) X hE hP hD hS 0 rfl rfl iX7 tyX7 tyX7_ok nmX7 2 (by decide) w_367 rfl (by decide +kernel) rfl rfl (Nat.le_of_ble_eq_true rfl) [(h0, .inr (7, [.ref htb, .int (nI ln), .int (nI st0), .int (nI st0), .int t2, .int t3, .int t4, .int t5, .int t6])), (htb, .inl (cA, 6000, .inl tb))] rfl dX7_beginLine_7 (fun H locs hP hD hS => ?_)
  have loop_10 : ∀ (n : Nat) (le : Nat), (le ≤ ln) → (st0 ≤ le) → ln < le + n → ∀ (H : Heap) (locs : List Loc), va_P D classes [(h0, .inr (7, [.ref htb, .int (nI ln), .int (nI le), .int (nI st0), .int t2, .int t3, .int t4, .int t5, .int t6])), (htb, .inl (cA, 6000, .inl tb))] H → va_D A [(h0, .inr (7, [.ref htb, .int (nI ln), .int (nI le), .int (nI st0), .int t2, .int t3, .int t4, .int t5, .int t6])), (htb, .inl (cA, 6000, .inl tb))] → va_S A s.heap H locs → ∀ ls : Array Slot, lv_has ls 2 [(0, .ref h0), (1, .int (nI st0))] → W p l e { frames := 0, cells := 0, slots := 0, locals := 0 } s m (List.toArray [.ref h0, .int (nI st0)]) below meth c H locs 0 0 Q9 (F0 m 10 ls []) := by
    intro n
    induction n with
    | zero => intro le hle hq0 hfuel; exact absurd hfuel (by omega)
    | succ n ih_10 =>
      intro le hle hq0 hfuel H locs hP hD hS ls hl
      refine lv_aload_n hx hb dX7_beginLine_10 rfl (lv_at hl 0 rfl) ?_
      refine k_get (C := RX7) (T := TX7) (N := 9) (ci := 7) (v := .int (nI le)) X hE hP 0 rfl rfl iX7 2 (by decide) w_367 rfl dX7_beginLine_11 ?_
      refine lv_aload_n hx hb dX7_beginLine_14 rfl (lv_at hl 0 rfl) ?_
      refine k_get (C := RX7) (T := TX7) (N := 9) (ci := 7) (v := .int (nI ln)) X hE hP 0 rfl rfl iX7 1 (by decide) w_353 rfl dX7_beginLine_15 ?_
      refine lv_icmp_ge (tgt := 48) hx hb dX7_beginLine_18 (by decide) (fun c_18_1 => ?_) (fun c_18_1 => ?_)
      · have nc_18_1 : ln ≤ le := (nI_leI (a := ln) (b := le) (by omega) (by omega)).mp c_18_1
        rw [hQ9]
        exact endV X hr hlocks hP hD hS dX7_beginLine_48 ⟨le, (by omega), (by omega), rfl⟩
      · have nc_18_1 : le < ln := Nat.not_le.mp (fun q => c_18_1 ((nI_leI (a := ln) (b := le) (by omega) (by omega)).mpr q))
        refine lv_aload_n hx hb dX7_beginLine_21 rfl (lv_at hl 0 rfl) ?_
        refine k_get (C := RX7) (T := TX7) (N := 9) (ci := 7) (v := .ref htb) X hE hP 0 rfl rfl iX7 0 (by decide) w_368 rfl dX7_beginLine_22 ?_
        refine lv_aload_n hx hb dX7_beginLine_25 rfl (lv_at hl 0 rfl) ?_
        refine k_get (C := RX7) (T := TX7) (N := 9) (ci := 7) (v := .int (nI le)) X hE hP 0 rfl rfl iX7 2 (by decide) w_367 rfl dX7_beginLine_26 ?_
        refine k_ald (v := tb le) X hE hP 1 rfl le rfl (by omega) (by decide) rfl dX7_beginLine_29 ?_
        refine lv_bipush (v := 10) hx hb dX7_beginLine_30 (by decide) ?_
        refine lv_icmp_eq (tgt := 48) hx hb dX7_beginLine_32 (by decide) (fun c_32 => ?_) (fun c_32 => ?_)
        · skip
          rw [hQ9]
          exact endV X hr hlocks hP hD hS dX7_beginLine_48 ⟨le, (by omega), (by omega), rfl⟩
        · skip
          refine lv_aload_n hx hb dX7_beginLine_35 rfl (lv_at hl 0 rfl) ?_
          refine lv_dup hx hb dX7_beginLine_36 rfl ?_
          refine k_get (C := RX7) (T := TX7) (N := 9) (ci := 7) (v := .int (nI le)) X hE hP 0 rfl rfl iX7 2 (by decide) w_367 rfl dX7_beginLine_37 ?_
          refine lv_iconst (v := 1) hx hb dX7_beginLine_40 (by decide) ?_
          refine lv_iadd hx hb dX7_beginLine_41 ?_
          refine tk (y := nI (le + 1)) (nI_add le 1) ?_
          refine k_put (C := RX7) (T := TX7) (N := 9) (ci := 7) (v := .int (nI (le + 1))) (ty := .int) X hE hP hD hS 0 rfl rfl iX7 tyX7 tyX7_ok nmX7 2 (by decide) w_367 rfl (by decide +kernel) rfl rfl (Nat.le_of_ble_eq_true rfl) [(h0, .inr (7, [.ref htb, .int (nI ln), .int (nI (le + 1)), .int (nI st0), .int t2, .int t3, .int t4, .int t5, .int t6])), (htb, .inl (cA, 6000, .inl tb))] rfl dX7_beginLine_42 (fun H locs hP hD hS => ?_)
          refine lv_goto (tgt := 10) hx hb dX7_beginLine_45 (by decide) ?_
          exact ih_10 (le + 1) (by omega) (by omega) (by omega) _ _ hP hD hS ls hl
  exact loop_10 (ln + 1) st0 (by omega) (by omega) (by omega) _ _ hP hD hS ls hl
