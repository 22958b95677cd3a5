abbrev cX7_sameLetters : ByteArray := prog_9_method_10_code
def yX7_sameLetters : MethodName := ⟨RX7, "sameLetters", "(III)Z"⟩
abbrev cX2_find : ByteArray := prog_4_method_3_code
def yX2_find : MethodName := ⟨RX2, "find", "(LBelfryBox$Tape;II)I"⟩
abbrev cX7_add : ByteArray := prog_9_method_3_code
def yX7_add : MethodName := ⟨RX7, "add", "(I)V"⟩
abbrev cX8_feed : ByteArray := prog_1_method_2_code
def yX8_feed : MethodName := ⟨RX8, "feed", "(IIIII)I"⟩
set_option maxRecDepth 100000 in
theorem w_459 : (Cond.methodLink "BelfryBox$Names" 28 yX7_sameLetters : Cond) ∈ gw := List.mem_filter.mpr ⟨List.mem_append_right _ (tb3 (List.mem_of_getElem? (i := 41) rfl)), rfl⟩
set_option maxRecDepth 100000 in
theorem w_460 : (Cond.code yX7_sameLetters prog_9_method_10_code 5 (Option.some Jvm.ClassFile.FieldType.boolean) : Cond) ∈ gw := List.mem_filter.mpr ⟨List.mem_append_right _ (tb3 (List.mem_of_getElem? (i := 44) rfl)), rfl⟩
set_option maxRecDepth 100000 in
theorem w_461 : (Cond.instanceMethod yX7_sameLetters : Cond) ∈ gw := List.mem_filter.mpr ⟨List.mem_append_right _ (tb3 (List.mem_of_getElem? (i := 42) rfl)), rfl⟩
set_option maxRecDepth 100000 in
theorem w_462 : (Cond.selects "BelfryBox$Tape" yX7_sameLetters yX7_sameLetters : Cond) ∈ gw := List.mem_filter.mpr ⟨List.mem_append_right _ (tb3 (List.mem_of_getElem? (i := 43) rfl)), rfl⟩
set_option maxRecDepth 100000 in
theorem w_463 : (Cond.methodLink "BelfryBox" 74 yX7_hasRoom : Cond) ∈ gw := List.mem_filter.mpr ⟨List.mem_append_right _ (tb2 (List.mem_of_getElem? (i := 78) rfl)), rfl⟩
set_option maxRecDepth 100000 in
theorem w_464 : (Cond.code yX7_hasRoom prog_9_method_2_code 2 (Option.some Jvm.ClassFile.FieldType.boolean) : Cond) ∈ gw := List.mem_filter.mpr ⟨List.mem_append_right _ (tb2 (List.mem_of_getElem? (i := 81) rfl)), rfl⟩
set_option maxRecDepth 100000 in
theorem w_465 : (Cond.instanceMethod yX7_hasRoom : Cond) ∈ gw := List.mem_filter.mpr ⟨List.mem_append_right _ (tb2 (List.mem_of_getElem? (i := 79) rfl)), rfl⟩
set_option maxRecDepth 100000 in
theorem w_466 : (Cond.selects "BelfryBox$Tape" yX7_hasRoom yX7_hasRoom : Cond) ∈ gw := List.mem_filter.mpr ⟨List.mem_append_right _ (tb2 (List.mem_of_getElem? (i := 80) rfl)), rfl⟩
set_option maxRecDepth 100000 in
theorem w_467 : (Cond.methodLink "BelfryBox" 78 yX7_add : Cond) ∈ gw := List.mem_filter.mpr ⟨List.mem_append_right _ (tb2 (List.mem_of_getElem? (i := 82) rfl)), rfl⟩
set_option maxRecDepth 100000 in
theorem w_468 : (Cond.code yX7_add prog_9_method_3_code 3 (Option.none : Option Jvm.ClassFile.FieldType) : Cond) ∈ gw := List.mem_filter.mpr ⟨List.mem_append_right _ (tb2 (List.mem_of_getElem? (i := 85) rfl)), rfl⟩
set_option maxRecDepth 100000 in
theorem w_469 : (Cond.instanceMethod yX7_add : Cond) ∈ gw := List.mem_filter.mpr ⟨List.mem_append_right _ (tb2 (List.mem_of_getElem? (i := 83) rfl)), rfl⟩
set_option maxRecDepth 100000 in
theorem w_470 : (Cond.selects "BelfryBox$Tape" yX7_add yX7_add : Cond) ∈ gw := List.mem_filter.mpr ⟨List.mem_append_right _ (tb2 (List.mem_of_getElem? (i := 84) rfl)), rfl⟩
theorem dX7_sameLetters_0 : decode cX7_sameLetters 0 = .ok (.iconst 0, 1) := by decide +kernel
theorem dX7_sameLetters_1 : decode cX7_sameLetters 1 = .ok (.istore 4, 2) := by decide +kernel
theorem dX7_sameLetters_3 : decode cX7_sameLetters 3 = .ok (.iload 4, 2) := by decide +kernel
theorem dX7_sameLetters_5 : decode cX7_sameLetters 5 = .ok (.iload_n 3, 1) := by decide +kernel
theorem dX7_sameLetters_6 : decode cX7_sameLetters 6 = .ok (.if_icmp .ge 32, 3) := by decide +kernel
theorem dX7_sameLetters_38 : decode cX7_sameLetters 38 = .ok (.iconst 1, 1) := by decide +kernel
theorem dX7_sameLetters_39 : decode cX7_sameLetters 39 = .ok (.ireturn, 1) := by decide +kernel
theorem dX7_sameLetters_9 : decode cX7_sameLetters 9 = .ok (.aload_n 0, 1) := by decide +kernel
theorem dX7_sameLetters_10 : decode cX7_sameLetters 10 = .ok (.getfield 11, 3) := by decide +kernel
theorem dX7_sameLetters_13 : decode cX7_sameLetters 13 = .ok (.iload_n 1, 1) := by decide +kernel
theorem dX7_sameLetters_14 : decode cX7_sameLetters 14 = .ok (.iload 4, 2) := by decide +kernel
theorem dX7_sameLetters_16 : decode cX7_sameLetters 16 = .ok (.iadd, 1) := by decide +kernel
theorem dX7_sameLetters_17 : decode cX7_sameLetters 17 = .ok (.iaload, 1) := by decide +kernel
theorem dX7_sameLetters_18 : decode cX7_sameLetters 18 = .ok (.aload_n 0, 1) := by decide +kernel
theorem dX7_sameLetters_19 : decode cX7_sameLetters 19 = .ok (.getfield 11, 3) := by decide +kernel
theorem dX7_sameLetters_22 : decode cX7_sameLetters 22 = .ok (.iload_n 2, 1) := by decide +kernel
theorem dX7_sameLetters_23 : decode cX7_sameLetters 23 = .ok (.iload 4, 2) := by decide +kernel
theorem dX7_sameLetters_25 : decode cX7_sameLetters 25 = .ok (.iadd, 1) := by decide +kernel
theorem dX7_sameLetters_26 : decode cX7_sameLetters 26 = .ok (.iaload, 1) := by decide +kernel
theorem dX7_sameLetters_27 : decode cX7_sameLetters 27 = .ok (.if_icmp .eq 5, 3) := by decide +kernel
theorem dX7_sameLetters_32 : decode cX7_sameLetters 32 = .ok (.iinc 4 1, 3) := by decide +kernel
theorem dX7_sameLetters_35 : decode cX7_sameLetters 35 = .ok (.goto (-32), 3) := by decide +kernel
theorem dX7_sameLetters_30 : decode cX7_sameLetters 30 = .ok (.iconst 0, 1) := by decide +kernel
theorem dX7_sameLetters_31 : decode cX7_sameLetters 31 = .ok (.ireturn, 1) := by decide +kernel
theorem dX2_find_0 : decode cX2_find 0 = .ok (.iconst 0, 1) := by decide +kernel
theorem dX2_find_1 : decode cX2_find 1 = .ok (.istore 4, 2) := by decide +kernel
theorem dX2_find_3 : decode cX2_find 3 = .ok (.iload 4, 2) := by decide +kernel
theorem dX2_find_5 : decode cX2_find 5 = .ok (.aload_n 0, 1) := by decide +kernel
theorem dX2_find_6 : decode cX2_find 6 = .ok (.getfield 24, 3) := by decide +kernel
theorem dX2_find_9 : decode cX2_find 9 = .ok (.if_icmp .ge 39, 3) := by decide +kernel
theorem dX2_find_48 : decode cX2_find 48 = .ok (.iconst (-1), 1) := by decide +kernel
theorem dX2_find_49 : decode cX2_find 49 = .ok (.ireturn, 1) := by decide +kernel
theorem dX2_find_12 : decode cX2_find 12 = .ok (.aload_n 0, 1) := by decide +kernel
theorem dX2_find_13 : decode cX2_find 13 = .ok (.getfield 15, 3) := by decide +kernel
theorem dX2_find_16 : decode cX2_find 16 = .ok (.iload 4, 2) := by decide +kernel
theorem dX2_find_18 : decode cX2_find 18 = .ok (.iaload, 1) := by decide +kernel
theorem dX2_find_19 : decode cX2_find 19 = .ok (.iload_n 3, 1) := by decide +kernel
theorem dX2_find_20 : decode cX2_find 20 = .ok (.if_icmp .ne 22, 3) := by decide +kernel
theorem dX2_find_42 : decode cX2_find 42 = .ok (.iinc 4 1, 3) := by decide +kernel
theorem dX2_find_45 : decode cX2_find 45 = .ok (.goto (-42), 3) := by decide +kernel
theorem dX2_find_23 : decode cX2_find 23 = .ok (.aload_n 1, 1) := by decide +kernel
theorem dX2_find_24 : decode cX2_find 24 = .ok (.aload_n 0, 1) := by decide +kernel
theorem dX2_find_25 : decode cX2_find 25 = .ok (.getfield 11, 3) := by decide +kernel
theorem dX2_find_28 : decode cX2_find 28 = .ok (.iload 4, 2) := by decide +kernel
theorem dX2_find_30 : decode cX2_find 30 = .ok (.iaload, 1) := by decide +kernel
theorem dX2_find_31 : decode cX2_find 31 = .ok (.iload_n 2, 1) := by decide +kernel
theorem dX2_find_32 : decode cX2_find 32 = .ok (.iload_n 3, 1) := by decide +kernel
theorem dX2_find_33 : decode cX2_find 33 = .ok (.invokevirtual 28, 3) := by decide +kernel
theorem dX2_find_36 : decode cX2_find 36 = .ok (.ifCond .eq 6, 3) := by decide +kernel
theorem dX2_find_39 : decode cX2_find 39 = .ok (.iload 4, 2) := by decide +kernel
theorem dX2_find_41 : decode cX2_find 41 = .ok (.ireturn, 1) := by decide +kernel
theorem dX7_add_0 : decode cX7_add 0 = .ok (.bipush 24, 2) := by decide +kernel
theorem dX7_add_2 : decode cX7_add 2 = .ok (.istore_n 2, 1) := by decide +kernel
theorem dX7_add_3 : decode cX7_add 3 = .ok (.iload_n 2, 1) := by decide +kernel
theorem dX7_add_4 : decode cX7_add 4 = .ok (.ifCond .lt 45, 3) := by decide +kernel
theorem dX7_add_7 : decode cX7_add 7 = .ok (.aload_n 0, 1) := by decide +kernel
theorem dX7_add_8 : decode cX7_add 8 = .ok (.getfield 15, 3) := by decide +kernel
theorem dX7_add_11 : decode cX7_add 11 = .ok (.sipush 6000, 3) := by decide +kernel
theorem dX7_add_14 : decode cX7_add 14 = .ok (.if_icmp .ge 35, 3) := by decide +kernel
theorem dX7_add_17 : decode cX7_add 17 = .ok (.aload_n 0, 1) := by decide +kernel
theorem dX7_add_18 : decode cX7_add 18 = .ok (.getfield 11, 3) := by decide +kernel
theorem dX7_add_21 : decode cX7_add 21 = .ok (.aload_n 0, 1) := by decide +kernel
theorem dX7_add_22 : decode cX7_add 22 = .ok (.getfield 15, 3) := by decide +kernel
theorem dX7_add_25 : decode cX7_add 25 = .ok (.iload_n 1, 1) := by decide +kernel
theorem dX7_add_26 : decode cX7_add 26 = .ok (.iload_n 2, 1) := by decide +kernel
theorem dX7_add_27 : decode cX7_add 27 = .ok (.ishr, 1) := by decide +kernel
theorem dX7_add_28 : decode cX7_add 28 = .ok (.sipush 255, 3) := by decide +kernel
theorem dX7_add_31 : decode cX7_add 31 = .ok (.iand, 1) := by decide +kernel
theorem dX7_add_32 : decode cX7_add 32 = .ok (.iastore, 1) := by decide +kernel
theorem dX7_add_33 : decode cX7_add 33 = .ok (.aload_n 0, 1) := by decide +kernel
theorem dX7_add_34 : decode cX7_add 34 = .ok (.dup, 1) := by decide +kernel
theorem dX7_add_35 : decode cX7_add 35 = .ok (.getfield 15, 3) := by decide +kernel
theorem dX7_add_38 : decode cX7_add 38 = .ok (.iconst 1, 1) := by decide +kernel
theorem dX7_add_39 : decode cX7_add 39 = .ok (.iadd, 1) := by decide +kernel
theorem dX7_add_40 : decode cX7_add 40 = .ok (.putfield 15, 3) := by decide +kernel
theorem dX7_add_43 : decode cX7_add 43 = .ok (.iinc 2 (-8), 3) := by decide +kernel
theorem dX7_add_46 : decode cX7_add 46 = .ok (.goto (-43), 3) := by decide +kernel
theorem dX7_add_49 : decode cX7_add 49 = .ok (.return_, 1) := by decide +kernel
theorem dX8_feed_0 : decode cX8_feed 0 = .ok (.aload_n 0, 1) := by decide +kernel
theorem dX8_feed_1 : decode cX8_feed 1 = .ok (.getfield 51, 3) := by decide +kernel
theorem dX8_feed_4 : decode cX8_feed 4 = .ok (.bipush 20, 2) := by decide +kernel
theorem dX8_feed_6 : decode cX8_feed 6 = .ok (.invokevirtual 74, 3) := by decide +kernel
theorem dX8_feed_9 : decode cX8_feed 9 = .ok (.ifCond .ne 5, 3) := by decide +kernel
theorem dX8_feed_14 : decode cX8_feed 14 = .ok (.aload_n 0, 1) := by decide +kernel
theorem dX8_feed_15 : decode cX8_feed 15 = .ok (.getfield 51, 3) := by decide +kernel
theorem dX8_feed_18 : decode cX8_feed 18 = .ok (.iload_n 1, 1) := by decide +kernel
theorem dX8_feed_19 : decode cX8_feed 19 = .ok (.invokevirtual 78, 3) := by decide +kernel
theorem dX8_feed_22 : decode cX8_feed 22 = .ok (.aload_n 0, 1) := by decide +kernel
theorem dX8_feed_23 : decode cX8_feed 23 = .ok (.getfield 51, 3) := by decide +kernel
theorem dX8_feed_26 : decode cX8_feed 26 = .ok (.iload_n 2, 1) := by decide +kernel
theorem dX8_feed_27 : decode cX8_feed 27 = .ok (.invokevirtual 78, 3) := by decide +kernel
theorem dX8_feed_30 : decode cX8_feed 30 = .ok (.aload_n 0, 1) := by decide +kernel
theorem dX8_feed_31 : decode cX8_feed 31 = .ok (.getfield 51, 3) := by decide +kernel
theorem dX8_feed_34 : decode cX8_feed 34 = .ok (.iload_n 3, 1) := by decide +kernel
theorem dX8_feed_35 : decode cX8_feed 35 = .ok (.invokevirtual 78, 3) := by decide +kernel
theorem dX8_feed_38 : decode cX8_feed 38 = .ok (.aload_n 0, 1) := by decide +kernel
theorem dX8_feed_39 : decode cX8_feed 39 = .ok (.getfield 51, 3) := by decide +kernel
theorem dX8_feed_42 : decode cX8_feed 42 = .ok (.iload 4, 2) := by decide +kernel
theorem dX8_feed_44 : decode cX8_feed 44 = .ok (.invokevirtual 78, 3) := by decide +kernel
theorem dX8_feed_47 : decode cX8_feed 47 = .ok (.aload_n 0, 1) := by decide +kernel
theorem dX8_feed_48 : decode cX8_feed 48 = .ok (.getfield 51, 3) := by decide +kernel
theorem dX8_feed_51 : decode cX8_feed 51 = .ok (.iload 5, 2) := by decide +kernel
theorem dX8_feed_53 : decode cX8_feed 53 = .ok (.invokevirtual 78, 3) := by decide +kernel
theorem dX8_feed_56 : decode cX8_feed 56 = .ok (.aload_n 0, 1) := by decide +kernel
theorem dX8_feed_57 : decode cX8_feed 57 = .ok (.getfield 51, 3) := by decide +kernel
theorem dX8_feed_60 : decode cX8_feed 60 = .ok (.getfield 82, 3) := by decide +kernel
theorem dX8_feed_63 : decode cX8_feed 63 = .ok (.ireturn, 1) := by decide +kernel
theorem dX8_feed_12 : decode cX8_feed 12 = .ok (.iconst (-1), 1) := by decide +kernel
theorem dX8_feed_13 : decode cX8_feed 13 = .ok (.ireturn, 1) := by decide +kernel
set_option maxHeartbeats 4000000 in
set_option maxRecDepth 100000 in
theorem c_s2_sameLetters (l : Launch) (D : va_G) (cA cB : ClassId) (h0 : Nat) (htb : Nat) (t0 : Int32) (t1 : Int32) (t2 : Int32) (t3 : Int32) (t4 : Int32) (t5 : Int32) (t6 : Int32) (t7 : Int32) (tz : Nat → Int32) (o1 : Nat) (o2 : Nat) (n0 : Nat) (htz : ∀ j, j < 6000 → ∃ k : Nat, k < 256 ∧ tz j = nI k) (ho1 : o1 < 6001) (ho2 : o2 < 6001) (hn0 : n0 < 6001) (ho3 : o1 + n0 ≤ 6000) (ho4 : o2 + n0 ≤ 6000) : CI l yX7_sameLetters cX7_sameLetters 5 (some .boolean) 0 0 0 0 D cA cB [.ref h0, .int (nI o1), .int (nI o2), .int (nI n0)] [(h0, .inr (7, [.ref htb, .int t0, .int t1, .int t2, .int t3, .int t4, .int t5, .int t6, .int t7])), (htb, .inl (cA, 6000, .inl tz))] (fun r W1 => ∃ (rk : Nat), r = nI rk ∧ (rk < 2) ∧ W1 = [(h0, .inr (7, [.ref htb, .int t0, .int t1, .int t2, .int t3, .int t4, .int t5, .int t6, .int t7])), (htb, .inl (cA, 6000, .inl tz))]) := by
  refine mkI (lv0 := [(0, .ref h0), (1, .int (nI o1)), (2, .int (nI o2)), (3, .int (nI n0))]) (by decide) (Nat.le_of_ble_eq_true rfl) rfl ?_
  intro p e s m below meth c A ls X hr hlocks hnm hE hA hP hD hS hl
  have hx := X.1
  have hb := X.2.1
  refine qW (fun Q9 hQ9 => ?_)
  refine lv_iconst (v := 0) hx hb dX7_sameLetters_0 (by decide) ?_
  refine lv_istore (lv' := [(4, .int 0), (0, .ref h0), (1, .int (nI o1)), (2, .int (nI o2)), (3, .int (nI n0))]) hx hb dX7_sameLetters_1 hl (by decide) rfl (fun ls hl => ?_)
  have loop_3 : ∀ (n : Nat) (i : Nat), (i < 6002) → (i ≤ n0) → n0 - i < n → ∀ (H : Heap) (locs : List Loc), va_P D classes [(h0, .inr (7, [.ref htb, .int t0, .int t1, .int t2, .int t3, .int t4, .int t5, .int t6, .int t7])), (htb, .inl (cA, 6000, .inl tz))] H → va_D A [(h0, .inr (7, [.ref htb, .int t0, .int t1, .int t2, .int t3, .int t4, .int t5, .int t6, .int t7])), (htb, .inl (cA, 6000, .inl tz))] → va_S A s.heap H locs → ∀ ls : Array Slot, lv_has ls 5 [(0, .ref h0), (1, .int (nI o1)), (2, .int (nI o2)), (3, .int (nI n0)), (4, .int (nI i))] → W p l e { frames := 0, cells := 0, slots := 0, locals := 0 } s m (List.toArray [.ref h0, .int (nI o1), .int (nI o2), .int (nI n0)]) below meth c H locs 0 0 Q9 (F0 m 3 ls []) := by
    intro n
    induction n with
    | zero => intro i hi hi2 hfuel; exact absurd hfuel (by omega)
    | succ n ih_3 =>
      intro i hi hi2 hfuel H locs hP hD hS ls hl
      refine lv_iload hx hb dX7_sameLetters_3 (lv_at hl 4 rfl) ?_
      refine lv_iload_n hx hb dX7_sameLetters_5 rfl (lv_at hl 3 rfl) ?_
      refine lv_icmp_ge (tgt := 38) hx hb dX7_sameLetters_6 (by decide) (fun c_6_1 => ?_) (fun c_6_1 => ?_)
      · have nc_6_1 : n0 ≤ i := (nI_leI (a := n0) (b := i) (by omega) (by omega)).mp c_6_1
        refine lv_iconst (v := 1) hx hb dX7_sameLetters_38 (by decide) ?_
        rw [hQ9]
        exact endZ X hr rfl hlocks hP hD hS dX7_sameLetters_39 ⟨1, rfl, (by decide), rfl⟩
      · have nc_6_1 : i < n0 := Nat.not_le.mp (fun q => c_6_1 ((nI_leI (a := n0) (b := i) (by omega) (by omega)).mpr q))
        refine lv_aload_n hx hb dX7_sameLetters_9 rfl (lv_at hl 0 rfl) ?_
        refine k_get (C := RX7) (T := TX7) (N := 9) (ci := 7) (v := .ref htb) X hE hP 0 rfl rfl iX7 0 (by decide) w_368 rfl dX7_sameLetters_10 ?_
        refine lv_iload_n hx hb dX7_sameLetters_13 rfl (lv_at hl 1 rfl) ?_
        refine lv_iload hx hb dX7_sameLetters_14 (lv_at hl 4 rfl) ?_
        refine lv_iadd hx hb dX7_sameLetters_16 ?_
        refine tk (y := nI (o1 + i)) (nI_add o1 i) ?_
        obtain ⟨k_2, hk_2, ek_2⟩ := htz (o1 + i) (by omega)
        refine k_ald (v := nI k_2) X hE hP 1 rfl (o1 + i) rfl (by omega) (by decide) ek_2 dX7_sameLetters_17 ?_
        refine lv_aload_n hx hb dX7_sameLetters_18 rfl (lv_at hl 0 rfl) ?_
        refine k_get (C := RX7) (T := TX7) (N := 9) (ci := 7) (v := .ref htb) X hE hP 0 rfl rfl iX7 0 (by decide) w_368 rfl dX7_sameLetters_19 ?_
        refine lv_iload_n hx hb dX7_sameLetters_22 rfl (lv_at hl 2 rfl) ?_
        refine lv_iload hx hb dX7_sameLetters_23 (lv_at hl 4 rfl) ?_
        refine lv_iadd hx hb dX7_sameLetters_25 ?_
        refine tk (y := nI (o2 + i)) (nI_add o2 i) ?_
        obtain ⟨k_3, hk_3, ek_3⟩ := htz (o2 + i) (by omega)
        refine k_ald (v := nI k_3) X hE hP 1 rfl (o2 + i) rfl (by omega) (by decide) ek_3 dX7_sameLetters_26 ?_
        refine lv_icmp_eq (tgt := 32) hx hb dX7_sameLetters_27 (by decide) (fun c_27_4 => ?_) (fun c_27_4 => ?_)
        · have nc_27_4 : k_2 = k_3 := (nI_eq (a := k_2) (b := k_3) (by omega) (by omega)).mp c_27_4
          refine lv_iinc (v := nI (i + 1)) (lv' := [(4, .int (nI (i + 1))), (0, .ref h0), (1, .int (nI o1)), (2, .int (nI o2)), (3, .int (nI n0))]) hx hb dX7_sameLetters_32 hl (k := 4) rfl (nI_1 i) (by decide) rfl (fun ls hl => ?_)
          refine lv_goto (tgt := 3) hx hb dX7_sameLetters_35 (by decide) ?_
          exact ih_3 (i + 1) (by omega) (by first | assumption | omega) (by omega) _ _ hP hD hS ls (lv_sub hl [1, 2, 3, 4, 0] rfl)
        · have nc_27_4 : ¬ k_2 = k_3 := fun q => c_27_4 ((nI_eq (a := k_2) (b := k_3) (by omega) (by omega)).mpr q)
          refine lv_iconst (v := 0) hx hb dX7_sameLetters_30 (by decide) ?_
          rw [hQ9]
          exact endZ X hr rfl hlocks hP hD hS dX7_sameLetters_31 ⟨0, rfl, (by decide), rfl⟩
  exact loop_3 6003 0 (by omega) (by first | assumption | omega) (by omega) _ _ hP hD hS ls (lv_sub hl [1, 2, 3, 4, 0] rfl)
set_option maxHeartbeats 4000000 in
set_option maxRecDepth 100000 in
theorem c_s2_nfind (l : Launch) (D : va_G) (cA cB : ClassId) (h0 : Nat) (ha : Nat) (hb9 : Nat) (hc9 : Nat) (hd9 : Nat) (qa : Nat) (htb : Nat) (cn : Nat) (t0 : Int32) (t1 : Int32) (t2 : Int32) (t3 : Int32) (t4 : Int32) (t5 : Int32) (t6 : Int32) (t7 : Int32) (na : Nat → Int32) (nb : Nat → Int32) (tz : Nat → Int32) (p0 : Nat) (q0 : Nat) (hcn : cn < 61) (htz : ∀ j, j < 6000 → ∃ k : Nat, k < 256 ∧ tz j = nI k) (hp0 : p0 < 6010) (hq0 : q0 < 6010) (hT : okT na nb cn) (hpq : p0 + q0 ≤ 6000) : CI l yX2_find cX2_find 5 (some .int) 1 24 0 0 D cA cB [.ref h0, .ref qa, .int (nI p0), .int (nI q0)] [(h0, .inr (2, [.ref ha, .ref hb9, .ref hc9, .ref hd9, .int (nI cn)])), (qa, .inr (7, [.ref htb, .int t0, .int t1, .int t2, .int t3, .int t4, .int t5, .int t6, .int t7])), (ha, .inl (cA, 60, .inl na)), (hb9, .inl (cA, 60, .inl nb)), (htb, .inl (cA, 6000, .inl tz))] (fun r W1 => ∃ (rv : Int32), r = rv ∧ (rv = -1 ∨ ∃ k : Nat, k < cn ∧ rv = nI k) ∧ W1 = [(h0, .inr (2, [.ref ha, .ref hb9, .ref hc9, .ref hd9, .int (nI cn)])), (qa, .inr (7, [.ref htb, .int t0, .int t1, .int t2, .int t3, .int t4, .int t5, .int t6, .int t7])), (ha, .inl (cA, 60, .inl na)), (hb9, .inl (cA, 60, .inl nb)), (htb, .inl (cA, 6000, .inl tz))]) := by
  refine mkI (lv0 := [(0, .ref h0), (1, .ref qa), (2, .int (nI p0)), (3, .int (nI q0))]) (by decide) (Nat.le_of_ble_eq_true rfl) rfl ?_
  intro p e s m below meth c A ls X hr hlocks hnm hE hA hP hD hS hl
  have hx := X.1
  have hb := X.2.1
  refine qW (fun Q9 hQ9 => ?_)
  refine lv_iconst (v := 0) hx hb dX2_find_0 (by decide) ?_
  refine lv_istore (lv' := [(4, .int 0), (0, .ref h0), (1, .ref qa), (2, .int (nI p0)), (3, .int (nI q0))]) hx hb dX2_find_1 hl (by decide) rfl (fun ls hl => ?_)
  have loop_3 : ∀ (n : Nat) (i : Nat), (i < 62) → (i ≤ cn) → cn - i < n → ∀ (H : Heap) (locs : List Loc), va_P D classes [(h0, .inr (2, [.ref ha, .ref hb9, .ref hc9, .ref hd9, .int (nI cn)])), (qa, .inr (7, [.ref htb, .int t0, .int t1, .int t2, .int t3, .int t4, .int t5, .int t6, .int t7])), (ha, .inl (cA, 60, .inl na)), (hb9, .inl (cA, 60, .inl nb)), (htb, .inl (cA, 6000, .inl tz))] H → va_D A [(h0, .inr (2, [.ref ha, .ref hb9, .ref hc9, .ref hd9, .int (nI cn)])), (qa, .inr (7, [.ref htb, .int t0, .int t1, .int t2, .int t3, .int t4, .int t5, .int t6, .int t7])), (ha, .inl (cA, 60, .inl na)), (hb9, .inl (cA, 60, .inl nb)), (htb, .inl (cA, 6000, .inl tz))] → va_S A s.heap H locs → ∀ ls : Array Slot, lv_has ls 5 [(0, .ref h0), (1, .ref qa), (2, .int (nI p0)), (3, .int (nI q0)), (4, .int (nI i))] → W p l e { frames := 1, cells := 0, slots := 0, locals := 24 } s m (List.toArray [.ref h0, .ref qa, .int (nI p0), .int (nI q0)]) below meth c H locs 0 0 Q9 (F0 m 3 ls []) := by
    intro n
    induction n with
    | zero => intro i hi hi2 hfuel; exact absurd hfuel (by omega)
    | succ n ih_3 =>
      intro i hi hi2 hfuel H locs hP hD hS ls hl
      refine lv_iload hx hb dX2_find_3 (lv_at hl 4 rfl) ?_
      refine lv_aload_n hx hb dX2_find_5 rfl (lv_at hl 0 rfl) ?_
      refine k_get (C := RX2) (T := TX2) (N := 5) (ci := 2) (v := .int (nI cn)) X hE hP 0 rfl rfl iX2 4 (by decide) w_355 rfl dX2_find_6 ?_
      refine lv_icmp_ge (tgt := 48) hx hb dX2_find_9 (by decide) (fun c_9_1 => ?_) (fun c_9_1 => ?_)
      · have nc_9_1 : cn ≤ i := (nI_leI (a := cn) (b := i) (by omega) (by omega)).mp c_9_1
        refine lv_iconst (v := (-1)) hx hb dX2_find_48 (by decide) ?_
        rw [hQ9]
        exact endI X hr hlocks hP hD hS dX2_find_49 ⟨(-1), rfl, (Or.inl rfl), rfl⟩
      · have nc_9_1 : i < cn := Nat.not_le.mp (fun q => c_9_1 ((nI_leI (a := cn) (b := i) (by omega) (by omega)).mpr q))
        obtain ⟨a9, b9, hab, ea9, eb9⟩ := hT i (by omega)
        refine lv_aload_n hx hb dX2_find_12 rfl (lv_at hl 0 rfl) ?_
        refine k_get (C := RX2) (T := TX2) (N := 5) (ci := 2) (v := .ref hb9) X hE hP 0 rfl rfl iX2 1 (by decide) w_404 rfl dX2_find_13 ?_
        refine lv_iload hx hb dX2_find_16 (lv_at hl 4 rfl) ?_
        refine k_ald (v := nI b9) X hE hP 3 rfl i rfl (by omega) (by decide) eb9 dX2_find_18 ?_
        refine lv_iload_n hx hb dX2_find_19 rfl (lv_at hl 3 rfl) ?_
        refine lv_icmp_ne (tgt := 42) hx hb dX2_find_20 (by decide) (fun c_20_2 => ?_) (fun c_20_2 => ?_)
        · have nc_20_2 : ¬ b9 = q0 := fun q => c_20_2 ((nI_eq (a := b9) (b := q0) (by omega) (by omega)).mpr q)
          refine lv_iinc (v := nI (i + 1)) (lv' := [(4, .int (nI (i + 1))), (0, .ref h0), (1, .ref qa), (2, .int (nI p0)), (3, .int (nI q0))]) hx hb dX2_find_42 hl (k := 4) rfl (nI_1 i) (by decide) rfl (fun ls hl => ?_)
          refine lv_goto (tgt := 3) hx hb dX2_find_45 (by decide) ?_
          exact ih_3 (i + 1) (by omega) (by first | assumption | omega) (by omega) _ _ hP hD hS ls (lv_sub hl [1, 2, 3, 4, 0] rfl)
        · have nc_20_2 : b9 = q0 := (nI_eq (a := b9) (b := q0) (by omega) (by omega)).mp c_20_2
          refine lv_aload_n hx hb dX2_find_23 rfl (lv_at hl 1 rfl) ?_
          refine lv_aload_n hx hb dX2_find_24 rfl (lv_at hl 0 rfl) ?_
          refine k_get (C := RX2) (T := TX2) (N := 5) (ci := 2) (v := .ref ha) X hE hP 0 rfl rfl iX2 0 (by decide) w_357 rfl dX2_find_25 ?_
          refine lv_iload hx hb dX2_find_28 (lv_at hl 4 rfl) ?_
          refine k_ald (v := nI a9) X hE hP 2 rfl i rfl (by omega) (by decide) ea9 dX2_find_30 ?_
          refine lv_iload_n hx hb dX2_find_31 rfl (lv_at hl 2 rfl) ?_
          refine lv_iload_n hx hb dX2_find_32 rfl (lv_at hl 3 rfl) ?_
          refine kVi (n3 := 3) (As := [.int (nI a9), .int (nI p0), .int (nI q0)]) (rest := []) X hl.1 hE hP hD hS hA [(qa, .inr (7, [.ref htb, .int t0, .int t1, .int t2, .int t3, .int t4, .int t5, .int t6, .int t7])), (htb, .inl (cA, 6000, .inl tz))] [(h0, .inr (2, [.ref ha, .ref hb9, .ref hc9, .ref hd9, .int (nI cn)])), (ha, .inl (cA, 60, .inl na)), (hb9, .inl (cA, 60, .inl nb))] [1, 4] [0, 2, 3] rfl rfl rfl (by decide +kernel) (by decide +kernel) (by decide +kernel) (c_s2_sameLetters l D cA cB qa htb t0 t1 t2 t3 t4 t5 t6 t7 tz a9 p0 q0 htz (by first | assumption | omega | decide | rfl) (by first | assumption | omega | decide | rfl) (by first | assumption | omega | decide | rfl) (by first | assumption | omega | decide | rfl) (by first | assumption | omega | decide | rfl)) w_460 w_374 w_459 w_461 w_462 0 (ci := 7) (T := TX7) (N := 9) rfl rfl (by decide +kernel) rfl rfl (Nat.le_of_ble_eq_true rfl) ⟨(Nat.le_of_ble_eq_true rfl), (Nat.le_of_ble_eq_true rfl)⟩ ⟨(Nat.le_of_ble_eq_true rfl), (Nat.le_of_ble_eq_true rfl)⟩ dX2_find_33 (fun r W1 H locs hw hP hD hS => ?_)
          obtain ⟨rk_3, rfl, hf_4, rfl⟩ := hw
          have hP : va_P D classes [(h0, .inr (2, [.ref ha, .ref hb9, .ref hc9, .ref hd9, .int (nI cn)])), (ha, .inl (cA, 60, .inl na)), (hb9, .inl (cA, 60, .inl nb)), (qa, .inr (7, [.ref htb, .int t0, .int t1, .int t2, .int t3, .int t4, .int t5, .int t6, .int t7])), (htb, .inl (cA, 6000, .inl tz))] H := hP
          have hD : va_D A [(h0, .inr (2, [.ref ha, .ref hb9, .ref hc9, .ref hd9, .int (nI cn)])), (ha, .inl (cA, 60, .inl na)), (hb9, .inl (cA, 60, .inl nb)), (qa, .inr (7, [.ref htb, .int t0, .int t1, .int t2, .int t3, .int t4, .int t5, .int t6, .int t7])), (htb, .inl (cA, 6000, .inl tz))] := hD
          refine lv_if_eq (tgt := 42) hx hb dX2_find_36 (by decide) (fun c_36_5 => ?_) (fun c_36_5 => ?_)
          · have nc_36_5 : rk_3 = 0 := (nI_eq (a := rk_3) (b := 0) (by omega) (by omega)).mp c_36_5
            refine lv_iinc (v := nI (i + 1)) (lv' := [(4, .int (nI (i + 1))), (0, .ref h0), (1, .ref qa), (2, .int (nI p0)), (3, .int (nI q0))]) hx hb dX2_find_42 hl (k := 4) rfl (nI_1 i) (by decide) rfl (fun ls hl => ?_)
            refine lv_goto (tgt := 3) hx hb dX2_find_45 (by decide) ?_
            exact ih_3 (i + 1) (by omega) (by first | assumption | omega) (by omega) _ _ (hP.sub [0, 3, 1, 2, 4] rfl) (hD.sub [0, 3, 1, 2, 4] (by decide) rfl) hS ls (lv_sub hl [1, 2, 3, 4, 0] rfl)
          · have nc_36_5 : ¬ rk_3 = 0 := fun q => c_36_5 ((nI_eq (a := rk_3) (b := 0) (by omega) (by omega)).mpr q)
            refine lv_iload hx hb dX2_find_39 (lv_at hl 4 rfl) ?_
            have hP : va_P D classes [(h0, .inr (2, [.ref ha, .ref hb9, .ref hc9, .ref hd9, .int (nI cn)])), (qa, .inr (7, [.ref htb, .int t0, .int t1, .int t2, .int t3, .int t4, .int t5, .int t6, .int t7])), (ha, .inl (cA, 60, .inl na)), (hb9, .inl (cA, 60, .inl nb)), (htb, .inl (cA, 6000, .inl tz))] _ := hP.sub [0, 3, 1, 2, 4] rfl
            have hD : va_D A [(h0, .inr (2, [.ref ha, .ref hb9, .ref hc9, .ref hd9, .int (nI cn)])), (qa, .inr (7, [.ref htb, .int t0, .int t1, .int t2, .int t3, .int t4, .int t5, .int t6, .int t7])), (ha, .inl (cA, 60, .inl na)), (hb9, .inl (cA, 60, .inl nb)), (htb, .inl (cA, 6000, .inl tz))] := hD.sub [0, 3, 1, 2, 4] (by decide) rfl
            rw [hQ9]
            exact endI X hr hlocks hP hD hS dX2_find_41 ⟨(nI i), rfl, (Or.inr ⟨i, by omega, rfl⟩), rfl⟩
  exact loop_3 63 0 (by omega) (by first | assumption | omega) (by omega) _ _ hP hD hS ls (lv_sub hl [1, 2, 3, 4, 0] rfl)
set_option maxHeartbeats 4000000 in
set_option maxRecDepth 100000 in
theorem c_s2_tadd (l : Launch) (D : va_G) (cA cB : ClassId) (h0 : Nat) (htb : Nat) (ln : Nat) (t0 : Int32) (t1 : Int32) (t2 : Int32) (t3 : Int32) (t4 : Int32) (t5 : Int32) (t6 : Int32) (tz : Nat → Int32) (v : Int32) (hln : ln + 4 ≤ 6000) (htz : ∀ j, j < 6000 → ∃ k : Nat, k < 256 ∧ tz j = nI k) : CV l yX7_add cX7_add 3 none 0 0 0 0 D cA cB [.ref h0, .int v] [(h0, .inr (7, [.ref htb, .int (nI ln), .int t0, .int t1, .int t2, .int t3, .int t4, .int t5, .int t6])), (htb, .inl (cA, 6000, .inl tz))] (fun W1 => ∃ (tz2 : Nat → Int32), (∀ j, j < 6000 → ∃ k : Nat, k < 256 ∧ tz2 j = nI k) ∧ W1 = [(h0, .inr (7, [.ref htb, .int (nI (ln + 4)), .int t0, .int t1, .int t2, .int t3, .int t4, .int t5, .int t6])), (htb, .inl (cA, 6000, .inl tz2))]) := by
  refine mkV (lv0 := [(0, .ref h0), (1, .int v)]) (by decide) (Nat.le_of_ble_eq_true rfl) rfl ?_
  intro p e s m below meth c A ls X hr hlocks hnm hE hA hP hD hS hl
  have hx := X.1
  have hb := X.2.1
  refine qW (fun Q9 hQ9 => ?_)
  refine lv_bipush (v := 24) hx hb dX7_add_0 (by decide) ?_
  refine lv_istore_n (lv' := [(2, .int 24), (0, .ref h0), (1, .int v)]) hx hb dX7_add_2 rfl hl (by decide) rfl (fun ls hl => ?_)
  refine lv_iload_n hx hb dX7_add_3 rfl (lv_at hl 0 rfl) ?_
  refine lv_if_lt (tgt := 49) hx hb dX7_add_4 (by decide) (fun c_4 => absurd c_4 (by decide)) (fun c_4 => ?_)
  refine lv_aload_n hx hb dX7_add_7 rfl (lv_at hl 1 rfl) ?_
  refine k_get (C := RX7) (T := TX7) (N := 9) (ci := 7) (v := .int (nI ln)) X hE hP 0 rfl rfl iX7 1 (by decide) w_353 rfl dX7_add_8 ?_
  refine lv_sipush (v := 6000) hx hb dX7_add_11 (by decide) ?_
  refine lv_icmp_ge (tgt := 49) hx hb dX7_add_14 (by decide) (fun c_14 => absurd c_14 (nI_ge (a := ln) (b := 6000) (by omega) (by decide))) (fun c_14 => ?_)
  refine lv_aload_n hx hb dX7_add_17 rfl (lv_at hl 1 rfl) ?_
  refine k_get (C := RX7) (T := TX7) (N := 9) (ci := 7) (v := .ref htb) X hE hP 0 rfl rfl iX7 0 (by decide) w_368 rfl dX7_add_18 ?_
  refine lv_aload_n hx hb dX7_add_21 rfl (lv_at hl 1 rfl) ?_
  refine k_get (C := RX7) (T := TX7) (N := 9) (ci := 7) (v := .int (nI ln)) X hE hP 0 rfl rfl iX7 1 (by decide) w_353 rfl dX7_add_22 ?_
  refine lv_iload_n hx hb dX7_add_25 rfl (lv_at hl 2 rfl) ?_
  refine lv_iload_n hx hb dX7_add_26 rfl (lv_at hl 0 rfl) ?_
  refine lv_ishr hx hb dX7_add_27 ?_
  refine lv_sipush (v := 255) hx hb dX7_add_28 (by decide) ?_
  refine lv_iand hx hb dX7_add_31 ?_
  obtain ⟨k_1, hk_1, ek_1⟩ := pk_andE (v >>> (24 &&& 31)) (m := 255) 8 (by decide)
  have hk_1 : k_1 < 256 := hk_1
  refine tk (y := nI k_1) ek_1 ?_
  refine k_ast X hE hP hD hS 1 rfl ln rfl (by omega) (by decide) [(h0, .inr (7, [.ref htb, .int (nI ln), .int t0, .int t1, .int t2, .int t3, .int t4, .int t5, .int t6])), (htb, .inl (cA, 6000, .inl (upd tz ln (nI k_1))))] rfl dX7_add_32 (fun H locs hP hD hS => ?_)
  obtain ⟨g_2, eg_2⟩ : ∃ z, z = upd tz ln (nI k_1) := ⟨_, rfl⟩
  rw [← eg_2] at hP hD
  have hg_2 := okB_upd htz ln (nI k_1) ⟨k_1, by omega, rfl⟩
  rw [← eg_2] at hg_2
  have hP : va_P D classes [(h0, .inr (7, [.ref htb, .int (nI ln), .int t0, .int t1, .int t2, .int t3, .int t4, .int t5, .int t6])), (htb, .inl (cA, 6000, .inl g_2))] H := hP
  have hD : va_D A [(h0, .inr (7, [.ref htb, .int (nI ln), .int t0, .int t1, .int t2, .int t3, .int t4, .int t5, .int t6])), (htb, .inl (cA, 6000, .inl g_2))] := hD
  refine lv_aload_n hx hb dX7_add_33 rfl (lv_at hl 1 rfl) ?_
  refine lv_dup hx hb dX7_add_34 rfl ?_
  refine k_get (C := RX7) (T := TX7) (N := 9) (ci := 7) (v := .int (nI ln)) X hE hP 0 rfl rfl iX7 1 (by decide) w_353 rfl dX7_add_35 ?_
  refine lv_iconst (v := 1) hx hb dX7_add_38 (by decide) ?_
  refine lv_iadd hx hb dX7_add_39 ?_
  refine tk (y := nI (ln + 1)) (nI_add ln 1) ?_
  refine k_put (C := RX7) (T := TX7) (N := 9) (ci := 7) (v := .int (nI (ln + 1))) (ty := .int) X hE hP hD hS 0 rfl rfl iX7 tyX7 tyX7_ok nmX7 1 (by decide) w_353 rfl (by decide +kernel) rfl rfl (Nat.le_of_ble_eq_true rfl) [(h0, .inr (7, [.ref htb, .int (nI (ln + 1)), .int t0, .int t1, .int t2, .int t3, .int t4, .int t5, .int t6])), (htb, .inl (cA, 6000, .inl g_2))] rfl dX7_add_40 (fun H locs hP hD hS => ?_)
  refine lv_iinc (v := 16) (lv' := [(2, .int 16), (0, .ref h0), (1, .int v)]) hx hb dX7_add_43 hl (k := 0) rfl (by decide) (by decide) rfl (fun ls hl => ?_)
  refine lv_goto (tgt := 3) hx hb dX7_add_46 (by decide) ?_
  refine lv_iload_n hx hb dX7_add_3 rfl (lv_at hl 0 rfl) ?_
  refine lv_if_lt (tgt := 49) hx hb dX7_add_4 (by decide) (fun c_4_3 => absurd c_4_3 (by decide)) (fun c_4_3 => ?_)
  refine lv_aload_n hx hb dX7_add_7 rfl (lv_at hl 1 rfl) ?_
  refine k_get (C := RX7) (T := TX7) (N := 9) (ci := 7) (v := .int (nI (ln + 1))) X hE hP 0 rfl rfl iX7 1 (by decide) w_353 rfl dX7_add_8 ?_
  refine lv_sipush (v := 6000) hx hb dX7_add_11 (by decide) ?_
  refine lv_icmp_ge (tgt := 49) hx hb dX7_add_14 (by decide) (fun c_14_4 => absurd c_14_4 (nI_ge (a := ln + 1) (b := 6000) (by omega) (by decide))) (fun c_14_4 => ?_)
  refine lv_aload_n hx hb dX7_add_17 rfl (lv_at hl 1 rfl) ?_
  refine k_get (C := RX7) (T := TX7) (N := 9) (ci := 7) (v := .ref htb) X hE hP 0 rfl rfl iX7 0 (by decide) w_368 rfl dX7_add_18 ?_
  refine lv_aload_n hx hb dX7_add_21 rfl (lv_at hl 1 rfl) ?_
  refine k_get (C := RX7) (T := TX7) (N := 9) (ci := 7) (v := .int (nI (ln + 1))) X hE hP 0 rfl rfl iX7 1 (by decide) w_353 rfl dX7_add_22 ?_
  refine lv_iload_n hx hb dX7_add_25 rfl (lv_at hl 2 rfl) ?_
  refine lv_iload_n hx hb dX7_add_26 rfl (lv_at hl 0 rfl) ?_
  refine lv_ishr hx hb dX7_add_27 ?_
  refine lv_sipush (v := 255) hx hb dX7_add_28 (by decide) ?_
  refine lv_iand hx hb dX7_add_31 ?_
  obtain ⟨k_5, hk_5, ek_5⟩ := pk_andE (v >>> (16 &&& 31)) (m := 255) 8 (by decide)
  have hk_5 : k_5 < 256 := hk_5
  refine tk (y := nI k_5) ek_5 ?_
  refine k_ast X hE hP hD hS 1 rfl (ln + 1) rfl (by omega) (by decide) [(h0, .inr (7, [.ref htb, .int (nI (ln + 1)), .int t0, .int t1, .int t2, .int t3, .int t4, .int t5, .int t6])), (htb, .inl (cA, 6000, .inl (upd g_2 (ln + 1) (nI k_5))))] rfl dX7_add_32 (fun H locs hP hD hS => ?_)
  obtain ⟨g_6, eg_6⟩ : ∃ z, z = upd g_2 (ln + 1) (nI k_5) := ⟨_, rfl⟩
  rw [← eg_6] at hP hD
  have hg_6 := okB_upd hg_2 (ln + 1) (nI k_5) ⟨k_5, by omega, rfl⟩
  rw [← eg_6] at hg_6
  have hP : va_P D classes [(h0, .inr (7, [.ref htb, .int (nI (ln + 1)), .int t0, .int t1, .int t2, .int t3, .int t4, .int t5, .int t6])), (htb, .inl (cA, 6000, .inl g_6))] H := hP
  have hD : va_D A [(h0, .inr (7, [.ref htb, .int (nI (ln + 1)), .int t0, .int t1, .int t2, .int t3, .int t4, .int t5, .int t6])), (htb, .inl (cA, 6000, .inl g_6))] := hD
  refine lv_aload_n hx hb dX7_add_33 rfl (lv_at hl 1 rfl) ?_
  refine lv_dup hx hb dX7_add_34 rfl ?_
  refine k_get (C := RX7) (T := TX7) (N := 9) (ci := 7) (v := .int (nI (ln + 1))) X hE hP 0 rfl rfl iX7 1 (by decide) w_353 rfl dX7_add_35 ?_
  refine lv_iconst (v := 1) hx hb dX7_add_38 (by decide) ?_
  refine lv_iadd hx hb dX7_add_39 ?_
  refine tk (y := nI (ln + 1 + 1)) (nI_add (ln + 1) 1) ?_
  refine k_put (C := RX7) (T := TX7) (N := 9) (ci := 7) (v := .int (nI (ln + 1 + 1))) (ty := .int) X hE hP hD hS 0 rfl rfl iX7 tyX7 tyX7_ok nmX7 1 (by decide) w_353 rfl (by decide +kernel) rfl rfl (Nat.le_of_ble_eq_true rfl) [(h0, .inr (7, [.ref htb, .int (nI (ln + 1 + 1)), .int t0, .int t1, .int t2, .int t3, .int t4, .int t5, .int t6])), (htb, .inl (cA, 6000, .inl g_6))] rfl dX7_add_40 (fun H locs hP hD hS => ?_)
  refine lv_iinc (v := 8) (lv' := [(2, .int 8), (0, .ref h0), (1, .int v)]) hx hb dX7_add_43 hl (k := 0) rfl (by decide) (by decide) rfl (fun ls hl => ?_)
  refine lv_goto (tgt := 3) hx hb dX7_add_46 (by decide) ?_
  refine lv_iload_n hx hb dX7_add_3 rfl (lv_at hl 0 rfl) ?_
  refine lv_if_lt (tgt := 49) hx hb dX7_add_4 (by decide) (fun c_4_7 => absurd c_4_7 (by decide)) (fun c_4_7 => ?_)
  refine lv_aload_n hx hb dX7_add_7 rfl (lv_at hl 1 rfl) ?_
  refine k_get (C := RX7) (T := TX7) (N := 9) (ci := 7) (v := .int (nI (ln + 1 + 1))) X hE hP 0 rfl rfl iX7 1 (by decide) w_353 rfl dX7_add_8 ?_
  refine lv_sipush (v := 6000) hx hb dX7_add_11 (by decide) ?_
  refine lv_icmp_ge (tgt := 49) hx hb dX7_add_14 (by decide) (fun c_14_8 => absurd c_14_8 (nI_ge (a := ln + 1 + 1) (b := 6000) (by omega) (by decide))) (fun c_14_8 => ?_)
  refine lv_aload_n hx hb dX7_add_17 rfl (lv_at hl 1 rfl) ?_
  refine k_get (C := RX7) (T := TX7) (N := 9) (ci := 7) (v := .ref htb) X hE hP 0 rfl rfl iX7 0 (by decide) w_368 rfl dX7_add_18 ?_
  refine lv_aload_n hx hb dX7_add_21 rfl (lv_at hl 1 rfl) ?_
  refine k_get (C := RX7) (T := TX7) (N := 9) (ci := 7) (v := .int (nI (ln + 1 + 1))) X hE hP 0 rfl rfl iX7 1 (by decide) w_353 rfl dX7_add_22 ?_
  refine lv_iload_n hx hb dX7_add_25 rfl (lv_at hl 2 rfl) ?_
  refine lv_iload_n hx hb dX7_add_26 rfl (lv_at hl 0 rfl) ?_
  refine lv_ishr hx hb dX7_add_27 ?_
  refine lv_sipush (v := 255) hx hb dX7_add_28 (by decide) ?_
  refine lv_iand hx hb dX7_add_31 ?_
  obtain ⟨k_9, hk_9, ek_9⟩ := pk_andE (v >>> (8 &&& 31)) (m := 255) 8 (by decide)
  have hk_9 : k_9 < 256 := hk_9
  refine tk (y := nI k_9) ek_9 ?_
  refine k_ast X hE hP hD hS 1 rfl (ln + 1 + 1) rfl (by omega) (by decide) [(h0, .inr (7, [.ref htb, .int (nI (ln + 1 + 1)), .int t0, .int t1, .int t2, .int t3, .int t4, .int t5, .int t6])), (htb, .inl (cA, 6000, .inl (upd g_6 (ln + 1 + 1) (nI k_9))))] rfl dX7_add_32 (fun H locs hP hD hS => ?_)
  obtain ⟨g_10, eg_10⟩ : ∃ z, z = upd g_6 (ln + 1 + 1) (nI k_9) := ⟨_, rfl⟩
  rw [← eg_10] at hP hD
  have hg_10 := okB_upd hg_6 (ln + 1 + 1) (nI k_9) ⟨k_9, by omega, rfl⟩
  rw [← eg_10] at hg_10
  have hP : va_P D classes [(h0, .inr (7, [.ref htb, .int (nI (ln + 1 + 1)), .int t0, .int t1, .int t2, .int t3, .int t4, .int t5, .int t6])), (htb, .inl (cA, 6000, .inl g_10))] H := hP
  have hD : va_D A [(h0, .inr (7, [.ref htb, .int (nI (ln + 1 + 1)), .int t0, .int t1, .int t2, .int t3, .int t4, .int t5, .int t6])), (htb, .inl (cA, 6000, .inl g_10))] := hD
  refine lv_aload_n hx hb dX7_add_33 rfl (lv_at hl 1 rfl) ?_
  refine lv_dup hx hb dX7_add_34 rfl ?_
  refine k_get (C := RX7) (T := TX7) (N := 9) (ci := 7) (v := .int (nI (ln + 1 + 1))) X hE hP 0 rfl rfl iX7 1 (by decide) w_353 rfl dX7_add_35 ?_
  refine lv_iconst (v := 1) hx hb dX7_add_38 (by decide) ?_
  refine lv_iadd hx hb dX7_add_39 ?_
  refine tk (y := nI (ln + 1 + 1 + 1)) (nI_add (ln + 1 + 1) 1) ?_
  refine k_put (C := RX7) (T := TX7) (N := 9) (ci := 7) (v := .int (nI (ln + 1 + 1 + 1))) (ty := .int) X hE hP hD hS 0 rfl rfl iX7 tyX7 tyX7_ok nmX7 1 (by decide) w_353 rfl (by decide +kernel) rfl rfl (Nat.le_of_ble_eq_true rfl) [(h0, .inr (7, [.ref htb, .int (nI (ln + 1 + 1 + 1)), .int t0, .int t1, .int t2, .int t3, .int t4, .int t5, .int t6])), (htb, .inl (cA, 6000, .inl g_10))] rfl dX7_add_40 (fun H locs hP hD hS => ?_)
  refine lv_iinc (v := 0) (lv' := [(2, .int 0), (0, .ref h0), (1, .int v)]) hx hb dX7_add_43 hl (k := 0) rfl (by decide) (by decide) rfl (fun ls hl => ?_)
  refine lv_goto (tgt := 3) hx hb dX7_add_46 (by decide) ?_
  refine lv_iload_n hx hb dX7_add_3 rfl (lv_at hl 0 rfl) ?_
  refine lv_if_lt (tgt := 49) hx hb dX7_add_4 (by decide) (fun c_4_11 => absurd c_4_11 (by decide)) (fun c_4_11 => ?_)
  refine lv_aload_n hx hb dX7_add_7 rfl (lv_at hl 1 rfl) ?_
  refine k_get (C := RX7) (T := TX7) (N := 9) (ci := 7) (v := .int (nI (ln + 1 + 1 + 1))) X hE hP 0 rfl rfl iX7 1 (by decide) w_353 rfl dX7_add_8 ?_
  refine lv_sipush (v := 6000) hx hb dX7_add_11 (by decide) ?_
  refine lv_icmp_ge (tgt := 49) hx hb dX7_add_14 (by decide) (fun c_14_12 => absurd c_14_12 (nI_ge (a := ln + 1 + 1 + 1) (b := 6000) (by omega) (by decide))) (fun c_14_12 => ?_)
  refine lv_aload_n hx hb dX7_add_17 rfl (lv_at hl 1 rfl) ?_
  refine k_get (C := RX7) (T := TX7) (N := 9) (ci := 7) (v := .ref htb) X hE hP 0 rfl rfl iX7 0 (by decide) w_368 rfl dX7_add_18 ?_
  refine lv_aload_n hx hb dX7_add_21 rfl (lv_at hl 1 rfl) ?_
  refine k_get (C := RX7) (T := TX7) (N := 9) (ci := 7) (v := .int (nI (ln + 1 + 1 + 1))) X hE hP 0 rfl rfl iX7 1 (by decide) w_353 rfl dX7_add_22 ?_
  refine lv_iload_n hx hb dX7_add_25 rfl (lv_at hl 2 rfl) ?_
  refine lv_iload_n hx hb dX7_add_26 rfl (lv_at hl 0 rfl) ?_
  refine lv_ishr hx hb dX7_add_27 ?_
  refine lv_sipush (v := 255) hx hb dX7_add_28 (by decide) ?_
  refine lv_iand hx hb dX7_add_31 ?_
  obtain ⟨k_13, hk_13, ek_13⟩ := pk_andE (v >>> (0 &&& 31)) (m := 255) 8 (by decide)
  have hk_13 : k_13 < 256 := hk_13
  refine tk (y := nI k_13) ek_13 ?_
  refine k_ast X hE hP hD hS 1 rfl (ln + 1 + 1 + 1) rfl (by omega) (by decide) [(h0, .inr (7, [.ref htb, .int (nI (ln + 1 + 1 + 1)), .int t0, .int t1, .int t2, .int t3, .int t4, .int t5, .int t6])), (htb, .inl (cA, 6000, .inl (upd g_10 (ln + 1 + 1 + 1) (nI k_13))))] rfl dX7_add_32 (fun H locs hP hD hS => ?_)
  obtain ⟨g_14, eg_14⟩ : ∃ z, z = upd g_10 (ln + 1 + 1 + 1) (nI k_13) := ⟨_, rfl⟩
  rw [← eg_14] at hP hD
  have hg_14 := okB_upd hg_10 (ln + 1 + 1 + 1) (nI k_13) ⟨k_13, by omega, rfl⟩
  rw [← eg_14] at hg_14
  have hP : va_P D classes [(h0, .inr (7, [.ref htb, .int (nI (ln + 1 + 1 + 1)), .int t0, .int t1, .int t2, .int t3, .int t4, .int t5, .int t6])), (htb, .inl (cA, 6000, .inl g_14))] H := hP
  have hD : va_D A [(h0, .inr (7, [.ref htb, .int (nI (ln + 1 + 1 + 1)), .int t0, .int t1, .int t2, .int t3, .int t4, .int t5, .int t6])), (htb, .inl (cA, 6000, .inl g_14))] := hD
  refine lv_aload_n hx hb dX7_add_33 rfl (lv_at hl 1 rfl) ?_
  refine lv_dup hx hb dX7_add_34 rfl ?_
  refine k_get (C := RX7) (T := TX7) (N := 9) (ci := 7) (v := .int (nI (ln + 1 + 1 + 1))) X hE hP 0 rfl rfl iX7 1 (by decide) w_353 rfl dX7_add_35 ?_
  refine lv_iconst (v := 1) hx hb dX7_add_38 (by decide) ?_
  refine lv_iadd hx hb dX7_add_39 ?_
  refine tk (y := nI (ln + 1 + 1 + 1 + 1)) (nI_add (ln + 1 + 1 + 1) 1) ?_
  refine k_put (C := RX7) (T := TX7) (N := 9) (ci := 7) (v := .int (nI (ln + 1 + 1 + 1 + 1))) (ty := .int) X hE hP hD hS 0 rfl rfl iX7 tyX7 tyX7_ok nmX7 1 (by decide) w_353 rfl (by decide +kernel) rfl rfl (Nat.le_of_ble_eq_true rfl) [(h0, .inr (7, [.ref htb, .int (nI (ln + 1 + 1 + 1 + 1)), .int t0, .int t1, .int t2, .int t3, .int t4, .int t5, .int t6])), (htb, .inl (cA, 6000, .inl g_14))] rfl dX7_add_40 (fun H locs hP hD hS => ?_)
  refine lv_iinc (v := (-8)) (lv' := [(2, .int (-8)), (0, .ref h0), (1, .int v)]) hx hb dX7_add_43 hl (k := 0) rfl (by decide) (by decide) rfl (fun ls hl => ?_)
  refine lv_goto (tgt := 3) hx hb dX7_add_46 (by decide) ?_
  refine lv_iload_n hx hb dX7_add_3 rfl (lv_at hl 0 rfl) ?_
  refine lv_if_lt (tgt := 49) hx hb dX7_add_4 (by decide) (fun c_4_15 => ?_) (fun c_4_15 => absurd (by decide) c_4_15)
  rw [hQ9]
  exact endV X hr hlocks hP hD hS dX7_add_49 ⟨g_14, hg_14, rfl⟩
set_option maxHeartbeats 4000000 in
set_option maxRecDepth 100000 in
theorem c_s2_feed (l : Launch) (D : va_G) (cA cB : ClassId) (h0 : Nat) (hn : Nat) (hs : Nat) (hd : Nat) (hp : Nat) (qr : Nat) (qst : Nat) (qa : Nat) (qm : Nat) (qe : Nat) (htb : Nat) (ln : Nat) (t0 : Int32) (t1 : Int32) (t2 : Int32) (t3 : Int32) (t4 : Int32) (t5 : Int32) (t6 : Int32) (tz : Nat → Int32) (v1 : Int32) (v2 : Int32) (v3 : Int32) (v4 : Int32) (v5 : Int32) (hln : ln < 6001) (htz : ∀ j, j < 6000 → ∃ k : Nat, k < 256 ∧ tz j = nI k) : CI l yX8_feed cX8_feed 6 (some .int) 1 22 0 0 D cA cB [.ref h0, .int v1, .int v2, .int v3, .int v4, .int v5] [(h0, .inr (8, [.ref hn, .ref hs, .ref hd, .ref hp, .ref qr, .ref qst, .ref qa, .ref qm, .ref qe])), (qa, .inr (7, [.ref htb, .int (nI ln), .int t0, .int t1, .int t2, .int t3, .int t4, .int t5, .int t6])), (htb, .inl (cA, 6000, .inl tz))] (fun r W1 => ∃ (tz2 : Nat → Int32) (ln2 : Nat) (rv : Int32), r = rv ∧ (ln2 < 6001) ∧ (∀ j, j < 6000 → ∃ k : Nat, k < 256 ∧ tz2 j = nI k) ∧ ((ln + 20 ≤ 6000 ∧ rv = nI (ln + 20) ∧ ln2 = ln + 20) ∨ (6000 < ln + 20 ∧ rv = -1 ∧ ln2 = ln)) ∧ W1 = [(h0, .inr (8, [.ref hn, .ref hs, .ref hd, .ref hp, .ref qr, .ref qst, .ref qa, .ref qm, .ref qe])), (qa, .inr (7, [.ref htb, .int (nI ln2), .int t0, .int t1, .int t2, .int t3, .int t4, .int t5, .int t6])), (htb, .inl (cA, 6000, .inl tz2))]) := by
  refine mkI (lv0 := [(0, .ref h0), (1, .int v1), (2, .int v2), (3, .int v3), (4, .int v4), (5, .int v5)]) (by decide) (Nat.le_of_ble_eq_true rfl) rfl ?_
  intro p e s m below meth c A ls X hr hlocks hnm hE hA hP hD hS hl
  have hx := X.1
  have hb := X.2.1
  refine qW (fun Q9 hQ9 => ?_)
  refine lv_aload_n hx hb dX8_feed_0 rfl (lv_at hl 0 rfl) ?_
  refine k_get (C := RX8) (T := TX8) (N := 9) (ci := 8) (v := .ref qa) X hE hP 0 rfl rfl iX8 6 (by decide) w_354 rfl dX8_feed_1 ?_
  refine lv_bipush (v := 20) hx hb dX8_feed_4 (by decide) ?_
  refine kVi (n3 := 1) (As := [.int 20]) (rest := []) X hl.1 hE hP hD hS hA [(qa, .inr (7, [.ref htb, .int (nI ln), .int t0, .int t1, .int t2, .int t3, .int t4, .int t5, .int t6]))] [(h0, .inr (8, [.ref hn, .ref hs, .ref hd, .ref hp, .ref qr, .ref qst, .ref qa, .ref qm, .ref qe])), (htb, .inl (cA, 6000, .inl tz))] [1] [0, 2] rfl rfl rfl (by decide +kernel) (by decide +kernel) (by decide +kernel) (c_s_hasRoom l D cA cB qa htb ln t0 t1 t2 t3 t4 t5 t6 (by first | assumption | omega | decide | rfl)) w_464 w_374 w_463 w_465 w_466 0 (ci := 7) (T := TX7) (N := 9) rfl rfl (by decide +kernel) rfl rfl (Nat.le_of_ble_eq_true rfl) ⟨(Nat.le_of_ble_eq_true rfl), (Nat.le_of_ble_eq_true rfl)⟩ ⟨(Nat.le_of_ble_eq_true rfl), (Nat.le_of_ble_eq_true rfl)⟩ dX8_feed_6 (fun r W1 H locs hw hP hD hS => ?_)
  obtain ⟨rk_1, rfl, hf_2, rfl⟩ := hw
  have hP : va_P D classes [(h0, .inr (8, [.ref hn, .ref hs, .ref hd, .ref hp, .ref qr, .ref qst, .ref qa, .ref qm, .ref qe])), (htb, .inl (cA, 6000, .inl tz)), (qa, .inr (7, [.ref htb, .int (nI ln), .int t0, .int t1, .int t2, .int t3, .int t4, .int t5, .int t6]))] H := hP
  have hD : va_D A [(h0, .inr (8, [.ref hn, .ref hs, .ref hd, .ref hp, .ref qr, .ref qst, .ref qa, .ref qm, .ref qe])), (htb, .inl (cA, 6000, .inl tz)), (qa, .inr (7, [.ref htb, .int (nI ln), .int t0, .int t1, .int t2, .int t3, .int t4, .int t5, .int t6]))] := hD
  refine lv_if_ne (tgt := 14) hx hb dX8_feed_9 (by decide) (fun c_9_3 => ?_) (fun c_9_3 => ?_)
  · have nc_9_3 : ¬ rk_1 = 0 := fun q => c_9_3 ((nI_eq (a := rk_1) (b := 0) (by omega) (by omega)).mpr q)
    refine lv_aload_n hx hb dX8_feed_14 rfl (lv_at hl 0 rfl) ?_
    refine k_get (C := RX8) (T := TX8) (N := 9) (ci := 8) (v := .ref qa) X hE hP 0 rfl rfl iX8 6 (by decide) w_354 rfl dX8_feed_15 ?_
    refine lv_iload_n hx hb dX8_feed_18 rfl (lv_at hl 1 rfl) ?_
    refine kVv (n3 := 1) (As := [.int v1]) (rest := []) X hl.1 hE hP hD hS hA [(qa, .inr (7, [.ref htb, .int (nI ln), .int t0, .int t1, .int t2, .int t3, .int t4, .int t5, .int t6])), (htb, .inl (cA, 6000, .inl tz))] [(h0, .inr (8, [.ref hn, .ref hs, .ref hd, .ref hp, .ref qr, .ref qst, .ref qa, .ref qm, .ref qe]))] [2, 1] [0] rfl rfl rfl (by decide +kernel) (by decide +kernel) (by decide +kernel) (c_s2_tadd l D cA cB qa htb ln t0 t1 t2 t3 t4 t5 t6 tz v1 (by omega) htz) w_468 w_374 w_467 w_469 w_470 0 (ci := 7) (T := TX7) (N := 9) rfl rfl (by decide +kernel) rfl rfl (Nat.le_of_ble_eq_true rfl) ⟨(Nat.le_of_ble_eq_true rfl), (Nat.le_of_ble_eq_true rfl)⟩ ⟨(Nat.le_of_ble_eq_true rfl), (Nat.le_of_ble_eq_true rfl)⟩ dX8_feed_19 (fun W1 H locs hw hP hD hS => ?_)
    obtain ⟨tz2_4, hf_5, rfl⟩ := hw
    have hP : va_P D classes [(h0, .inr (8, [.ref hn, .ref hs, .ref hd, .ref hp, .ref qr, .ref qst, .ref qa, .ref qm, .ref qe])), (qa, .inr (7, [.ref htb, .int (nI (ln + 4)), .int t0, .int t1, .int t2, .int t3, .int t4, .int t5, .int t6])), (htb, .inl (cA, 6000, .inl tz2_4))] H := hP
    have hD : va_D A [(h0, .inr (8, [.ref hn, .ref hs, .ref hd, .ref hp, .ref qr, .ref qst, .ref qa, .ref qm, .ref qe])), (qa, .inr (7, [.ref htb, .int (nI (ln + 4)), .int t0, .int t1, .int t2, .int t3, .int t4, .int t5, .int t6])), (htb, .inl (cA, 6000, .inl tz2_4))] := hD
    refine lv_aload_n hx hb dX8_feed_22 rfl (lv_at hl 0 rfl) ?_
    refine k_get (C := RX8) (T := TX8) (N := 9) (ci := 8) (v := .ref qa) X hE hP 0 rfl rfl iX8 6 (by decide) w_354 rfl dX8_feed_23 ?_
    refine lv_iload_n hx hb dX8_feed_26 rfl (lv_at hl 2 rfl) ?_
    refine kVv (n3 := 1) (As := [.int v2]) (rest := []) X hl.1 hE hP hD hS hA [(qa, .inr (7, [.ref htb, .int (nI (ln + 4)), .int t0, .int t1, .int t2, .int t3, .int t4, .int t5, .int t6])), (htb, .inl (cA, 6000, .inl tz2_4))] [(h0, .inr (8, [.ref hn, .ref hs, .ref hd, .ref hp, .ref qr, .ref qst, .ref qa, .ref qm, .ref qe]))] [1, 2] [0] rfl rfl rfl (by decide +kernel) (by decide +kernel) (by decide +kernel) (c_s2_tadd l D cA cB qa htb (ln + 4) t0 t1 t2 t3 t4 t5 t6 tz2_4 v2 (by omega) hf_5) w_468 w_374 w_467 w_469 w_470 0 (ci := 7) (T := TX7) (N := 9) rfl rfl (by decide +kernel) rfl rfl (Nat.le_of_ble_eq_true rfl) ⟨(Nat.le_of_ble_eq_true rfl), (Nat.le_of_ble_eq_true rfl)⟩ ⟨(Nat.le_of_ble_eq_true rfl), (Nat.le_of_ble_eq_true rfl)⟩ dX8_feed_27 (fun W1 H locs hw hP hD hS => ?_)
    obtain ⟨tz2_6, hf_7, rfl⟩ := hw
    have hP : va_P D classes [(h0, .inr (8, [.ref hn, .ref hs, .ref hd, .ref hp, .ref qr, .ref qst, .ref qa, .ref qm, .ref qe])), (qa, .inr (7, [.ref htb, .int (nI ((ln + 4) + 4)), .int t0, .int t1, .int t2, .int t3, .int t4, .int t5, .int t6])), (htb, .inl (cA, 6000, .inl tz2_6))] H := hP
    have hD : va_D A [(h0, .inr (8, [.ref hn, .ref hs, .ref hd, .ref hp, .ref qr, .ref qst, .ref qa, .ref qm, .ref qe])), (qa, .inr (7, [.ref htb, .int (nI ((ln + 4) + 4)), .int t0, .int t1, .int t2, .int t3, .int t4, .int t5, .int t6])), (htb, .inl (cA, 6000, .inl tz2_6))] := hD
    refine lv_aload_n hx hb dX8_feed_30 rfl (lv_at hl 0 rfl) ?_
    refine k_get (C := RX8) (T := TX8) (N := 9) (ci := 8) (v := .ref qa) X hE hP 0 rfl rfl iX8 6 (by decide) w_354 rfl dX8_feed_31 ?_
    refine lv_iload_n hx hb dX8_feed_34 rfl (lv_at hl 3 rfl) ?_
    refine kVv (n3 := 1) (As := [.int v3]) (rest := []) X hl.1 hE hP hD hS hA [(qa, .inr (7, [.ref htb, .int (nI ((ln + 4) + 4)), .int t0, .int t1, .int t2, .int t3, .int t4, .int t5, .int t6])), (htb, .inl (cA, 6000, .inl tz2_6))] [(h0, .inr (8, [.ref hn, .ref hs, .ref hd, .ref hp, .ref qr, .ref qst, .ref qa, .ref qm, .ref qe]))] [1, 2] [0] rfl rfl rfl (by decide +kernel) (by decide +kernel) (by decide +kernel) (c_s2_tadd l D cA cB qa htb ((ln + 4) + 4) t0 t1 t2 t3 t4 t5 t6 tz2_6 v3 (by omega) hf_7) w_468 w_374 w_467 w_469 w_470 0 (ci := 7) (T := TX7) (N := 9) rfl rfl (by decide +kernel) rfl rfl (Nat.le_of_ble_eq_true rfl) ⟨(Nat.le_of_ble_eq_true rfl), (Nat.le_of_ble_eq_true rfl)⟩ ⟨(Nat.le_of_ble_eq_true rfl), (Nat.le_of_ble_eq_true rfl)⟩ dX8_feed_35 (fun W1 H locs hw hP hD hS => ?_)
    obtain ⟨tz2_8, hf_9, rfl⟩ := hw
    have hP : va_P D classes [(h0, .inr (8, [.ref hn, .ref hs, .ref hd, .ref hp, .ref qr, .ref qst, .ref qa, .ref qm, .ref qe])), (qa, .inr (7, [.ref htb, .int (nI (((ln + 4) + 4) + 4)), .int t0, .int t1, .int t2, .int t3, .int t4, .int t5, .int t6])), (htb, .inl (cA, 6000, .inl tz2_8))] H := hP
    have hD : va_D A [(h0, .inr (8, [.ref hn, .ref hs, .ref hd, .ref hp, .ref qr, .ref qst, .ref qa, .ref qm, .ref qe])), (qa, .inr (7, [.ref htb, .int (nI (((ln + 4) + 4) + 4)), .int t0, .int t1, .int t2, .int t3, .int t4, .int t5, .int t6])), (htb, .inl (cA, 6000, .inl tz2_8))] := hD
    refine lv_aload_n hx hb dX8_feed_38 rfl (lv_at hl 0 rfl) ?_
    refine k_get (C := RX8) (T := TX8) (N := 9) (ci := 8) (v := .ref qa) X hE hP 0 rfl rfl iX8 6 (by decide) w_354 rfl dX8_feed_39 ?_
    refine lv_iload hx hb dX8_feed_42 (lv_at hl 4 rfl) ?_
    refine kVv (n3 := 1) (As := [.int v4]) (rest := []) X hl.1 hE hP hD hS hA [(qa, .inr (7, [.ref htb, .int (nI (((ln + 4) + 4) + 4)), .int t0, .int t1, .int t2, .int t3, .int t4, .int t5, .int t6])), (htb, .inl (cA, 6000, .inl tz2_8))] [(h0, .inr (8, [.ref hn, .ref hs, .ref hd, .ref hp, .ref qr, .ref qst, .ref qa, .ref qm, .ref qe]))] [1, 2] [0] rfl rfl rfl (by decide +kernel) (by decide +kernel) (by decide +kernel) (c_s2_tadd l D cA cB qa htb (((ln + 4) + 4) + 4) t0 t1 t2 t3 t4 t5 t6 tz2_8 v4 (by omega) hf_9) w_468 w_374 w_467 w_469 w_470 0 (ci := 7) (T := TX7) (N := 9) rfl rfl (by decide +kernel) rfl rfl (Nat.le_of_ble_eq_true rfl) ⟨(Nat.le_of_ble_eq_true rfl), (Nat.le_of_ble_eq_true rfl)⟩ ⟨(Nat.le_of_ble_eq_true rfl), (Nat.le_of_ble_eq_true rfl)⟩ dX8_feed_44 (fun W1 H locs hw hP hD hS => ?_)
    obtain ⟨tz2_10, hf_11, rfl⟩ := hw
    have hP : va_P D classes [(h0, .inr (8, [.ref hn, .ref hs, .ref hd, .ref hp, .ref qr, .ref qst, .ref qa, .ref qm, .ref qe])), (qa, .inr (7, [.ref htb, .int (nI ((((ln + 4) + 4) + 4) + 4)), .int t0, .int t1, .int t2, .int t3, .int t4, .int t5, .int t6])), (htb, .inl (cA, 6000, .inl tz2_10))] H := hP
    have hD : va_D A [(h0, .inr (8, [.ref hn, .ref hs, .ref hd, .ref hp, .ref qr, .ref qst, .ref qa, .ref qm, .ref qe])), (qa, .inr (7, [.ref htb, .int (nI ((((ln + 4) + 4) + 4) + 4)), .int t0, .int t1, .int t2, .int t3, .int t4, .int t5, .int t6])), (htb, .inl (cA, 6000, .inl tz2_10))] := hD
    refine lv_aload_n hx hb dX8_feed_47 rfl (lv_at hl 0 rfl) ?_
    refine k_get (C := RX8) (T := TX8) (N := 9) (ci := 8) (v := .ref qa) X hE hP 0 rfl rfl iX8 6 (by decide) w_354 rfl dX8_feed_48 ?_
    refine lv_iload hx hb dX8_feed_51 (lv_at hl 5 rfl) ?_
    refine kVv (n3 := 1) (As := [.int v5]) (rest := []) X hl.1 hE hP hD hS hA [(qa, .inr (7, [.ref htb, .int (nI ((((ln + 4) + 4) + 4) + 4)), .int t0, .int t1, .int t2, .int t3, .int t4, .int t5, .int t6])), (htb, .inl (cA, 6000, .inl tz2_10))] [(h0, .inr (8, [.ref hn, .ref hs, .ref hd, .ref hp, .ref qr, .ref qst, .ref qa, .ref qm, .ref qe]))] [1, 2] [0] rfl rfl rfl (by decide +kernel) (by decide +kernel) (by decide +kernel) (c_s2_tadd l D cA cB qa htb ((((ln + 4) + 4) + 4) + 4) t0 t1 t2 t3 t4 t5 t6 tz2_10 v5 (by omega) hf_11) w_468 w_374 w_467 w_469 w_470 0 (ci := 7) (T := TX7) (N := 9) rfl rfl (by decide +kernel) rfl rfl (Nat.le_of_ble_eq_true rfl) ⟨(Nat.le_of_ble_eq_true rfl), (Nat.le_of_ble_eq_true rfl)⟩ ⟨(Nat.le_of_ble_eq_true rfl), (Nat.le_of_ble_eq_true rfl)⟩ dX8_feed_53 (fun W1 H locs hw hP hD hS => ?_)
    obtain ⟨tz2_12, hf_13, rfl⟩ := hw
    have hP : va_P D classes [(h0, .inr (8, [.ref hn, .ref hs, .ref hd, .ref hp, .ref qr, .ref qst, .ref qa, .ref qm, .ref qe])), (qa, .inr (7, [.ref htb, .int (nI (((((ln + 4) + 4) + 4) + 4) + 4)), .int t0, .int t1, .int t2, .int t3, .int t4, .int t5, .int t6])), (htb, .inl (cA, 6000, .inl tz2_12))] H := hP
    have hD : va_D A [(h0, .inr (8, [.ref hn, .ref hs, .ref hd, .ref hp, .ref qr, .ref qst, .ref qa, .ref qm, .ref qe])), (qa, .inr (7, [.ref htb, .int (nI (((((ln + 4) + 4) + 4) + 4) + 4)), .int t0, .int t1, .int t2, .int t3, .int t4, .int t5, .int t6])), (htb, .inl (cA, 6000, .inl tz2_12))] := hD
    refine lv_aload_n hx hb dX8_feed_56 rfl (lv_at hl 0 rfl) ?_
    refine k_get (C := RX8) (T := TX8) (N := 9) (ci := 8) (v := .ref qa) X hE hP 0 rfl rfl iX8 6 (by decide) w_354 rfl dX8_feed_57 ?_
    refine k_getN (C := RX7) (T := TX7) (N := 9) (ci := 7) (v := .int (nI (((((ln + 4) + 4) + 4) + 4) + 4))) X hE hP 1 rfl rfl iX7 1 (by decide) nw_12 rfl dX8_feed_60 ?_
    rw [hQ9]
    exact endI X hr hlocks hP hD hS dX8_feed_63 ⟨tz2_12, (((((ln + 4) + 4) + 4) + 4) + 4), (nI (((((ln + 4) + 4) + 4) + 4) + 4)), rfl, (by omega), hf_13, (Or.inl ⟨by omega, rfl, rfl⟩), rfl⟩
  · have nc_9_3 : rk_1 = 0 := (nI_eq (a := rk_1) (b := 0) (by omega) (by omega)).mp c_9_3
    refine lv_iconst (v := (-1)) hx hb dX8_feed_12 (by decide) ?_
    have hP : va_P D classes [(h0, .inr (8, [.ref hn, .ref hs, .ref hd, .ref hp, .ref qr, .ref qst, .ref qa, .ref qm, .ref qe])), (qa, .inr (7, [.ref htb, .int (nI ln), .int t0, .int t1, .int t2, .int t3, .int t4, .int t5, .int t6])), (htb, .inl (cA, 6000, .inl tz))] _ := hP.sub [0, 2, 1] rfl
    have hD : va_D A [(h0, .inr (8, [.ref hn, .ref hs, .ref hd, .ref hp, .ref qr, .ref qst, .ref qa, .ref qm, .ref qe])), (qa, .inr (7, [.ref htb, .int (nI ln), .int t0, .int t1, .int t2, .int t3, .int t4, .int t5, .int t6])), (htb, .inl (cA, 6000, .inl tz))] := hD.sub [0, 2, 1] (by decide) rfl
    rw [hQ9]
    exact endI X hr hlocks hP hD hS dX8_feed_13 ⟨tz, ln, (-1), rfl, (by omega), htz, (Or.inr ⟨by omega, rfl, rfl⟩), rfl⟩
