abbrev cX8_isAddress : ByteArray := prog_1_method_23_code
def yX8_isAddress : MethodName := ⟨RX8, "isAddress", "(I)Z"⟩
abbrev cX8_isByte : ByteArray := prog_1_method_24_code
def yX8_isByte : MethodName := ⟨RX8, "isByte", "(I)Z"⟩
abbrev cX8_peek : ByteArray := prog_1_method_8_code
def yX8_peek : MethodName := ⟨RX8, "peek", "(I)I"⟩
abbrev cX8_restart : ByteArray := prog_1_method_7_code
def yX8_restart : MethodName := ⟨RX8, "restart", "()V"⟩
abbrev cX8_run : ByteArray := prog_1_method_13_code
def yX8_run : MethodName := ⟨RX8, "run", "(I)I"⟩
abbrev cX8_register : ByteArray := prog_1_method_15_code
def yX8_register : MethodName := ⟨RX8, "register", "(I)I"⟩
abbrev cX8_codes : ByteArray := prog_1_method_18_code
def yX8_codes : MethodName := ⟨RX8, "codes", "(I)I"⟩
set_option maxRecDepth 100000 in
theorem w_310 : (Cond.methodLink "BelfryBox" 115 yX8_isAddress : Cond) ∈ gw := List.mem_filter.mpr ⟨List.mem_append_right _ (tb3 (List.mem_of_getElem? (i := 129) rfl)), rfl⟩
set_option maxRecDepth 100000 in
theorem w_311 : (Cond.code yX8_isAddress prog_1_method_23_code 1 (Option.some Jvm.ClassFile.FieldType.boolean) : Cond) ∈ gw := List.mem_filter.mpr ⟨List.mem_append_right _ (tb3 (List.mem_of_getElem? (i := 131) rfl)), rfl⟩
set_option maxRecDepth 100000 in
theorem w_312 : (Cond.static yX8_isAddress : Cond) ∈ gw := List.mem_filter.mpr ⟨List.mem_append_right _ (tb3 (List.mem_of_getElem? (i := 130) rfl)), rfl⟩
set_option maxRecDepth 100000 in
theorem w_313 : (Cond.fieldLink "BelfryBox" 13 "BelfryBox" "store" "[I" : Cond) ∈ gw := List.mem_filter.mpr ⟨List.mem_append_right _ (tb2 (List.mem_of_getElem? (i := 47) rfl)), rfl⟩
set_option maxRecDepth 100000 in
theorem w_314 : (Cond.fieldLink "BelfryBox" 37 "BelfryBox" "processor" "LBelfryBox$Processor;" : Cond) ∈ gw := List.mem_filter.mpr ⟨List.mem_append_right _ (tb2 (List.mem_of_getElem? (i := 50) rfl)), rfl⟩
set_option maxRecDepth 100000 in
theorem w_315 : (Cond.methodLink "BelfryBox" 71 yX4_beginAnew : Cond) ∈ gw := List.mem_filter.mpr ⟨List.mem_append_right _ (tb2 (List.mem_of_getElem? (i := 23) rfl)), rfl⟩
set_option maxRecDepth 100000 in
theorem w_316 : (Cond.code yX4_beginAnew prog_6_method_2_code 1 (Option.none : Option Jvm.ClassFile.FieldType) : Cond) ∈ gw := List.mem_filter.mpr ⟨List.mem_append_right _ (tb2 (List.mem_of_getElem? (i := 26) rfl)), rfl⟩
set_option maxRecDepth 100000 in
theorem w_317 : (Cond.instanceMethod yX4_beginAnew : Cond) ∈ gw := List.mem_filter.mpr ⟨List.mem_append_right _ (tb2 (List.mem_of_getElem? (i := 24) rfl)), rfl⟩
set_option maxRecDepth 100000 in
theorem w_318 : (Cond.selects "BelfryBox$Processor" yX4_beginAnew yX4_beginAnew : Cond) ∈ gw := List.mem_filter.mpr ⟨List.mem_append_right _ (tb2 (List.mem_of_getElem? (i := 25) rfl)), rfl⟩
set_option maxRecDepth 100000 in
theorem w_319 : (Cond.fieldLink "BelfryBox" 44 "BelfryBox" "stops" "LBelfryBox$Stops;" : Cond) ∈ gw := List.mem_filter.mpr ⟨List.mem_append_right _ (tb2 (List.mem_of_getElem? (i := 51) rfl)), rfl⟩
set_option maxRecDepth 100000 in
theorem w_320 : (Cond.methodLink "BelfryBox" 137 yX4_doSteps : Cond) ∈ gw := List.mem_filter.mpr ⟨List.mem_append_right _ (tb3 (List.mem_of_getElem? (i := 172) rfl)), rfl⟩
set_option maxRecDepth 100000 in
theorem w_321 : (Cond.code yX4_doSteps prog_6_method_5_code 4 (Option.some Jvm.ClassFile.FieldType.int) : Cond) ∈ gw := List.mem_filter.mpr ⟨List.mem_append_right _ (tb3 (List.mem_of_getElem? (i := 175) rfl)), rfl⟩
set_option maxRecDepth 100000 in
theorem w_322 : (Cond.instanceMethod yX4_doSteps : Cond) ∈ gw := List.mem_filter.mpr ⟨List.mem_append_right _ (tb3 (List.mem_of_getElem? (i := 173) rfl)), rfl⟩
set_option maxRecDepth 100000 in
theorem w_323 : (Cond.selects "BelfryBox$Processor" yX4_doSteps yX4_doSteps : Cond) ∈ gw := List.mem_filter.mpr ⟨List.mem_append_right _ (tb3 (List.mem_of_getElem? (i := 174) rfl)), rfl⟩
set_option maxRecDepth 100000 in
theorem w_324 : (Cond.fieldLink "BelfryBox" 9 "BelfryBox" "now" "[I" : Cond) ∈ gw := List.mem_filter.mpr ⟨List.mem_append_right _ (tb2 (List.mem_of_getElem? (i := 46) rfl)), rfl⟩
theorem nw_5 : (Cond.fieldLinkNest "BelfryBox" 144 "BelfryBox$Processor" "counts" "[I" "BelfryBox" : Cond) ∈ nests := List.mem_of_getElem? (i := 5) rfl
theorem dX8_isAddress_0 : decode cX8_isAddress 0 = .ok (.iload_n 0, 1) := by decide +kernel
theorem dX8_isAddress_1 : decode cX8_isAddress 1 = .ok (.ifCond .lt 14, 3) := by decide +kernel
theorem dX8_isAddress_15 : decode cX8_isAddress 15 = .ok (.iconst 0, 1) := by decide +kernel
theorem dX8_isAddress_16 : decode cX8_isAddress 16 = .ok (.ireturn, 1) := by decide +kernel
theorem dX8_isAddress_4 : decode cX8_isAddress 4 = .ok (.iload_n 0, 1) := by decide +kernel
theorem dX8_isAddress_5 : decode cX8_isAddress 5 = .ok (.sipush 4096, 3) := by decide +kernel
theorem dX8_isAddress_8 : decode cX8_isAddress 8 = .ok (.if_icmp .ge 7, 3) := by decide +kernel
theorem dX8_isAddress_11 : decode cX8_isAddress 11 = .ok (.iconst 1, 1) := by decide +kernel
theorem dX8_isAddress_12 : decode cX8_isAddress 12 = .ok (.goto 4, 3) := by decide +kernel
theorem dX8_isByte_0 : decode cX8_isByte 0 = .ok (.iload_n 0, 1) := by decide +kernel
theorem dX8_isByte_1 : decode cX8_isByte 1 = .ok (.ifCond .lt 14, 3) := by decide +kernel
theorem dX8_isByte_15 : decode cX8_isByte 15 = .ok (.iconst 0, 1) := by decide +kernel
theorem dX8_isByte_16 : decode cX8_isByte 16 = .ok (.ireturn, 1) := by decide +kernel
theorem dX8_isByte_4 : decode cX8_isByte 4 = .ok (.iload_n 0, 1) := by decide +kernel
theorem dX8_isByte_5 : decode cX8_isByte 5 = .ok (.sipush 255, 3) := by decide +kernel
theorem dX8_isByte_8 : decode cX8_isByte 8 = .ok (.if_icmp .gt 7, 3) := by decide +kernel
theorem dX8_isByte_11 : decode cX8_isByte 11 = .ok (.iconst 1, 1) := by decide +kernel
theorem dX8_isByte_12 : decode cX8_isByte 12 = .ok (.goto 4, 3) := by decide +kernel
theorem dX8_peek_0 : decode cX8_peek 0 = .ok (.iload_n 1, 1) := by decide +kernel
theorem dX8_peek_1 : decode cX8_peek 1 = .ok (.invokestatic 115, 3) := by decide +kernel
theorem dX8_peek_4 : decode cX8_peek 4 = .ok (.ifCond .eq 12, 3) := by decide +kernel
theorem dX8_peek_16 : decode cX8_peek 16 = .ok (.iconst (-1), 1) := by decide +kernel
theorem dX8_peek_17 : decode cX8_peek 17 = .ok (.ireturn, 1) := by decide +kernel
theorem dX8_peek_7 : decode cX8_peek 7 = .ok (.aload_n 0, 1) := by decide +kernel
theorem dX8_peek_8 : decode cX8_peek 8 = .ok (.getfield 13, 3) := by decide +kernel
theorem dX8_peek_11 : decode cX8_peek 11 = .ok (.iload_n 1, 1) := by decide +kernel
theorem dX8_peek_12 : decode cX8_peek 12 = .ok (.iaload, 1) := by decide +kernel
theorem dX8_peek_13 : decode cX8_peek 13 = .ok (.goto 4, 3) := by decide +kernel
theorem dX8_restart_0 : decode cX8_restart 0 = .ok (.aload_n 0, 1) := by decide +kernel
theorem dX8_restart_1 : decode cX8_restart 1 = .ok (.getfield 37, 3) := by decide +kernel
theorem dX8_restart_4 : decode cX8_restart 4 = .ok (.invokevirtual 71, 3) := by decide +kernel
theorem dX8_restart_7 : decode cX8_restart 7 = .ok (.return_, 1) := by decide +kernel
theorem dX8_run_0 : decode cX8_run 0 = .ok (.iload_n 1, 1) := by decide +kernel
theorem dX8_run_1 : decode cX8_run 1 = .ok (.iconst 1, 1) := by decide +kernel
theorem dX8_run_2 : decode cX8_run 2 = .ok (.if_icmp .lt 10, 3) := by decide +kernel
theorem dX8_run_12 : decode cX8_run 12 = .ok (.iconst (-1), 1) := by decide +kernel
theorem dX8_run_13 : decode cX8_run 13 = .ok (.ireturn, 1) := by decide +kernel
theorem dX8_run_5 : decode cX8_run 5 = .ok (.iload_n 1, 1) := by decide +kernel
theorem dX8_run_6 : decode cX8_run 6 = .ok (.sipush 2000, 3) := by decide +kernel
theorem dX8_run_9 : decode cX8_run 9 = .ok (.if_icmp .le 5, 3) := by decide +kernel
theorem dX8_run_14 : decode cX8_run 14 = .ok (.aload_n 0, 1) := by decide +kernel
theorem dX8_run_15 : decode cX8_run 15 = .ok (.getfield 37, 3) := by decide +kernel
theorem dX8_run_18 : decode cX8_run 18 = .ok (.iload_n 1, 1) := by decide +kernel
theorem dX8_run_19 : decode cX8_run 19 = .ok (.aload_n 0, 1) := by decide +kernel
theorem dX8_run_20 : decode cX8_run 20 = .ok (.getfield 44, 3) := by decide +kernel
theorem dX8_run_23 : decode cX8_run 23 = .ok (.invokevirtual 137, 3) := by decide +kernel
theorem dX8_run_26 : decode cX8_run 26 = .ok (.ireturn, 1) := by decide +kernel
theorem dX8_register_0 : decode cX8_register 0 = .ok (.iload_n 1, 1) := by decide +kernel
theorem dX8_register_1 : decode cX8_register 1 = .ok (.ifCond .lt 18, 3) := by decide +kernel
theorem dX8_register_19 : decode cX8_register 19 = .ok (.iconst 0, 1) := by decide +kernel
theorem dX8_register_20 : decode cX8_register 20 = .ok (.ireturn, 1) := by decide +kernel
theorem dX8_register_4 : decode cX8_register 4 = .ok (.iload_n 1, 1) := by decide +kernel
theorem dX8_register_5 : decode cX8_register 5 = .ok (.bipush 7, 2) := by decide +kernel
theorem dX8_register_7 : decode cX8_register 7 = .ok (.if_icmp .gt 12, 3) := by decide +kernel
theorem dX8_register_10 : decode cX8_register 10 = .ok (.aload_n 0, 1) := by decide +kernel
theorem dX8_register_11 : decode cX8_register 11 = .ok (.getfield 9, 3) := by decide +kernel
theorem dX8_register_14 : decode cX8_register 14 = .ok (.iload_n 1, 1) := by decide +kernel
theorem dX8_register_15 : decode cX8_register 15 = .ok (.iaload, 1) := by decide +kernel
theorem dX8_register_16 : decode cX8_register 16 = .ok (.goto 4, 3) := by decide +kernel
theorem dX8_codes_0 : decode cX8_codes 0 = .ok (.iload_n 1, 1) := by decide +kernel
theorem dX8_codes_1 : decode cX8_codes 1 = .ok (.ifCond .lt 22, 3) := by decide +kernel
theorem dX8_codes_23 : decode cX8_codes 23 = .ok (.iconst 0, 1) := by decide +kernel
theorem dX8_codes_24 : decode cX8_codes 24 = .ok (.ireturn, 1) := by decide +kernel
theorem dX8_codes_4 : decode cX8_codes 4 = .ok (.iload_n 1, 1) := by decide +kernel
theorem dX8_codes_5 : decode cX8_codes 5 = .ok (.sipush 256, 3) := by decide +kernel
theorem dX8_codes_8 : decode cX8_codes 8 = .ok (.if_icmp .gt 15, 3) := by decide +kernel
theorem dX8_codes_11 : decode cX8_codes 11 = .ok (.aload_n 0, 1) := by decide +kernel
theorem dX8_codes_12 : decode cX8_codes 12 = .ok (.getfield 37, 3) := by decide +kernel
theorem dX8_codes_15 : decode cX8_codes 15 = .ok (.getfield 144, 3) := by decide +kernel
theorem dX8_codes_18 : decode cX8_codes 18 = .ok (.iload_n 1, 1) := by decide +kernel
theorem dX8_codes_19 : decode cX8_codes 19 = .ok (.iaload, 1) := by decide +kernel
theorem dX8_codes_20 : decode cX8_codes 20 = .ok (.goto 4, 3) := by decide +kernel
/-! what the calls answer on a fresh object, in the class's own cases -/
def isA (a : Int32) : Int32 := if a < 0 then 0 else if 4096 ≤ a then 0 else 1
def isB (v : Int32) : Int32 := if v < 0 then 0 else if 255 < v then 0 else 1
theorem idx_of {x : Int32} {n : Nat} (hn : n < 2 ^ 31) (h0 : ¬ x < 0) (h : ¬ nI n ≤ x) : ∃ j : Nat, j < n ∧ x = nI j := by
  rcases pk_ix x hn with q | q | q
  · exact absurd q h0
  · exact absurd q h
  · exact q
theorem idx_le {x : Int32} {n : Nat} (hn : n < 2 ^ 30) (h0 : ¬ x < 0) (h : ¬ nI n < x) : ∃ j : Nat, j ≤ n ∧ x = nI j := by
  obtain ⟨j, hj, rfl⟩ := nI_of h0
  refine ⟨j, ?_, rfl⟩
  rcases Nat.lt_or_ge n j with q | q
  · exact absurd (nI_lt q hj) h
  · exact q
theorem isA_idx {a : Int32} (h : ¬ isA a = 0) : ∃ j : Nat, j < 4096 ∧ a = nI j := by
  unfold isA at h
  by_cases h0 : a < 0
  · rw [if_pos h0] at h; exact absurd rfl h
  · rw [if_neg h0] at h
    by_cases h1 : (4096 : Int32) ≤ a
    · rw [if_pos h1] at h; exact absurd rfl h
    · exact idx_of (n := 4096) (by decide) h0 h1
def fr_at (j : Nat) : Int32 := if j = 3 then 255 else if j = 5 then 4 else if j = 18 then 1 else 0
def sp_peek (a : Int32) : Int32 := if isA a = 0 then -1 else 0
def sp_poke (a v : Int32) : Int32 := if a < 0 then 0 else if 4080 ≤ a then 0 else if isB v = 0 then 0 else 1
def sp_drum (a v : Int32) : Int32 := if a < 0 then 0 else if 64 ≤ a then 0 else if isB v = 0 then 0 else 1
def sp_register (a : Int32) : Int32 := if a < 0 then 0 else if 7 < a then 0 else if a = 3 then 255 else if a = 5 then 4 else 0
theorem sp_reg_at : ∀ j, j ≤ 7 → fr_at j = if nI j = 3 then 255 else if nI j = 5 then 4 else (0 : Int32) := by decide
def sp_end (a : Int32) : Int32 := if a < 0 then -1 else if a ≤ 0 then a else -1
def sp_key (v : Int32) : Int32 := if isB v = 0 then -1 else 1
def sp_stop (a o : Int32) : Int32 := if isA a = 0 then -1 else if o = 0 then 0 else 1
theorem idx_37 {a : Int32} (h1 : ¬ a < 3) (h2 : ¬ 7 < a) : ∃ j : Nat, 3 ≤ j ∧ j ≤ 7 ∧ a = nI j := by
  have h0 : ¬ a < 0 := fun q => h1 (Int32.lt_trans q (by decide))
  obtain ⟨j, hj, rfl⟩ := idx_le (n := 7) (by decide) h0 h2
  refine ⟨j, ?_, hj, rfl⟩
  rcases Nat.lt_or_ge j 3 with q | q
  · exact absurd (nI_lt q (by decide)) h1
  · exact q
theorem idx_25 {a : Int32} {j : Nat} (h : a = nI j) : 28 + a - 3 = nI (25 + j) := by
  subst h
  show nI 28 + nI j - nI 3 = _
  rw [nI_add, pk_sub (by omega)]
  congr 1
  omega
theorem fr_hi {j : Nat} (h : 19 ≤ j) : (if j = 3 then 255 else if j = 5 then 4 else if j = 18 then 1 else (0 : Int32)) = 0 := by
  rw [if_neg (by omega), if_neg (by omega), if_neg (by omega)]
theorem not_le0 {a : Int32} (h : ¬ a < 1) : ¬ a ≤ 0 := fun q => h (Int32.lt_of_le_of_lt q (by decide))
def sp_device (a : Int32) : Int32 := if a < 0 then 0 else if 20 ≤ a then 0 else if a = 10 then 1 else 0
theorem sp_dev_at : ∀ j, j < 20 → fr_at (8 + j) = if nI j = 10 then 1 else (0 : Int32) := by decide
theorem idx_21 {a : Int32} (h : ¬ a < 21) : 0 ≤ a - 21 := by
  have h0 : ¬ a < 0 := fun q => h (Int32.lt_trans q (by decide))
  obtain ⟨j, hj, rfl⟩ := nI_of h0
  have h2 : 21 ≤ j := by
    rcases Nat.lt_or_ge j 21 with q | q
    · exact absurd (nI_lt q (by decide)) h
    · exact q
  show 0 ≤ nI j - nI 21
  rw [pk_sub h2]
  exact nI_pos' (by omega)
set_option maxHeartbeats 4000000 in
set_option maxRecDepth 100000 in
theorem c_isAddress (l : Launch) (D : va_G) (cA cB : ClassId) (a : Int32)  : CI l yX8_isAddress cX8_isAddress 1 (some .boolean) 0 0 0 0 D cA cB [.int a] [] (fun r W1 => r = (isA a) ∧ W1 = []) := by
  refine mkI (lv0 := [(0, .int a)]) (by decide) (Nat.le_of_ble_eq_true rfl) rfl ?_
  intro p e s m below meth c A ls X hr hlocks hnm hE hA hP hD hS hl
  have hx := X.1
  have hb := X.2.1
  refine lv_iload_n hx hb dX8_isAddress_0 rfl (lv_at hl 0 rfl) ?_
  refine lv_if_lt (tgt := 15) hx hb dX8_isAddress_1 (by decide) (fun c_1 => ?_) (fun c_1 => ?_)
  · skip
    refine lv_iconst (v := 0) hx hb dX8_isAddress_15 (by decide) ?_
    exact endZ X hr rfl hlocks hP hD hS dX8_isAddress_16 ⟨(by unfold isA; rw [if_pos c_1]), rfl⟩
  · skip
    refine lv_iload_n hx hb dX8_isAddress_4 rfl (lv_at hl 0 rfl) ?_
    refine lv_sipush (v := 4096) hx hb dX8_isAddress_5 (by decide) ?_
    refine lv_icmp_ge (tgt := 15) hx hb dX8_isAddress_8 (by decide) (fun c_8 => ?_) (fun c_8 => ?_)
    · skip
      refine lv_iconst (v := 0) hx hb dX8_isAddress_15 (by decide) ?_
      exact endZ X hr rfl hlocks hP hD hS dX8_isAddress_16 ⟨(by unfold isA; rw [if_neg c_1, if_pos c_8]), rfl⟩
    · skip
      refine lv_iconst (v := 1) hx hb dX8_isAddress_11 (by decide) ?_
      refine lv_goto (tgt := 16) hx hb dX8_isAddress_12 (by decide) ?_
      exact endZ X hr rfl hlocks hP hD hS dX8_isAddress_16 ⟨(by unfold isA; rw [if_neg c_1, if_neg c_8]), rfl⟩
set_option maxHeartbeats 4000000 in
set_option maxRecDepth 100000 in
theorem c_isByte (l : Launch) (D : va_G) (cA cB : ClassId) (v : Int32)  : CI l yX8_isByte cX8_isByte 1 (some .boolean) 0 0 0 0 D cA cB [.int v] [] (fun r W1 => r = (isB v) ∧ W1 = []) := by
  refine mkI (lv0 := [(0, .int v)]) (by decide) (Nat.le_of_ble_eq_true rfl) rfl ?_
  intro p e s m below meth c A ls X hr hlocks hnm hE hA hP hD hS hl
  have hx := X.1
  have hb := X.2.1
  refine lv_iload_n hx hb dX8_isByte_0 rfl (lv_at hl 0 rfl) ?_
  refine lv_if_lt (tgt := 15) hx hb dX8_isByte_1 (by decide) (fun c_1 => ?_) (fun c_1 => ?_)
  · skip
    refine lv_iconst (v := 0) hx hb dX8_isByte_15 (by decide) ?_
    exact endZ X hr rfl hlocks hP hD hS dX8_isByte_16 ⟨(by unfold isB; rw [if_pos c_1]), rfl⟩
  · skip
    refine lv_iload_n hx hb dX8_isByte_4 rfl (lv_at hl 0 rfl) ?_
    refine lv_sipush (v := 255) hx hb dX8_isByte_5 (by decide) ?_
    refine lv_icmp_gt (tgt := 15) hx hb dX8_isByte_8 (by decide) (fun c_8 => ?_) (fun c_8 => ?_)
    · skip
      refine lv_iconst (v := 0) hx hb dX8_isByte_15 (by decide) ?_
      exact endZ X hr rfl hlocks hP hD hS dX8_isByte_16 ⟨(by unfold isB; rw [if_neg c_1, if_pos c_8]), rfl⟩
    · skip
      refine lv_iconst (v := 1) hx hb dX8_isByte_11 (by decide) ?_
      refine lv_goto (tgt := 16) hx hb dX8_isByte_12 (by decide) ?_
      exact endZ X hr rfl hlocks hP hD hS dX8_isByte_16 ⟨(by unfold isB; rw [if_neg c_1, if_neg c_8]), rfl⟩
set_option maxHeartbeats 4000000 in
set_option maxRecDepth 100000 in
theorem c_s_peek (l : Launch) (D : va_G) (cA cB : ClassId) (h0 : Nat) (hn : Nat) (hs : Nat) (hd : Nat) (hp : Nat) (qr : Nat) (qst : Nat) (qa : Nat) (qm : Nat) (qe : Nat) (hc : Nat) (h1 : Nat) (h2 : Nat) (h3 : Nat) (h4 : Nat) (he : Nat) (qsp : Nat) (wy : Int32) (dn : Int32) (la : Nat) (ke : Nat) (cn : Nat) (f : Nat → Int32) (st : Nat → Int32) (pn : Nat → Int32) (wt : Nat → Int32) (rg : Nat → Int32) (pa : Nat → Int32) (en : Nat → Int32) (ct : Nat → Int32) (sg : Nat → Int32) (a : Int32) (hla : la < 256) (hke : ke < 257) (hcn : cn < 17) (hf : okN f) (hst : ∀ j, j < 4096 → ∃ k : Nat, k < 256 ∧ st j = nI k) (hpn : ∀ j, j < 64 → ∃ k : Nat, k < 256 ∧ pn j = nI k) (hwt : ∀ j, j < 16 → ∃ k : Nat, k < 256 ∧ wt j = nI k) (hen : okE en) : CI l yX8_peek cX8_peek 2 (some .int) 1 20 0 0 D cA cB [.ref h0, .int a] [(h0, .inr (8, [.ref hn, .ref hs, .ref hd, .ref hp, .ref qr, .ref qst, .ref qa, .ref qm, .ref qe])), (qr, .inr (4, [.ref hn, .ref hs, .ref hd, .ref hp, .ref hc, .int wy, .int dn])), (hd, .inr (1, [.ref hn, .ref h1, .ref h2, .ref h3, .ref h4])), (hp, .inr (3, [.ref he, .int (nI la), .int (nI ke)])), (qst, .inr (6, [.ref qsp, .int (nI cn)])), (hn, .inl (cA, 34, .inl f)), (hs, .inl (cA, 4096, .inl st)), (h1, .inl (cA, 64, .inl pn)), (h2, .inl (cA, 16, .inl wt)), (h3, .inl (cA, 900, .inl rg)), (h4, .inl (cA, 200, .inl pa)), (he, .inl (cA, 10752, .inl en)), (hc, .inl (cA, 257, .inl ct)), (qsp, .inl (cA, 16, .inl sg))] (fun r W1 => ∃ (wy2 : Int32) (dn2 : Int32) (la2 : Nat) (ke2 : Nat) (cn2 : Nat) (f2 : Nat → Int32) (st2 : Nat → Int32) (pn2 : Nat → Int32) (wt2 : Nat → Int32) (rg2 : Nat → Int32) (pa2 : Nat → Int32) (en2 : Nat → Int32) (ct2 : Nat → Int32) (sg2 : Nat → Int32) (rv : Int32), r = rv ∧ (la2 < 256) ∧ (ke2 < 257) ∧ (cn2 < 17) ∧ (okN f2) ∧ (∀ j, j < 4096 → ∃ k : Nat, k < 256 ∧ st2 j = nI k) ∧ (∀ j, j < 64 → ∃ k : Nat, k < 256 ∧ pn2 j = nI k) ∧ (∀ j, j < 16 → ∃ k : Nat, k < 256 ∧ wt2 j = nI k) ∧ (okE en2) ∧ W1 = [(h0, .inr (8, [.ref hn, .ref hs, .ref hd, .ref hp, .ref qr, .ref qst, .ref qa, .ref qm, .ref qe])), (qr, .inr (4, [.ref hn, .ref hs, .ref hd, .ref hp, .ref hc, .int wy2, .int dn2])), (hd, .inr (1, [.ref hn, .ref h1, .ref h2, .ref h3, .ref h4])), (hp, .inr (3, [.ref he, .int (nI la2), .int (nI ke2)])), (qst, .inr (6, [.ref qsp, .int (nI cn2)])), (hn, .inl (cA, 34, .inl f2)), (hs, .inl (cA, 4096, .inl st2)), (h1, .inl (cA, 64, .inl pn2)), (h2, .inl (cA, 16, .inl wt2)), (h3, .inl (cA, 900, .inl rg2)), (h4, .inl (cA, 200, .inl pa2)), (he, .inl (cA, 10752, .inl en2)), (hc, .inl (cA, 257, .inl ct2)), (qsp, .inl (cA, 16, .inl sg2))]) := by
  refine mkI (lv0 := [(0, .ref h0), (1, .int a)]) (by decide) (Nat.le_of_ble_eq_true rfl) rfl ?_
  intro p e s m below meth c A ls X hr hlocks hnm hE hA hP hD hS hl
  have hx := X.1
  have hb := X.2.1
  refine lv_iload_n hx hb dX8_peek_0 rfl (lv_at hl 1 rfl) ?_
  refine kSi (n3 := 1) (As := [.int a]) (rest := []) X hl.1 hE hP hD hS hA [] [(h0, .inr (8, [.ref hn, .ref hs, .ref hd, .ref hp, .ref qr, .ref qst, .ref qa, .ref qm, .ref qe])), (qr, .inr (4, [.ref hn, .ref hs, .ref hd, .ref hp, .ref hc, .int wy, .int dn])), (hd, .inr (1, [.ref hn, .ref h1, .ref h2, .ref h3, .ref h4])), (hp, .inr (3, [.ref he, .int (nI la), .int (nI ke)])), (qst, .inr (6, [.ref qsp, .int (nI cn)])), (hn, .inl (cA, 34, .inl f)), (hs, .inl (cA, 4096, .inl st)), (h1, .inl (cA, 64, .inl pn)), (h2, .inl (cA, 16, .inl wt)), (h3, .inl (cA, 900, .inl rg)), (h4, .inl (cA, 200, .inl pa)), (he, .inl (cA, 10752, .inl en)), (hc, .inl (cA, 257, .inl ct)), (qsp, .inl (cA, 16, .inl sg))] [] [0, 1, 2, 3, 4, 5, 6, 7, 8, 9, 10, 11, 12, 13] rfl rfl rfl (by decide) (by decide) (by decide) (c_isAddress l D cA cB a ) w_311 w_107 w_310 w_312 (by decide +kernel) rfl rfl (Nat.le_of_ble_eq_true rfl) ⟨(Nat.le_of_ble_eq_true rfl), (Nat.le_of_ble_eq_true rfl)⟩ ⟨(Nat.le_of_ble_eq_true rfl), (Nat.le_of_ble_eq_true rfl)⟩ dX8_peek_1 (fun r W1 H locs hw hP hD hS => ?_)
  obtain ⟨rfl, rfl⟩ := hw
  have hP : va_P D classes [(h0, .inr (8, [.ref hn, .ref hs, .ref hd, .ref hp, .ref qr, .ref qst, .ref qa, .ref qm, .ref qe])), (qr, .inr (4, [.ref hn, .ref hs, .ref hd, .ref hp, .ref hc, .int wy, .int dn])), (hd, .inr (1, [.ref hn, .ref h1, .ref h2, .ref h3, .ref h4])), (hp, .inr (3, [.ref he, .int (nI la), .int (nI ke)])), (qst, .inr (6, [.ref qsp, .int (nI cn)])), (hn, .inl (cA, 34, .inl f)), (hs, .inl (cA, 4096, .inl st)), (h1, .inl (cA, 64, .inl pn)), (h2, .inl (cA, 16, .inl wt)), (h3, .inl (cA, 900, .inl rg)), (h4, .inl (cA, 200, .inl pa)), (he, .inl (cA, 10752, .inl en)), (hc, .inl (cA, 257, .inl ct)), (qsp, .inl (cA, 16, .inl sg))] H := hP
  have hD : va_D A [(h0, .inr (8, [.ref hn, .ref hs, .ref hd, .ref hp, .ref qr, .ref qst, .ref qa, .ref qm, .ref qe])), (qr, .inr (4, [.ref hn, .ref hs, .ref hd, .ref hp, .ref hc, .int wy, .int dn])), (hd, .inr (1, [.ref hn, .ref h1, .ref h2, .ref h3, .ref h4])), (hp, .inr (3, [.ref he, .int (nI la), .int (nI ke)])), (qst, .inr (6, [.ref qsp, .int (nI cn)])), (hn, .inl (cA, 34, .inl f)), (hs, .inl (cA, 4096, .inl st)), (h1, .inl (cA, 64, .inl pn)), (h2, .inl (cA, 16, .inl wt)), (h3, .inl (cA, 900, .inl rg)), (h4, .inl (cA, 200, .inl pa)), (he, .inl (cA, 10752, .inl en)), (hc, .inl (cA, 257, .inl ct)), (qsp, .inl (cA, 16, .inl sg))] := hD
  refine lv_if_eq (tgt := 16) hx hb dX8_peek_4 (by decide) (fun c_4 => ?_) (fun c_4 => ?_)
  · skip
    refine lv_iconst (v := (-1)) hx hb dX8_peek_16 (by decide) ?_
    exact endI X hr hlocks hP hD hS dX8_peek_17 ⟨wy, dn, la, ke, cn, f, st, pn, wt, rg, pa, en, ct, sg, (-1), rfl, (by omega), (by omega), (by omega), hf, hst, hpn, hwt, hen, rfl⟩
  · skip
    obtain ⟨j, hj, ej⟩ := isA_idx c_4
    rw [ej] at hl
    refine lv_aload_n hx hb dX8_peek_7 rfl (lv_at hl 0 rfl) ?_
    refine k_get (C := RX8) (T := TX8) (N := 9) (ci := 8) (v := .ref hs) X hE hP 0 rfl rfl iX8 1 (by decide) w_313 rfl dX8_peek_8 ?_
    refine lv_iload_n hx hb dX8_peek_11 rfl (lv_at hl 1 rfl) ?_
    obtain ⟨k_1, hk_1, ek_1⟩ := hst j (by omega)
    refine k_ald (v := nI k_1) X hE hP 6 rfl j rfl (by omega) (by decide) ek_1 dX8_peek_12 ?_
    refine lv_goto (tgt := 17) hx hb dX8_peek_13 (by decide) ?_
    exact endI X hr hlocks hP hD hS dX8_peek_17 ⟨wy, dn, la, ke, cn, f, st, pn, wt, rg, pa, en, ct, sg, (nI k_1), rfl, (by omega), (by omega), (by omega), hf, hst, hpn, hwt, hen, rfl⟩
set_option maxHeartbeats 4000000 in
set_option maxRecDepth 100000 in
theorem c_s_restart (l : Launch) (D : va_G) (cA cB : ClassId) (h0 : Nat) (hn : Nat) (hs : Nat) (hd : Nat) (hp : Nat) (qr : Nat) (qst : Nat) (qa : Nat) (qm : Nat) (qe : Nat) (hc : Nat) (h1 : Nat) (h2 : Nat) (h3 : Nat) (h4 : Nat) (he : Nat) (qsp : Nat) (wy : Int32) (dn : Int32) (la : Nat) (ke : Nat) (cn : Nat) (f : Nat → Int32) (st : Nat → Int32) (pn : Nat → Int32) (wt : Nat → Int32) (rg : Nat → Int32) (pa : Nat → Int32) (en : Nat → Int32) (ct : Nat → Int32) (sg : Nat → Int32) (hla : la < 256) (hke : ke < 257) (hcn : cn < 17) (hf : okN f) (hst : ∀ j, j < 4096 → ∃ k : Nat, k < 256 ∧ st j = nI k) (hpn : ∀ j, j < 64 → ∃ k : Nat, k < 256 ∧ pn j = nI k) (hwt : ∀ j, j < 16 → ∃ k : Nat, k < 256 ∧ wt j = nI k) (hen : okE en) : CV l yX8_restart cX8_restart 1 none 4 82 0 0 D cA cB [.ref h0] [(h0, .inr (8, [.ref hn, .ref hs, .ref hd, .ref hp, .ref qr, .ref qst, .ref qa, .ref qm, .ref qe])), (qr, .inr (4, [.ref hn, .ref hs, .ref hd, .ref hp, .ref hc, .int wy, .int dn])), (hd, .inr (1, [.ref hn, .ref h1, .ref h2, .ref h3, .ref h4])), (hp, .inr (3, [.ref he, .int (nI la), .int (nI ke)])), (qst, .inr (6, [.ref qsp, .int (nI cn)])), (hn, .inl (cA, 34, .inl f)), (hs, .inl (cA, 4096, .inl st)), (h1, .inl (cA, 64, .inl pn)), (h2, .inl (cA, 16, .inl wt)), (h3, .inl (cA, 900, .inl rg)), (h4, .inl (cA, 200, .inl pa)), (he, .inl (cA, 10752, .inl en)), (hc, .inl (cA, 257, .inl ct)), (qsp, .inl (cA, 16, .inl sg))] (fun W1 => ∃ (wy2 : Int32) (dn2 : Int32) (la2 : Nat) (ke2 : Nat) (cn2 : Nat) (f2 : Nat → Int32) (st2 : Nat → Int32) (pn2 : Nat → Int32) (wt2 : Nat → Int32) (rg2 : Nat → Int32) (pa2 : Nat → Int32) (en2 : Nat → Int32) (ct2 : Nat → Int32) (sg2 : Nat → Int32), (la2 < 256) ∧ (ke2 < 257) ∧ (cn2 < 17) ∧ (okN f2) ∧ (∀ j, j < 4096 → ∃ k : Nat, k < 256 ∧ st2 j = nI k) ∧ (∀ j, j < 64 → ∃ k : Nat, k < 256 ∧ pn2 j = nI k) ∧ (∀ j, j < 16 → ∃ k : Nat, k < 256 ∧ wt2 j = nI k) ∧ (okE en2) ∧ W1 = [(h0, .inr (8, [.ref hn, .ref hs, .ref hd, .ref hp, .ref qr, .ref qst, .ref qa, .ref qm, .ref qe])), (qr, .inr (4, [.ref hn, .ref hs, .ref hd, .ref hp, .ref hc, .int wy2, .int dn2])), (hd, .inr (1, [.ref hn, .ref h1, .ref h2, .ref h3, .ref h4])), (hp, .inr (3, [.ref he, .int (nI la2), .int (nI ke2)])), (qst, .inr (6, [.ref qsp, .int (nI cn2)])), (hn, .inl (cA, 34, .inl f2)), (hs, .inl (cA, 4096, .inl st2)), (h1, .inl (cA, 64, .inl pn2)), (h2, .inl (cA, 16, .inl wt2)), (h3, .inl (cA, 900, .inl rg2)), (h4, .inl (cA, 200, .inl pa2)), (he, .inl (cA, 10752, .inl en2)), (hc, .inl (cA, 257, .inl ct2)), (qsp, .inl (cA, 16, .inl sg2))]) := by
  refine mkV (lv0 := [(0, .ref h0)]) (by decide) (Nat.le_of_ble_eq_true rfl) rfl ?_
  intro p e s m below meth c A ls X hr hlocks hnm hE hA hP hD hS hl
  have hx := X.1
  have hb := X.2.1
  refine lv_aload_n hx hb dX8_restart_0 rfl (lv_at hl 0 rfl) ?_
  refine k_get (C := RX8) (T := TX8) (N := 9) (ci := 8) (v := .ref qr) X hE hP 0 rfl rfl iX8 4 (by decide) w_314 rfl dX8_restart_1 ?_
  refine kVv (n3 := 0) (As := []) (rest := []) X hl.1 hE hP hD hS hA [(qr, .inr (4, [.ref hn, .ref hs, .ref hd, .ref hp, .ref hc, .int wy, .int dn])), (hp, .inr (3, [.ref he, .int (nI la), .int (nI ke)])), (hn, .inl (cA, 34, .inl f)), (hs, .inl (cA, 4096, .inl st)), (he, .inl (cA, 10752, .inl en)), (hc, .inl (cA, 257, .inl ct))] [(h0, .inr (8, [.ref hn, .ref hs, .ref hd, .ref hp, .ref qr, .ref qst, .ref qa, .ref qm, .ref qe])), (hd, .inr (1, [.ref hn, .ref h1, .ref h2, .ref h3, .ref h4])), (qst, .inr (6, [.ref qsp, .int (nI cn)])), (h1, .inl (cA, 64, .inl pn)), (h2, .inl (cA, 16, .inl wt)), (h3, .inl (cA, 900, .inl rg)), (h4, .inl (cA, 200, .inl pa)), (qsp, .inl (cA, 16, .inl sg))] [1, 3, 5, 6, 11, 12] [0, 2, 4, 7, 8, 9, 10, 13] rfl rfl rfl (by decide) (by decide) (by decide) (c_s_beginAnew l D cA cB qr hn hs hd hp hc he wy dn la ke f st en ct (by first | assumption | decide | rfl | omega) (by first | assumption | decide | rfl | omega) hf hst hen) w_316 w_66 w_315 w_317 w_318 0 (ci := 4) (T := TX4) (N := 7) rfl rfl (by decide +kernel) rfl rfl (Nat.le_of_ble_eq_true rfl) ⟨(Nat.le_of_ble_eq_true rfl), (Nat.le_of_ble_eq_true rfl)⟩ ⟨(Nat.le_of_ble_eq_true rfl), (Nat.le_of_ble_eq_true rfl)⟩ dX8_restart_4 (fun W1 H locs hw hP hD hS => ?_)
  obtain ⟨wy2_1, dn2_2, la2_3, ke2_4, f2_5, st2_6, en2_7, ct2_8, hf_9, hf_10, hf_11, hf_12, hf_13, rfl⟩ := hw
  have hP : va_P D classes [(h0, .inr (8, [.ref hn, .ref hs, .ref hd, .ref hp, .ref qr, .ref qst, .ref qa, .ref qm, .ref qe])), (hd, .inr (1, [.ref hn, .ref h1, .ref h2, .ref h3, .ref h4])), (qst, .inr (6, [.ref qsp, .int (nI cn)])), (h1, .inl (cA, 64, .inl pn)), (h2, .inl (cA, 16, .inl wt)), (h3, .inl (cA, 900, .inl rg)), (h4, .inl (cA, 200, .inl pa)), (qsp, .inl (cA, 16, .inl sg)), (qr, .inr (4, [.ref hn, .ref hs, .ref hd, .ref hp, .ref hc, .int wy2_1, .int dn2_2])), (hp, .inr (3, [.ref he, .int (nI la2_3), .int (nI ke2_4)])), (hn, .inl (cA, 34, .inl f2_5)), (hs, .inl (cA, 4096, .inl st2_6)), (he, .inl (cA, 10752, .inl en2_7)), (hc, .inl (cA, 257, .inl ct2_8))] H := hP
  have hD : va_D A [(h0, .inr (8, [.ref hn, .ref hs, .ref hd, .ref hp, .ref qr, .ref qst, .ref qa, .ref qm, .ref qe])), (hd, .inr (1, [.ref hn, .ref h1, .ref h2, .ref h3, .ref h4])), (qst, .inr (6, [.ref qsp, .int (nI cn)])), (h1, .inl (cA, 64, .inl pn)), (h2, .inl (cA, 16, .inl wt)), (h3, .inl (cA, 900, .inl rg)), (h4, .inl (cA, 200, .inl pa)), (qsp, .inl (cA, 16, .inl sg)), (qr, .inr (4, [.ref hn, .ref hs, .ref hd, .ref hp, .ref hc, .int wy2_1, .int dn2_2])), (hp, .inr (3, [.ref he, .int (nI la2_3), .int (nI ke2_4)])), (hn, .inl (cA, 34, .inl f2_5)), (hs, .inl (cA, 4096, .inl st2_6)), (he, .inl (cA, 10752, .inl en2_7)), (hc, .inl (cA, 257, .inl ct2_8))] := hD
  have hP : va_P D classes [(h0, .inr (8, [.ref hn, .ref hs, .ref hd, .ref hp, .ref qr, .ref qst, .ref qa, .ref qm, .ref qe])), (qr, .inr (4, [.ref hn, .ref hs, .ref hd, .ref hp, .ref hc, .int wy2_1, .int dn2_2])), (hd, .inr (1, [.ref hn, .ref h1, .ref h2, .ref h3, .ref h4])), (hp, .inr (3, [.ref he, .int (nI la2_3), .int (nI ke2_4)])), (qst, .inr (6, [.ref qsp, .int (nI cn)])), (hn, .inl (cA, 34, .inl f2_5)), (hs, .inl (cA, 4096, .inl st2_6)), (h1, .inl (cA, 64, .inl pn)), (h2, .inl (cA, 16, .inl wt)), (h3, .inl (cA, 900, .inl rg)), (h4, .inl (cA, 200, .inl pa)), (he, .inl (cA, 10752, .inl en2_7)), (hc, .inl (cA, 257, .inl ct2_8)), (qsp, .inl (cA, 16, .inl sg))] _ := hP.sub [0, 8, 1, 9, 2, 10, 11, 3, 4, 5, 6, 12, 13, 7] rfl
  have hD : va_D A [(h0, .inr (8, [.ref hn, .ref hs, .ref hd, .ref hp, .ref qr, .ref qst, .ref qa, .ref qm, .ref qe])), (qr, .inr (4, [.ref hn, .ref hs, .ref hd, .ref hp, .ref hc, .int wy2_1, .int dn2_2])), (hd, .inr (1, [.ref hn, .ref h1, .ref h2, .ref h3, .ref h4])), (hp, .inr (3, [.ref he, .int (nI la2_3), .int (nI ke2_4)])), (qst, .inr (6, [.ref qsp, .int (nI cn)])), (hn, .inl (cA, 34, .inl f2_5)), (hs, .inl (cA, 4096, .inl st2_6)), (h1, .inl (cA, 64, .inl pn)), (h2, .inl (cA, 16, .inl wt)), (h3, .inl (cA, 900, .inl rg)), (h4, .inl (cA, 200, .inl pa)), (he, .inl (cA, 10752, .inl en2_7)), (hc, .inl (cA, 257, .inl ct2_8)), (qsp, .inl (cA, 16, .inl sg))] := hD.sub [0, 8, 1, 9, 2, 10, 11, 3, 4, 5, 6, 12, 13, 7] (by decide) rfl
  exact endV X hr hlocks hP hD hS dX8_restart_7 ⟨wy2_1, dn2_2, la2_3, ke2_4, cn, f2_5, st2_6, pn, wt, rg, pa, en2_7, ct2_8, sg, (by omega), (by omega), (by omega), hf_11, hf_12, hpn, hwt, hf_13, rfl⟩
set_option maxHeartbeats 4000000 in
set_option maxRecDepth 100000 in
theorem c_s_run (l : Launch) (D : va_G) (cA cB : ClassId) (h0 : Nat) (hn : Nat) (hs : Nat) (hd : Nat) (hp : Nat) (qr : Nat) (qst : Nat) (qa : Nat) (qm : Nat) (qe : Nat) (hc : Nat) (h1 : Nat) (h2 : Nat) (h3 : Nat) (h4 : Nat) (he : Nat) (qsp : Nat) (wy : Int32) (dn : Int32) (la : Nat) (ke : Nat) (cn : Nat) (f : Nat → Int32) (st : Nat → Int32) (pn : Nat → Int32) (wt : Nat → Int32) (rg : Nat → Int32) (pa : Nat → Int32) (en : Nat → Int32) (ct : Nat → Int32) (sg : Nat → Int32) (a : Int32) (hla : la < 256) (hke : ke < 257) (hcn : cn < 17) (hf : okN f) (hst : ∀ j, j < 4096 → ∃ k : Nat, k < 256 ∧ st j = nI k) (hpn : ∀ j, j < 64 → ∃ k : Nat, k < 256 ∧ pn j = nI k) (hwt : ∀ j, j < 16 → ∃ k : Nat, k < 256 ∧ wt j = nI k) (hen : okE en) : CI l yX8_run cX8_run 2 (some .int) 7 158 0 0 D cA cB [.ref h0, .int a] [(h0, .inr (8, [.ref hn, .ref hs, .ref hd, .ref hp, .ref qr, .ref qst, .ref qa, .ref qm, .ref qe])), (qr, .inr (4, [.ref hn, .ref hs, .ref hd, .ref hp, .ref hc, .int wy, .int dn])), (hd, .inr (1, [.ref hn, .ref h1, .ref h2, .ref h3, .ref h4])), (hp, .inr (3, [.ref he, .int (nI la), .int (nI ke)])), (qst, .inr (6, [.ref qsp, .int (nI cn)])), (hn, .inl (cA, 34, .inl f)), (hs, .inl (cA, 4096, .inl st)), (h1, .inl (cA, 64, .inl pn)), (h2, .inl (cA, 16, .inl wt)), (h3, .inl (cA, 900, .inl rg)), (h4, .inl (cA, 200, .inl pa)), (he, .inl (cA, 10752, .inl en)), (hc, .inl (cA, 257, .inl ct)), (qsp, .inl (cA, 16, .inl sg))] (fun r W1 => ∃ (wy2 : Int32) (dn2 : Int32) (la2 : Nat) (ke2 : Nat) (cn2 : Nat) (f2 : Nat → Int32) (st2 : Nat → Int32) (pn2 : Nat → Int32) (wt2 : Nat → Int32) (rg2 : Nat → Int32) (pa2 : Nat → Int32) (en2 : Nat → Int32) (ct2 : Nat → Int32) (sg2 : Nat → Int32) (rv : Int32), r = rv ∧ (la2 < 256) ∧ (ke2 < 257) ∧ (cn2 < 17) ∧ (okN f2) ∧ (∀ j, j < 4096 → ∃ k : Nat, k < 256 ∧ st2 j = nI k) ∧ (∀ j, j < 64 → ∃ k : Nat, k < 256 ∧ pn2 j = nI k) ∧ (∀ j, j < 16 → ∃ k : Nat, k < 256 ∧ wt2 j = nI k) ∧ (okE en2) ∧ W1 = [(h0, .inr (8, [.ref hn, .ref hs, .ref hd, .ref hp, .ref qr, .ref qst, .ref qa, .ref qm, .ref qe])), (qr, .inr (4, [.ref hn, .ref hs, .ref hd, .ref hp, .ref hc, .int wy2, .int dn2])), (hd, .inr (1, [.ref hn, .ref h1, .ref h2, .ref h3, .ref h4])), (hp, .inr (3, [.ref he, .int (nI la2), .int (nI ke2)])), (qst, .inr (6, [.ref qsp, .int (nI cn2)])), (hn, .inl (cA, 34, .inl f2)), (hs, .inl (cA, 4096, .inl st2)), (h1, .inl (cA, 64, .inl pn2)), (h2, .inl (cA, 16, .inl wt2)), (h3, .inl (cA, 900, .inl rg2)), (h4, .inl (cA, 200, .inl pa2)), (he, .inl (cA, 10752, .inl en2)), (hc, .inl (cA, 257, .inl ct2)), (qsp, .inl (cA, 16, .inl sg2))]) := by
  refine mkI (lv0 := [(0, .ref h0), (1, .int a)]) (by decide) (Nat.le_of_ble_eq_true rfl) rfl ?_
  intro p e s m below meth c A ls X hr hlocks hnm hE hA hP hD hS hl
  have hx := X.1
  have hb := X.2.1
  refine lv_iload_n hx hb dX8_run_0 rfl (lv_at hl 1 rfl) ?_
  refine lv_iconst (v := 1) hx hb dX8_run_1 (by decide) ?_
  refine lv_icmp_lt (tgt := 12) hx hb dX8_run_2 (by decide) (fun c_2 => ?_) (fun c_2 => ?_)
  · skip
    refine lv_iconst (v := (-1)) hx hb dX8_run_12 (by decide) ?_
    exact endI X hr hlocks hP hD hS dX8_run_13 ⟨wy, dn, la, ke, cn, f, st, pn, wt, rg, pa, en, ct, sg, (-1), rfl, (by omega), (by omega), (by omega), hf, hst, hpn, hwt, hen, rfl⟩
  · skip
    refine lv_iload_n hx hb dX8_run_5 rfl (lv_at hl 1 rfl) ?_
    refine lv_sipush (v := 2000) hx hb dX8_run_6 (by decide) ?_
    refine lv_icmp_le (tgt := 14) hx hb dX8_run_9 (by decide) (fun c_9 => ?_) (fun c_9 => ?_)
    · skip
      obtain ⟨j, hj, ej⟩ := idx_le (n := 2000) (by decide) (fun q => c_2 (Int32.lt_trans q (by decide))) (Int32.not_lt.mpr c_9)
      rw [ej] at hl
      refine lv_aload_n hx hb dX8_run_14 rfl (lv_at hl 0 rfl) ?_
      refine k_get (C := RX8) (T := TX8) (N := 9) (ci := 8) (v := .ref qr) X hE hP 0 rfl rfl iX8 4 (by decide) w_314 rfl dX8_run_15 ?_
      refine lv_iload_n hx hb dX8_run_18 rfl (lv_at hl 1 rfl) ?_
      refine lv_aload_n hx hb dX8_run_19 rfl (lv_at hl 0 rfl) ?_
      refine k_get (C := RX8) (T := TX8) (N := 9) (ci := 8) (v := .ref qst) X hE hP 0 rfl rfl iX8 5 (by decide) w_319 rfl dX8_run_20 ?_
      refine kVi (n3 := 2) (As := [.int (nI j), .ref qst]) (rest := []) X hl.1 hE hP hD hS hA [(qr, .inr (4, [.ref hn, .ref hs, .ref hd, .ref hp, .ref hc, .int wy, .int dn])), (hd, .inr (1, [.ref hn, .ref h1, .ref h2, .ref h3, .ref h4])), (hp, .inr (3, [.ref he, .int (nI la), .int (nI ke)])), (qst, .inr (6, [.ref qsp, .int (nI cn)])), (hn, .inl (cA, 34, .inl f)), (hs, .inl (cA, 4096, .inl st)), (h1, .inl (cA, 64, .inl pn)), (h2, .inl (cA, 16, .inl wt)), (h3, .inl (cA, 900, .inl rg)), (h4, .inl (cA, 200, .inl pa)), (he, .inl (cA, 10752, .inl en)), (hc, .inl (cA, 257, .inl ct)), (qsp, .inl (cA, 16, .inl sg))] [(h0, .inr (8, [.ref hn, .ref hs, .ref hd, .ref hp, .ref qr, .ref qst, .ref qa, .ref qm, .ref qe]))] [1, 2, 3, 4, 5, 6, 7, 8, 9, 10, 11, 12, 13] [0] rfl rfl rfl (by decide) (by decide) (by decide) (c_s_doSteps l D cA cB qr hn hs hd hp hc h1 h2 h3 h4 he qst qsp wy dn la ke cn f st pn wt rg pa en ct sg j (by first | assumption | decide | rfl | omega) (by first | assumption | decide | rfl | omega) (by first | assumption | decide | rfl | omega) hf hst hpn hwt hen (by first | assumption | decide | rfl | omega)) w_321 w_66 w_320 w_322 w_323 0 (ci := 4) (T := TX4) (N := 7) rfl rfl (by decide +kernel) rfl rfl (Nat.le_of_ble_eq_true rfl) ⟨(Nat.le_of_ble_eq_true rfl), (Nat.le_of_ble_eq_true rfl)⟩ ⟨(Nat.le_of_ble_eq_true rfl), (Nat.le_of_ble_eq_true rfl)⟩ dX8_run_23 (fun r W1 H locs hw hP hD hS => ?_)
      obtain ⟨wy2_1, dn2_2, la2_3, ke2_4, cn2_5, f2_6, st2_7, pn2_8, wt2_9, rg2_10, pa2_11, en2_12, ct2_13, sg2_14, rv_15, er_24, hf_16, hf_17, hf_18, hf_19, hf_20, hf_21, hf_22, hf_23, rfl⟩ := hw
      have hP : va_P D classes [(h0, .inr (8, [.ref hn, .ref hs, .ref hd, .ref hp, .ref qr, .ref qst, .ref qa, .ref qm, .ref qe])), (qr, .inr (4, [.ref hn, .ref hs, .ref hd, .ref hp, .ref hc, .int wy2_1, .int dn2_2])), (hd, .inr (1, [.ref hn, .ref h1, .ref h2, .ref h3, .ref h4])), (hp, .inr (3, [.ref he, .int (nI la2_3), .int (nI ke2_4)])), (qst, .inr (6, [.ref qsp, .int (nI cn2_5)])), (hn, .inl (cA, 34, .inl f2_6)), (hs, .inl (cA, 4096, .inl st2_7)), (h1, .inl (cA, 64, .inl pn2_8)), (h2, .inl (cA, 16, .inl wt2_9)), (h3, .inl (cA, 900, .inl rg2_10)), (h4, .inl (cA, 200, .inl pa2_11)), (he, .inl (cA, 10752, .inl en2_12)), (hc, .inl (cA, 257, .inl ct2_13)), (qsp, .inl (cA, 16, .inl sg2_14))] H := hP
      have hD : va_D A [(h0, .inr (8, [.ref hn, .ref hs, .ref hd, .ref hp, .ref qr, .ref qst, .ref qa, .ref qm, .ref qe])), (qr, .inr (4, [.ref hn, .ref hs, .ref hd, .ref hp, .ref hc, .int wy2_1, .int dn2_2])), (hd, .inr (1, [.ref hn, .ref h1, .ref h2, .ref h3, .ref h4])), (hp, .inr (3, [.ref he, .int (nI la2_3), .int (nI ke2_4)])), (qst, .inr (6, [.ref qsp, .int (nI cn2_5)])), (hn, .inl (cA, 34, .inl f2_6)), (hs, .inl (cA, 4096, .inl st2_7)), (h1, .inl (cA, 64, .inl pn2_8)), (h2, .inl (cA, 16, .inl wt2_9)), (h3, .inl (cA, 900, .inl rg2_10)), (h4, .inl (cA, 200, .inl pa2_11)), (he, .inl (cA, 10752, .inl en2_12)), (hc, .inl (cA, 257, .inl ct2_13)), (qsp, .inl (cA, 16, .inl sg2_14))] := hD
      refine tk (y := rv_15) er_24 ?_
      exact endI X hr hlocks hP hD hS dX8_run_26 ⟨wy2_1, dn2_2, la2_3, ke2_4, cn2_5, f2_6, st2_7, pn2_8, wt2_9, rg2_10, pa2_11, en2_12, ct2_13, sg2_14, rv_15, rfl, (by omega), (by omega), (by omega), hf_19, hf_20, hf_21, hf_22, hf_23, rfl⟩
    · skip
      refine lv_iconst (v := (-1)) hx hb dX8_run_12 (by decide) ?_
      exact endI X hr hlocks hP hD hS dX8_run_13 ⟨wy, dn, la, ke, cn, f, st, pn, wt, rg, pa, en, ct, sg, (-1), rfl, (by omega), (by omega), (by omega), hf, hst, hpn, hwt, hen, rfl⟩
set_option maxHeartbeats 4000000 in
set_option maxRecDepth 100000 in
theorem c_s_register (l : Launch) (D : va_G) (cA cB : ClassId) (h0 : Nat) (hn : Nat) (hs : Nat) (hd : Nat) (hp : Nat) (qr : Nat) (qst : Nat) (qa : Nat) (qm : Nat) (qe : Nat) (hc : Nat) (h1 : Nat) (h2 : Nat) (h3 : Nat) (h4 : Nat) (he : Nat) (qsp : Nat) (wy : Int32) (dn : Int32) (la : Nat) (ke : Nat) (cn : Nat) (f : Nat → Int32) (st : Nat → Int32) (pn : Nat → Int32) (wt : Nat → Int32) (rg : Nat → Int32) (pa : Nat → Int32) (en : Nat → Int32) (ct : Nat → Int32) (sg : Nat → Int32) (a : Int32) (hla : la < 256) (hke : ke < 257) (hcn : cn < 17) (hf : okN f) (hst : ∀ j, j < 4096 → ∃ k : Nat, k < 256 ∧ st j = nI k) (hpn : ∀ j, j < 64 → ∃ k : Nat, k < 256 ∧ pn j = nI k) (hwt : ∀ j, j < 16 → ∃ k : Nat, k < 256 ∧ wt j = nI k) (hen : okE en) : CI l yX8_register cX8_register 2 (some .int) 0 0 0 0 D cA cB [.ref h0, .int a] [(h0, .inr (8, [.ref hn, .ref hs, .ref hd, .ref hp, .ref qr, .ref qst, .ref qa, .ref qm, .ref qe])), (qr, .inr (4, [.ref hn, .ref hs, .ref hd, .ref hp, .ref hc, .int wy, .int dn])), (hd, .inr (1, [.ref hn, .ref h1, .ref h2, .ref h3, .ref h4])), (hp, .inr (3, [.ref he, .int (nI la), .int (nI ke)])), (qst, .inr (6, [.ref qsp, .int (nI cn)])), (hn, .inl (cA, 34, .inl f)), (hs, .inl (cA, 4096, .inl st)), (h1, .inl (cA, 64, .inl pn)), (h2, .inl (cA, 16, .inl wt)), (h3, .inl (cA, 900, .inl rg)), (h4, .inl (cA, 200, .inl pa)), (he, .inl (cA, 10752, .inl en)), (hc, .inl (cA, 257, .inl ct)), (qsp, .inl (cA, 16, .inl sg))] (fun r W1 => ∃ (wy2 : Int32) (dn2 : Int32) (la2 : Nat) (ke2 : Nat) (cn2 : Nat) (f2 : Nat → Int32) (st2 : Nat → Int32) (pn2 : Nat → Int32) (wt2 : Nat → Int32) (rg2 : Nat → Int32) (pa2 : Nat → Int32) (en2 : Nat → Int32) (ct2 : Nat → Int32) (sg2 : Nat → Int32) (rv : Int32), r = rv ∧ (la2 < 256) ∧ (ke2 < 257) ∧ (cn2 < 17) ∧ (okN f2) ∧ (∀ j, j < 4096 → ∃ k : Nat, k < 256 ∧ st2 j = nI k) ∧ (∀ j, j < 64 → ∃ k : Nat, k < 256 ∧ pn2 j = nI k) ∧ (∀ j, j < 16 → ∃ k : Nat, k < 256 ∧ wt2 j = nI k) ∧ (okE en2) ∧ W1 = [(h0, .inr (8, [.ref hn, .ref hs, .ref hd, .ref hp, .ref qr, .ref qst, .ref qa, .ref qm, .ref qe])), (qr, .inr (4, [.ref hn, .ref hs, .ref hd, .ref hp, .ref hc, .int wy2, .int dn2])), (hd, .inr (1, [.ref hn, .ref h1, .ref h2, .ref h3, .ref h4])), (hp, .inr (3, [.ref he, .int (nI la2), .int (nI ke2)])), (qst, .inr (6, [.ref qsp, .int (nI cn2)])), (hn, .inl (cA, 34, .inl f2)), (hs, .inl (cA, 4096, .inl st2)), (h1, .inl (cA, 64, .inl pn2)), (h2, .inl (cA, 16, .inl wt2)), (h3, .inl (cA, 900, .inl rg2)), (h4, .inl (cA, 200, .inl pa2)), (he, .inl (cA, 10752, .inl en2)), (hc, .inl (cA, 257, .inl ct2)), (qsp, .inl (cA, 16, .inl sg2))]) := by
  refine mkI (lv0 := [(0, .ref h0), (1, .int a)]) (by decide) (Nat.le_of_ble_eq_true rfl) rfl ?_
  intro p e s m below meth c A ls X hr hlocks hnm hE hA hP hD hS hl
  have hx := X.1
  have hb := X.2.1
  refine lv_iload_n hx hb dX8_register_0 rfl (lv_at hl 1 rfl) ?_
  refine lv_if_lt (tgt := 19) hx hb dX8_register_1 (by decide) (fun c_1 => ?_) (fun c_1 => ?_)
  · skip
    refine lv_iconst (v := 0) hx hb dX8_register_19 (by decide) ?_
    exact endI X hr hlocks hP hD hS dX8_register_20 ⟨wy, dn, la, ke, cn, f, st, pn, wt, rg, pa, en, ct, sg, 0, rfl, (by omega), (by omega), (by omega), hf, hst, hpn, hwt, hen, rfl⟩
  · skip
    refine lv_iload_n hx hb dX8_register_4 rfl (lv_at hl 1 rfl) ?_
    refine lv_bipush (v := 7) hx hb dX8_register_5 (by decide) ?_
    refine lv_icmp_gt (tgt := 19) hx hb dX8_register_7 (by decide) (fun c_7 => ?_) (fun c_7 => ?_)
    · skip
      refine lv_iconst (v := 0) hx hb dX8_register_19 (by decide) ?_
      exact endI X hr hlocks hP hD hS dX8_register_20 ⟨wy, dn, la, ke, cn, f, st, pn, wt, rg, pa, en, ct, sg, 0, rfl, (by omega), (by omega), (by omega), hf, hst, hpn, hwt, hen, rfl⟩
    · skip
      obtain ⟨j, hj, ej⟩ := idx_le (n := 7) (by decide) c_1 c_7
      rw [ej] at hl
      refine lv_aload_n hx hb dX8_register_10 rfl (lv_at hl 0 rfl) ?_
      refine k_get (C := RX8) (T := TX8) (N := 9) (ci := 8) (v := .ref hn) X hE hP 0 rfl rfl iX8 0 (by decide) w_324 rfl dX8_register_11 ?_
      refine lv_iload_n hx hb dX8_register_14 rfl (lv_at hl 1 rfl) ?_
      refine k_ald (v := f j) X hE hP 5 rfl j rfl (by omega) (by decide) rfl dX8_register_15 ?_
      refine lv_goto (tgt := 20) hx hb dX8_register_16 (by decide) ?_
      exact endI X hr hlocks hP hD hS dX8_register_20 ⟨wy, dn, la, ke, cn, f, st, pn, wt, rg, pa, en, ct, sg, (f j), rfl, (by omega), (by omega), (by omega), hf, hst, hpn, hwt, hen, rfl⟩
set_option maxHeartbeats 4000000 in
set_option maxRecDepth 100000 in
theorem c_s_codes (l : Launch) (D : va_G) (cA cB : ClassId) (h0 : Nat) (hn : Nat) (hs : Nat) (hd : Nat) (hp : Nat) (qr : Nat) (qst : Nat) (qa : Nat) (qm : Nat) (qe : Nat) (hc : Nat) (h1 : Nat) (h2 : Nat) (h3 : Nat) (h4 : Nat) (he : Nat) (qsp : Nat) (wy : Int32) (dn : Int32) (la : Nat) (ke : Nat) (cn : Nat) (f : Nat → Int32) (st : Nat → Int32) (pn : Nat → Int32) (wt : Nat → Int32) (rg : Nat → Int32) (pa : Nat → Int32) (en : Nat → Int32) (ct : Nat → Int32) (sg : Nat → Int32) (a : Int32) (hla : la < 256) (hke : ke < 257) (hcn : cn < 17) (hf : okN f) (hst : ∀ j, j < 4096 → ∃ k : Nat, k < 256 ∧ st j = nI k) (hpn : ∀ j, j < 64 → ∃ k : Nat, k < 256 ∧ pn j = nI k) (hwt : ∀ j, j < 16 → ∃ k : Nat, k < 256 ∧ wt j = nI k) (hen : okE en) : CI l yX8_codes cX8_codes 2 (some .int) 0 0 0 0 D cA cB [.ref h0, .int a] [(h0, .inr (8, [.ref hn, .ref hs, .ref hd, .ref hp, .ref qr, .ref qst, .ref qa, .ref qm, .ref qe])), (qr, .inr (4, [.ref hn, .ref hs, .ref hd, .ref hp, .ref hc, .int wy, .int dn])), (hd, .inr (1, [.ref hn, .ref h1, .ref h2, .ref h3, .ref h4])), (hp, .inr (3, [.ref he, .int (nI la), .int (nI ke)])), (qst, .inr (6, [.ref qsp, .int (nI cn)])), (hn, .inl (cA, 34, .inl f)), (hs, .inl (cA, 4096, .inl st)), (h1, .inl (cA, 64, .inl pn)), (h2, .inl (cA, 16, .inl wt)), (h3, .inl (cA, 900, .inl rg)), (h4, .inl (cA, 200, .inl pa)), (he, .inl (cA, 10752, .inl en)), (hc, .inl (cA, 257, .inl ct)), (qsp, .inl (cA, 16, .inl sg))] (fun r W1 => ∃ (wy2 : Int32) (dn2 : Int32) (la2 : Nat) (ke2 : Nat) (cn2 : Nat) (f2 : Nat → Int32) (st2 : Nat → Int32) (pn2 : Nat → Int32) (wt2 : Nat → Int32) (rg2 : Nat → Int32) (pa2 : Nat → Int32) (en2 : Nat → Int32) (ct2 : Nat → Int32) (sg2 : Nat → Int32) (rv : Int32), r = rv ∧ (la2 < 256) ∧ (ke2 < 257) ∧ (cn2 < 17) ∧ (okN f2) ∧ (∀ j, j < 4096 → ∃ k : Nat, k < 256 ∧ st2 j = nI k) ∧ (∀ j, j < 64 → ∃ k : Nat, k < 256 ∧ pn2 j = nI k) ∧ (∀ j, j < 16 → ∃ k : Nat, k < 256 ∧ wt2 j = nI k) ∧ (okE en2) ∧ W1 = [(h0, .inr (8, [.ref hn, .ref hs, .ref hd, .ref hp, .ref qr, .ref qst, .ref qa, .ref qm, .ref qe])), (qr, .inr (4, [.ref hn, .ref hs, .ref hd, .ref hp, .ref hc, .int wy2, .int dn2])), (hd, .inr (1, [.ref hn, .ref h1, .ref h2, .ref h3, .ref h4])), (hp, .inr (3, [.ref he, .int (nI la2), .int (nI ke2)])), (qst, .inr (6, [.ref qsp, .int (nI cn2)])), (hn, .inl (cA, 34, .inl f2)), (hs, .inl (cA, 4096, .inl st2)), (h1, .inl (cA, 64, .inl pn2)), (h2, .inl (cA, 16, .inl wt2)), (h3, .inl (cA, 900, .inl rg2)), (h4, .inl (cA, 200, .inl pa2)), (he, .inl (cA, 10752, .inl en2)), (hc, .inl (cA, 257, .inl ct2)), (qsp, .inl (cA, 16, .inl sg2))]) := by
  refine mkI (lv0 := [(0, .ref h0), (1, .int a)]) (by decide) (Nat.le_of_ble_eq_true rfl) rfl ?_
  intro p e s m below meth c A ls X hr hlocks hnm hE hA hP hD hS hl
  have hx := X.1
  have hb := X.2.1
  refine lv_iload_n hx hb dX8_codes_0 rfl (lv_at hl 1 rfl) ?_
  refine lv_if_lt (tgt := 23) hx hb dX8_codes_1 (by decide) (fun c_1 => ?_) (fun c_1 => ?_)
  · skip
    refine lv_iconst (v := 0) hx hb dX8_codes_23 (by decide) ?_
    exact endI X hr hlocks hP hD hS dX8_codes_24 ⟨wy, dn, la, ke, cn, f, st, pn, wt, rg, pa, en, ct, sg, 0, rfl, (by omega), (by omega), (by omega), hf, hst, hpn, hwt, hen, rfl⟩
  · skip
    refine lv_iload_n hx hb dX8_codes_4 rfl (lv_at hl 1 rfl) ?_
    refine lv_sipush (v := 256) hx hb dX8_codes_5 (by decide) ?_
    refine lv_icmp_gt (tgt := 23) hx hb dX8_codes_8 (by decide) (fun c_8 => ?_) (fun c_8 => ?_)
    · skip
      refine lv_iconst (v := 0) hx hb dX8_codes_23 (by decide) ?_
      exact endI X hr hlocks hP hD hS dX8_codes_24 ⟨wy, dn, la, ke, cn, f, st, pn, wt, rg, pa, en, ct, sg, 0, rfl, (by omega), (by omega), (by omega), hf, hst, hpn, hwt, hen, rfl⟩
    · skip
      obtain ⟨j, hj, ej⟩ := idx_le (n := 256) (by decide) c_1 c_8
      rw [ej] at hl
      refine lv_aload_n hx hb dX8_codes_11 rfl (lv_at hl 0 rfl) ?_
      refine k_get (C := RX8) (T := TX8) (N := 9) (ci := 8) (v := .ref qr) X hE hP 0 rfl rfl iX8 4 (by decide) w_314 rfl dX8_codes_12 ?_
      refine k_getN (C := RX4) (T := TX4) (N := 7) (ci := 4) (v := .ref hc) X hE hP 1 rfl rfl iX4 4 (by decide) nw_5 rfl dX8_codes_15 ?_
      refine lv_iload_n hx hb dX8_codes_18 rfl (lv_at hl 1 rfl) ?_
      refine k_ald (v := ct j) X hE hP 12 rfl j rfl (by omega) (by decide) rfl dX8_codes_19 ?_
      refine lv_goto (tgt := 24) hx hb dX8_codes_20 (by decide) ?_
      exact endI X hr hlocks hP hD hS dX8_codes_24 ⟨wy, dn, la, ke, cn, f, st, pn, wt, rg, pa, en, ct, sg, (ct j), rfl, (by omega), (by omega), (by omega), hf, hst, hpn, hwt, hen, rfl⟩
