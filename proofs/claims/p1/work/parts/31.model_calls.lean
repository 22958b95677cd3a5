abbrev cX9_in : ByteArray := prog_11_method_3_code
def yX9_in : MethodName := ⟨RX9, "in", "(III)Z"⟩
abbrev cX9_isByte : ByteArray := prog_11_method_4_code
def yX9_isByte : MethodName := ⟨RX9, "isByte", "(I)Z"⟩
abbrev cX9_flag : ByteArray := prog_11_method_2_code
def yX9_flag : MethodName := ⟨RX9, "flag", "(Z)I"⟩
abbrev cX9_peek : ByteArray := prog_11_method_97_code
def yX9_peek : MethodName := ⟨RX9, "peek", "(I)I"⟩
set_option maxRecDepth 100000 in
theorem w_419 : (Cond.methodLink "BelfryBoxModel" 85 yX9_in : Cond) ∈ gw := List.mem_filter.mpr ⟨List.mem_append_right _ (tb6 (List.mem_of_getElem? (i := 69) rfl)), rfl⟩
set_option maxRecDepth 100000 in
theorem w_420 : (Cond.code yX9_in prog_11_method_3_code 3 (Option.some Jvm.ClassFile.FieldType.boolean) : Cond) ∈ gw := List.mem_filter.mpr ⟨List.mem_append_right _ (tb6 (List.mem_of_getElem? (i := 71) rfl)), rfl⟩
set_option maxRecDepth 100000 in
theorem w_421 : (Cond.static yX9_in : Cond) ∈ gw := List.mem_filter.mpr ⟨List.mem_append_right _ (tb6 (List.mem_of_getElem? (i := 70) rfl)), rfl⟩
theorem dX9_in_0 : decode cX9_in 0 = .ok (.iload_n 0, 1) := by decide +kernel
theorem dX9_in_1 : decode cX9_in 1 = .ok (.iload_n 1, 1) := by decide +kernel
theorem dX9_in_2 : decode cX9_in 2 = .ok (.if_icmp .lt 12, 3) := by decide +kernel
theorem dX9_in_14 : decode cX9_in 14 = .ok (.iconst 0, 1) := by decide +kernel
theorem dX9_in_15 : decode cX9_in 15 = .ok (.ireturn, 1) := by decide +kernel
theorem dX9_in_5 : decode cX9_in 5 = .ok (.iload_n 0, 1) := by decide +kernel
theorem dX9_in_6 : decode cX9_in 6 = .ok (.iload_n 2, 1) := by decide +kernel
theorem dX9_in_7 : decode cX9_in 7 = .ok (.if_icmp .gt 7, 3) := by decide +kernel
theorem dX9_in_10 : decode cX9_in 10 = .ok (.iconst 1, 1) := by decide +kernel
theorem dX9_in_11 : decode cX9_in 11 = .ok (.goto 4, 3) := by decide +kernel
theorem dX9_isByte_0 : decode cX9_isByte 0 = .ok (.iload_n 0, 1) := by decide +kernel
theorem dX9_isByte_1 : decode cX9_isByte 1 = .ok (.iconst 0, 1) := by decide +kernel
theorem dX9_isByte_2 : decode cX9_isByte 2 = .ok (.sipush 255, 3) := by decide +kernel
theorem dX9_isByte_5 : decode cX9_isByte 5 = .ok (.invokestatic 85, 3) := by decide +kernel
theorem dX9_isByte_8 : decode cX9_isByte 8 = .ok (.ireturn, 1) := by decide +kernel
theorem dX9_flag_0 : decode cX9_flag 0 = .ok (.iload_n 0, 1) := by decide +kernel
theorem dX9_flag_1 : decode cX9_flag 1 = .ok (.ifCond .eq 7, 3) := by decide +kernel
theorem dX9_flag_8 : decode cX9_flag 8 = .ok (.iconst 0, 1) := by decide +kernel
theorem dX9_flag_9 : decode cX9_flag 9 = .ok (.ireturn, 1) := by decide +kernel
theorem dX9_flag_4 : decode cX9_flag 4 = .ok (.iconst 1, 1) := by decide +kernel
theorem dX9_flag_5 : decode cX9_flag 5 = .ok (.goto 4, 3) := by decide +kernel
theorem dX9_peek_0 : decode cX9_peek 0 = .ok (.iload_n 1, 1) := by decide +kernel
theorem dX9_peek_1 : decode cX9_peek 1 = .ok (.iconst 0, 1) := by decide +kernel
theorem dX9_peek_2 : decode cX9_peek 2 = .ok (.sipush 4095, 3) := by decide +kernel
theorem dX9_peek_5 : decode cX9_peek 5 = .ok (.invokestatic 85, 3) := by decide +kernel
theorem dX9_peek_8 : decode cX9_peek 8 = .ok (.ifCond .eq 12, 3) := by decide +kernel
theorem dX9_peek_20 : decode cX9_peek 20 = .ok (.iconst (-1), 1) := by decide +kernel
theorem dX9_peek_21 : decode cX9_peek 21 = .ok (.ireturn, 1) := by decide +kernel
theorem dX9_peek_11 : decode cX9_peek 11 = .ok (.aload_n 0, 1) := by decide +kernel
theorem dX9_peek_12 : decode cX9_peek 12 = .ok (.getfield 17, 3) := by decide +kernel
theorem dX9_peek_15 : decode cX9_peek 15 = .ok (.iload_n 1, 1) := by decide +kernel
theorem dX9_peek_16 : decode cX9_peek 16 = .ok (.iaload, 1) := by decide +kernel
theorem dX9_peek_17 : decode cX9_peek 17 = .ok (.goto 4, 3) := by decide +kernel
/-! what the reference's calls answer on a fresh object, in its own cases -/
def inM (k lo hi : Int32) : Int32 := if k < lo then 0 else if hi < k then 0 else 1
def flg (o : Int32) : Int32 := if o = 0 then 0 else 1
theorem inM_nar (k lo hi : Int32) : narrow .boolean (.int (inM k lo hi)) = .int (inM k lo hi) := by
  unfold inM
  by_cases h : k < lo
  · rw [if_pos h]; rfl
  · rw [if_neg h]
    by_cases h2 : hi < k
    · rw [if_pos h2]; rfl
    · rw [if_neg h2]; rfl
theorem inM_spl {k lo hi : Int32} (h : ¬ inM k lo hi = 0) : ¬ k < lo ∧ ¬ hi < k := by
  unfold inM at h
  by_cases h1 : k < lo
  · rw [if_pos h1] at h; exact absurd rfl h
  · rw [if_neg h1] at h
    by_cases h2 : hi < k
    · rw [if_pos h2] at h; exact absurd rfl h
    · exact ⟨h1, h2⟩
theorem inM_idx {k : Int32} {n : Nat} (hn : n < 2 ^ 30) (h : ¬ inM k 0 (nI n) = 0) : ∃ j : Nat, j ≤ n ∧ k = nI j := idx_le hn (inM_spl h).1 (inM_spl h).2
theorem inM_rng {k : Int32} {lo hi : Nat} (hh : hi < 2 ^ 30) (hl : lo ≤ hi) (h : ¬ inM k (nI lo) (nI hi) = 0) : ∃ j : Nat, lo ≤ j ∧ j ≤ hi ∧ k = nI j := by
  obtain ⟨h1, h2⟩ := inM_spl h
  have h0 : ¬ k < 0 := fun q => h1 (Int32.lt_of_lt_of_le q (nI_pos' (by omega)))
  obtain ⟨j, hj, rfl⟩ := idx_le hh h0 h2
  refine ⟨j, ?_, hj, rfl⟩
  rcases Nat.lt_or_ge j lo with q | q
  · exact absurd (nI_lt q (by omega)) h1
  · exact q
theorem inM_none (k : Int32) : inM k 0 (-1) = 0 := by
  unfold inM
  by_cases h : k < 0
  · rw [if_pos h]
  · rw [if_neg h, if_pos (Int32.lt_of_lt_of_le (by decide) (Int32.not_lt.mp h))]
theorem inM_10 (k : Int32) : inM k 1 0 = 0 := by
  unfold inM
  by_cases h : k < 1
  · rw [if_pos h]
  · rw [if_neg h, if_pos (Int32.lt_of_lt_of_le (by decide) (Int32.not_lt.mp h))]
def m_peek (a : Int32) : Int32 := if inM a 0 4095 = 0 then -1 else 0
set_option maxHeartbeats 4000000 in
set_option maxRecDepth 100000 in
theorem c_m_in (l : Launch) (D : va_G) (cA cB : ClassId) (a : Int32) (b : Int32) (d : Int32)  : CI l yX9_in cX9_in 3 (some .boolean) 0 0 0 0 D cA cB [.int a, .int b, .int d] [] (fun r W1 => r = (inM a b d) ∧ W1 = []) := by
  refine mkI (lv0 := [(0, .int a), (1, .int b), (2, .int d)]) (by decide) (Nat.le_of_ble_eq_true rfl) rfl ?_
  intro p e s m below meth c A ls X hr hlocks hnm hE hA hP hD hS hl
  have hx := X.1
  have hb := X.2.1
  refine lv_iload_n hx hb dX9_in_0 rfl (lv_at hl 0 rfl) ?_
  refine lv_iload_n hx hb dX9_in_1 rfl (lv_at hl 1 rfl) ?_
  refine lv_icmp_lt (tgt := 14) hx hb dX9_in_2 (by decide) (fun c_2 => ?_) (fun c_2 => ?_)
  · skip
    refine lv_iconst (v := 0) hx hb dX9_in_14 (by decide) ?_
    exact endZ X hr rfl hlocks hP hD hS dX9_in_15 ⟨(by unfold inM; rw [if_pos c_2]), rfl⟩
  · skip
    refine lv_iload_n hx hb dX9_in_5 rfl (lv_at hl 0 rfl) ?_
    refine lv_iload_n hx hb dX9_in_6 rfl (lv_at hl 2 rfl) ?_
    refine lv_icmp_gt (tgt := 14) hx hb dX9_in_7 (by decide) (fun c_7 => ?_) (fun c_7 => ?_)
    · skip
      refine lv_iconst (v := 0) hx hb dX9_in_14 (by decide) ?_
      exact endZ X hr rfl hlocks hP hD hS dX9_in_15 ⟨(by unfold inM; rw [if_neg c_2, if_pos c_7]), rfl⟩
    · skip
      refine lv_iconst (v := 1) hx hb dX9_in_10 (by decide) ?_
      refine lv_goto (tgt := 15) hx hb dX9_in_11 (by decide) ?_
      exact endZ X hr rfl hlocks hP hD hS dX9_in_15 ⟨(by unfold inM; rw [if_neg c_2, if_neg c_7]), rfl⟩
set_option maxHeartbeats 4000000 in
set_option maxRecDepth 100000 in
theorem c_m_isByte (l : Launch) (D : va_G) (cA cB : ClassId) (a : Int32)  : CI l yX9_isByte cX9_isByte 1 (some .boolean) 1 22 0 0 D cA cB [.int a] [] (fun r W1 => r = (inM a 0 255) ∧ W1 = []) := by
  refine mkI (lv0 := [(0, .int a)]) (by decide) (Nat.le_of_ble_eq_true rfl) rfl ?_
  intro p e s m below meth c A ls X hr hlocks hnm hE hA hP hD hS hl
  have hx := X.1
  have hb := X.2.1
  refine lv_iload_n hx hb dX9_isByte_0 rfl (lv_at hl 0 rfl) ?_
  refine lv_iconst (v := 0) hx hb dX9_isByte_1 (by decide) ?_
  refine lv_sipush (v := 255) hx hb dX9_isByte_2 (by decide) ?_
  refine kSi (n3 := 3) (As := [.int a, .int 0, .int 255]) (rest := []) X hl.1 hE hP hD hS hA [] [] [] [] rfl rfl rfl (by decide) (by decide) (by decide) (c_m_in l D cA cB a 0 255 ) w_420 w_387 w_419 w_421 (by decide +kernel) rfl rfl (Nat.le_of_ble_eq_true rfl) ⟨(Nat.le_of_ble_eq_true rfl), (Nat.le_of_ble_eq_true rfl)⟩ ⟨(Nat.le_of_ble_eq_true rfl), (Nat.le_of_ble_eq_true rfl)⟩ dX9_isByte_5 (fun r W1 H locs hw hP hD hS => ?_)
  obtain ⟨rfl, rfl⟩ := hw
  have hP : va_P D classes [] H := hP
  have hD : va_D A [] := hD
  exact endZ X hr (inM_nar _ _ _) hlocks hP hD hS dX9_isByte_8 ⟨rfl, rfl⟩
set_option maxHeartbeats 4000000 in
set_option maxRecDepth 100000 in
theorem c_m_flag (l : Launch) (D : va_G) (cA cB : ClassId) (a : Int32)  : CI l yX9_flag cX9_flag 1 (some .int) 0 0 0 0 D cA cB [.int a] [] (fun r W1 => r = (flg a) ∧ W1 = []) := by
  refine mkI (lv0 := [(0, .int a)]) (by decide) (Nat.le_of_ble_eq_true rfl) rfl ?_
  intro p e s m below meth c A ls X hr hlocks hnm hE hA hP hD hS hl
  have hx := X.1
  have hb := X.2.1
  refine lv_iload_n hx hb dX9_flag_0 rfl (lv_at hl 0 rfl) ?_
  refine lv_if_eq (tgt := 8) hx hb dX9_flag_1 (by decide) (fun c_1 => ?_) (fun c_1 => ?_)
  · skip
    refine lv_iconst (v := 0) hx hb dX9_flag_8 (by decide) ?_
    exact endI X hr hlocks hP hD hS dX9_flag_9 ⟨(by unfold flg; rw [if_pos c_1]), rfl⟩
  · skip
    refine lv_iconst (v := 1) hx hb dX9_flag_4 (by decide) ?_
    refine lv_goto (tgt := 9) hx hb dX9_flag_5 (by decide) ?_
    exact endI X hr hlocks hP hD hS dX9_flag_9 ⟨(by unfold flg; rw [if_neg c_1]), rfl⟩
set_option maxHeartbeats 4000000 in
set_option maxRecDepth 100000 in
theorem c_m_peek (l : Launch) (D : va_G) (cA cB : ClassId) (h0 : Nat) (mwords : Nat) (mstore : Nat) (mkeys : Nat) (mrests : Nat) (mring : Nat) (mstrip : Nat) (mpins : Nat) (mstops : Nat) (mdone : Nat) (mkept : Nat) (mtape : Nat) (mnameValue : Nat) (mnamePlace : Nat) (mnameEquals : Nat) (mout : Nat) (mtellFrom : Nat) (mtellEnd : Nat) (mtellValue : Nat) (mtellEquals : Nat) (mlaid : Nat) (a : Int32)  : CI l yX9_peek cX9_peek 2 (some .int) 1 22 0 0 D cA cB [.ref h0, .int a] [(h0, .inr (9, [.ref mwords, .ref mstore, .int 0, .int 0, .int 0, .int 255, .int 0, .int 0, .int 0, .int 1, .int 0, .int 0, .int 0, .int 0, .int 0, .int 0, .int 0, .int 0, .int 0, .int 0, .int 0, .int 0, .int 0, .int 0, .int 1, .int 0, .ref mkeys, .ref mrests, .int 0, .int 0, .int 0, .int 0, .int 0, .ref mring, .ref mstrip, .ref mpins, .ref mstops, .int 0, .int 0, .int 0, .ref mdone, .ref mkept, .int 0, .int 0, .int 0, .int 0, .ref mtape, .int 0, .int (-1), .int (-1), .ref mnameValue, .ref mnamePlace, .ref mnameEquals, .int 0, .ref mout, .int 0, .int 0, .int 0, .int 0, .int 0, .int 0, .int 0, .int 0, .int 0, .int 0, .int 0, .int 0, .int 0, .int 0, .int 0, .ref mtellFrom, .ref mtellEnd, .ref mtellValue, .ref mtellEquals, .ref mlaid, .int 0, .int 0, .int 0, .int 0])), (mstore, .inl (cA, 4096, .inl (fun _ => 0)))] (fun r W1 => r = (m_peek a)) := by
  refine mkI (lv0 := [(0, .ref h0), (1, .int a)]) (by decide) (Nat.le_of_ble_eq_true rfl) rfl ?_
  intro p e s m below meth c A ls X hr hlocks hnm hE hA hP hD hS hl
  have hx := X.1
  have hb := X.2.1
  refine lv_iload_n hx hb dX9_peek_0 rfl (lv_at hl 1 rfl) ?_
  refine lv_iconst (v := 0) hx hb dX9_peek_1 (by decide) ?_
  refine lv_sipush (v := 4095) hx hb dX9_peek_2 (by decide) ?_
  refine kSi (n3 := 3) (As := [.int a, .int 0, .int 4095]) (rest := []) X hl.1 hE hP hD hS hA [] [(h0, .inr (9, [.ref mwords, .ref mstore, .int 0, .int 0, .int 0, .int 255, .int 0, .int 0, .int 0, .int 1, .int 0, .int 0, .int 0, .int 0, .int 0, .int 0, .int 0, .int 0, .int 0, .int 0, .int 0, .int 0, .int 0, .int 0, .int 1, .int 0, .ref mkeys, .ref mrests, .int 0, .int 0, .int 0, .int 0, .int 0, .ref mring, .ref mstrip, .ref mpins, .ref mstops, .int 0, .int 0, .int 0, .ref mdone, .ref mkept, .int 0, .int 0, .int 0, .int 0, .ref mtape, .int 0, .int (-1), .int (-1), .ref mnameValue, .ref mnamePlace, .ref mnameEquals, .int 0, .ref mout, .int 0, .int 0, .int 0, .int 0, .int 0, .int 0, .int 0, .int 0, .int 0, .int 0, .int 0, .int 0, .int 0, .int 0, .int 0, .ref mtellFrom, .ref mtellEnd, .ref mtellValue, .ref mtellEquals, .ref mlaid, .int 0, .int 0, .int 0, .int 0])), (mstore, .inl (cA, 4096, .inl (fun _ => 0)))] [] [0, 1] rfl rfl rfl (by decide) (by decide) (by decide) (c_m_in l D cA cB a 0 4095 ) w_420 w_387 w_419 w_421 (by decide +kernel) rfl rfl (Nat.le_of_ble_eq_true rfl) ⟨(Nat.le_of_ble_eq_true rfl), (Nat.le_of_ble_eq_true rfl)⟩ ⟨(Nat.le_of_ble_eq_true rfl), (Nat.le_of_ble_eq_true rfl)⟩ dX9_peek_5 (fun r W1 H locs hw hP hD hS => ?_)
  obtain ⟨rfl, rfl⟩ := hw
  have hP : va_P D classes [(h0, .inr (9, [.ref mwords, .ref mstore, .int 0, .int 0, .int 0, .int 255, .int 0, .int 0, .int 0, .int 1, .int 0, .int 0, .int 0, .int 0, .int 0, .int 0, .int 0, .int 0, .int 0, .int 0, .int 0, .int 0, .int 0, .int 0, .int 1, .int 0, .ref mkeys, .ref mrests, .int 0, .int 0, .int 0, .int 0, .int 0, .ref mring, .ref mstrip, .ref mpins, .ref mstops, .int 0, .int 0, .int 0, .ref mdone, .ref mkept, .int 0, .int 0, .int 0, .int 0, .ref mtape, .int 0, .int (-1), .int (-1), .ref mnameValue, .ref mnamePlace, .ref mnameEquals, .int 0, .ref mout, .int 0, .int 0, .int 0, .int 0, .int 0, .int 0, .int 0, .int 0, .int 0, .int 0, .int 0, .int 0, .int 0, .int 0, .int 0, .ref mtellFrom, .ref mtellEnd, .ref mtellValue, .ref mtellEquals, .ref mlaid, .int 0, .int 0, .int 0, .int 0])), (mstore, .inl (cA, 4096, .inl (fun _ => 0)))] H := hP
  have hD : va_D A [(h0, .inr (9, [.ref mwords, .ref mstore, .int 0, .int 0, .int 0, .int 255, .int 0, .int 0, .int 0, .int 1, .int 0, .int 0, .int 0, .int 0, .int 0, .int 0, .int 0, .int 0, .int 0, .int 0, .int 0, .int 0, .int 0, .int 0, .int 1, .int 0, .ref mkeys, .ref mrests, .int 0, .int 0, .int 0, .int 0, .int 0, .ref mring, .ref mstrip, .ref mpins, .ref mstops, .int 0, .int 0, .int 0, .ref mdone, .ref mkept, .int 0, .int 0, .int 0, .int 0, .ref mtape, .int 0, .int (-1), .int (-1), .ref mnameValue, .ref mnamePlace, .ref mnameEquals, .int 0, .ref mout, .int 0, .int 0, .int 0, .int 0, .int 0, .int 0, .int 0, .int 0, .int 0, .int 0, .int 0, .int 0, .int 0, .int 0, .int 0, .ref mtellFrom, .ref mtellEnd, .ref mtellValue, .ref mtellEquals, .ref mlaid, .int 0, .int 0, .int 0, .int 0])), (mstore, .inl (cA, 4096, .inl (fun _ => 0)))] := hD
  refine lv_if_eq (tgt := 20) hx hb dX9_peek_8 (by decide) (fun c_8 => ?_) (fun c_8 => ?_)
  · skip
    refine lv_iconst (v := (-1)) hx hb dX9_peek_20 (by decide) ?_
    exact endI X hr hlocks hP hD hS dX9_peek_21 (by unfold m_peek; rw [if_pos c_8])
  · skip
    obtain ⟨j, hj, ej⟩ := inM_idx (n := 4095) (by decide) c_8
    refine lv_aload_n hx hb dX9_peek_11 rfl (lv_at hl 0 rfl) ?_
    refine k_get (C := RX9) (T := TX9) (N := 79) (ci := 9) (v := .ref mstore) X hE hP 0 rfl rfl iX9 1 (by decide) w_354 rfl dX9_peek_12 ?_
    refine lv_iload_n hx hb dX9_peek_15 rfl (lv_at hl 1 rfl) ?_
    refine k_ald (v := 0) X hE hP 1 rfl j ej (by omega) (by decide) rfl dX9_peek_16 ?_
    refine lv_goto (tgt := 21) hx hb dX9_peek_17 (by decide) ?_
    exact endI X hr hlocks hP hD hS dX9_peek_21 (by unfold m_peek; rw [if_neg c_8])
