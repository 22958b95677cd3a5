set_option maxHeartbeats 4000000 in
set_option maxRecDepth 100000 in
theorem c_k_isLetter (l : Launch) (D : va_G) (cA cB : ClassId) (a : Int32)  : CI l yX7_isLetter cX7_isLetter 1 (some .boolean) 0 0 0 0 D cA cB [.int a] [] (fun r W1 => r = (inM a 97 122) ∧ W1 = []) := by
  refine mkI (lv0 := [(0, .int a)]) (by decide) (Nat.le_of_ble_eq_true rfl) rfl ?_
  intro p e s m below meth c A ls X hr hlocks hnm hE hA hP hD hS hl
  have hx := X.1
  have hb := X.2.1
  refine qW (fun Q9 hQ9 => ?_)
  refine lv_iload_n hx hb dX7_isLetter_0 rfl (lv_at hl 0 rfl) ?_
  refine lv_bipush (v := 97) hx hb dX7_isLetter_1 (by decide) ?_
  refine lv_icmp_lt (tgt := 16) hx hb dX7_isLetter_3 (by decide) (fun c_3 => ?_) (fun c_3 => ?_)
  · skip
    refine lv_iconst (v := 0) hx hb dX7_isLetter_16 (by decide) ?_
    rw [hQ9]
    exact endZ X hr rfl hlocks hP hD hS dX7_isLetter_17 ⟨(if_pos c_3).symm, rfl⟩
  · skip
    refine lv_iload_n hx hb dX7_isLetter_6 rfl (lv_at hl 0 rfl) ?_
    refine lv_bipush (v := 122) hx hb dX7_isLetter_7 (by decide) ?_
    refine lv_icmp_gt (tgt := 16) hx hb dX7_isLetter_9 (by decide) (fun c_9 => ?_) (fun c_9 => ?_)
    · skip
      refine lv_iconst (v := 0) hx hb dX7_isLetter_16 (by decide) ?_
      rw [hQ9]
      exact endZ X hr rfl hlocks hP hD hS dX7_isLetter_17 ⟨((if_neg c_3).trans (if_pos c_9)).symm, rfl⟩
    · skip
      refine lv_iconst (v := 1) hx hb dX7_isLetter_12 (by decide) ?_
      refine lv_goto (tgt := 17) hx hb dX7_isLetter_13 (by decide) ?_
      rw [hQ9]
      exact endZ X hr rfl hlocks hP hD hS dX7_isLetter_17 ⟨((if_neg c_3).trans (if_neg c_9)).symm, rfl⟩
set_option maxHeartbeats 4000000 in
set_option maxRecDepth 100000 in
theorem c_k_isDecimal (l : Launch) (D : va_G) (cA cB : ClassId) (a : Int32)  : CI l yX7_isDecimal cX7_isDecimal 1 (some .boolean) 0 0 0 0 D cA cB [.int a] [] (fun r W1 => r = (inM a 48 57) ∧ W1 = []) := by
  refine mkI (lv0 := [(0, .int a)]) (by decide) (Nat.le_of_ble_eq_true rfl) rfl ?_
  intro p e s m below meth c A ls X hr hlocks hnm hE hA hP hD hS hl
  have hx := X.1
  have hb := X.2.1
  refine qW (fun Q9 hQ9 => ?_)
  refine lv_iload_n hx hb dX7_isDecimal_0 rfl (lv_at hl 0 rfl) ?_
  refine lv_bipush (v := 48) hx hb dX7_isDecimal_1 (by decide) ?_
  refine lv_icmp_lt (tgt := 16) hx hb dX7_isDecimal_3 (by decide) (fun c_3 => ?_) (fun c_3 => ?_)
  · skip
    refine lv_iconst (v := 0) hx hb dX7_isDecimal_16 (by decide) ?_
    rw [hQ9]
    exact endZ X hr rfl hlocks hP hD hS dX7_isDecimal_17 ⟨(if_pos c_3).symm, rfl⟩
  · skip
    refine lv_iload_n hx hb dX7_isDecimal_6 rfl (lv_at hl 0 rfl) ?_
    refine lv_bipush (v := 57) hx hb dX7_isDecimal_7 (by decide) ?_
    refine lv_icmp_gt (tgt := 16) hx hb dX7_isDecimal_9 (by decide) (fun c_9 => ?_) (fun c_9 => ?_)
    · skip
      refine lv_iconst (v := 0) hx hb dX7_isDecimal_16 (by decide) ?_
      rw [hQ9]
      exact endZ X hr rfl hlocks hP hD hS dX7_isDecimal_17 ⟨((if_neg c_3).trans (if_pos c_9)).symm, rfl⟩
    · skip
      refine lv_iconst (v := 1) hx hb dX7_isDecimal_12 (by decide) ?_
      refine lv_goto (tgt := 17) hx hb dX7_isDecimal_13 (by decide) ?_
      rw [hQ9]
      exact endZ X hr rfl hlocks hP hD hS dX7_isDecimal_17 ⟨((if_neg c_3).trans (if_neg c_9)).symm, rfl⟩
set_option maxHeartbeats 4000000 in
set_option maxRecDepth 100000 in
theorem c_k_digit (l : Launch) (D : va_G) (cA cB : ClassId) (a : Int32)  : CI l yX7_digit cX7_digit 1 (some .int) 0 0 0 0 D cA cB [.int a] [] (fun r W1 => ∃ (rv : Int32), r = rv ∧ ((∃ d : Nat, d < 10 ∧ rv = nI d ∧ ¬ inM a 48 57 = 0 ∧ dgv a = nI d) ∨ (∃ d : Nat, 10 ≤ d ∧ d < 16 ∧ rv = nI d ∧ inM a 48 57 = 0 ∧ ¬ inM a 97 102 = 0 ∧ dgv a = nI d) ∨ (rv = -1 ∧ inM a 48 57 = 0 ∧ inM a 97 102 = 0)) ∧ W1 = []) := by
  refine mkI (lv0 := [(0, .int a)]) (by decide) (Nat.le_of_ble_eq_true rfl) rfl ?_
  intro p e s m below meth c A ls X hr hlocks hnm hE hA hP hD hS hl
  have hx := X.1
  have hb := X.2.1
  refine qW (fun Q9 hQ9 => ?_)
  refine lv_iload_n hx hb dX7_digit_0 rfl (lv_at hl 0 rfl) ?_
  refine lv_bipush (v := 48) hx hb dX7_digit_1 (by decide) ?_
  refine lv_icmp_lt (tgt := 17) hx hb dX7_digit_3 (by decide) (fun c_3 => ?_) (fun c_3 => ?_)
  · skip
    refine lv_iload_n hx hb dX7_digit_17 rfl (lv_at hl 0 rfl) ?_
    refine lv_bipush (v := 97) hx hb dX7_digit_18 (by decide) ?_
    refine lv_icmp_lt (tgt := 39) hx hb dX7_digit_20 (by decide) (fun c_20 => ?_) (fun c_20 => ?_)
    · skip
      refine lv_iconst (v := (-1)) hx hb dX7_digit_39 (by decide) ?_
      rw [hQ9]
      exact endI X hr hlocks hP hD hS dX7_digit_40 ⟨(-1), rfl, (Or.inr (Or.inr ⟨rfl, (inM_l c_3), inM_l c_20⟩)), rfl⟩
    · skip
      refine lv_iload_n hx hb dX7_digit_23 rfl (lv_at hl 0 rfl) ?_
      refine lv_bipush (v := 102) hx hb dX7_digit_24 (by decide) ?_
      refine lv_icmp_gt (tgt := 39) hx hb dX7_digit_26 (by decide) (fun c_26 => ?_) (fun c_26 => ?_)
      · skip
        refine lv_iconst (v := (-1)) hx hb dX7_digit_39 (by decide) ?_
        rw [hQ9]
        exact endI X hr hlocks hP hD hS dX7_digit_40 ⟨(-1), rfl, (Or.inr (Or.inr ⟨rfl, (inM_l c_3), inM_h c_26⟩)), rfl⟩
      · skip
        refine lv_iload_n hx hb dX7_digit_29 rfl (lv_at hl 0 rfl) ?_
        refine lv_bipush (v := 97) hx hb dX7_digit_30 (by decide) ?_
        refine lv_isub hx hb dX7_digit_32 ?_
        refine lv_bipush (v := 10) hx hb dX7_digit_33 (by decide) ?_
        refine lv_iadd hx hb dX7_digit_35 ?_
        refine lv_goto (tgt := 40) hx hb dX7_digit_36 (by decide) ?_
        rw [hQ9]
        exact endI X hr hlocks hP hD hS dX7_digit_40 ⟨((a - 97) + 10), rfl, (Or.inr (Or.inl (by have hi := inM_1 (lo := 97) (hi := 102) c_20 c_26; obtain ⟨d, h0, h1, h2⟩ := dv2 hi; exact ⟨d, h0, h1, h2, (inM_l c_3), hi, by unfold dgv; rw [if_pos (inM_l c_3)]; exact h2⟩))), rfl⟩
  · skip
    refine lv_iload_n hx hb dX7_digit_6 rfl (lv_at hl 0 rfl) ?_
    refine lv_bipush (v := 57) hx hb dX7_digit_7 (by decide) ?_
    refine lv_icmp_gt (tgt := 17) hx hb dX7_digit_9 (by decide) (fun c_9 => ?_) (fun c_9 => ?_)
    · skip
      refine lv_iload_n hx hb dX7_digit_17 rfl (lv_at hl 0 rfl) ?_
      refine lv_bipush (v := 97) hx hb dX7_digit_18 (by decide) ?_
      refine lv_icmp_lt (tgt := 39) hx hb dX7_digit_20 (by decide) (fun c_20 => ?_) (fun c_20 => ?_)
      · skip
        refine lv_iconst (v := (-1)) hx hb dX7_digit_39 (by decide) ?_
        rw [hQ9]
        exact endI X hr hlocks hP hD hS dX7_digit_40 ⟨(-1), rfl, (Or.inr (Or.inr ⟨rfl, (inM_h c_9), inM_l c_20⟩)), rfl⟩
      · skip
        refine lv_iload_n hx hb dX7_digit_23 rfl (lv_at hl 0 rfl) ?_
        refine lv_bipush (v := 102) hx hb dX7_digit_24 (by decide) ?_
        refine lv_icmp_gt (tgt := 39) hx hb dX7_digit_26 (by decide) (fun c_26 => ?_) (fun c_26 => ?_)
        · skip
          refine lv_iconst (v := (-1)) hx hb dX7_digit_39 (by decide) ?_
          rw [hQ9]
          exact endI X hr hlocks hP hD hS dX7_digit_40 ⟨(-1), rfl, (Or.inr (Or.inr ⟨rfl, (inM_h c_9), inM_h c_26⟩)), rfl⟩
        · skip
          refine lv_iload_n hx hb dX7_digit_29 rfl (lv_at hl 0 rfl) ?_
          refine lv_bipush (v := 97) hx hb dX7_digit_30 (by decide) ?_
          refine lv_isub hx hb dX7_digit_32 ?_
          refine lv_bipush (v := 10) hx hb dX7_digit_33 (by decide) ?_
          refine lv_iadd hx hb dX7_digit_35 ?_
          refine lv_goto (tgt := 40) hx hb dX7_digit_36 (by decide) ?_
          rw [hQ9]
          exact endI X hr hlocks hP hD hS dX7_digit_40 ⟨((a - 97) + 10), rfl, (Or.inr (Or.inl (by have hi := inM_1 (lo := 97) (hi := 102) c_20 c_26; obtain ⟨d, h0, h1, h2⟩ := dv2 hi; exact ⟨d, h0, h1, h2, (inM_h c_9), hi, by unfold dgv; rw [if_pos (inM_h c_9)]; exact h2⟩))), rfl⟩
    · skip
      refine lv_iload_n hx hb dX7_digit_12 rfl (lv_at hl 0 rfl) ?_
      refine lv_bipush (v := 48) hx hb dX7_digit_13 (by decide) ?_
      refine lv_isub hx hb dX7_digit_15 ?_
      rw [hQ9]
      exact endI X hr hlocks hP hD hS dX7_digit_16 ⟨(a - 48), rfl, (Or.inl (by have hi := inM_1 (lo := 48) (hi := 57) c_3 c_9; obtain ⟨d, h1, h2⟩ := dv1 hi; exact ⟨d, h1, h2, hi, by unfold dgv; rw [if_neg hi]; exact h2⟩)), rfl⟩
