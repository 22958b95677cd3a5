abbrev cX8_takesValue : ByteArray := prog_1_method_27_code
def yX8_takesValue : MethodName := ⟨RX8, "takesValue", "(I)Z"⟩
theorem dX8_takesValue_0 : decode cX8_takesValue 0 = .ok (.iload_n 0, 1) := by decide +kernel
theorem dX8_takesValue_1 : decode cX8_takesValue 1 = .ok (.bipush 28, 2) := by decide +kernel
theorem dX8_takesValue_3 : decode cX8_takesValue 3 = .ok (.if_icmp .eq 15, 3) := by decide +kernel
theorem dX8_takesValue_18 : decode cX8_takesValue 18 = .ok (.iconst 1, 1) := by decide +kernel
theorem dX8_takesValue_19 : decode cX8_takesValue 19 = .ok (.goto 4, 3) := by decide +kernel
theorem dX8_takesValue_23 : decode cX8_takesValue 23 = .ok (.ireturn, 1) := by decide +kernel
theorem dX8_takesValue_6 : decode cX8_takesValue 6 = .ok (.iload_n 0, 1) := by decide +kernel
theorem dX8_takesValue_7 : decode cX8_takesValue 7 = .ok (.bipush 30, 2) := by decide +kernel
theorem dX8_takesValue_9 : decode cX8_takesValue 9 = .ok (.if_icmp .eq 9, 3) := by decide +kernel
theorem dX8_takesValue_12 : decode cX8_takesValue 12 = .ok (.iload_n 0, 1) := by decide +kernel
theorem dX8_takesValue_13 : decode cX8_takesValue 13 = .ok (.bipush 31, 2) := by decide +kernel
theorem dX8_takesValue_15 : decode cX8_takesValue 15 = .ok (.if_icmp .ne 7, 3) := by decide +kernel
theorem dX8_takesValue_22 : decode cX8_takesValue 22 = .ok (.iconst 0, 1) := by decide +kernel
set_option maxHeartbeats 4000000 in
set_option maxRecDepth 100000 in
theorem c_s_takesValue (l : Launch) (D : va_G) (cA cB : ClassId) (v : Int32)  : CI l yX8_takesValue cX8_takesValue 1 (some .boolean) 0 0 0 0 D cA cB [.int v] [] (fun r W1 => ∃ (rk : Nat), r = nI rk ∧ (rk < 2) ∧ W1 = []) := by
  refine mkI (lv0 := [(0, .int v)]) (by decide) (Nat.le_of_ble_eq_true rfl) rfl ?_
  intro p e s m below meth c A ls X hr hlocks hnm hE hA hP hD hS hl
  have hx := X.1
  have hb := X.2.1
  refine qW (fun Q9 hQ9 => ?_)
  refine lv_iload_n hx hb dX8_takesValue_0 rfl (lv_at hl 0 rfl) ?_
  refine lv_bipush (v := 28) hx hb dX8_takesValue_1 (by decide) ?_
  refine lv_icmp_eq (tgt := 18) hx hb dX8_takesValue_3 (by decide) (fun c_3 => ?_) (fun c_3 => ?_)
  · skip
    refine lv_iconst (v := 1) hx hb dX8_takesValue_18 (by decide) ?_
    refine lv_goto (tgt := 23) hx hb dX8_takesValue_19 (by decide) ?_
    rw [hQ9]
    exact endZ X hr rfl hlocks hP hD hS dX8_takesValue_23 ⟨1, rfl, (by decide), rfl⟩
  · skip
    refine lv_iload_n hx hb dX8_takesValue_6 rfl (lv_at hl 0 rfl) ?_
    refine lv_bipush (v := 30) hx hb dX8_takesValue_7 (by decide) ?_
    refine lv_icmp_eq (tgt := 18) hx hb dX8_takesValue_9 (by decide) (fun c_9 => ?_) (fun c_9 => ?_)
    · skip
      refine lv_iconst (v := 1) hx hb dX8_takesValue_18 (by decide) ?_
      refine lv_goto (tgt := 23) hx hb dX8_takesValue_19 (by decide) ?_
      rw [hQ9]
      exact endZ X hr rfl hlocks hP hD hS dX8_takesValue_23 ⟨1, rfl, (by decide), rfl⟩
    · skip
      refine lv_iload_n hx hb dX8_takesValue_12 rfl (lv_at hl 0 rfl) ?_
      refine lv_bipush (v := 31) hx hb dX8_takesValue_13 (by decide) ?_
      refine lv_icmp_ne (tgt := 22) hx hb dX8_takesValue_15 (by decide) (fun c_15 => ?_) (fun c_15 => ?_)
      · skip
        refine lv_iconst (v := 0) hx hb dX8_takesValue_22 (by decide) ?_
        rw [hQ9]
        exact endZ X hr rfl hlocks hP hD hS dX8_takesValue_23 ⟨0, rfl, (by decide), rfl⟩
      · skip
        refine lv_iconst (v := 1) hx hb dX8_takesValue_18 (by decide) ?_
        refine lv_goto (tgt := 23) hx hb dX8_takesValue_19 (by decide) ?_
        rw [hQ9]
        exact endZ X hr rfl hlocks hP hD hS dX8_takesValue_23 ⟨1, rfl, (by decide), rfl⟩
