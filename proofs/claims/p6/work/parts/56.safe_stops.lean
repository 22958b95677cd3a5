abbrev cX6_find : ByteArray := prog_8_method_4_code
def yX6_find : MethodName := ⟨RX6, "find", "(I)I"⟩
set_option maxRecDepth 100000 in
theorem w_293 : (Cond.fieldLink "BelfryBox$Stops" 19 "BelfryBox$Stops" "count" "I" : Cond) ∈ gw := List.mem_filter.mpr ⟨List.mem_append_right _ (tb1 (List.mem_of_getElem? (i := 108) rfl)), rfl⟩
set_option maxRecDepth 100000 in
theorem w_294 : (Cond.fieldLink "BelfryBox$Stops" 11 "BelfryBox$Stops" "places" "[I" : Cond) ∈ gw := List.mem_filter.mpr ⟨List.mem_append_right _ (tb1 (List.mem_of_getElem? (i := 107) rfl)), rfl⟩
theorem dX6_find_0 : decode cX6_find 0 = .ok (.iconst 0, 1) := by decide +kernel
theorem dX6_find_1 : decode cX6_find 1 = .ok (.istore_n 2, 1) := by decide +kernel
theorem dX6_find_2 : decode cX6_find 2 = .ok (.iload_n 2, 1) := by decide +kernel
theorem dX6_find_3 : decode cX6_find 3 = .ok (.aload_n 0, 1) := by decide +kernel
theorem dX6_find_4 : decode cX6_find 4 = .ok (.getfield 19, 3) := by decide +kernel
theorem dX6_find_7 : decode cX6_find 7 = .ok (.if_icmp .ge 21, 3) := by decide +kernel
theorem dX6_find_28 : decode cX6_find 28 = .ok (.iconst (-1), 1) := by decide +kernel
theorem dX6_find_29 : decode cX6_find 29 = .ok (.ireturn, 1) := by decide +kernel
theorem dX6_find_10 : decode cX6_find 10 = .ok (.aload_n 0, 1) := by decide +kernel
theorem dX6_find_11 : decode cX6_find 11 = .ok (.getfield 11, 3) := by decide +kernel
theorem dX6_find_14 : decode cX6_find 14 = .ok (.iload_n 2, 1) := by decide +kernel
theorem dX6_find_15 : decode cX6_find 15 = .ok (.iaload, 1) := by decide +kernel
theorem dX6_find_16 : decode cX6_find 16 = .ok (.iload_n 1, 1) := by decide +kernel
theorem dX6_find_17 : decode cX6_find 17 = .ok (.if_icmp .ne 5, 3) := by decide +kernel
theorem dX6_find_22 : decode cX6_find 22 = .ok (.iinc 2 1, 3) := by decide +kernel
theorem dX6_find_25 : decode cX6_find 25 = .ok (.goto (-23), 3) := by decide +kernel
theorem dX6_find_20 : decode cX6_find 20 = .ok (.iload_n 2, 1) := by decide +kernel
theorem dX6_find_21 : decode cX6_find 21 = .ok (.ireturn, 1) := by decide +kernel
set_option maxHeartbeats 4000000 in
set_option maxRecDepth 100000 in
theorem c_s_find (l : Launch) (D : va_G) (cA cB : ClassId) (h0 : Nat) (hsp : Nat) (cn : Nat) (sg : Nat → Int32) (a : Int32) (hcn : cn < 17) : CI l yX6_find cX6_find 3 (some .int) 0 0 0 0 D cA cB [.ref h0, .int a] [(h0, .inr (6, [.ref hsp, .int (nI cn)])), (hsp, .inl (cA, 16, .inl sg))] (fun r W1 => ∃ (rv : Int32), r = rv ∧ (rv = -1 ∨ ∃ k : Nat, k < cn ∧ rv = nI k) ∧ W1 = [(h0, .inr (6, [.ref hsp, .int (nI cn)])), (hsp, .inl (cA, 16, .inl sg))]) := by
  refine mkI (lv0 := [(0, .ref h0), (1, .int a)]) (by decide) (Nat.le_of_ble_eq_true rfl) rfl ?_
  intro p e s m below meth c A ls X hr hlocks hnm hE hA hP hD hS hl
  have hx := X.1
  have hb := X.2.1
  refine qW (fun Q9 hQ9 => ?_)
  refine lv_iconst (v := 0) hx hb dX6_find_0 (by decide) ?_
  refine lv_istore_n (lv' := [(2, .int 0), (0, .ref h0), (1, .int a)]) hx hb dX6_find_1 rfl hl (by decide) rfl (fun ls hl => ?_)
  have loop_2 : ∀ (n : Nat) (i : Nat), (i < 18) → (i ≤ cn) → cn - i < n → ∀ (H : Heap) (locs : List Loc), va_P D classes [(h0, .inr (6, [.ref hsp, .int (nI cn)])), (hsp, .inl (cA, 16, .inl sg))] H → va_D A [(h0, .inr (6, [.ref hsp, .int (nI cn)])), (hsp, .inl (cA, 16, .inl sg))] → va_S A s.heap H locs → ∀ ls : Array Slot, lv_has ls 3 [(0, .ref h0), (1, .int a), (2, .int (nI i))] → W p l e { frames := 0, cells := 0, slots := 0, locals := 0 } s m (List.toArray [.ref h0, .int a]) below meth c H locs 0 0 Q9 (F0 m 2 ls []) := by
    intro n
    induction n with
    | zero => intro i hi hi2 hfuel; exact absurd hfuel (by omega)
    | succ n ih_2 =>
      intro i hi hi2 hfuel H locs hP hD hS ls hl
      refine lv_iload_n hx hb dX6_find_2 rfl (lv_at hl 2 rfl) ?_
      refine lv_aload_n hx hb dX6_find_3 rfl (lv_at hl 0 rfl) ?_
      refine k_get (C := RX6) (T := TX6) (N := 2) (ci := 6) (v := .int (nI cn)) X hE hP 0 rfl rfl iX6 1 (by decide) w_293 rfl dX6_find_4 ?_
      refine lv_icmp_ge (tgt := 28) hx hb dX6_find_7 (by decide) (fun c_7_1 => ?_) (fun c_7_1 => ?_)
      · have nc_7_1 : cn ≤ i := (nI_leI (a := cn) (b := i) (by omega) (by omega)).mp c_7_1
        refine lv_iconst (v := (-1)) hx hb dX6_find_28 (by decide) ?_
        rw [hQ9]
        exact endI X hr hlocks hP hD hS dX6_find_29 ⟨(-1), rfl, (Or.inl rfl), rfl⟩
      · have nc_7_1 : i < cn := Nat.not_le.mp (fun q => c_7_1 ((nI_leI (a := cn) (b := i) (by omega) (by omega)).mpr q))
        refine lv_aload_n hx hb dX6_find_10 rfl (lv_at hl 0 rfl) ?_
        refine k_get (C := RX6) (T := TX6) (N := 2) (ci := 6) (v := .ref hsp) X hE hP 0 rfl rfl iX6 0 (by decide) w_294 rfl dX6_find_11 ?_
        refine lv_iload_n hx hb dX6_find_14 rfl (lv_at hl 2 rfl) ?_
        refine k_ald (v := sg i) X hE hP 1 rfl i rfl (by omega) (by decide) rfl dX6_find_15 ?_
        refine lv_iload_n hx hb dX6_find_16 rfl (lv_at hl 1 rfl) ?_
        refine lv_icmp_ne (tgt := 22) hx hb dX6_find_17 (by decide) (fun c_17 => ?_) (fun c_17 => ?_)
        · skip
          refine lv_iinc (v := nI (i + 1)) (lv' := [(2, .int (nI (i + 1))), (0, .ref h0), (1, .int a)]) hx hb dX6_find_22 hl (k := 2) rfl (nI_1 i) (by decide) rfl (fun ls hl => ?_)
          refine lv_goto (tgt := 2) hx hb dX6_find_25 (by decide) ?_
          exact ih_2 (i + 1) (by omega) (by first | assumption | omega) (by omega) _ _ hP hD hS ls (lv_sub hl [1, 2, 0] rfl)
        · skip
          refine lv_iload_n hx hb dX6_find_20 rfl (lv_at hl 2 rfl) ?_
          rw [hQ9]
          exact endI X hr hlocks hP hD hS dX6_find_21 ⟨(nI i), rfl, (Or.inr ⟨i, by omega, rfl⟩), rfl⟩
  exact loop_2 19 0 (by omega) (by first | assumption | omega) (by omega) _ _ hP hD hS ls (lv_sub hl [1, 2, 0] rfl)
