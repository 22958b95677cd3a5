abbrev cX7_hasRoom : ByteArray := prog_9_method_2_code
def yX7_hasRoom : MethodName := ⟨RX7, "hasRoom", "(I)Z"⟩
set_option maxRecDepth 100000 in
theorem w_353 : (Cond.fieldLink "BelfryBox$Tape" 15 "BelfryBox$Tape" "length" "I" : Cond) ∈ gw := List.mem_filter.mpr ⟨List.mem_append_right _ (tb1 (List.mem_of_getElem? (i := 123) rfl)), rfl⟩
theorem dX7_hasRoom_0 : decode cX7_hasRoom 0 = .ok (.aload_n 0, 1) := by decide +kernel
theorem dX7_hasRoom_1 : decode cX7_hasRoom 1 = .ok (.getfield 15, 3) := by decide +kernel
theorem dX7_hasRoom_4 : decode cX7_hasRoom 4 = .ok (.iload_n 1, 1) := by decide +kernel
theorem dX7_hasRoom_5 : decode cX7_hasRoom 5 = .ok (.iadd, 1) := by decide +kernel
theorem dX7_hasRoom_6 : decode cX7_hasRoom 6 = .ok (.sipush 6000, 3) := by decide +kernel
theorem dX7_hasRoom_9 : decode cX7_hasRoom 9 = .ok (.if_icmp .gt 7, 3) := by decide +kernel
theorem dX7_hasRoom_16 : decode cX7_hasRoom 16 = .ok (.iconst 0, 1) := by decide +kernel
theorem dX7_hasRoom_17 : decode cX7_hasRoom 17 = .ok (.ireturn, 1) := by decide +kernel
theorem dX7_hasRoom_12 : decode cX7_hasRoom 12 = .ok (.iconst 1, 1) := by decide +kernel
theorem dX7_hasRoom_13 : decode cX7_hasRoom 13 = .ok (.goto 4, 3) := by decide +kernel
set_option maxHeartbeats 4000000 in
set_option maxRecDepth 100000 in
theorem c_s_hasRoom (l : Launch) (D : va_G) (cA cB : ClassId) (h0 : Nat) (htb : Nat) (ln : Nat) (t0 : Int32) (t1 : Int32) (t2 : Int32) (t3 : Int32) (t4 : Int32) (t5 : Int32) (t6 : Int32) (hln : ln < 6001) : CI l yX7_hasRoom cX7_hasRoom 2 (some .boolean) 0 0 0 0 D cA cB [.ref h0, .int 20] [(h0, .inr (7, [.ref htb, .int (nI ln), .int t0, .int t1, .int t2, .int t3, .int t4, .int t5, .int t6]))] (fun r W1 => ∃ (rk : Nat), r = nI rk ∧ ((rk = 1 ∧ ln + 20 ≤ 6000) ∨ (rk = 0 ∧ 6000 < ln + 20)) ∧ W1 = [(h0, .inr (7, [.ref htb, .int (nI ln), .int t0, .int t1, .int t2, .int t3, .int t4, .int t5, .int t6]))]) := by
  refine mkI (lv0 := [(0, .ref h0), (1, .int 20)]) (by decide) (Nat.le_of_ble_eq_true rfl) rfl ?_
  intro p e s m below meth c A ls X hr hlocks hnm hE hA hP hD hS hl
  have hx := X.1
  have hb := X.2.1
  refine qW (fun Q9 hQ9 => ?_)
  refine lv_aload_n hx hb dX7_hasRoom_0 rfl (lv_at hl 0 rfl) ?_
  refine k_get (C := RX7) (T := TX7) (N := 9) (ci := 7) (v := .int (nI ln)) X hE hP 0 rfl rfl iX7 1 (by decide) w_353 rfl dX7_hasRoom_1 ?_
  refine lv_iload_n hx hb dX7_hasRoom_4 rfl (lv_at hl 1 rfl) ?_
  refine lv_iadd hx hb dX7_hasRoom_5 ?_
  refine tk (y := nI (ln + 20)) (nI_add ln 20) ?_
  refine lv_sipush (v := 6000) hx hb dX7_hasRoom_6 (by decide) ?_
  refine lv_icmp_gt (tgt := 16) hx hb dX7_hasRoom_9 (by decide) (fun c_9_1 => ?_) (fun c_9_1 => ?_)
  · have nc_9_1 : 6000 < (ln + 20) := (nI_ltI (a := 6000) (b := ln + 20) (by omega) (by omega)).mp c_9_1
    refine lv_iconst (v := 0) hx hb dX7_hasRoom_16 (by decide) ?_
    rw [hQ9]
    exact endZ X hr rfl hlocks hP hD hS dX7_hasRoom_17 ⟨0, rfl, (Or.inr ⟨rfl, by omega⟩), rfl⟩
  · have nc_9_1 : (ln + 20) ≤ 6000 := Nat.not_lt.mp (fun q => c_9_1 ((nI_ltI (a := 6000) (b := ln + 20) (by omega) (by omega)).mpr q))
    refine lv_iconst (v := 1) hx hb dX7_hasRoom_12 (by decide) ?_
    refine lv_goto (tgt := 17) hx hb dX7_hasRoom_13 (by decide) ?_
    rw [hQ9]
    exact endZ X hr rfl hlocks hP hD hS dX7_hasRoom_17 ⟨1, rfl, (Or.inl ⟨rfl, by omega⟩), rfl⟩
