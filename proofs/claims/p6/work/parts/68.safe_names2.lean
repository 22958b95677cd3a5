abbrev cX2_add : ByteArray := prog_4_method_4_code
def yX2_add : MethodName := ⟨RX2, "add", "(IIIZ)V"⟩
set_option maxRecDepth 100000 in
theorem w_404 : (Cond.fieldLink "BelfryBox$Names" 15 "BelfryBox$Names" "letters" "[I" : Cond) ∈ gw := List.mem_filter.mpr ⟨List.mem_append_right _ (tb1 (List.mem_of_getElem? (i := 172) rfl)), rfl⟩
theorem dX2_add_0 : decode cX2_add 0 = .ok (.aload_n 0, 1) := by decide +kernel
theorem dX2_add_1 : decode cX2_add 1 = .ok (.getfield 24, 3) := by decide +kernel
theorem dX2_add_4 : decode cX2_add 4 = .ok (.bipush 60, 2) := by decide +kernel
theorem dX2_add_6 : decode cX2_add 6 = .ok (.if_icmp .ge 62, 3) := by decide +kernel
theorem dX2_add_68 : decode cX2_add 68 = .ok (.return_, 1) := by decide +kernel
theorem dX2_add_9 : decode cX2_add 9 = .ok (.aload_n 0, 1) := by decide +kernel
theorem dX2_add_10 : decode cX2_add 10 = .ok (.getfield 11, 3) := by decide +kernel
theorem dX2_add_13 : decode cX2_add 13 = .ok (.aload_n 0, 1) := by decide +kernel
theorem dX2_add_14 : decode cX2_add 14 = .ok (.getfield 24, 3) := by decide +kernel
theorem dX2_add_17 : decode cX2_add 17 = .ok (.iload_n 1, 1) := by decide +kernel
theorem dX2_add_18 : decode cX2_add 18 = .ok (.iastore, 1) := by decide +kernel
theorem dX2_add_19 : decode cX2_add 19 = .ok (.aload_n 0, 1) := by decide +kernel
theorem dX2_add_20 : decode cX2_add 20 = .ok (.getfield 15, 3) := by decide +kernel
theorem dX2_add_23 : decode cX2_add 23 = .ok (.aload_n 0, 1) := by decide +kernel
theorem dX2_add_24 : decode cX2_add 24 = .ok (.getfield 24, 3) := by decide +kernel
theorem dX2_add_27 : decode cX2_add 27 = .ok (.iload_n 2, 1) := by decide +kernel
theorem dX2_add_28 : decode cX2_add 28 = .ok (.iastore, 1) := by decide +kernel
theorem dX2_add_29 : decode cX2_add 29 = .ok (.aload_n 0, 1) := by decide +kernel
theorem dX2_add_30 : decode cX2_add 30 = .ok (.getfield 18, 3) := by decide +kernel
theorem dX2_add_33 : decode cX2_add 33 = .ok (.aload_n 0, 1) := by decide +kernel
theorem dX2_add_34 : decode cX2_add 34 = .ok (.getfield 24, 3) := by decide +kernel
theorem dX2_add_37 : decode cX2_add 37 = .ok (.iload_n 3, 1) := by decide +kernel
theorem dX2_add_38 : decode cX2_add 38 = .ok (.iastore, 1) := by decide +kernel
theorem dX2_add_39 : decode cX2_add 39 = .ok (.aload_n 0, 1) := by decide +kernel
theorem dX2_add_40 : decode cX2_add 40 = .ok (.getfield 21, 3) := by decide +kernel
theorem dX2_add_43 : decode cX2_add 43 = .ok (.aload_n 0, 1) := by decide +kernel
theorem dX2_add_44 : decode cX2_add 44 = .ok (.getfield 24, 3) := by decide +kernel
theorem dX2_add_47 : decode cX2_add 47 = .ok (.iload 4, 2) := by decide +kernel
theorem dX2_add_49 : decode cX2_add 49 = .ok (.ifCond .eq 7, 3) := by decide +kernel
theorem dX2_add_56 : decode cX2_add 56 = .ok (.iconst 0, 1) := by decide +kernel
theorem dX2_add_57 : decode cX2_add 57 = .ok (.iastore, 1) := by decide +kernel
theorem dX2_add_58 : decode cX2_add 58 = .ok (.aload_n 0, 1) := by decide +kernel
theorem dX2_add_59 : decode cX2_add 59 = .ok (.dup, 1) := by decide +kernel
theorem dX2_add_60 : decode cX2_add 60 = .ok (.getfield 24, 3) := by decide +kernel
theorem dX2_add_63 : decode cX2_add 63 = .ok (.iconst 1, 1) := by decide +kernel
theorem dX2_add_64 : decode cX2_add 64 = .ok (.iadd, 1) := by decide +kernel
theorem dX2_add_65 : decode cX2_add 65 = .ok (.putfield 24, 3) := by decide +kernel
theorem dX2_add_52 : decode cX2_add 52 = .ok (.iconst 1, 1) := by decide +kernel
theorem dX2_add_53 : decode cX2_add 53 = .ok (.goto 4, 3) := by decide +kernel
set_option maxHeartbeats 4000000 in
set_option maxRecDepth 100000 in
theorem c_s_nadd (l : Launch) (D : va_G) (cA cB : ClassId) (h0 : Nat) (ha : Nat) (hb9 : Nat) (hc9 : Nat) (hd9 : Nat) (cn : Nat) (na : Nat → Int32) (nb : Nat → Int32) (nc : Nat → Int32) (nd : Nat → Int32) (p0 : Nat) (q0 : Nat) (v : Int32) (o : Nat) (hcn : cn < 61) (hp0 : p0 < 6001) (hq0 : q0 < 6001) (ho : o < 2) (hT : okT na nb cn) (hpq : p0 + q0 ≤ 6000) : CV l yX2_add cX2_add 5 none 0 0 0 0 D cA cB [.ref h0, .int (nI p0), .int (nI q0), .int v, .int (nI o)] [(h0, .inr (2, [.ref ha, .ref hb9, .ref hc9, .ref hd9, .int (nI cn)])), (ha, .inl (cA, 60, .inl na)), (hb9, .inl (cA, 60, .inl nb)), (hc9, .inl (cA, 60, .inl nc)), (hd9, .inl (cA, 60, .inl nd))] (fun W1 => ∃ (cn2 : Nat) (na2 : Nat → Int32) (nb2 : Nat → Int32) (nc2 : Nat → Int32) (nd2 : Nat → Int32), (cn2 < 61) ∧ (okT na2 nb2 cn2) ∧ W1 = [(h0, .inr (2, [.ref ha, .ref hb9, .ref hc9, .ref hd9, .int (nI cn2)])), (ha, .inl (cA, 60, .inl na2)), (hb9, .inl (cA, 60, .inl nb2)), (hc9, .inl (cA, 60, .inl nc2)), (hd9, .inl (cA, 60, .inl nd2))]) := by
  refine mkV (lv0 := [(0, .ref h0), (1, .int (nI p0)), (2, .int (nI q0)), (3, .int v), (4, .int (nI o))]) (by decide) (Nat.le_of_ble_eq_true rfl) rfl ?_
  intro p e s m below meth c A ls X hr hlocks hnm hE hA hP hD hS hl
  have hx := X.1
  have hb := X.2.1
  refine lv_aload_n hx hb dX2_add_0 rfl (lv_at hl 0 rfl) ?_
  refine k_get (C := RX2) (T := TX2) (N := 5) (ci := 2) (v := .int (nI cn)) X hE hP 0 rfl rfl iX2 4 (by decide) w_355 rfl dX2_add_1 ?_
  refine lv_bipush (v := 60) hx hb dX2_add_4 (by decide) ?_
  refine lv_icmp_ge (tgt := 68) hx hb dX2_add_6 (by decide) (fun c_6_1 => ?_) (fun c_6_1 => ?_)
  · have nc_6_1 : 60 ≤ cn := (nI_leI (a := 60) (b := cn) (by omega) (by omega)).mp c_6_1
    exact endV X hr hlocks hP hD hS dX2_add_68 ⟨cn, na, nb, nc, nd, (by omega), hT, rfl⟩
  · have nc_6_1 : cn < 60 := Nat.not_le.mp (fun q => c_6_1 ((nI_leI (a := 60) (b := cn) (by omega) (by omega)).mpr q))
    refine lv_aload_n hx hb dX2_add_9 rfl (lv_at hl 0 rfl) ?_
    refine k_get (C := RX2) (T := TX2) (N := 5) (ci := 2) (v := .ref ha) X hE hP 0 rfl rfl iX2 0 (by decide) w_357 rfl dX2_add_10 ?_
    refine lv_aload_n hx hb dX2_add_13 rfl (lv_at hl 0 rfl) ?_
    refine k_get (C := RX2) (T := TX2) (N := 5) (ci := 2) (v := .int (nI cn)) X hE hP 0 rfl rfl iX2 4 (by decide) w_355 rfl dX2_add_14 ?_
    refine lv_iload_n hx hb dX2_add_17 rfl (lv_at hl 1 rfl) ?_
    refine k_ast X hE hP hD hS 1 rfl cn rfl (by omega) (by decide) [(h0, .inr (2, [.ref ha, .ref hb9, .ref hc9, .ref hd9, .int (nI cn)])), (ha, .inl (cA, 60, .inl (upd na cn (nI p0)))), (hb9, .inl (cA, 60, .inl nb)), (hc9, .inl (cA, 60, .inl nc)), (hd9, .inl (cA, 60, .inl nd))] rfl dX2_add_18 (fun H locs hP hD hS => ?_)
    obtain ⟨g_2, eg_2⟩ : ∃ z, z = upd na cn (nI p0) := ⟨_, rfl⟩
    rw [← eg_2] at hP hD
    have hP : va_P D classes [(h0, .inr (2, [.ref ha, .ref hb9, .ref hc9, .ref hd9, .int (nI cn)])), (ha, .inl (cA, 60, .inl g_2)), (hb9, .inl (cA, 60, .inl nb)), (hc9, .inl (cA, 60, .inl nc)), (hd9, .inl (cA, 60, .inl nd))] H := hP
    have hD : va_D A [(h0, .inr (2, [.ref ha, .ref hb9, .ref hc9, .ref hd9, .int (nI cn)])), (ha, .inl (cA, 60, .inl g_2)), (hb9, .inl (cA, 60, .inl nb)), (hc9, .inl (cA, 60, .inl nc)), (hd9, .inl (cA, 60, .inl nd))] := hD
    refine lv_aload_n hx hb dX2_add_19 rfl (lv_at hl 0 rfl) ?_
    refine k_get (C := RX2) (T := TX2) (N := 5) (ci := 2) (v := .ref hb9) X hE hP 0 rfl rfl iX2 1 (by decide) w_404 rfl dX2_add_20 ?_
    refine lv_aload_n hx hb dX2_add_23 rfl (lv_at hl 0 rfl) ?_
    refine k_get (C := RX2) (T := TX2) (N := 5) (ci := 2) (v := .int (nI cn)) X hE hP 0 rfl rfl iX2 4 (by decide) w_355 rfl dX2_add_24 ?_
    refine lv_iload_n hx hb dX2_add_27 rfl (lv_at hl 2 rfl) ?_
    refine k_ast X hE hP hD hS 2 rfl cn rfl (by omega) (by decide) [(h0, .inr (2, [.ref ha, .ref hb9, .ref hc9, .ref hd9, .int (nI cn)])), (ha, .inl (cA, 60, .inl g_2)), (hb9, .inl (cA, 60, .inl (upd nb cn (nI q0)))), (hc9, .inl (cA, 60, .inl nc)), (hd9, .inl (cA, 60, .inl nd))] rfl dX2_add_28 (fun H locs hP hD hS => ?_)
    obtain ⟨g_3, eg_3⟩ : ∃ z, z = upd nb cn (nI q0) := ⟨_, rfl⟩
    rw [← eg_3] at hP hD
    have hP : va_P D classes [(h0, .inr (2, [.ref ha, .ref hb9, .ref hc9, .ref hd9, .int (nI cn)])), (ha, .inl (cA, 60, .inl g_2)), (hb9, .inl (cA, 60, .inl g_3)), (hc9, .inl (cA, 60, .inl nc)), (hd9, .inl (cA, 60, .inl nd))] H := hP
    have hD : va_D A [(h0, .inr (2, [.ref ha, .ref hb9, .ref hc9, .ref hd9, .int (nI cn)])), (ha, .inl (cA, 60, .inl g_2)), (hb9, .inl (cA, 60, .inl g_3)), (hc9, .inl (cA, 60, .inl nc)), (hd9, .inl (cA, 60, .inl nd))] := hD
    refine lv_aload_n hx hb dX2_add_29 rfl (lv_at hl 0 rfl) ?_
    refine k_get (C := RX2) (T := TX2) (N := 5) (ci := 2) (v := .ref hc9) X hE hP 0 rfl rfl iX2 2 (by decide) w_356 rfl dX2_add_30 ?_
    refine lv_aload_n hx hb dX2_add_33 rfl (lv_at hl 0 rfl) ?_
    refine k_get (C := RX2) (T := TX2) (N := 5) (ci := 2) (v := .int (nI cn)) X hE hP 0 rfl rfl iX2 4 (by decide) w_355 rfl dX2_add_34 ?_
    refine lv_iload_n hx hb dX2_add_37 rfl (lv_at hl 3 rfl) ?_
    refine k_ast X hE hP hD hS 3 rfl cn rfl (by omega) (by decide) [(h0, .inr (2, [.ref ha, .ref hb9, .ref hc9, .ref hd9, .int (nI cn)])), (ha, .inl (cA, 60, .inl g_2)), (hb9, .inl (cA, 60, .inl g_3)), (hc9, .inl (cA, 60, .inl (upd nc cn v))), (hd9, .inl (cA, 60, .inl nd))] rfl dX2_add_38 (fun H locs hP hD hS => ?_)
    obtain ⟨g_4, eg_4⟩ : ∃ z, z = upd nc cn v := ⟨_, rfl⟩
    rw [← eg_4] at hP hD
    have hP : va_P D classes [(h0, .inr (2, [.ref ha, .ref hb9, .ref hc9, .ref hd9, .int (nI cn)])), (ha, .inl (cA, 60, .inl g_2)), (hb9, .inl (cA, 60, .inl g_3)), (hc9, .inl (cA, 60, .inl g_4)), (hd9, .inl (cA, 60, .inl nd))] H := hP
    have hD : va_D A [(h0, .inr (2, [.ref ha, .ref hb9, .ref hc9, .ref hd9, .int (nI cn)])), (ha, .inl (cA, 60, .inl g_2)), (hb9, .inl (cA, 60, .inl g_3)), (hc9, .inl (cA, 60, .inl g_4)), (hd9, .inl (cA, 60, .inl nd))] := hD
    refine lv_aload_n hx hb dX2_add_39 rfl (lv_at hl 0 rfl) ?_
    refine k_get (C := RX2) (T := TX2) (N := 5) (ci := 2) (v := .ref hd9) X hE hP 0 rfl rfl iX2 3 (by decide) w_358 rfl dX2_add_40 ?_
    refine lv_aload_n hx hb dX2_add_43 rfl (lv_at hl 0 rfl) ?_
    refine k_get (C := RX2) (T := TX2) (N := 5) (ci := 2) (v := .int (nI cn)) X hE hP 0 rfl rfl iX2 4 (by decide) w_355 rfl dX2_add_44 ?_
    refine lv_iload hx hb dX2_add_47 (lv_at hl 4 rfl) ?_
    refine lv_if_eq (tgt := 56) hx hb dX2_add_49 (by decide) (fun c_49_5 => ?_) (fun c_49_5 => ?_)
    · have nc_49_5 : o = 0 := (nI_eq (a := o) (b := 0) (by omega) (by omega)).mp c_49_5
      refine lv_iconst (v := 0) hx hb dX2_add_56 (by decide) ?_
      refine k_ast X hE hP hD hS 4 rfl cn rfl (by omega) (by decide) [(h0, .inr (2, [.ref ha, .ref hb9, .ref hc9, .ref hd9, .int (nI cn)])), (ha, .inl (cA, 60, .inl g_2)), (hb9, .inl (cA, 60, .inl g_3)), (hc9, .inl (cA, 60, .inl g_4)), (hd9, .inl (cA, 60, .inl (upd nd cn 0)))] rfl dX2_add_57 (fun H locs hP hD hS => ?_)
      obtain ⟨g_6, eg_6⟩ : ∃ z, z = upd nd cn 0 := ⟨_, rfl⟩
      rw [← eg_6] at hP hD
      have hP : va_P D classes [(h0, .inr (2, [.ref ha, .ref hb9, .ref hc9, .ref hd9, .int (nI cn)])), (ha, .inl (cA, 60, .inl g_2)), (hb9, .inl (cA, 60, .inl g_3)), (hc9, .inl (cA, 60, .inl g_4)), (hd9, .inl (cA, 60, .inl g_6))] H := hP
      have hD : va_D A [(h0, .inr (2, [.ref ha, .ref hb9, .ref hc9, .ref hd9, .int (nI cn)])), (ha, .inl (cA, 60, .inl g_2)), (hb9, .inl (cA, 60, .inl g_3)), (hc9, .inl (cA, 60, .inl g_4)), (hd9, .inl (cA, 60, .inl g_6))] := hD
      refine lv_aload_n hx hb dX2_add_58 rfl (lv_at hl 0 rfl) ?_
      refine lv_dup hx hb dX2_add_59 rfl ?_
      refine k_get (C := RX2) (T := TX2) (N := 5) (ci := 2) (v := .int (nI cn)) X hE hP 0 rfl rfl iX2 4 (by decide) w_355 rfl dX2_add_60 ?_
      refine lv_iconst (v := 1) hx hb dX2_add_63 (by decide) ?_
      refine lv_iadd hx hb dX2_add_64 ?_
      refine tk (y := nI (cn + 1)) (nI_add cn 1) ?_
      refine k_put (C := RX2) (T := TX2) (N := 5) (ci := 2) (v := .int (nI (cn + 1))) (ty := .int) X hE hP hD hS 0 rfl rfl iX2 tyX2 tyX2_ok nmX2 4 (by decide) w_355 rfl (by decide +kernel) rfl rfl (Nat.le_of_ble_eq_true rfl) [(h0, .inr (2, [.ref ha, .ref hb9, .ref hc9, .ref hd9, .int (nI (cn + 1))])), (ha, .inl (cA, 60, .inl g_2)), (hb9, .inl (cA, 60, .inl g_3)), (hc9, .inl (cA, 60, .inl g_4)), (hd9, .inl (cA, 60, .inl g_6))] rfl dX2_add_65 (fun H locs hP hD hS => ?_)
      exact endV X hr hlocks hP hD hS dX2_add_68 ⟨(cn + 1), g_2, g_3, g_4, g_6, (by omega), (by rw [eg_2, eg_3]; exact okT_add hT (by omega)), rfl⟩
    · have nc_49_5 : ¬ o = 0 := fun q => c_49_5 ((nI_eq (a := o) (b := 0) (by omega) (by omega)).mpr q)
      refine lv_iconst (v := 1) hx hb dX2_add_52 (by decide) ?_
      refine lv_goto (tgt := 57) hx hb dX2_add_53 (by decide) ?_
      refine k_ast X hE hP hD hS 4 rfl cn rfl (by omega) (by decide) [(h0, .inr (2, [.ref ha, .ref hb9, .ref hc9, .ref hd9, .int (nI cn)])), (ha, .inl (cA, 60, .inl g_2)), (hb9, .inl (cA, 60, .inl g_3)), (hc9, .inl (cA, 60, .inl g_4)), (hd9, .inl (cA, 60, .inl (upd nd cn 1)))] rfl dX2_add_57 (fun H locs hP hD hS => ?_)
      obtain ⟨g_7, eg_7⟩ : ∃ z, z = upd nd cn 1 := ⟨_, rfl⟩
      rw [← eg_7] at hP hD
      have hP : va_P D classes [(h0, .inr (2, [.ref ha, .ref hb9, .ref hc9, .ref hd9, .int (nI cn)])), (ha, .inl (cA, 60, .inl g_2)), (hb9, .inl (cA, 60, .inl g_3)), (hc9, .inl (cA, 60, .inl g_4)), (hd9, .inl (cA, 60, .inl g_7))] H := hP
      have hD : va_D A [(h0, .inr (2, [.ref ha, .ref hb9, .ref hc9, .ref hd9, .int (nI cn)])), (ha, .inl (cA, 60, .inl g_2)), (hb9, .inl (cA, 60, .inl g_3)), (hc9, .inl (cA, 60, .inl g_4)), (hd9, .inl (cA, 60, .inl g_7))] := hD
      refine lv_aload_n hx hb dX2_add_58 rfl (lv_at hl 0 rfl) ?_
      refine lv_dup hx hb dX2_add_59 rfl ?_
      refine k_get (C := RX2) (T := TX2) (N := 5) (ci := 2) (v := .int (nI cn)) X hE hP 0 rfl rfl iX2 4 (by decide) w_355 rfl dX2_add_60 ?_
      refine lv_iconst (v := 1) hx hb dX2_add_63 (by decide) ?_
      refine lv_iadd hx hb dX2_add_64 ?_
      refine tk (y := nI (cn + 1)) (nI_add cn 1) ?_
      refine k_put (C := RX2) (T := TX2) (N := 5) (ci := 2) (v := .int (nI (cn + 1))) (ty := .int) X hE hP hD hS 0 rfl rfl iX2 tyX2 tyX2_ok nmX2 4 (by decide) w_355 rfl (by decide +kernel) rfl rfl (Nat.le_of_ble_eq_true rfl) [(h0, .inr (2, [.ref ha, .ref hb9, .ref hc9, .ref hd9, .int (nI (cn + 1))])), (ha, .inl (cA, 60, .inl g_2)), (hb9, .inl (cA, 60, .inl g_3)), (hc9, .inl (cA, 60, .inl g_4)), (hd9, .inl (cA, 60, .inl g_7))] rfl dX2_add_65 (fun H locs hP hD hS => ?_)
      exact endV X hr hlocks hP hD hS dX2_add_68 ⟨(cn + 1), g_2, g_3, g_4, g_7, (by omega), (by rw [eg_2, eg_3]; exact okT_add hT (by omega)), rfl⟩
