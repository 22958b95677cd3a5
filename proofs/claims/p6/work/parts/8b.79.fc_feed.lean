set_option maxHeartbeats 4000000 in
set_option maxRecDepth 100000 in
theorem c_k_add (l : Launch) (D : va_G) (cA cB : ClassId) (h0 : Nat) (htb : Nat) (ln : Nat) (le : Nat) (ax : Nat) (kd : Int32) (pl : Nat) (lt : Nat) (vl : Int32) (ms : Int32) (tz : Nat → Int32) (v : Int32) (hln : ln < 6001) (hle : le < 6001) (hax : ax < 6001) (hpl : pl < 6010) (hlt : lt < 6010) (htz : ∀ j, j < 6000 → ∃ k : Nat, k < 256 ∧ tz j = nI k) (hl4 : ln + 4 ≤ 6000) : CV l yX7_add cX7_add 3 none 0 0 0 0 D cA cB [.ref h0, .int v] [(h0, .inr (7, [.ref htb, .int (nI ln), .int (nI le), .int (nI ax), .int kd, .int (nI pl), .int (nI lt), .int vl, .int ms])), (htb, .inl (cA, 6000, .inl tz))] (fun W1 => ∃ (ln2 : Nat) (tz2 : Nat → Int32), (ln2 < 6001) ∧ (∀ j, j < 6000 → ∃ k : Nat, k < 256 ∧ tz2 j = nI k) ∧ (ln2 = ln + 4) ∧ (∀ j, tz2 j = if ln ≤ j ∧ j < ln + 4 then fd4 v (j - ln) else tz j) ∧ W1 = [(h0, .inr (7, [.ref htb, .int (nI ln2), .int (nI le), .int (nI ax), .int kd, .int (nI pl), .int (nI lt), .int vl, .int ms])), (htb, .inl (cA, 6000, .inl tz2))]) := by
  refine mkV (lv0 := [(0, .ref h0), (1, .int v)]) (by decide) (Nat.le_of_ble_eq_true rfl) rfl ?_
  intro p e s m below meth c A ls X hr hlocks hnm hE hA hP hD hS hl
  have hx := X.1
  have hb := X.2.1
  refine qW (fun Q9 hQ9 => ?_)
  refine lv_bipush (v := 24) hx hb dX7_add_0 (by decide) ?_
  refine lv_istore_n (lv' := [(2, .int 24), (0, .ref h0), (1, .int v)]) hx hb dX7_add_2 rfl hl (by decide) rfl (fun ls hl => ?_)
  refine lv_iload_n hx hb dX7_add_3 rfl (lv_at hl 0 rfl) ?_
  refine lv_if_lt (tgt := 49) hx hb dX7_add_4 (by decide) (fun c_4 => absurd c_4 (by decide)) (fun c_4 => ?_)
  refine lv_aload_n hx hb dX7_add_7 rfl (lv_at hl 1 rfl) ?_
  refine k_get (C := RX7) (T := TX7) (N := 9) (ci := 7) (v := .int (nI ln)) X hE hP 0 rfl rfl iX7 1 (by decide) w_353 rfl dX7_add_8 ?_
  refine lv_sipush (v := 6000) hx hb dX7_add_11 (by decide) ?_
  refine lv_icmp_ge (tgt := 49) hx hb dX7_add_14 (by decide) (fun c_14 => absurd c_14 (nI_ge (a := ln) (b := 6000) (by omega) (by decide))) (fun c_14 => ?_)
  refine lv_aload_n hx hb dX7_add_17 rfl (lv_at hl 1 rfl) ?_
  refine k_get (C := RX7) (T := TX7) (N := 9) (ci := 7) (v := .ref htb) X hE hP 0 rfl rfl iX7 0 (by decide) w_368 rfl dX7_add_18 ?_
  refine lv_aload_n hx hb dX7_add_21 rfl (lv_at hl 1 rfl) ?_
  refine k_get (C := RX7) (T := TX7) (N := 9) (ci := 7) (v := .int (nI ln)) X hE hP 0 rfl rfl iX7 1 (by decide) w_353 rfl dX7_add_22 ?_
  refine lv_iload_n hx hb dX7_add_25 rfl (lv_at hl 2 rfl) ?_
  refine lv_iload_n hx hb dX7_add_26 rfl (lv_at hl 0 rfl) ?_
  refine lv_ishr hx hb dX7_add_27 ?_
  refine lv_sipush (v := 255) hx hb dX7_add_28 (by decide) ?_
  refine lv_iand hx hb dX7_add_31 ?_
  obtain ⟨k_1, hk_1, ek_1⟩ := pk_andE (v >>> (24 &&& 31)) (m := 255) 8 (by decide)
  have hk_1 : k_1 < 256 := hk_1
  refine tk (y := nI k_1) ek_1 ?_
  refine k_ast X hE hP hD hS 1 rfl ln rfl (by omega) (by decide) [(h0, .inr (7, [.ref htb, .int (nI ln), .int (nI le), .int (nI ax), .int kd, .int (nI pl), .int (nI lt), .int vl, .int ms])), (htb, .inl (cA, 6000, .inl (upd tz ln (nI k_1))))] rfl dX7_add_32 (fun H locs hP hD hS => ?_)
  obtain ⟨g_2, eg_2⟩ : ∃ z, z = upd tz ln (nI k_1) := ⟨_, rfl⟩
  rw [← eg_2] at hP hD
  have hg_2 := okB_upd htz ln (nI k_1) ⟨k_1, by omega, rfl⟩
  rw [← eg_2] at hg_2
  have hP : va_P D classes [(h0, .inr (7, [.ref htb, .int (nI ln), .int (nI le), .int (nI ax), .int kd, .int (nI pl), .int (nI lt), .int vl, .int ms])), (htb, .inl (cA, 6000, .inl g_2))] H := hP
  have hD : va_D A [(h0, .inr (7, [.ref htb, .int (nI ln), .int (nI le), .int (nI ax), .int kd, .int (nI pl), .int (nI lt), .int vl, .int ms])), (htb, .inl (cA, 6000, .inl g_2))] := hD
  refine lv_aload_n hx hb dX7_add_33 rfl (lv_at hl 1 rfl) ?_
  refine lv_dup hx hb dX7_add_34 rfl ?_
  refine k_get (C := RX7) (T := TX7) (N := 9) (ci := 7) (v := .int (nI ln)) X hE hP 0 rfl rfl iX7 1 (by decide) w_353 rfl dX7_add_35 ?_
  refine lv_iconst (v := 1) hx hb dX7_add_38 (by decide) ?_
  refine lv_iadd hx hb dX7_add_39 ?_
  refine tk (y := nI (ln + 1)) (nI_add ln 1) ?_
  refine k_put (C := RX7) (T := TX7) (N := 9) (ci := 7) (v := .int (nI (ln + 1))) (ty := .int) X hE hP hD hS 0 rfl rfl iX7 tyX7 tyX7_ok nmX7 1 (by decide) w_353 rfl (by decide +kernel) rfl rfl (Nat.le_of_ble_eq_true rfl) [(h0, .inr (7, [.ref htb, .int (nI (ln + 1)), .int (nI le), .int (nI ax), .int kd, .int (nI pl), .int (nI lt), .int vl, .int ms])), (htb, .inl (cA, 6000, .inl g_2))] rfl dX7_add_40 (fun H locs hP hD hS => ?_)
  refine lv_iinc (v := 16) (lv' := [(2, .int 16), (0, .ref h0), (1, .int v)]) hx hb dX7_add_43 hl (k := 0) rfl (by decide) (by decide) rfl (fun ls hl => ?_)
  refine lv_goto (tgt := 3) hx hb dX7_add_46 (by decide) ?_
  refine lv_iload_n hx hb dX7_add_3 rfl (lv_at hl 0 rfl) ?_
  refine lv_if_lt (tgt := 49) hx hb dX7_add_4 (by decide) (fun c_4_3 => absurd c_4_3 (by decide)) (fun c_4_3 => ?_)
  refine lv_aload_n hx hb dX7_add_7 rfl (lv_at hl 1 rfl) ?_
  refine k_get (C := RX7) (T := TX7) (N := 9) (ci := 7) (v := .int (nI (ln + 1))) X hE hP 0 rfl rfl iX7 1 (by decide) w_353 rfl dX7_add_8 ?_
  refine lv_sipush (v := 6000) hx hb dX7_add_11 (by decide) ?_
  refine lv_icmp_ge (tgt := 49) hx hb dX7_add_14 (by decide) (fun c_14_4 => absurd c_14_4 (nI_ge (a := ln + 1) (b := 6000) (by omega) (by decide))) (fun c_14_4 => ?_)
  refine lv_aload_n hx hb dX7_add_17 rfl (lv_at hl 1 rfl) ?_
  refine k_get (C := RX7) (T := TX7) (N := 9) (ci := 7) (v := .ref htb) X hE hP 0 rfl rfl iX7 0 (by decide) w_368 rfl dX7_add_18 ?_
  refine lv_aload_n hx hb dX7_add_21 rfl (lv_at hl 1 rfl) ?_
  refine k_get (C := RX7) (T := TX7) (N := 9) (ci := 7) (v := .int (nI (ln + 1))) X hE hP 0 rfl rfl iX7 1 (by decide) w_353 rfl dX7_add_22 ?_
  refine lv_iload_n hx hb dX7_add_25 rfl (lv_at hl 2 rfl) ?_
  refine lv_iload_n hx hb dX7_add_26 rfl (lv_at hl 0 rfl) ?_
  refine lv_ishr hx hb dX7_add_27 ?_
  refine lv_sipush (v := 255) hx hb dX7_add_28 (by decide) ?_
  refine lv_iand hx hb dX7_add_31 ?_
  obtain ⟨k_5, hk_5, ek_5⟩ := pk_andE (v >>> (16 &&& 31)) (m := 255) 8 (by decide)
  have hk_5 : k_5 < 256 := hk_5
  refine tk (y := nI k_5) ek_5 ?_
  refine k_ast X hE hP hD hS 1 rfl (ln + 1) rfl (by omega) (by decide) [(h0, .inr (7, [.ref htb, .int (nI (ln + 1)), .int (nI le), .int (nI ax), .int kd, .int (nI pl), .int (nI lt), .int vl, .int ms])), (htb, .inl (cA, 6000, .inl (upd g_2 (ln + 1) (nI k_5))))] rfl dX7_add_32 (fun H locs hP hD hS => ?_)
  obtain ⟨g_6, eg_6⟩ : ∃ z, z = upd g_2 (ln + 1) (nI k_5) := ⟨_, rfl⟩
  rw [← eg_6] at hP hD
  have hg_6 := okB_upd hg_2 (ln + 1) (nI k_5) ⟨k_5, by omega, rfl⟩
  rw [← eg_6] at hg_6
  have hP : va_P D classes [(h0, .inr (7, [.ref htb, .int (nI (ln + 1)), .int (nI le), .int (nI ax), .int kd, .int (nI pl), .int (nI lt), .int vl, .int ms])), (htb, .inl (cA, 6000, .inl g_6))] H := hP
  have hD : va_D A [(h0, .inr (7, [.ref htb, .int (nI (ln + 1)), .int (nI le), .int (nI ax), .int kd, .int (nI pl), .int (nI lt), .int vl, .int ms])), (htb, .inl (cA, 6000, .inl g_6))] := hD
  refine lv_aload_n hx hb dX7_add_33 rfl (lv_at hl 1 rfl) ?_
  refine lv_dup hx hb dX7_add_34 rfl ?_
  refine k_get (C := RX7) (T := TX7) (N := 9) (ci := 7) (v := .int (nI (ln + 1))) X hE hP 0 rfl rfl iX7 1 (by decide) w_353 rfl dX7_add_35 ?_
  refine lv_iconst (v := 1) hx hb dX7_add_38 (by decide) ?_
  refine lv_iadd hx hb dX7_add_39 ?_
  refine tk (y := nI (ln + 1 + 1)) (nI_add (ln + 1) 1) ?_
  refine k_put (C := RX7) (T := TX7) (N := 9) (ci := 7) (v := .int (nI (ln + 1 + 1))) (ty := .int) X hE hP hD hS 0 rfl rfl iX7 tyX7 tyX7_ok nmX7 1 (by decide) w_353 rfl (by decide +kernel) rfl rfl (Nat.le_of_ble_eq_true rfl) [(h0, .inr (7, [.ref htb, .int (nI (ln + 1 + 1)), .int (nI le), .int (nI ax), .int kd, .int (nI pl), .int (nI lt), .int vl, .int ms])), (htb, .inl (cA, 6000, .inl g_6))] rfl dX7_add_40 (fun H locs hP hD hS => ?_)
  refine lv_iinc (v := 8) (lv' := [(2, .int 8), (0, .ref h0), (1, .int v)]) hx hb dX7_add_43 hl (k := 0) rfl (by decide) (by decide) rfl (fun ls hl => ?_)
  refine lv_goto (tgt := 3) hx hb dX7_add_46 (by decide) ?_
  refine lv_iload_n hx hb dX7_add_3 rfl (lv_at hl 0 rfl) ?_
  refine lv_if_lt (tgt := 49) hx hb dX7_add_4 (by decide) (fun c_4_7 => absurd c_4_7 (by decide)) (fun c_4_7 => ?_)
  refine lv_aload_n hx hb dX7_add_7 rfl (lv_at hl 1 rfl) ?_
  refine k_get (C := RX7) (T := TX7) (N := 9) (ci := 7) (v := .int (nI (ln + 1 + 1))) X hE hP 0 rfl rfl iX7 1 (by decide) w_353 rfl dX7_add_8 ?_
  refine lv_sipush (v := 6000) hx hb dX7_add_11 (by decide) ?_
  refine lv_icmp_ge (tgt := 49) hx hb dX7_add_14 (by decide) (fun c_14_8 => absurd c_14_8 (nI_ge (a := ln + 1 + 1) (b := 6000) (by omega) (by decide))) (fun c_14_8 => ?_)
  refine lv_aload_n hx hb dX7_add_17 rfl (lv_at hl 1 rfl) ?_
  refine k_get (C := RX7) (T := TX7) (N := 9) (ci := 7) (v := .ref htb) X hE hP 0 rfl rfl iX7 0 (by decide) w_368 rfl dX7_add_18 ?_
  refine lv_aload_n hx hb dX7_add_21 rfl (lv_at hl 1 rfl) ?_
  refine k_get (C := RX7) (T := TX7) (N := 9) (ci := 7) (v := .int (nI (ln + 1 + 1))) X hE hP 0 rfl rfl iX7 1 (by decide) w_353 rfl dX7_add_22 ?_
  refine lv_iload_n hx hb dX7_add_25 rfl (lv_at hl 2 rfl) ?_
  refine lv_iload_n hx hb dX7_add_26 rfl (lv_at hl 0 rfl) ?_
  refine lv_ishr hx hb dX7_add_27 ?_
  refine lv_sipush (v := 255) hx hb dX7_add_28 (by decide) ?_
  refine lv_iand hx hb dX7_add_31 ?_
  obtain ⟨k_9, hk_9, ek_9⟩ := pk_andE (v >>> (8 &&& 31)) (m := 255) 8 (by decide)
  have hk_9 : k_9 < 256 := hk_9
  refine tk (y := nI k_9) ek_9 ?_
  refine k_ast X hE hP hD hS 1 rfl (ln + 1 + 1) rfl (by omega) (by decide) [(h0, .inr (7, [.ref htb, .int (nI (ln + 1 + 1)), .int (nI le), .int (nI ax), .int kd, .int (nI pl), .int (nI lt), .int vl, .int ms])), (htb, .inl (cA, 6000, .inl (upd g_6 (ln + 1 + 1) (nI k_9))))] rfl dX7_add_32 (fun H locs hP hD hS => ?_)
  obtain ⟨g_10, eg_10⟩ : ∃ z, z = upd g_6 (ln + 1 + 1) (nI k_9) := ⟨_, rfl⟩
  rw [← eg_10] at hP hD
  have hg_10 := okB_upd hg_6 (ln + 1 + 1) (nI k_9) ⟨k_9, by omega, rfl⟩
  rw [← eg_10] at hg_10
  have hP : va_P D classes [(h0, .inr (7, [.ref htb, .int (nI (ln + 1 + 1)), .int (nI le), .int (nI ax), .int kd, .int (nI pl), .int (nI lt), .int vl, .int ms])), (htb, .inl (cA, 6000, .inl g_10))] H := hP
  have hD : va_D A [(h0, .inr (7, [.ref htb, .int (nI (ln + 1 + 1)), .int (nI le), .int (nI ax), .int kd, .int (nI pl), .int (nI lt), .int vl, .int ms])), (htb, .inl (cA, 6000, .inl g_10))] := hD
  refine lv_aload_n hx hb dX7_add_33 rfl (lv_at hl 1 rfl) ?_
  refine lv_dup hx hb dX7_add_34 rfl ?_
  refine k_get (C := RX7) (T := TX7) (N := 9) (ci := 7) (v := .int (nI (ln + 1 + 1))) X hE hP 0 rfl rfl iX7 1 (by decide) w_353 rfl dX7_add_35 ?_
  refine lv_iconst (v := 1) hx hb dX7_add_38 (by decide) ?_
  refine lv_iadd hx hb dX7_add_39 ?_
  refine tk (y := nI (ln + 1 + 1 + 1)) (nI_add (ln + 1 + 1) 1) ?_
  refine k_put (C := RX7) (T := TX7) (N := 9) (ci := 7) (v := .int (nI (ln + 1 + 1 + 1))) (ty := .int) X hE hP hD hS 0 rfl rfl iX7 tyX7 tyX7_ok nmX7 1 (by decide) w_353 rfl (by decide +kernel) rfl rfl (Nat.le_of_ble_eq_true rfl) [(h0, .inr (7, [.ref htb, .int (nI (ln + 1 + 1 + 1)), .int (nI le), .int (nI ax), .int kd, .int (nI pl), .int (nI lt), .int vl, .int ms])), (htb, .inl (cA, 6000, .inl g_10))] rfl dX7_add_40 (fun H locs hP hD hS => ?_)
  refine lv_iinc (v := 0) (lv' := [(2, .int 0), (0, .ref h0), (1, .int v)]) hx hb dX7_add_43 hl (k := 0) rfl (by decide) (by decide) rfl (fun ls hl => ?_)
  refine lv_goto (tgt := 3) hx hb dX7_add_46 (by decide) ?_
  refine lv_iload_n hx hb dX7_add_3 rfl (lv_at hl 0 rfl) ?_
  refine lv_if_lt (tgt := 49) hx hb dX7_add_4 (by decide) (fun c_4_11 => absurd c_4_11 (by decide)) (fun c_4_11 => ?_)
  refine lv_aload_n hx hb dX7_add_7 rfl (lv_at hl 1 rfl) ?_
  refine k_get (C := RX7) (T := TX7) (N := 9) (ci := 7) (v := .int (nI (ln + 1 + 1 + 1))) X hE hP 0 rfl rfl iX7 1 (by decide) w_353 rfl dX7_add_8 ?_
  refine lv_sipush (v := 6000) hx hb dX7_add_11 (by decide) ?_
  refine lv_icmp_ge (tgt := 49) hx hb dX7_add_14 (by decide) (fun c_14_12 => absurd c_14_12 (nI_ge (a := ln + 1 + 1 + 1) (b := 6000) (by omega) (by decide))) (fun c_14_12 => ?_)
  refine lv_aload_n hx hb dX7_add_17 rfl (lv_at hl 1 rfl) ?_
  refine k_get (C := RX7) (T := TX7) (N := 9) (ci := 7) (v := .ref htb) X hE hP 0 rfl rfl iX7 0 (by decide) w_368 rfl dX7_add_18 ?_
  refine lv_aload_n hx hb dX7_add_21 rfl (lv_at hl 1 rfl) ?_
  refine k_get (C := RX7) (T := TX7) (N := 9) (ci := 7) (v := .int (nI (ln + 1 + 1 + 1))) X hE hP 0 rfl rfl iX7 1 (by decide) w_353 rfl dX7_add_22 ?_
  refine lv_iload_n hx hb dX7_add_25 rfl (lv_at hl 2 rfl) ?_
  refine lv_iload_n hx hb dX7_add_26 rfl (lv_at hl 0 rfl) ?_
  refine lv_ishr hx hb dX7_add_27 ?_
  refine lv_sipush (v := 255) hx hb dX7_add_28 (by decide) ?_
  refine lv_iand hx hb dX7_add_31 ?_
  obtain ⟨k_13, hk_13, ek_13⟩ := pk_andE (v >>> (0 &&& 31)) (m := 255) 8 (by decide)
  have hk_13 : k_13 < 256 := hk_13
  refine tk (y := nI k_13) ek_13 ?_
  refine k_ast X hE hP hD hS 1 rfl (ln + 1 + 1 + 1) rfl (by omega) (by decide) [(h0, .inr (7, [.ref htb, .int (nI (ln + 1 + 1 + 1)), .int (nI le), .int (nI ax), .int kd, .int (nI pl), .int (nI lt), .int vl, .int ms])), (htb, .inl (cA, 6000, .inl (upd g_10 (ln + 1 + 1 + 1) (nI k_13))))] rfl dX7_add_32 (fun H locs hP hD hS => ?_)
  obtain ⟨g_14, eg_14⟩ : ∃ z, z = upd g_10 (ln + 1 + 1 + 1) (nI k_13) := ⟨_, rfl⟩
  rw [← eg_14] at hP hD
  have hg_14 := okB_upd hg_10 (ln + 1 + 1 + 1) (nI k_13) ⟨k_13, by omega, rfl⟩
  rw [← eg_14] at hg_14
  have hP : va_P D classes [(h0, .inr (7, [.ref htb, .int (nI (ln + 1 + 1 + 1)), .int (nI le), .int (nI ax), .int kd, .int (nI pl), .int (nI lt), .int vl, .int ms])), (htb, .inl (cA, 6000, .inl g_14))] H := hP
  have hD : va_D A [(h0, .inr (7, [.ref htb, .int (nI (ln + 1 + 1 + 1)), .int (nI le), .int (nI ax), .int kd, .int (nI pl), .int (nI lt), .int vl, .int ms])), (htb, .inl (cA, 6000, .inl g_14))] := hD
  refine lv_aload_n hx hb dX7_add_33 rfl (lv_at hl 1 rfl) ?_
  refine lv_dup hx hb dX7_add_34 rfl ?_
  refine k_get (C := RX7) (T := TX7) (N := 9) (ci := 7) (v := .int (nI (ln + 1 + 1 + 1))) X hE hP 0 rfl rfl iX7 1 (by decide) w_353 rfl dX7_add_35 ?_
  refine lv_iconst (v := 1) hx hb dX7_add_38 (by decide) ?_
  refine lv_iadd hx hb dX7_add_39 ?_
  refine tk (y := nI (ln + 1 + 1 + 1 + 1)) (nI_add (ln + 1 + 1 + 1) 1) ?_
  refine k_put (C := RX7) (T := TX7) (N := 9) (ci := 7) (v := .int (nI (ln + 1 + 1 + 1 + 1))) (ty := .int) X hE hP hD hS 0 rfl rfl iX7 tyX7 tyX7_ok nmX7 1 (by decide) w_353 rfl (by decide +kernel) rfl rfl (Nat.le_of_ble_eq_true rfl) [(h0, .inr (7, [.ref htb, .int (nI (ln + 1 + 1 + 1 + 1)), .int (nI le), .int (nI ax), .int kd, .int (nI pl), .int (nI lt), .int vl, .int ms])), (htb, .inl (cA, 6000, .inl g_14))] rfl dX7_add_40 (fun H locs hP hD hS => ?_)
  refine lv_iinc (v := (-8)) (lv' := [(2, .int (-8)), (0, .ref h0), (1, .int v)]) hx hb dX7_add_43 hl (k := 0) rfl (by decide) (by decide) rfl (fun ls hl => ?_)
  refine lv_goto (tgt := 3) hx hb dX7_add_46 (by decide) ?_
  refine lv_iload_n hx hb dX7_add_3 rfl (lv_at hl 0 rfl) ?_
  refine lv_if_lt (tgt := 49) hx hb dX7_add_4 (by decide) (fun c_4_15 => ?_) (fun c_4_15 => absurd (by decide) c_4_15)
  rw [hQ9]
  exact endV X hr hlocks hP hD hS dX7_add_49 ⟨(ln + 1 + 1 + 1 + 1), g_14, (by omega), hg_14, rfl, (fun j => by rw [eg_14, eg_10, eg_6, eg_2, ← ek_1, ← ek_5, ← ek_9, ← ek_13]; exact fd4_upd j), rfl⟩
set_option maxHeartbeats 4000000 in
set_option maxRecDepth 100000 in
theorem c_k_feed (l : Launch) (D : va_G) (cA cB : ClassId) (h0 : Nat) (hn : Nat) (hs : Nat) (hd : Nat) (hp : Nat) (qr : Nat) (qst : Nat) (qa : Nat) (qm : Nat) (qe : Nat) (htb : Nat) (ln : Nat) (le : Nat) (ax : Nat) (kd : Int32) (pl : Nat) (lt : Nat) (vl : Int32) (ms : Int32) (tz : Nat → Int32) (v1 : Int32) (v2 : Int32) (v3 : Int32) (v4 : Int32) (v5 : Int32) (hln : ln < 6001) (hle : le < 6001) (hax : ax < 6001) (hpl : pl < 6010) (hlt : lt < 6010) (htz : ∀ j, j < 6000 → ∃ k : Nat, k < 256 ∧ tz j = nI k) : CI l yX8_feed cX8_feed 6 (some .int) 1 22 0 0 D cA cB [.ref h0, .int v1, .int v2, .int v3, .int v4, .int v5] [(h0, .inr (8, [.ref hn, .ref hs, .ref hd, .ref hp, .ref qr, .ref qst, .ref qa, .ref qm, .ref qe])), (qa, .inr (7, [.ref htb, .int (nI ln), .int (nI le), .int (nI ax), .int kd, .int (nI pl), .int (nI lt), .int vl, .int ms])), (htb, .inl (cA, 6000, .inl tz))] (fun r W1 => ∃ (ln2 : Nat) (tz2 : Nat → Int32) (rv : Int32), r = rv ∧ (ln2 < 6001) ∧ (∀ j, j < 6000 → ∃ k : Nat, k < 256 ∧ tz2 j = nI k) ∧ ((ln + 20 ≤ 6000 ∧ rv = nI (ln + 20) ∧ ln2 = ln + 20 ∧ ∀ j, tz2 j = if ln ≤ j ∧ j < ln + 20 then fdb v1 v2 v3 v4 v5 (j - ln) else tz j) ∨ (6000 < ln + 20 ∧ rv = -1 ∧ ln2 = ln ∧ tz2 = tz)) ∧ W1 = [(h0, .inr (8, [.ref hn, .ref hs, .ref hd, .ref hp, .ref qr, .ref qst, .ref qa, .ref qm, .ref qe])), (qa, .inr (7, [.ref htb, .int (nI ln2), .int (nI le), .int (nI ax), .int kd, .int (nI pl), .int (nI lt), .int vl, .int ms])), (htb, .inl (cA, 6000, .inl tz2))]) := by
  refine mkI (lv0 := [(0, .ref h0), (1, .int v1), (2, .int v2), (3, .int v3), (4, .int v4), (5, .int v5)]) (by decide) (Nat.le_of_ble_eq_true rfl) rfl ?_
  intro p e s m below meth c A ls X hr hlocks hnm hE hA hP hD hS hl
  have hx := X.1
  have hb := X.2.1
  refine qW (fun Q9 hQ9 => ?_)
  refine lv_aload_n hx hb dX8_feed_0 rfl (lv_at hl 0 rfl) ?_
  refine k_get (C := RX8) (T := TX8) (N := 9) (ci := 8) (v := .ref qa) X hE hP 0 rfl rfl iX8 6 (by decide) w_354 rfl dX8_feed_1 ?_
  refine lv_bipush (v := 20) hx hb dX8_feed_4 (by decide) ?_
  refine kVi (n3 := 1) (As := [.int 20]) (rest := []) X hl.1 hE hP hD hS hA [(qa, .inr (7, [.ref htb, .int (nI ln), .int (nI le), .int (nI ax), .int kd, .int (nI pl), .int (nI lt), .int vl, .int ms]))] [(h0, .inr (8, [.ref hn, .ref hs, .ref hd, .ref hp, .ref qr, .ref qst, .ref qa, .ref qm, .ref qe])), (htb, .inl (cA, 6000, .inl tz))] [1] [0, 2] rfl rfl rfl (by decide +kernel) (by decide +kernel) (by decide +kernel) (c_s_hasRoom l D cA cB qa htb ln (nI le) (nI ax) kd (nI pl) (nI lt) vl ms hln) w_464 w_374 w_463 w_465 w_466 0 (ci := 7) (T := TX7) (N := 9) rfl rfl (by decide +kernel) rfl rfl (Nat.le_of_ble_eq_true rfl) ⟨(Nat.le_of_ble_eq_true rfl), (Nat.le_of_ble_eq_true rfl)⟩ ⟨(Nat.le_of_ble_eq_true rfl), (Nat.le_of_ble_eq_true rfl)⟩ dX8_feed_6 (fun r W1 H locs hw hP hD hS => ?_)
  obtain ⟨rk_1, rfl, hf_2, rfl⟩ := hw
  have hP : va_P D classes [(h0, .inr (8, [.ref hn, .ref hs, .ref hd, .ref hp, .ref qr, .ref qst, .ref qa, .ref qm, .ref qe])), (htb, .inl (cA, 6000, .inl tz)), (qa, .inr (7, [.ref htb, .int (nI ln), .int (nI le), .int (nI ax), .int kd, .int (nI pl), .int (nI lt), .int vl, .int ms]))] H := hP
  have hD : va_D A [(h0, .inr (8, [.ref hn, .ref hs, .ref hd, .ref hp, .ref qr, .ref qst, .ref qa, .ref qm, .ref qe])), (htb, .inl (cA, 6000, .inl tz)), (qa, .inr (7, [.ref htb, .int (nI ln), .int (nI le), .int (nI ax), .int kd, .int (nI pl), .int (nI lt), .int vl, .int ms]))] := hD
  refine lv_if_ne (tgt := 14) hx hb dX8_feed_9 (by decide) (fun c_9_3 => ?_) (fun c_9_3 => ?_)
  · have nc_9_3 : ¬ rk_1 = 0 := fun q => c_9_3 ((nI_eq (a := rk_1) (b := 0) (by omega) (by omega)).mpr q)
    refine lv_aload_n hx hb dX8_feed_14 rfl (lv_at hl 0 rfl) ?_
    refine k_get (C := RX8) (T := TX8) (N := 9) (ci := 8) (v := .ref qa) X hE hP 0 rfl rfl iX8 6 (by decide) w_354 rfl dX8_feed_15 ?_
    refine lv_iload_n hx hb dX8_feed_18 rfl (lv_at hl 1 rfl) ?_
    refine kVv (n3 := 1) (As := [.int v1]) (rest := []) X hl.1 hE hP hD hS hA [(qa, .inr (7, [.ref htb, .int (nI ln), .int (nI le), .int (nI ax), .int kd, .int (nI pl), .int (nI lt), .int vl, .int ms])), (htb, .inl (cA, 6000, .inl tz))] [(h0, .inr (8, [.ref hn, .ref hs, .ref hd, .ref hp, .ref qr, .ref qst, .ref qa, .ref qm, .ref qe]))] [2, 1] [0] rfl rfl rfl (by decide +kernel) (by decide +kernel) (by decide +kernel) (c_k_add l D cA cB qa htb ln le ax kd pl lt vl ms tz v1 hln hle hax hpl hlt htz (by omega)) w_468 w_374 w_467 w_469 w_470 0 (ci := 7) (T := TX7) (N := 9) rfl rfl (by decide +kernel) rfl rfl (Nat.le_of_ble_eq_true rfl) ⟨(Nat.le_of_ble_eq_true rfl), (Nat.le_of_ble_eq_true rfl)⟩ ⟨(Nat.le_of_ble_eq_true rfl), (Nat.le_of_ble_eq_true rfl)⟩ dX8_feed_19 (fun W1 H locs hw hP hD hS => ?_)
    obtain ⟨ln2_4, tz2_5, hf_6, hf_7, hf_8, hf_9, rfl⟩ := hw
    have hP : va_P D classes [(h0, .inr (8, [.ref hn, .ref hs, .ref hd, .ref hp, .ref qr, .ref qst, .ref qa, .ref qm, .ref qe])), (qa, .inr (7, [.ref htb, .int (nI ln2_4), .int (nI le), .int (nI ax), .int kd, .int (nI pl), .int (nI lt), .int vl, .int ms])), (htb, .inl (cA, 6000, .inl tz2_5))] H := hP
    have hD : va_D A [(h0, .inr (8, [.ref hn, .ref hs, .ref hd, .ref hp, .ref qr, .ref qst, .ref qa, .ref qm, .ref qe])), (qa, .inr (7, [.ref htb, .int (nI ln2_4), .int (nI le), .int (nI ax), .int kd, .int (nI pl), .int (nI lt), .int vl, .int ms])), (htb, .inl (cA, 6000, .inl tz2_5))] := hD
    obtain rfl := hf_8
    refine lv_aload_n hx hb dX8_feed_22 rfl (lv_at hl 0 rfl) ?_
    refine k_get (C := RX8) (T := TX8) (N := 9) (ci := 8) (v := .ref qa) X hE hP 0 rfl rfl iX8 6 (by decide) w_354 rfl dX8_feed_23 ?_
    refine lv_iload_n hx hb dX8_feed_26 rfl (lv_at hl 2 rfl) ?_
    refine kVv (n3 := 1) (As := [.int v2]) (rest := []) X hl.1 hE hP hD hS hA [(qa, .inr (7, [.ref htb, .int (nI (ln + 4)), .int (nI le), .int (nI ax), .int kd, .int (nI pl), .int (nI lt), .int vl, .int ms])), (htb, .inl (cA, 6000, .inl tz2_5))] [(h0, .inr (8, [.ref hn, .ref hs, .ref hd, .ref hp, .ref qr, .ref qst, .ref qa, .ref qm, .ref qe]))] [1, 2] [0] rfl rfl rfl (by decide +kernel) (by decide +kernel) (by decide +kernel) (c_k_add l D cA cB qa htb (ln + 4) le ax kd pl lt vl ms tz2_5 v2 (by first | assumption | omega | decide | rfl) hle hax hpl hlt hf_7 (by omega)) w_468 w_374 w_467 w_469 w_470 0 (ci := 7) (T := TX7) (N := 9) rfl rfl (by decide +kernel) rfl rfl (Nat.le_of_ble_eq_true rfl) ⟨(Nat.le_of_ble_eq_true rfl), (Nat.le_of_ble_eq_true rfl)⟩ ⟨(Nat.le_of_ble_eq_true rfl), (Nat.le_of_ble_eq_true rfl)⟩ dX8_feed_27 (fun W1 H locs hw hP hD hS => ?_)
    obtain ⟨ln2_10, tz2_11, hf_12, hf_13, hf_14, hf_15, rfl⟩ := hw
    have hP : va_P D classes [(h0, .inr (8, [.ref hn, .ref hs, .ref hd, .ref hp, .ref qr, .ref qst, .ref qa, .ref qm, .ref qe])), (qa, .inr (7, [.ref htb, .int (nI ln2_10), .int (nI le), .int (nI ax), .int kd, .int (nI pl), .int (nI lt), .int vl, .int ms])), (htb, .inl (cA, 6000, .inl tz2_11))] H := hP
    have hD : va_D A [(h0, .inr (8, [.ref hn, .ref hs, .ref hd, .ref hp, .ref qr, .ref qst, .ref qa, .ref qm, .ref qe])), (qa, .inr (7, [.ref htb, .int (nI ln2_10), .int (nI le), .int (nI ax), .int kd, .int (nI pl), .int (nI lt), .int vl, .int ms])), (htb, .inl (cA, 6000, .inl tz2_11))] := hD
    obtain rfl := hf_14
    refine lv_aload_n hx hb dX8_feed_30 rfl (lv_at hl 0 rfl) ?_
    refine k_get (C := RX8) (T := TX8) (N := 9) (ci := 8) (v := .ref qa) X hE hP 0 rfl rfl iX8 6 (by decide) w_354 rfl dX8_feed_31 ?_
    refine lv_iload_n hx hb dX8_feed_34 rfl (lv_at hl 3 rfl) ?_
    refine kVv (n3 := 1) (As := [.int v3]) (rest := []) X hl.1 hE hP hD hS hA [(qa, .inr (7, [.ref htb, .int (nI ((ln + 4) + 4)), .int (nI le), .int (nI ax), .int kd, .int (nI pl), .int (nI lt), .int vl, .int ms])), (htb, .inl (cA, 6000, .inl tz2_11))] [(h0, .inr (8, [.ref hn, .ref hs, .ref hd, .ref hp, .ref qr, .ref qst, .ref qa, .ref qm, .ref qe]))] [1, 2] [0] rfl rfl rfl (by decide +kernel) (by decide +kernel) (by decide +kernel) (c_k_add l D cA cB qa htb ((ln + 4) + 4) le ax kd pl lt vl ms tz2_11 v3 (by first | assumption | omega | decide | rfl) hle hax hpl hlt hf_13 (by omega)) w_468 w_374 w_467 w_469 w_470 0 (ci := 7) (T := TX7) (N := 9) rfl rfl (by decide +kernel) rfl rfl (Nat.le_of_ble_eq_true rfl) ⟨(Nat.le_of_ble_eq_true rfl), (Nat.le_of_ble_eq_true rfl)⟩ ⟨(Nat.le_of_ble_eq_true rfl), (Nat.le_of_ble_eq_true rfl)⟩ dX8_feed_35 (fun W1 H locs hw hP hD hS => ?_)
    obtain ⟨ln2_16, tz2_17, hf_18, hf_19, hf_20, hf_21, rfl⟩ := hw
    have hP : va_P D classes [(h0, .inr (8, [.ref hn, .ref hs, .ref hd, .ref hp, .ref qr, .ref qst, .ref qa, .ref qm, .ref qe])), (qa, .inr (7, [.ref htb, .int (nI ln2_16), .int (nI le), .int (nI ax), .int kd, .int (nI pl), .int (nI lt), .int vl, .int ms])), (htb, .inl (cA, 6000, .inl tz2_17))] H := hP
    have hD : va_D A [(h0, .inr (8, [.ref hn, .ref hs, .ref hd, .ref hp, .ref qr, .ref qst, .ref qa, .ref qm, .ref qe])), (qa, .inr (7, [.ref htb, .int (nI ln2_16), .int (nI le), .int (nI ax), .int kd, .int (nI pl), .int (nI lt), .int vl, .int ms])), (htb, .inl (cA, 6000, .inl tz2_17))] := hD
    obtain rfl := hf_20
    refine lv_aload_n hx hb dX8_feed_38 rfl (lv_at hl 0 rfl) ?_
    refine k_get (C := RX8) (T := TX8) (N := 9) (ci := 8) (v := .ref qa) X hE hP 0 rfl rfl iX8 6 (by decide) w_354 rfl dX8_feed_39 ?_
    refine lv_iload hx hb dX8_feed_42 (lv_at hl 4 rfl) ?_
    refine kVv (n3 := 1) (As := [.int v4]) (rest := []) X hl.1 hE hP hD hS hA [(qa, .inr (7, [.ref htb, .int (nI (((ln + 4) + 4) + 4)), .int (nI le), .int (nI ax), .int kd, .int (nI pl), .int (nI lt), .int vl, .int ms])), (htb, .inl (cA, 6000, .inl tz2_17))] [(h0, .inr (8, [.ref hn, .ref hs, .ref hd, .ref hp, .ref qr, .ref qst, .ref qa, .ref qm, .ref qe]))] [1, 2] [0] rfl rfl rfl (by decide +kernel) (by decide +kernel) (by decide +kernel) (c_k_add l D cA cB qa htb (((ln + 4) + 4) + 4) le ax kd pl lt vl ms tz2_17 v4 (by first | assumption | omega | decide | rfl) hle hax hpl hlt hf_19 (by omega)) w_468 w_374 w_467 w_469 w_470 0 (ci := 7) (T := TX7) (N := 9) rfl rfl (by decide +kernel) rfl rfl (Nat.le_of_ble_eq_true rfl) ⟨(Nat.le_of_ble_eq_true rfl), (Nat.le_of_ble_eq_true rfl)⟩ ⟨(Nat.le_of_ble_eq_true rfl), (Nat.le_of_ble_eq_true rfl)⟩ dX8_feed_44 (fun W1 H locs hw hP hD hS => ?_)
    obtain ⟨ln2_22, tz2_23, hf_24, hf_25, hf_26, hf_27, rfl⟩ := hw
    have hP : va_P D classes [(h0, .inr (8, [.ref hn, .ref hs, .ref hd, .ref hp, .ref qr, .ref qst, .ref qa, .ref qm, .ref qe])), (qa, .inr (7, [.ref htb, .int (nI ln2_22), .int (nI le), .int (nI ax), .int kd, .int (nI pl), .int (nI lt), .int vl, .int ms])), (htb, .inl (cA, 6000, .inl tz2_23))] H := hP
    have hD : va_D A [(h0, .inr (8, [.ref hn, .ref hs, .ref hd, .ref hp, .ref qr, .ref qst, .ref qa, .ref qm, .ref qe])), (qa, .inr (7, [.ref htb, .int (nI ln2_22), .int (nI le), .int (nI ax), .int kd, .int (nI pl), .int (nI lt), .int vl, .int ms])), (htb, .inl (cA, 6000, .inl tz2_23))] := hD
    obtain rfl := hf_26
    refine lv_aload_n hx hb dX8_feed_47 rfl (lv_at hl 0 rfl) ?_
    refine k_get (C := RX8) (T := TX8) (N := 9) (ci := 8) (v := .ref qa) X hE hP 0 rfl rfl iX8 6 (by decide) w_354 rfl dX8_feed_48 ?_
    refine lv_iload hx hb dX8_feed_51 (lv_at hl 5 rfl) ?_
    refine kVv (n3 := 1) (As := [.int v5]) (rest := []) X hl.1 hE hP hD hS hA [(qa, .inr (7, [.ref htb, .int (nI ((((ln + 4) + 4) + 4) + 4)), .int (nI le), .int (nI ax), .int kd, .int (nI pl), .int (nI lt), .int vl, .int ms])), (htb, .inl (cA, 6000, .inl tz2_23))] [(h0, .inr (8, [.ref hn, .ref hs, .ref hd, .ref hp, .ref qr, .ref qst, .ref qa, .ref qm, .ref qe]))] [1, 2] [0] rfl rfl rfl (by decide +kernel) (by decide +kernel) (by decide +kernel) (c_k_add l D cA cB qa htb ((((ln + 4) + 4) + 4) + 4) le ax kd pl lt vl ms tz2_23 v5 (by first | assumption | omega | decide | rfl) hle hax hpl hlt hf_25 (by omega)) w_468 w_374 w_467 w_469 w_470 0 (ci := 7) (T := TX7) (N := 9) rfl rfl (by decide +kernel) rfl rfl (Nat.le_of_ble_eq_true rfl) ⟨(Nat.le_of_ble_eq_true rfl), (Nat.le_of_ble_eq_true rfl)⟩ ⟨(Nat.le_of_ble_eq_true rfl), (Nat.le_of_ble_eq_true rfl)⟩ dX8_feed_53 (fun W1 H locs hw hP hD hS => ?_)
    obtain ⟨ln2_28, tz2_29, hf_30, hf_31, hf_32, hf_33, rfl⟩ := hw
    have hP : va_P D classes [(h0, .inr (8, [.ref hn, .ref hs, .ref hd, .ref hp, .ref qr, .ref qst, .ref qa, .ref qm, .ref qe])), (qa, .inr (7, [.ref htb, .int (nI ln2_28), .int (nI le), .int (nI ax), .int kd, .int (nI pl), .int (nI lt), .int vl, .int ms])), (htb, .inl (cA, 6000, .inl tz2_29))] H := hP
    have hD : va_D A [(h0, .inr (8, [.ref hn, .ref hs, .ref hd, .ref hp, .ref qr, .ref qst, .ref qa, .ref qm, .ref qe])), (qa, .inr (7, [.ref htb, .int (nI ln2_28), .int (nI le), .int (nI ax), .int kd, .int (nI pl), .int (nI lt), .int vl, .int ms])), (htb, .inl (cA, 6000, .inl tz2_29))] := hD
    obtain rfl := hf_32
    refine lv_aload_n hx hb dX8_feed_56 rfl (lv_at hl 0 rfl) ?_
    refine k_get (C := RX8) (T := TX8) (N := 9) (ci := 8) (v := .ref qa) X hE hP 0 rfl rfl iX8 6 (by decide) w_354 rfl dX8_feed_57 ?_
    refine k_getN (C := RX7) (T := TX7) (N := 9) (ci := 7) (v := .int (nI (((((ln + 4) + 4) + 4) + 4) + 4))) X hE hP 1 rfl rfl iX7 1 (by decide) nw_12 rfl dX8_feed_60 ?_
    rw [hQ9]
    exact endI X hr hlocks hP hD hS dX8_feed_63 ⟨(((((ln + 4) + 4) + 4) + 4) + 4), tz2_29, (nI (((((ln + 4) + 4) + 4) + 4) + 4)), rfl, (by omega), hf_31, (Or.inl ⟨by omega, by rw [show ln + 4 + 4 + 4 + 4 + 4 = ln + 20 by omega], by omega, fdb_5 hf_9 hf_15 hf_21 hf_27 hf_33⟩), rfl⟩
  · have nc_9_3 : rk_1 = 0 := (nI_eq (a := rk_1) (b := 0) (by omega) (by omega)).mp c_9_3
    refine lv_iconst (v := (-1)) hx hb dX8_feed_12 (by decide) ?_
    have hP : va_P D classes [(h0, .inr (8, [.ref hn, .ref hs, .ref hd, .ref hp, .ref qr, .ref qst, .ref qa, .ref qm, .ref qe])), (qa, .inr (7, [.ref htb, .int (nI ln), .int (nI le), .int (nI ax), .int kd, .int (nI pl), .int (nI lt), .int vl, .int ms])), (htb, .inl (cA, 6000, .inl tz))] _ := hP.sub [0, 2, 1] rfl
    have hD : va_D A [(h0, .inr (8, [.ref hn, .ref hs, .ref hd, .ref hp, .ref qr, .ref qst, .ref qa, .ref qm, .ref qe])), (qa, .inr (7, [.ref htb, .int (nI ln), .int (nI le), .int (nI ax), .int kd, .int (nI pl), .int (nI lt), .int vl, .int ms])), (htb, .inl (cA, 6000, .inl tz))] := hD.sub [0, 2, 1] (by decide) rfl
    rw [hQ9]
    exact endI X hr hlocks hP hD hS dX8_feed_13 ⟨ln, tz, (-1), rfl, hln, htz, (Or.inr ⟨by omega, rfl, rfl, rfl⟩), rfl⟩
