set_option maxHeartbeats 4000000 in
set_option maxRecDepth 100000 in
theorem c_Past_forget (l : Launch) (D : va_G) (cA cB : ClassId) (h0 : Nat) (he : Nat) (la : Int32) (ke : Int32)  : CV l yX3_forget cX3_forget 1 none 0 0 0 0 D cA cB [.ref h0] [(h0, .inr (3, [.ref he, .int la, .int ke]))] (fun W1 => W1 = [(h0, .inr (3, [.ref he, .int la, .int 0]))]) := by
  refine mkV (lv0 := [(0, .ref h0)]) (by decide) (Nat.le_of_ble_eq_true rfl) rfl ?_
  intro p e s m below meth c A ls X hr hlocks hnm hE hA hP hD hS hl
  have hx := X.1
  have hb := X.2.1
  refine lv_aload_n hx hb dX3_forget_0 rfl (lv_at hl 0 rfl) ?_
  refine lv_iconst (v := 0) hx hb dX3_forget_1 (by decide) ?_
  refine k_put (C := RX3) (T := TX3) (N := 3) (ci := 3) (v := .int 0) (ty := .int) X hE hP hD hS 0 rfl rfl iX3 tyX3 tyX3_ok nmX3 2 (by decide) w_53 rfl (by decide +kernel) rfl rfl (Nat.le_of_ble_eq_true rfl) [(h0, .inr (3, [.ref he, .int la, .int 0]))] rfl dX3_forget_2 (fun H locs hP hD hS => ?_)
  exact endV X hr hlocks hP hD hS dX3_forget_5 rfl
set_option maxHeartbeats 4000000 in
set_option maxRecDepth 100000 in
theorem c_byteAt (l : Launch) (D : va_G) (cA cB : ClassId) (h0 : Nat) (hn : Nat) (hs : Nat) (hd : Nat) (hp : Nat) (hc : Nat) (wy : Int32) (dn : Int32) (x : Int32) (j : Nat) (st : Nat → Int32) (hj : x &&& 4095 = nI j) (hjn : j < 4096) : CI l yX4_byteAt cX4_byteAt 2 (some .int) 0 0 0 0 D cA cB [.ref h0, .int x] [(h0, .inr (4, [.ref hn, .ref hs, .ref hd, .ref hp, .ref hc, .int wy, .int dn])), (hs, .inl (cA, 4096, .inl st))] (fun r W1 => r = st j ∧ W1 = [(h0, .inr (4, [.ref hn, .ref hs, .ref hd, .ref hp, .ref hc, .int wy, .int dn])), (hs, .inl (cA, 4096, .inl st))]) := by
  refine mkI (lv0 := [(0, .ref h0), (1, .int x)]) (by decide) (Nat.le_of_ble_eq_true rfl) rfl ?_
  intro p e s m below meth c A ls X hr hlocks hnm hE hA hP hD hS hl
  have hx := X.1
  have hb := X.2.1
  refine lv_aload_n hx hb dX4_byteAt_0 rfl (lv_at hl 0 rfl) ?_
  refine k_get (C := RX4) (T := TX4) (N := 7) (ci := 4) (v := .ref hs) X hE hP 0 rfl rfl iX4 1 (by decide) w_63 rfl dX4_byteAt_1 ?_
  refine lv_iload_n hx hb dX4_byteAt_4 rfl (lv_at hl 1 rfl) ?_
  refine lv_sipush (v := 4095) hx hb dX4_byteAt_5 (by decide) ?_
  refine lv_iand hx hb dX4_byteAt_8 ?_
  refine k_ald (v := st j) X hE hP 1 rfl j hj hjn (by decide) rfl dX4_byteAt_9 ?_
  exact endI X hr hlocks hP hD hS dX4_byteAt_10 ⟨rfl, rfl⟩
set_option maxHeartbeats 4000000 in
set_option maxRecDepth 100000 in
theorem c_placeAt_4078 (l : Launch) (D : va_G) (cA cB : ClassId) (h0 : Nat) (hn : Nat) (hs : Nat) (hd : Nat) (hp : Nat) (hc : Nat) (wy : Int32) (dn : Int32) (st : Nat → Int32)  : CI l yX4_placeAt cX4_placeAt 2 (some .int) 1 21 0 0 D cA cB [.ref h0, .int 4078] [(h0, .inr (4, [.ref hn, .ref hs, .ref hd, .ref hp, .ref hc, .int wy, .int dn])), (hs, .inl (cA, 4096, .inl st))] (fun r W1 => r = ((st 4078) + (256 * (st 4079))) &&& 4095 ∧ W1 = [(h0, .inr (4, [.ref hn, .ref hs, .ref hd, .ref hp, .ref hc, .int wy, .int dn])), (hs, .inl (cA, 4096, .inl st))]) := by
  refine mkI (lv0 := [(0, .ref h0), (1, .int 4078)]) (by decide) (Nat.le_of_ble_eq_true rfl) rfl ?_
  intro p e s m below meth c A ls X hr hlocks hnm hE hA hP hD hS hl
  have hx := X.1
  have hb := X.2.1
  refine lv_aload_n hx hb dX4_placeAt_0 rfl (lv_at hl 0 rfl) ?_
  refine lv_iload_n hx hb dX4_placeAt_1 rfl (lv_at hl 1 rfl) ?_
  refine kVi (n3 := 1) (As := [.int 4078]) (rest := []) X hl.1 hE hP hD hS hA [(h0, .inr (4, [.ref hn, .ref hs, .ref hd, .ref hp, .ref hc, .int wy, .int dn])), (hs, .inl (cA, 4096, .inl st))] [] [0, 1] [] rfl rfl rfl (by decide +kernel) (by decide +kernel) (by decide +kernel) (c_byteAt l D cA cB h0 hn hs hd hp hc wy dn 4078 4078 st (by first | assumption | decide | rfl | omega) (by first | assumption | decide | rfl | omega)) w_65 w_66 w_64 w_67 w_68 0 (ci := 4) (T := TX4) (N := 7) rfl rfl (by decide +kernel) rfl rfl (Nat.le_of_ble_eq_true rfl) ⟨(Nat.le_of_ble_eq_true rfl), (Nat.le_of_ble_eq_true rfl)⟩ ⟨(Nat.le_of_ble_eq_true rfl), (Nat.le_of_ble_eq_true rfl)⟩ dX4_placeAt_2 (fun r W1 H locs hw hP hD hS => ?_)
  obtain ⟨rfl, rfl⟩ := hw
  have hP : va_P D classes [(h0, .inr (4, [.ref hn, .ref hs, .ref hd, .ref hp, .ref hc, .int wy, .int dn])), (hs, .inl (cA, 4096, .inl st))] H := hP
  have hD : va_D A [(h0, .inr (4, [.ref hn, .ref hs, .ref hd, .ref hp, .ref hc, .int wy, .int dn])), (hs, .inl (cA, 4096, .inl st))] := hD
  refine lv_sipush (v := 256) hx hb dX4_placeAt_5 (by decide) ?_
  refine lv_aload_n hx hb dX4_placeAt_8 rfl (lv_at hl 0 rfl) ?_
  refine lv_iload_n hx hb dX4_placeAt_9 rfl (lv_at hl 1 rfl) ?_
  refine lv_iconst (v := 1) hx hb dX4_placeAt_10 (by decide) ?_
  refine lv_iadd hx hb dX4_placeAt_11 ?_
  refine tk (y := 4079) (by decide) ?_
  refine kVi (n3 := 1) (As := [.int 4079]) (rest := [.int 256, .int (st 4078)]) X hl.1 hE hP hD hS hA [(h0, .inr (4, [.ref hn, .ref hs, .ref hd, .ref hp, .ref hc, .int wy, .int dn])), (hs, .inl (cA, 4096, .inl st))] [] [0, 1] [] rfl rfl rfl (by decide +kernel) (by decide +kernel) (by decide +kernel) (c_byteAt l D cA cB h0 hn hs hd hp hc wy dn 4079 4079 st (by first | assumption | decide | rfl | omega) (by first | assumption | decide | rfl | omega)) w_65 w_66 w_64 w_67 w_68 0 (ci := 4) (T := TX4) (N := 7) rfl rfl (by decide +kernel) rfl rfl (Nat.le_of_ble_eq_true rfl) ⟨(Nat.le_of_ble_eq_true rfl), (Nat.le_of_ble_eq_true rfl)⟩ ⟨(Nat.le_of_ble_eq_true rfl), (Nat.le_of_ble_eq_true rfl)⟩ dX4_placeAt_12 (fun r W1 H locs hw hP hD hS => ?_)
  obtain ⟨rfl, rfl⟩ := hw
  have hP : va_P D classes [(h0, .inr (4, [.ref hn, .ref hs, .ref hd, .ref hp, .ref hc, .int wy, .int dn])), (hs, .inl (cA, 4096, .inl st))] H := hP
  have hD : va_D A [(h0, .inr (4, [.ref hn, .ref hs, .ref hd, .ref hp, .ref hc, .int wy, .int dn])), (hs, .inl (cA, 4096, .inl st))] := hD
  refine lv_imul hx hb dX4_placeAt_15 ?_
  refine lv_iadd hx hb dX4_placeAt_16 ?_
  refine lv_sipush (v := 4095) hx hb dX4_placeAt_17 (by decide) ?_
  refine lv_iand hx hb dX4_placeAt_20 ?_
  exact endI X hr hlocks hP hD hS dX4_placeAt_21 ⟨rfl, rfl⟩
set_option maxHeartbeats 4000000 in
set_option maxRecDepth 100000 in
theorem c_start (l : Launch) (D : va_G) (cA cB : ClassId) (h0 : Nat) (hn : Nat) (hs : Nat) (hd : Nat) (hp : Nat) (hc : Nat) (wy : Int32) (dn : Int32) (f : Nat → Int32) (st : Nat → Int32)  : CV l yX4_start cX4_start 1 none 2 42 0 0 D cA cB [.ref h0] [(h0, .inr (4, [.ref hn, .ref hs, .ref hd, .ref hp, .ref hc, .int wy, .int dn])), (hn, .inl (cA, 34, .inl f)), (hs, .inl (cA, 4096, .inl st))] (fun W1 => W1 = [(h0, .inr (4, [.ref hn, .ref hs, .ref hd, .ref hp, .ref hc, .int wy, .int dn])), (hn, .inl (cA, 34, .inl (upd (upd (upd (upd (upd (upd (upd f 0 0) 1 0) 2 0) 3 255) 5 4) 4 (((st 4078) + (256 * (st 4079))) &&& 4095)) 6 0))), (hs, .inl (cA, 4096, .inl st))]) := by
  refine mkV (lv0 := [(0, .ref h0)]) (by decide) (Nat.le_of_ble_eq_true rfl) rfl ?_
  intro p e s m below meth c A ls X hr hlocks hnm hE hA hP hD hS hl
  have hx := X.1
  have hb := X.2.1
  refine lv_aload_n hx hb dX4_start_0 rfl (lv_at hl 0 rfl) ?_
  refine k_get (C := RX4) (T := TX4) (N := 7) (ci := 4) (v := .ref hn) X hE hP 0 rfl rfl iX4 0 (by decide) w_69 rfl dX4_start_1 ?_
  refine lv_iconst (v := 0) hx hb dX4_start_4 (by decide) ?_
  refine lv_iconst (v := 0) hx hb dX4_start_5 (by decide) ?_
  refine k_ast X hE hP hD hS 1 rfl 0 rfl (by decide) (by decide) [(h0, .inr (4, [.ref hn, .ref hs, .ref hd, .ref hp, .ref hc, .int wy, .int dn])), (hn, .inl (cA, 34, .inl (upd f 0 0))), (hs, .inl (cA, 4096, .inl st))] rfl dX4_start_6 (fun H locs hP hD hS => ?_)
  refine lv_aload_n hx hb dX4_start_7 rfl (lv_at hl 0 rfl) ?_
  refine k_get (C := RX4) (T := TX4) (N := 7) (ci := 4) (v := .ref hn) X hE hP 0 rfl rfl iX4 0 (by decide) w_69 rfl dX4_start_8 ?_
  refine lv_iconst (v := 1) hx hb dX4_start_11 (by decide) ?_
  refine lv_iconst (v := 0) hx hb dX4_start_12 (by decide) ?_
  refine k_ast X hE hP hD hS 1 rfl 1 rfl (by decide) (by decide) [(h0, .inr (4, [.ref hn, .ref hs, .ref hd, .ref hp, .ref hc, .int wy, .int dn])), (hn, .inl (cA, 34, .inl (upd (upd f 0 0) 1 0))), (hs, .inl (cA, 4096, .inl st))] rfl dX4_start_13 (fun H locs hP hD hS => ?_)
  refine lv_aload_n hx hb dX4_start_14 rfl (lv_at hl 0 rfl) ?_
  refine k_get (C := RX4) (T := TX4) (N := 7) (ci := 4) (v := .ref hn) X hE hP 0 rfl rfl iX4 0 (by decide) w_69 rfl dX4_start_15 ?_
  refine lv_iconst (v := 2) hx hb dX4_start_18 (by decide) ?_
  refine lv_iconst (v := 0) hx hb dX4_start_19 (by decide) ?_
  refine k_ast X hE hP hD hS 1 rfl 2 rfl (by decide) (by decide) [(h0, .inr (4, [.ref hn, .ref hs, .ref hd, .ref hp, .ref hc, .int wy, .int dn])), (hn, .inl (cA, 34, .inl (upd (upd (upd f 0 0) 1 0) 2 0))), (hs, .inl (cA, 4096, .inl st))] rfl dX4_start_20 (fun H locs hP hD hS => ?_)
  refine lv_aload_n hx hb dX4_start_21 rfl (lv_at hl 0 rfl) ?_
  refine k_get (C := RX4) (T := TX4) (N := 7) (ci := 4) (v := .ref hn) X hE hP 0 rfl rfl iX4 0 (by decide) w_69 rfl dX4_start_22 ?_
  refine lv_iconst (v := 3) hx hb dX4_start_25 (by decide) ?_
  refine lv_sipush (v := 255) hx hb dX4_start_26 (by decide) ?_
  refine k_ast X hE hP hD hS 1 rfl 3 rfl (by decide) (by decide) [(h0, .inr (4, [.ref hn, .ref hs, .ref hd, .ref hp, .ref hc, .int wy, .int dn])), (hn, .inl (cA, 34, .inl (upd (upd (upd (upd f 0 0) 1 0) 2 0) 3 255))), (hs, .inl (cA, 4096, .inl st))] rfl dX4_start_29 (fun H locs hP hD hS => ?_)
  refine lv_aload_n hx hb dX4_start_30 rfl (lv_at hl 0 rfl) ?_
  refine k_get (C := RX4) (T := TX4) (N := 7) (ci := 4) (v := .ref hn) X hE hP 0 rfl rfl iX4 0 (by decide) w_69 rfl dX4_start_31 ?_
  refine lv_iconst (v := 5) hx hb dX4_start_34 (by decide) ?_
  refine lv_iconst (v := 4) hx hb dX4_start_35 (by decide) ?_
  refine k_ast X hE hP hD hS 1 rfl 5 rfl (by decide) (by decide) [(h0, .inr (4, [.ref hn, .ref hs, .ref hd, .ref hp, .ref hc, .int wy, .int dn])), (hn, .inl (cA, 34, .inl (upd (upd (upd (upd (upd f 0 0) 1 0) 2 0) 3 255) 5 4))), (hs, .inl (cA, 4096, .inl st))] rfl dX4_start_36 (fun H locs hP hD hS => ?_)
  refine lv_aload_n hx hb dX4_start_37 rfl (lv_at hl 0 rfl) ?_
  refine k_get (C := RX4) (T := TX4) (N := 7) (ci := 4) (v := .ref hn) X hE hP 0 rfl rfl iX4 0 (by decide) w_69 rfl dX4_start_38 ?_
  refine lv_iconst (v := 4) hx hb dX4_start_41 (by decide) ?_
  refine lv_aload_n hx hb dX4_start_42 rfl (lv_at hl 0 rfl) ?_
  refine lv_sipush (v := 4078) hx hb dX4_start_43 (by decide) ?_
  refine kVi (n3 := 1) (As := [.int 4078]) (rest := [.int 4, .ref hn]) X hl.1 hE hP hD hS hA [(h0, .inr (4, [.ref hn, .ref hs, .ref hd, .ref hp, .ref hc, .int wy, .int dn])), (hs, .inl (cA, 4096, .inl st))] [(hn, .inl (cA, 34, .inl (upd (upd (upd (upd (upd f 0 0) 1 0) 2 0) 3 255) 5 4)))] [0, 2] [1] rfl rfl rfl (by decide +kernel) (by decide +kernel) (by decide +kernel) (c_placeAt_4078 l D cA cB h0 hn hs hd hp hc wy dn st ) w_83 w_66 w_82 w_84 w_85 0 (ci := 4) (T := TX4) (N := 7) rfl rfl (by decide +kernel) rfl rfl (Nat.le_of_ble_eq_true rfl) ⟨(Nat.le_of_ble_eq_true rfl), (Nat.le_of_ble_eq_true rfl)⟩ ⟨(Nat.le_of_ble_eq_true rfl), (Nat.le_of_ble_eq_true rfl)⟩ dX4_start_46 (fun r W1 H locs hw hP hD hS => ?_)
  obtain ⟨rfl, rfl⟩ := hw
  have hP : va_P D classes [(hn, .inl (cA, 34, .inl (upd (upd (upd (upd (upd f 0 0) 1 0) 2 0) 3 255) 5 4))), (h0, .inr (4, [.ref hn, .ref hs, .ref hd, .ref hp, .ref hc, .int wy, .int dn])), (hs, .inl (cA, 4096, .inl st))] H := hP
  have hD : va_D A [(hn, .inl (cA, 34, .inl (upd (upd (upd (upd (upd f 0 0) 1 0) 2 0) 3 255) 5 4))), (h0, .inr (4, [.ref hn, .ref hs, .ref hd, .ref hp, .ref hc, .int wy, .int dn])), (hs, .inl (cA, 4096, .inl st))] := hD
  refine k_ast X hE hP hD hS 0 rfl 4 rfl (by decide) (by decide) [(hn, .inl (cA, 34, .inl (upd (upd (upd (upd (upd (upd f 0 0) 1 0) 2 0) 3 255) 5 4) 4 (((st 4078) + (256 * (st 4079))) &&& 4095)))), (h0, .inr (4, [.ref hn, .ref hs, .ref hd, .ref hp, .ref hc, .int wy, .int dn])), (hs, .inl (cA, 4096, .inl st))] rfl dX4_start_49 (fun H locs hP hD hS => ?_)
  refine lv_aload_n hx hb dX4_start_50 rfl (lv_at hl 0 rfl) ?_
  refine k_get (C := RX4) (T := TX4) (N := 7) (ci := 4) (v := .ref hn) X hE hP 1 rfl rfl iX4 0 (by decide) w_69 rfl dX4_start_51 ?_
  refine lv_bipush (v := 6) hx hb dX4_start_54 (by decide) ?_
  refine lv_iconst (v := 0) hx hb dX4_start_56 (by decide) ?_
  refine k_ast X hE hP hD hS 0 rfl 6 rfl (by decide) (by decide) [(hn, .inl (cA, 34, .inl (upd (upd (upd (upd (upd (upd (upd f 0 0) 1 0) 2 0) 3 255) 5 4) 4 (((st 4078) + (256 * (st 4079))) &&& 4095)) 6 0))), (h0, .inr (4, [.ref hn, .ref hs, .ref hd, .ref hp, .ref hc, .int wy, .int dn])), (hs, .inl (cA, 4096, .inl st))] rfl dX4_start_57 (fun H locs hP hD hS => ?_)
  have hP : va_P D classes [(h0, .inr (4, [.ref hn, .ref hs, .ref hd, .ref hp, .ref hc, .int wy, .int dn])), (hn, .inl (cA, 34, .inl (upd (upd (upd (upd (upd (upd (upd f 0 0) 1 0) 2 0) 3 255) 5 4) 4 (((st 4078) + (256 * (st 4079))) &&& 4095)) 6 0))), (hs, .inl (cA, 4096, .inl st))] _ := hP.sub [1, 0, 2] rfl
  have hD : va_D A [(h0, .inr (4, [.ref hn, .ref hs, .ref hd, .ref hp, .ref hc, .int wy, .int dn])), (hn, .inl (cA, 34, .inl (upd (upd (upd (upd (upd (upd (upd f 0 0) 1 0) 2 0) 3 255) 5 4) 4 (((st 4078) + (256 * (st 4079))) &&& 4095)) 6 0))), (hs, .inl (cA, 4096, .inl st))] := hD.sub [1, 0, 2] (by decide) rfl
  exact endV X hr hlocks hP hD hS dX4_start_58 rfl
set_option maxHeartbeats 4000000 in
set_option maxRecDepth 100000 in
theorem c_beginAnew (l : Launch) (D : va_G) (cA cB : ClassId) (h0 : Nat) (hn : Nat) (hs : Nat) (hd : Nat) (hp : Nat) (hc : Nat) (wy : Int32) (dn : Int32) (he : Nat) (la : Int32) (ke : Int32) (f : Nat → Int32) (st : Nat → Int32) (ct : Nat → Int32)  : CV l yX4_beginAnew cX4_beginAnew 1 none 3 62 0 0 D cA cB [.ref h0] [(h0, .inr (4, [.ref hn, .ref hs, .ref hd, .ref hp, .ref hc, .int wy, .int dn])), (hn, .inl (cA, 34, .inl f)), (hs, .inl (cA, 4096, .inl st)), (hc, .inl (cA, 257, .inl ct)), (hp, .inr (3, [.ref he, .int la, .int ke]))] (fun W1 => ∃ (g : Nat → Int32) (g2 : Nat → Int32), (∀ j, j < 34 → g j = 0) ∧ (∀ j, j < 257 → g2 j = 0) ∧ W1 = [(h0, .inr (4, [.ref hn, .ref hs, .ref hd, .ref hp, .ref hc, .int wy, .int dn])), (hn, .inl (cA, 34, .inl (upd (upd (upd (upd (upd (upd (upd (upd g 18 1) 0 0) 1 0) 2 0) 3 255) 5 4) 4 (((st 4078) + (256 * (st 4079))) &&& 4095)) 6 0))), (hs, .inl (cA, 4096, .inl st)), (hc, .inl (cA, 257, .inl g2)), (hp, .inr (3, [.ref he, .int la, .int 0]))]) := by
  refine mkV (lv0 := [(0, .ref h0)]) (by decide) (Nat.le_of_ble_eq_true rfl) rfl ?_
  intro p e s m below meth c A ls X hr hlocks hnm hE hA hP hD hS hl
  have hx := X.1
  have hb := X.2.1
  refine lv_aload_n hx hb dX4_beginAnew_0 rfl (lv_at hl 0 rfl) ?_
  refine k_get (C := RX4) (T := TX4) (N := 7) (ci := 4) (v := .ref hn) X hE hP 0 rfl rfl iX4 0 (by decide) w_69 rfl dX4_beginAnew_1 ?_
  refine lv_iconst (v := 0) hx hb dX4_beginAnew_4 (by decide) ?_
  refine kSv (n3 := 2) (As := [.ref hn, .int 0]) (rest := []) X hl.1 hE hP hD hS hA [(hn, .inl (cA, 34, .inl f))] [(h0, .inr (4, [.ref hn, .ref hs, .ref hd, .ref hp, .ref hc, .int wy, .int dn])), (hs, .inl (cA, 4096, .inl st)), (hc, .inl (cA, 257, .inl ct)), (hp, .inr (3, [.ref he, .int la, .int ke]))] [1] [0, 2, 3, 4] rfl rfl rfl (by decide +kernel) (by decide +kernel) (by decide +kernel) (c_fill l D cA cB hn 34 0 f (by first | assumption | decide | rfl | omega)) w_286 w_287 w_285 w_288 (by decide +kernel) rfl rfl (Nat.le_of_ble_eq_true rfl) ⟨(Nat.le_of_ble_eq_true rfl), (Nat.le_of_ble_eq_true rfl)⟩ ⟨(Nat.le_of_ble_eq_true rfl), (Nat.le_of_ble_eq_true rfl)⟩ dX4_beginAnew_5 (fun W1 H locs hw hP hD hS => ?_)
  obtain ⟨g_1, hf_2, rfl⟩ := hw
  have hP : va_P D classes [(h0, .inr (4, [.ref hn, .ref hs, .ref hd, .ref hp, .ref hc, .int wy, .int dn])), (hs, .inl (cA, 4096, .inl st)), (hc, .inl (cA, 257, .inl ct)), (hp, .inr (3, [.ref he, .int la, .int ke])), (hn, .inl (cA, 34, .inl g_1))] H := hP
  have hD : va_D A [(h0, .inr (4, [.ref hn, .ref hs, .ref hd, .ref hp, .ref hc, .int wy, .int dn])), (hs, .inl (cA, 4096, .inl st)), (hc, .inl (cA, 257, .inl ct)), (hp, .inr (3, [.ref he, .int la, .int ke])), (hn, .inl (cA, 34, .inl g_1))] := hD
  refine lv_aload_n hx hb dX4_beginAnew_8 rfl (lv_at hl 0 rfl) ?_
  refine k_get (C := RX4) (T := TX4) (N := 7) (ci := 4) (v := .ref hn) X hE hP 0 rfl rfl iX4 0 (by decide) w_69 rfl dX4_beginAnew_9 ?_
  refine lv_bipush (v := 18) hx hb dX4_beginAnew_12 (by decide) ?_
  refine lv_iconst (v := 1) hx hb dX4_beginAnew_14 (by decide) ?_
  refine k_ast X hE hP hD hS 4 rfl 18 rfl (by decide) (by decide) [(h0, .inr (4, [.ref hn, .ref hs, .ref hd, .ref hp, .ref hc, .int wy, .int dn])), (hs, .inl (cA, 4096, .inl st)), (hc, .inl (cA, 257, .inl ct)), (hp, .inr (3, [.ref he, .int la, .int ke])), (hn, .inl (cA, 34, .inl (upd g_1 18 1)))] rfl dX4_beginAnew_15 (fun H locs hP hD hS => ?_)
  refine lv_aload_n hx hb dX4_beginAnew_16 rfl (lv_at hl 0 rfl) ?_
  refine kVv (n3 := 0) (As := []) (rest := []) X hl.1 hE hP hD hS hA [(h0, .inr (4, [.ref hn, .ref hs, .ref hd, .ref hp, .ref hc, .int wy, .int dn])), (hn, .inl (cA, 34, .inl (upd g_1 18 1))), (hs, .inl (cA, 4096, .inl st))] [(hc, .inl (cA, 257, .inl ct)), (hp, .inr (3, [.ref he, .int la, .int ke]))] [0, 4, 1] [2, 3] rfl rfl rfl (by decide +kernel) (by decide +kernel) (by decide +kernel) (c_start l D cA cB h0 hn hs hd hp hc wy dn (upd g_1 18 1) st ) w_229 w_66 w_228 w_230 w_231 0 (ci := 4) (T := TX4) (N := 7) rfl rfl (by decide +kernel) rfl rfl (Nat.le_of_ble_eq_true rfl) ⟨(Nat.le_of_ble_eq_true rfl), (Nat.le_of_ble_eq_true rfl)⟩ ⟨(Nat.le_of_ble_eq_true rfl), (Nat.le_of_ble_eq_true rfl)⟩ dX4_beginAnew_17 (fun W1 H locs hw hP hD hS => ?_)
  obtain rfl := hw
  have hP : va_P D classes [(hc, .inl (cA, 257, .inl ct)), (hp, .inr (3, [.ref he, .int la, .int ke])), (h0, .inr (4, [.ref hn, .ref hs, .ref hd, .ref hp, .ref hc, .int wy, .int dn])), (hn, .inl (cA, 34, .inl (upd (upd (upd (upd (upd (upd (upd (upd g_1 18 1) 0 0) 1 0) 2 0) 3 255) 5 4) 4 (((st 4078) + (256 * (st 4079))) &&& 4095)) 6 0))), (hs, .inl (cA, 4096, .inl st))] H := hP
  have hD : va_D A [(hc, .inl (cA, 257, .inl ct)), (hp, .inr (3, [.ref he, .int la, .int ke])), (h0, .inr (4, [.ref hn, .ref hs, .ref hd, .ref hp, .ref hc, .int wy, .int dn])), (hn, .inl (cA, 34, .inl (upd (upd (upd (upd (upd (upd (upd (upd g_1 18 1) 0 0) 1 0) 2 0) 3 255) 5 4) 4 (((st 4078) + (256 * (st 4079))) &&& 4095)) 6 0))), (hs, .inl (cA, 4096, .inl st))] := hD
  refine lv_aload_n hx hb dX4_beginAnew_20 rfl (lv_at hl 0 rfl) ?_
  refine k_get (C := RX4) (T := TX4) (N := 7) (ci := 4) (v := .ref hc) X hE hP 2 rfl rfl iX4 4 (by decide) w_268 rfl dX4_beginAnew_21 ?_
  refine lv_iconst (v := 0) hx hb dX4_beginAnew_24 (by decide) ?_
  refine kSv (n3 := 2) (As := [.ref hc, .int 0]) (rest := []) X hl.1 hE hP hD hS hA [(hc, .inl (cA, 257, .inl ct))] [(hp, .inr (3, [.ref he, .int la, .int ke])), (h0, .inr (4, [.ref hn, .ref hs, .ref hd, .ref hp, .ref hc, .int wy, .int dn])), (hn, .inl (cA, 34, .inl (upd (upd (upd (upd (upd (upd (upd (upd g_1 18 1) 0 0) 1 0) 2 0) 3 255) 5 4) 4 (((st 4078) + (256 * (st 4079))) &&& 4095)) 6 0))), (hs, .inl (cA, 4096, .inl st))] [0] [1, 2, 3, 4] rfl rfl rfl (by decide +kernel) (by decide +kernel) (by decide +kernel) (c_fill l D cA cB hc 257 0 ct (by first | assumption | decide | rfl | omega)) w_286 w_287 w_285 w_288 (by decide +kernel) rfl rfl (Nat.le_of_ble_eq_true rfl) ⟨(Nat.le_of_ble_eq_true rfl), (Nat.le_of_ble_eq_true rfl)⟩ ⟨(Nat.le_of_ble_eq_true rfl), (Nat.le_of_ble_eq_true rfl)⟩ dX4_beginAnew_25 (fun W1 H locs hw hP hD hS => ?_)
  obtain ⟨g_3, hf_4, rfl⟩ := hw
  have hP : va_P D classes [(hp, .inr (3, [.ref he, .int la, .int ke])), (h0, .inr (4, [.ref hn, .ref hs, .ref hd, .ref hp, .ref hc, .int wy, .int dn])), (hn, .inl (cA, 34, .inl (upd (upd (upd (upd (upd (upd (upd (upd g_1 18 1) 0 0) 1 0) 2 0) 3 255) 5 4) 4 (((st 4078) + (256 * (st 4079))) &&& 4095)) 6 0))), (hs, .inl (cA, 4096, .inl st)), (hc, .inl (cA, 257, .inl g_3))] H := hP
  have hD : va_D A [(hp, .inr (3, [.ref he, .int la, .int ke])), (h0, .inr (4, [.ref hn, .ref hs, .ref hd, .ref hp, .ref hc, .int wy, .int dn])), (hn, .inl (cA, 34, .inl (upd (upd (upd (upd (upd (upd (upd (upd g_1 18 1) 0 0) 1 0) 2 0) 3 255) 5 4) 4 (((st 4078) + (256 * (st 4079))) &&& 4095)) 6 0))), (hs, .inl (cA, 4096, .inl st)), (hc, .inl (cA, 257, .inl g_3))] := hD
  refine lv_aload_n hx hb dX4_beginAnew_28 rfl (lv_at hl 0 rfl) ?_
  refine k_get (C := RX4) (T := TX4) (N := 7) (ci := 4) (v := .ref hp) X hE hP 1 rfl rfl iX4 3 (by decide) w_161 rfl dX4_beginAnew_29 ?_
  refine kVv (n3 := 0) (As := []) (rest := []) X hl.1 hE hP hD hS hA [(hp, .inr (3, [.ref he, .int la, .int ke]))] [(h0, .inr (4, [.ref hn, .ref hs, .ref hd, .ref hp, .ref hc, .int wy, .int dn])), (hn, .inl (cA, 34, .inl (upd (upd (upd (upd (upd (upd (upd (upd g_1 18 1) 0 0) 1 0) 2 0) 3 255) 5 4) 4 (((st 4078) + (256 * (st 4079))) &&& 4095)) 6 0))), (hs, .inl (cA, 4096, .inl st)), (hc, .inl (cA, 257, .inl g_3))] [0] [1, 2, 3, 4] rfl rfl rfl (by decide +kernel) (by decide +kernel) (by decide +kernel) (c_Past_forget l D cA cB hp he la ke ) w_290 w_164 w_289 w_291 w_292 0 (ci := 3) (T := TX3) (N := 3) rfl rfl (by decide +kernel) rfl rfl (Nat.le_of_ble_eq_true rfl) ⟨(Nat.le_of_ble_eq_true rfl), (Nat.le_of_ble_eq_true rfl)⟩ ⟨(Nat.le_of_ble_eq_true rfl), (Nat.le_of_ble_eq_true rfl)⟩ dX4_beginAnew_32 (fun W1 H locs hw hP hD hS => ?_)
  obtain rfl := hw
  have hP : va_P D classes [(h0, .inr (4, [.ref hn, .ref hs, .ref hd, .ref hp, .ref hc, .int wy, .int dn])), (hn, .inl (cA, 34, .inl (upd (upd (upd (upd (upd (upd (upd (upd g_1 18 1) 0 0) 1 0) 2 0) 3 255) 5 4) 4 (((st 4078) + (256 * (st 4079))) &&& 4095)) 6 0))), (hs, .inl (cA, 4096, .inl st)), (hc, .inl (cA, 257, .inl g_3)), (hp, .inr (3, [.ref he, .int la, .int 0]))] H := hP
  have hD : va_D A [(h0, .inr (4, [.ref hn, .ref hs, .ref hd, .ref hp, .ref hc, .int wy, .int dn])), (hn, .inl (cA, 34, .inl (upd (upd (upd (upd (upd (upd (upd (upd g_1 18 1) 0 0) 1 0) 2 0) 3 255) 5 4) 4 (((st 4078) + (256 * (st 4079))) &&& 4095)) 6 0))), (hs, .inl (cA, 4096, .inl st)), (hc, .inl (cA, 257, .inl g_3)), (hp, .inr (3, [.ref he, .int la, .int 0]))] := hD
  exact endV X hr hlocks hP hD hS dX4_beginAnew_35 ⟨g_1, g_3, hf_2, hf_4, rfl⟩
