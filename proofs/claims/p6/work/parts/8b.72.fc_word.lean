set_option maxHeartbeats 4000000 in
set_option maxRecDepth 100000 in
theorem c_k_lcharAt (l : Launch) (D : va_G) (cA cB : ClassId) (i9 : Nat) (j : Nat) (hi9 : i9 < 5) (hj : j < sl i9) : CI l yJ1_charAt_3b067 cJ1_charAt_3b067 2 (some .char) 2 43 0 0 D cA cB [.ref (aU D i9), .int (nI j)] [] (fun r W1 => r = nI (sbN i9 j) ∧ W1 = []) := by
  refine mkI (lv0 := [(0, .ref (aU D i9)), (1, .int (nI j))]) (by decide) (Nat.le_of_ble_eq_true rfl) rfl ?_
  intro p e s m below meth c A ls X hr hlocks hnm hE hA hP hD hS hl
  have hx := X.1
  have hb := X.2.1
  refine qW (fun Q9 hQ9 => ?_)
  have hsl := sl_le i9 (by omega)
  have hsb := (sbN_all i9 (by omega) j (by omega)).2.2
  refine lv_iload_n hx hb dJ1_charAt_3b067_0 rfl (lv_at hl 1 rfl) ?_
  refine lv_aload_n hx hb dJ1_charAt_3b067_1 rfl (lv_at hl 0 rfl) ?_
  refine va_tlen (v := nI (sl i9)) hx hb ((e_str hE).1 i9 (by omega : i9 < 5)).2.2.2 hS rfl dJ1_charAt_3b067_2 ?_
  refine kSv (n3 := 2) (As := [.int (nI j), .int (nI (sl i9))]) (rest := []) X hl.1 hE hP hD hS hA [] [] [] [] rfl rfl rfl (by decide +kernel) (by decide +kernel) (by decide +kernel) (c_s_checkIndex l D cA cB j (sl i9) (by first | assumption | omega | decide | rfl) (by first | assumption | omega | decide | rfl)) w_430 w_421 w_429 w_431 (by decide +kernel) rfl rfl (Nat.le_of_ble_eq_true rfl) ⟨(Nat.le_of_ble_eq_true rfl), (Nat.le_of_ble_eq_true rfl)⟩ ⟨(Nat.le_of_ble_eq_true rfl), (Nat.le_of_ble_eq_true rfl)⟩ dJ1_charAt_3b067_3 (fun W1 H locs hw hP hD hS => ?_)
  obtain rfl := hw
  have hP : va_P D classes [] H := hP
  have hD : va_D A [] := hD
  refine lv_aload_n hx hb dJ1_charAt_3b067_6 rfl (lv_at hl 0 rfl) ?_
  refine lv_iload_n hx hb dJ1_charAt_3b067_7 rfl (lv_at hl 1 rfl) ?_
  refine va_tb hx hb ((e_str hE).1 i9 (by omega : i9 < 5)).2.2.2 hS (vp_in_nI (n := j) (N := slen.getD i9 0) (by show _ < sl i9; omega) (by have h9 := sl_le i9 (by omega : i9 < 5); show sl i9 < 2 ^ 31; omega)) (v := .int (sby i9 (nI j))) rfl dJ1_charAt_3b067_8 ?_
  refine lv_sipush (v := 255) hx hb dJ1_charAt_3b067_9 (by decide) ?_
  refine lv_iand hx hb dJ1_charAt_3b067_12 ?_
  obtain ⟨k_1, hk_1, ek_1⟩ := pk_andE (sby i9 (nI j)) (m := 255) 8 (by decide)
  have hk_1 : k_1 < 256 := hk_1
  refine tk (y := nI k_1) ek_1 ?_
  refine lv_i2c (v := nI k_1) hx hb dJ1_charAt_3b067_13 (sf_i2c (by omega)) ?_
  rw [hQ9]
  exact endT X hr (nar_c (by omega)) hlocks hP hD hS dJ1_charAt_3b067_14 ⟨(by rw [← ek_1]; exact (sbN_all i9 (by omega) j (by omega)).2.1), rfl⟩
set_option maxHeartbeats 4000000 in
set_option maxRecDepth 100000 in
theorem c_k_charAt (l : Launch) (D : va_G) (cA cB : ClassId) (i9 : Nat) (j : Nat) (hi9 : i9 < 5) (hj : j < sl i9) : CI l yJ0_charAt_5068e cJ0_charAt_5068e 2 (some .char) 3 64 0 0 D cA cB [.ref (aK D i9), .int (nI j)] [] (fun r W1 => r = nI (sbN i9 j) ∧ W1 = []) := by
  refine mkI (lv0 := [(0, .ref (aK D i9)), (1, .int (nI j))]) (by decide) (Nat.le_of_ble_eq_true rfl) rfl ?_
  intro p e s m below meth c A ls X hr hlocks hnm hE hA hP hD hS hl
  have hx := X.1
  have hb := X.2.1
  refine qW (fun Q9 hQ9 => ?_)
  have hsl := sl_le i9 (by omega)
  have hsb := (sbN_all i9 (by omega) j (by omega)).2.2
  refine lv_aload_n hx hb dJ0_charAt_5068e_0 rfl (lv_at hl 0 rfl) ?_
  refine kVsi (n3 := 0) (As := []) (rest := []) X hl.1 hE hP hD hS hA [] rfl (by decide) (c_s_isLatin1 l D cA cB i9 (by first | assumption | omega | decide | rfl)) w_433 w_421 w_432 w_434 w_435 ((e_str hE).1 i9 (by omega : i9 < 5)).1 (by decide +kernel) rfl rfl (Nat.le_of_ble_eq_true rfl) ⟨(Nat.le_of_ble_eq_true rfl), (Nat.le_of_ble_eq_true rfl)⟩ ⟨(Nat.le_of_ble_eq_true rfl), (Nat.le_of_ble_eq_true rfl)⟩ dJ0_charAt_5068e_1 (fun r W1 H locs hw hP hD hS => ?_)
  obtain ⟨rfl, rfl⟩ := hw
  have hP : va_P D classes [] H := hP
  have hD : va_D A [] := hD
  refine lv_if_eq (tgt := 16) hx hb dJ0_charAt_5068e_4 (by decide) (fun c_4 => absurd c_4 (by decide)) (fun c_4 => ?_)
  refine lv_aload_n hx hb dJ0_charAt_5068e_7 rfl (lv_at hl 0 rfl) ?_
  refine vk_getf hx hb ((e_str hE).1 i9 (by omega : i9 < 5)).2.2.1 hS X.2.2.2.1 (X.2.2.2.2 _ w_418) (fun _ h9 => h9) dJ0_charAt_5068e_8 ?_
  refine lv_iload_n hx hb dJ0_charAt_5068e_11 rfl (lv_at hl 1 rfl) ?_
  refine kSi (n3 := 2) (As := [.ref (aU D i9), .int (nI j)]) (rest := []) X hl.1 hE hP hD hS hA [] [] [] [] rfl rfl rfl (by decide +kernel) (by decide +kernel) (by decide +kernel) (c_k_lcharAt l D cA cB i9 j (by first | assumption | omega | decide | rfl) (by first | assumption | omega | decide | rfl)) w_437 w_438 w_436 w_439 (by decide +kernel) rfl rfl (Nat.le_of_ble_eq_true rfl) ⟨(Nat.le_of_ble_eq_true rfl), (Nat.le_of_ble_eq_true rfl)⟩ ⟨(Nat.le_of_ble_eq_true rfl), (Nat.le_of_ble_eq_true rfl)⟩ dJ0_charAt_5068e_12 (fun r W1 H locs hw hP hD hS => ?_)
  obtain ⟨rfl, rfl⟩ := hw
  have hP : va_P D classes [] H := hP
  have hD : va_D A [] := hD
  rw [hQ9]
  exact endT X hr (nar_c (by omega)) hlocks hP hD hS dJ0_charAt_5068e_15 ⟨rfl, rfl⟩
theorem i2b_all : ∀ k, k < 256 → ∀ j, j < sl 4 → (sby 4 (nI j) = (nI k).toInt8.toInt32 ↔ sbN 4 j = k) := by decide +kernel
theorem mk_all : ∀ k, k < 256 → (isMk (nI k) ↔ ∃ j, j < sl 4 ∧ sbN 4 j = k) := by
  unfold isMk
  decide +kernel
set_option maxHeartbeats 4000000 in
set_option maxRecDepth 100000 in
theorem c_k_canEncode (l : Launch) (D : va_G) (cA cB : ClassId) (v : Nat) (hv : v < 256) : CI l yJ1_canEncode_9a6ad cJ1_canEncode_9a6ad 1 (some .boolean) 0 0 0 0 D cA cB [.int (nI v)] [] (fun r W1 => r = 1 ∧ W1 = []) := by
  refine mkI (lv0 := [(0, .int (nI v))]) (by decide) (Nat.le_of_ble_eq_true rfl) rfl ?_
  intro p e s m below meth c A ls X hr hlocks hnm hE hA hP hD hS hl
  have hx := X.1
  have hb := X.2.1
  refine qW (fun Q9 hQ9 => ?_)
  refine lv_iload_n hx hb dJ1_canEncode_9a6ad_0 rfl (lv_at hl 0 rfl) ?_
  refine lv_if_lt (tgt := 15) hx hb dJ1_canEncode_9a6ad_1 (by decide) (fun c_1 => absurd c_1 (nI_nneg (by omega))) (fun c_1 => ?_)
  refine lv_iload_n hx hb dJ1_canEncode_9a6ad_4 rfl (lv_at hl 0 rfl) ?_
  refine lv_sipush (v := 255) hx hb dJ1_canEncode_9a6ad_5 (by decide) ?_
  refine lv_icmp_gt (tgt := 15) hx hb dJ1_canEncode_9a6ad_8 (by decide) (fun c_8 => absurd c_8 (fun q => absurd ((nI_ltI (a := 255) (b := v) (by omega) (by omega)).mp q) (by omega))) (fun c_8 => ?_)
  refine lv_iconst (v := 1) hx hb dJ1_canEncode_9a6ad_11 (by decide) ?_
  refine lv_goto (tgt := 16) hx hb dJ1_canEncode_9a6ad_12 (by decide) ?_
  rw [hQ9]
  exact endZ X hr rfl hlocks hP hD hS dJ1_canEncode_9a6ad_16 ⟨rfl, rfl⟩
set_option maxHeartbeats 4000000 in
set_option maxRecDepth 100000 in
theorem c_k_indexOfChar (l : Launch) (D : va_G) (cA cB : ClassId) (v : Nat) (hv : v < 256) : CI l yJ1_indexOfChar_4cfef cJ1_indexOfChar_4cfef 6 (some .int) 0 0 0 0 D cA cB [.ref (aU D 4), .int (nI v), .int 0, .int (nI (sl 4))] [] (fun r W1 => ∃ (rv : Int32), r = rv ∧ ((∃ j : Nat, j < 14 ∧ rv = nI j ∧ isMk (nI v)) ∨ (rv = -1 ∧ ¬ isMk (nI v))) ∧ W1 = []) := by
  refine mkI (lv0 := [(0, .ref (aU D 4)), (1, .int (nI v)), (2, .int 0), (3, .int (nI (sl 4)))]) (by decide) (Nat.le_of_ble_eq_true rfl) rfl ?_
  intro p e s m below meth c A ls X hr hlocks hnm hE hA hP hD hS hl
  have hx := X.1
  have hb := X.2.1
  refine qW (fun Q9 hQ9 => ?_)
  have hsl : sl 4 = 14 := by decide
  refine lv_iload_n hx hb dJ1_indexOfChar_4cfef_0 rfl (lv_at hl 1 rfl) ?_
  refine lv_i2b (v := (nI v).toInt8.toInt32) hx hb dJ1_indexOfChar_4cfef_1 rfl ?_
  refine lv_istore (lv' := [(4, .int ((nI v).toInt8.toInt32)), (0, .ref (aU D 4)), (1, .int (nI v)), (2, .int 0), (3, .int (nI (sl 4)))]) hx hb dJ1_indexOfChar_4cfef_2 hl (by decide) rfl (fun ls hl => ?_)
  refine lv_iload_n hx hb dJ1_indexOfChar_4cfef_4 rfl (lv_at hl 3 rfl) ?_
  refine lv_istore (lv' := [(5, .int 0), (4, .int ((nI v).toInt8.toInt32)), (0, .ref (aU D 4)), (1, .int (nI v)), (2, .int 0), (3, .int (nI (sl 4)))]) hx hb dJ1_indexOfChar_4cfef_5 hl (by decide) rfl (fun ls hl => ?_)
  have loop_7 : ∀ (n : Nat) (i : Nat), (i ≤ sl 4) → (∀ j, j < i → ¬ sbN 4 j = v) → sl 4 < i + n → ∀ (H : Heap) (locs : List Loc), va_P D classes [] H → va_D A [] → va_S A s.heap H locs → ∀ ls : Array Slot, lv_has ls 6 [(0, .ref (aU D 4)), (1, .int (nI v)), (2, .int 0), (3, .int (nI (sl 4))), (4, .int ((nI v).toInt8.toInt32)), (5, .int (nI i))] → W p l e { frames := 0, cells := 0, slots := 0, locals := 0 } s m (List.toArray [.ref (aU D 4), .int (nI v), .int 0, .int (nI (sl 4))]) below meth c H locs 0 0 Q9 (F0 m 7 ls []) := by
    intro n
    induction n with
    | zero => intro i hi hno hfuel; exact absurd hfuel (by omega)
    | succ n ih_7 =>
      intro i hi hno hfuel H locs hP hD hS ls hl
      refine lv_iload hx hb dJ1_indexOfChar_4cfef_7 (lv_at hl 5 rfl) ?_
      refine lv_iload_n hx hb dJ1_indexOfChar_4cfef_9 rfl (lv_at hl 3 rfl) ?_
      refine lv_icmp_ge (tgt := 31) hx hb dJ1_indexOfChar_4cfef_10 (by decide) (fun c_10_1 => ?_) (fun c_10_1 => ?_)
      · have nc_10_1 : (sl 4) ≤ i := (nI_leI (a := sl 4) (b := i) (by omega) (by omega)).mp c_10_1
        refine lv_iconst (v := (-1)) hx hb dJ1_indexOfChar_4cfef_31 (by decide) ?_
        rw [hQ9]
        exact endI X hr hlocks hP hD hS dJ1_indexOfChar_4cfef_32 ⟨(-1), rfl, (Or.inr ⟨rfl, fun z => by obtain ⟨j, h1, h2⟩ := (mk_all v (by omega)).mp z; exact hno j (by omega) h2⟩), rfl⟩
      · have nc_10_1 : i < (sl 4) := Nat.not_le.mp (fun q => c_10_1 ((nI_leI (a := sl 4) (b := i) (by omega) (by omega)).mpr q))
        refine lv_aload_n hx hb dJ1_indexOfChar_4cfef_13 rfl (lv_at hl 0 rfl) ?_
        refine lv_iload hx hb dJ1_indexOfChar_4cfef_14 (lv_at hl 5 rfl) ?_
        refine va_tb hx hb ((e_str hE).1 4 (by decide)).2.2.2 hS (vp_in_nI (n := i) (N := slen.getD 4 0) (by show _ < sl 4; omega) (by have h9 := sl_le 4 (by decide); show sl 4 < 2 ^ 31; omega)) (v := .int (sby 4 (nI i))) rfl dJ1_indexOfChar_4cfef_16 ?_
        refine lv_iload hx hb dJ1_indexOfChar_4cfef_17 (lv_at hl 4 rfl) ?_
        refine lv_icmp_ne (tgt := 25) hx hb dJ1_indexOfChar_4cfef_19 (by decide) (fun c_19 => ?_) (fun c_19 => ?_)
        · skip
          refine lv_iinc (v := nI (i + 1)) (lv' := [(5, .int (nI (i + 1))), (0, .ref (aU D 4)), (1, .int (nI v)), (2, .int 0), (3, .int (nI (sl 4))), (4, .int ((nI v).toInt8.toInt32))]) hx hb dJ1_indexOfChar_4cfef_25 hl (k := 5) rfl (nI_1 i) (by decide) rfl (fun ls hl => ?_)
          refine lv_goto (tgt := 7) hx hb dJ1_indexOfChar_4cfef_28 (by decide) ?_
          exact ih_7 (i + 1) (by omega) (fun j hj => by rcases Nat.lt_or_eq_of_le (Nat.le_of_lt_succ hj) with z | z; exact hno j z; subst z; exact fun y => c_19 ((i2b_all v (by omega) j (by omega)).mpr y)) (by omega) _ _ hP hD hS ls (lv_sub hl [1, 2, 3, 4, 5, 0] rfl)
        · skip
          refine lv_iload hx hb dJ1_indexOfChar_4cfef_22 (lv_at hl 5 rfl) ?_
          rw [hQ9]
          exact endI X hr hlocks hP hD hS dJ1_indexOfChar_4cfef_24 ⟨(nI i), rfl, (Or.inl ⟨i, by omega, rfl, (mk_all v (by omega)).mpr ⟨i, by omega, (i2b_all v (by omega) i (by omega)).mp c_19⟩⟩), rfl⟩
  exact loop_7 (sl 4 + 1) 0 (by omega) (fun j hj => absurd hj (by omega)) (by omega) _ _ hP hD hS ls (lv_sub hl [2, 3, 4, 5, 1, 0] rfl)
set_option maxHeartbeats 4000000 in
set_option maxRecDepth 100000 in
theorem c_k_lindexOf (l : Launch) (D : va_G) (cA cB : ClassId) (v : Nat) (hv : v < 256) : CI l yJ1_indexOf_4cfef cJ1_indexOf_4cfef 4 (some .int) 1 25 0 0 D cA cB [.ref (aU D 4), .int (nI v), .int 0, .int (nI (sl 4))] [] (fun r W1 => ∃ (rv : Int32), r = rv ∧ ((∃ j : Nat, j < 14 ∧ rv = nI j ∧ isMk (nI v)) ∨ (rv = -1 ∧ ¬ isMk (nI v))) ∧ W1 = []) := by
  refine mkI (lv0 := [(0, .ref (aU D 4)), (1, .int (nI v)), (2, .int 0), (3, .int (nI (sl 4)))]) (by decide) (Nat.le_of_ble_eq_true rfl) rfl ?_
  intro p e s m below meth c A ls X hr hlocks hnm hE hA hP hD hS hl
  have hx := X.1
  have hb := X.2.1
  refine qW (fun Q9 hQ9 => ?_)
  have hsl : sl 4 = 14 := by decide
  refine lv_iload_n hx hb dJ1_indexOf_4cfef_0 rfl (lv_at hl 1 rfl) ?_
  refine kSi (n3 := 1) (As := [.int (nI v)]) (rest := []) X hl.1 hE hP hD hS hA [] [] [] [] rfl rfl rfl (by decide +kernel) (by decide +kernel) (by decide +kernel) (c_k_canEncode l D cA cB v (by first | assumption | omega | decide | rfl)) w_441 w_438 w_440 w_442 (by decide +kernel) rfl rfl (Nat.le_of_ble_eq_true rfl) ⟨(Nat.le_of_ble_eq_true rfl), (Nat.le_of_ble_eq_true rfl)⟩ ⟨(Nat.le_of_ble_eq_true rfl), (Nat.le_of_ble_eq_true rfl)⟩ dJ1_indexOf_4cfef_1 (fun r W1 H locs hw hP hD hS => ?_)
  obtain ⟨rfl, rfl⟩ := hw
  have hP : va_P D classes [] H := hP
  have hD : va_D A [] := hD
  refine lv_if_ne (tgt := 9) hx hb dJ1_indexOf_4cfef_4 (by decide) (fun c_4 => ?_) (fun c_4 => absurd c_4 (by decide))
  refine lv_iload_n hx hb dJ1_indexOf_4cfef_9 rfl (lv_at hl 2 rfl) ?_
  refine lv_iconst (v := 0) hx hb dJ1_indexOf_4cfef_10 (by decide) ?_
  refine va_mmax hx hb (X.2.2.1.trans hl.1.symm) X.2.2.2.1 (X.2.2.2.2 _ w_443) (X.2.2.2.2 _ w_42) (X.2.2.2.2 _ w_43) (X.2.2.2.2 _ w_44) (Nat.le_of_ble_eq_true rfl) (Nat.le_of_ble_eq_true rfl) (Nat.le_of_ble_eq_true rfl) (Nat.le_of_ble_eq_true rfl) dJ1_indexOf_4cfef_11 ?_
  refine tk (y := 0) (by decide) ?_
  refine lv_istore_n (lv' := [(2, .int 0), (0, .ref (aU D 4)), (1, .int (nI v)), (3, .int (nI (sl 4)))]) hx hb dJ1_indexOf_4cfef_14 rfl hl (by decide) rfl (fun ls hl => ?_)
  refine lv_iload_n hx hb dJ1_indexOf_4cfef_15 rfl (lv_at hl 3 rfl) ?_
  refine lv_aload_n hx hb dJ1_indexOf_4cfef_16 rfl (lv_at hl 1 rfl) ?_
  refine va_tlen (v := nI (sl 4)) hx hb ((e_str hE).1 4 (by decide)).2.2.2 hS rfl dJ1_indexOf_4cfef_17 ?_
  refine va_mmin hx hb (X.2.2.1.trans hl.1.symm) X.2.2.2.1 (X.2.2.2.2 _ w_444) (X.2.2.2.2 _ w_57) (X.2.2.2.2 _ w_43) (X.2.2.2.2 _ w_58) (Nat.le_of_ble_eq_true rfl) (Nat.le_of_ble_eq_true rfl) (Nat.le_of_ble_eq_true rfl) (Nat.le_of_ble_eq_true rfl) dJ1_indexOf_4cfef_18 ?_
  refine tk (y := nI (sl 4)) (by split <;> rfl) ?_
  refine lv_istore_n (lv' := [(3, .int (nI (sl 4))), (2, .int 0), (0, .ref (aU D 4)), (1, .int (nI v))]) hx hb dJ1_indexOf_4cfef_21 rfl hl (by decide) rfl (fun ls hl => ?_)
  refine lv_iload_n hx hb dJ1_indexOf_4cfef_22 rfl (lv_at hl 1 rfl) ?_
  refine lv_iload_n hx hb dJ1_indexOf_4cfef_23 rfl (lv_at hl 0 rfl) ?_
  refine lv_icmp_lt (tgt := 29) hx hb dJ1_indexOf_4cfef_24 (by decide) (fun c_24_1 => ?_) (fun c_24_1 => ?_)
  · have nc_24_1 : 0 < (sl 4) := (nI_ltI (a := 0) (b := sl 4) (by omega) (by omega)).mp c_24_1
    refine lv_aload_n hx hb dJ1_indexOf_4cfef_29 rfl (lv_at hl 2 rfl) ?_
    refine lv_iload_n hx hb dJ1_indexOf_4cfef_30 rfl (lv_at hl 3 rfl) ?_
    refine lv_iload_n hx hb dJ1_indexOf_4cfef_31 rfl (lv_at hl 1 rfl) ?_
    refine lv_iload_n hx hb dJ1_indexOf_4cfef_32 rfl (lv_at hl 0 rfl) ?_
    refine kSi (n3 := 4) (As := [.ref (aU D 4), .int (nI v), .int 0, .int (nI (sl 4))]) (rest := []) X hl.1 hE hP hD hS hA [] [] [] [] rfl rfl rfl (by decide +kernel) (by decide +kernel) (by decide +kernel) (c_k_indexOfChar l D cA cB v (by first | assumption | omega | decide | rfl)) w_446 w_438 w_445 w_447 (by decide +kernel) rfl rfl (Nat.le_of_ble_eq_true rfl) ⟨(Nat.le_of_ble_eq_true rfl), (Nat.le_of_ble_eq_true rfl)⟩ ⟨(Nat.le_of_ble_eq_true rfl), (Nat.le_of_ble_eq_true rfl)⟩ dJ1_indexOf_4cfef_33 (fun r W1 H locs hw hP hD hS => ?_)
    obtain ⟨rv_2, er_4, hf_3, rfl⟩ := hw
    have hP : va_P D classes [] H := hP
    have hD : va_D A [] := hD
    refine tk (y := rv_2) er_4 ?_
    rcases hf_3 with ⟨j_5, hj_6, rfl, hm_7⟩ | ⟨rfl, hm_8⟩
    · skip
      rw [hQ9]
      exact endI X hr hlocks hP hD hS dJ1_indexOf_4cfef_36 ⟨(nI j_5), rfl, (Or.inl ⟨j_5, hj_6, rfl, hm_7⟩), rfl⟩
    · skip
      rw [hQ9]
      exact endI X hr hlocks hP hD hS dJ1_indexOf_4cfef_36 ⟨(-1), rfl, (Or.inr ⟨rfl, hm_8⟩), rfl⟩
  · have nc_24_1 : (sl 4) ≤ 0 := Nat.not_lt.mp (fun q => c_24_1 ((nI_ltI (a := 0) (b := sl 4) (by omega) (by omega)).mpr q))
    refine lv_iconst (v := (-1)) hx hb dJ1_indexOf_4cfef_27 (by decide) ?_
    rw [hQ9]
    exact endI X hr hlocks hP hD hS dJ1_indexOf_4cfef_28 ⟨(-1), rfl, (absurd (show False by omega) id), rfl⟩
set_option maxHeartbeats 4000000 in
set_option maxRecDepth 100000 in
theorem c_k_indexOf2 (l : Launch) (D : va_G) (cA cB : ClassId) (v : Nat) (hv : v < 256) : CI l yJ0_indexOf_7cf53 cJ0_indexOf_7cf53 3 (some .int) 2 48 0 0 D cA cB [.ref (aK D 4), .int (nI v), .int 0] [] (fun r W1 => ∃ (rv : Int32), r = rv ∧ ((∃ j : Nat, j < 14 ∧ rv = nI j ∧ isMk (nI v)) ∨ (rv = -1 ∧ ¬ isMk (nI v))) ∧ W1 = []) := by
  refine mkI (lv0 := [(0, .ref (aK D 4)), (1, .int (nI v)), (2, .int 0)]) (by decide) (Nat.le_of_ble_eq_true rfl) rfl ?_
  intro p e s m below meth c A ls X hr hlocks hnm hE hA hP hD hS hl
  have hx := X.1
  have hb := X.2.1
  refine qW (fun Q9 hQ9 => ?_)
  have hsl : sl 4 = 14 := by decide
  refine lv_aload_n hx hb dJ0_indexOf_7cf53_0 rfl (lv_at hl 0 rfl) ?_
  refine kVsi (n3 := 0) (As := []) (rest := []) X hl.1 hE hP hD hS hA [] rfl (by decide) (c_s_isLatin1 l D cA cB 4 (by first | assumption | omega | decide | rfl)) w_433 w_421 w_432 w_434 w_435 ((e_str hE).1 4 (by decide)).1 (by decide +kernel) rfl rfl (Nat.le_of_ble_eq_true rfl) ⟨(Nat.le_of_ble_eq_true rfl), (Nat.le_of_ble_eq_true rfl)⟩ ⟨(Nat.le_of_ble_eq_true rfl), (Nat.le_of_ble_eq_true rfl)⟩ dJ0_indexOf_7cf53_1 (fun r W1 H locs hw hP hD hS => ?_)
  obtain ⟨rfl, rfl⟩ := hw
  have hP : va_P D classes [] H := hP
  have hD : va_D A [] := hD
  refine lv_if_eq (tgt := 23) hx hb dJ0_indexOf_7cf53_4 (by decide) (fun c_4 => absurd c_4 (by decide)) (fun c_4 => ?_)
  refine lv_aload_n hx hb dJ0_indexOf_7cf53_7 rfl (lv_at hl 0 rfl) ?_
  refine vk_getf hx hb ((e_str hE).1 4 (by decide)).2.2.1 hS X.2.2.2.1 (X.2.2.2.2 _ w_418) (fun _ h9 => h9) dJ0_indexOf_7cf53_8 ?_
  refine lv_iload_n hx hb dJ0_indexOf_7cf53_11 rfl (lv_at hl 1 rfl) ?_
  refine lv_iload_n hx hb dJ0_indexOf_7cf53_12 rfl (lv_at hl 2 rfl) ?_
  refine lv_aload_n hx hb dJ0_indexOf_7cf53_13 rfl (lv_at hl 0 rfl) ?_
  refine kVsi (n3 := 0) (As := []) (rest := [.int 0, .int (nI v), .ref (aU D 4)]) X hl.1 hE hP hD hS hA [] rfl (by decide) (c_s_length l D cA cB 4 (by first | assumption | omega | decide | rfl)) w_449 w_421 w_448 w_450 w_451 ((e_str hE).1 4 (by decide)).1 (by decide +kernel) rfl rfl (Nat.le_of_ble_eq_true rfl) ⟨(Nat.le_of_ble_eq_true rfl), (Nat.le_of_ble_eq_true rfl)⟩ ⟨(Nat.le_of_ble_eq_true rfl), (Nat.le_of_ble_eq_true rfl)⟩ dJ0_indexOf_7cf53_14 (fun r W1 H locs hw hP hD hS => ?_)
  obtain ⟨rfl, rfl⟩ := hw
  have hP : va_P D classes [] H := hP
  have hD : va_D A [] := hD
  refine kSi (n3 := 4) (As := [.ref (aU D 4), .int (nI v), .int 0, .int (nI (sl 4))]) (rest := []) X hl.1 hE hP hD hS hA [] [] [] [] rfl rfl rfl (by decide +kernel) (by decide +kernel) (by decide +kernel) (c_k_lindexOf l D cA cB v (by first | assumption | omega | decide | rfl)) w_453 w_438 w_452 w_454 (by decide +kernel) rfl rfl (Nat.le_of_ble_eq_true rfl) ⟨(Nat.le_of_ble_eq_true rfl), (Nat.le_of_ble_eq_true rfl)⟩ ⟨(Nat.le_of_ble_eq_true rfl), (Nat.le_of_ble_eq_true rfl)⟩ dJ0_indexOf_7cf53_17 (fun r W1 H locs hw hP hD hS => ?_)
  obtain ⟨rv_1, er_3, hf_2, rfl⟩ := hw
  have hP : va_P D classes [] H := hP
  have hD : va_D A [] := hD
  refine tk (y := rv_1) er_3 ?_
  rcases hf_2 with ⟨j_4, hj_5, rfl, hm_6⟩ | ⟨rfl, hm_7⟩
  · skip
    refine lv_goto (tgt := 36) hx hb dJ0_indexOf_7cf53_20 (by decide) ?_
    rw [hQ9]
    exact endI X hr hlocks hP hD hS dJ0_indexOf_7cf53_36 ⟨(nI j_4), rfl, (Or.inl ⟨j_4, hj_5, rfl, hm_6⟩), rfl⟩
  · skip
    refine lv_goto (tgt := 36) hx hb dJ0_indexOf_7cf53_20 (by decide) ?_
    rw [hQ9]
    exact endI X hr hlocks hP hD hS dJ0_indexOf_7cf53_36 ⟨(-1), rfl, (Or.inr ⟨rfl, hm_7⟩), rfl⟩
set_option maxHeartbeats 4000000 in
set_option maxRecDepth 100000 in
theorem c_k_indexOf (l : Launch) (D : va_G) (cA cB : ClassId) (v : Nat) (hv : v < 256) : CI l yJ0_indexOf_0f7a4 cJ0_indexOf_0f7a4 2 (some .int) 3 70 0 0 D cA cB [.ref (aK D 4), .int (nI v)] [] (fun r W1 => ∃ (rv : Int32), r = rv ∧ ((∃ j : Nat, j < 14 ∧ rv = nI j ∧ isMk (nI v)) ∨ (rv = -1 ∧ ¬ isMk (nI v))) ∧ W1 = []) := by
  refine mkI (lv0 := [(0, .ref (aK D 4)), (1, .int (nI v))]) (by decide) (Nat.le_of_ble_eq_true rfl) rfl ?_
  intro p e s m below meth c A ls X hr hlocks hnm hE hA hP hD hS hl
  have hx := X.1
  have hb := X.2.1
  refine qW (fun Q9 hQ9 => ?_)
  have hsl : sl 4 = 14 := by decide
  refine lv_aload_n hx hb dJ0_indexOf_0f7a4_0 rfl (lv_at hl 0 rfl) ?_
  refine lv_iload_n hx hb dJ0_indexOf_0f7a4_1 rfl (lv_at hl 1 rfl) ?_
  refine lv_iconst (v := 0) hx hb dJ0_indexOf_0f7a4_2 (by decide) ?_
  refine kVsi (n3 := 2) (As := [.int (nI v), .int 0]) (rest := []) X hl.1 hE hP hD hS hA [] rfl (by decide) (c_k_indexOf2 l D cA cB v (by first | assumption | omega | decide | rfl)) w_456 w_421 w_455 w_457 w_458 ((e_str hE).1 4 (by decide)).1 (by decide +kernel) rfl rfl (Nat.le_of_ble_eq_true rfl) ⟨(Nat.le_of_ble_eq_true rfl), (Nat.le_of_ble_eq_true rfl)⟩ ⟨(Nat.le_of_ble_eq_true rfl), (Nat.le_of_ble_eq_true rfl)⟩ dJ0_indexOf_0f7a4_3 (fun r W1 H locs hw hP hD hS => ?_)
  obtain ⟨rv_1, er_3, hf_2, rfl⟩ := hw
  have hP : va_P D classes [] H := hP
  have hD : va_D A [] := hD
  refine tk (y := rv_1) er_3 ?_
  rcases hf_2 with ⟨j_4, hj_5, rfl, hm_6⟩ | ⟨rfl, hm_7⟩
  · skip
    rw [hQ9]
    exact endI X hr hlocks hP hD hS dJ0_indexOf_0f7a4_6 ⟨(nI j_4), rfl, (Or.inl ⟨j_4, hj_5, rfl, hm_6⟩), rfl⟩
  · skip
    rw [hQ9]
    exact endI X hr hlocks hP hD hS dJ0_indexOf_0f7a4_6 ⟨(-1), rfl, (Or.inr ⟨rfl, hm_7⟩), rfl⟩
