abbrev cX0_failHere : ByteArray := prog_2_method_7_code
def yX0_failHere : MethodName := ⟨RX0, "failHere", "()Z"⟩
abbrev cX0_begin : ByteArray := prog_2_method_2_code
def yX0_begin : MethodName := ⟨RX0, "begin", "()V"⟩
abbrev cX0_settle : ByteArray := prog_2_method_3_code
def yX0_settle : MethodName := ⟨RX0, "settle", "([I)V"⟩
set_option maxRecDepth 100000 in
theorem w_394 : (Cond.fieldLink "BelfryBox$Assembler" 32 "BelfryBox$Assembler" "tape" "LBelfryBox$Tape;" : Cond) ∈ gw := List.mem_filter.mpr ⟨List.mem_append_right _ (tb1 (List.mem_of_getElem? (i := 189) rfl)), rfl⟩
set_option maxRecDepth 100000 in
theorem w_395 : (Cond.methodLink "BelfryBox$Assembler" 114 yX0_fail : Cond) ∈ gw := List.mem_filter.mpr ⟨List.mem_append_right _ (tb3 (List.mem_of_getElem? (i := 21) rfl)), rfl⟩
set_option maxRecDepth 100000 in
theorem w_396 : (Cond.code yX0_fail prog_2_method_6_code 3 (Option.some Jvm.ClassFile.FieldType.boolean) : Cond) ∈ gw := List.mem_filter.mpr ⟨List.mem_append_right _ (tb3 (List.mem_of_getElem? (i := 24) rfl)), rfl⟩
set_option maxRecDepth 100000 in
theorem w_397 : (Cond.initialized "BelfryBox$Assembler" : Cond) ∈ gw := List.mem_filter.mpr ⟨List.mem_append_right _ (tb1 (List.mem_of_getElem? (i := 7) rfl)), rfl⟩
set_option maxRecDepth 100000 in
theorem w_398 : (Cond.instanceMethod yX0_fail : Cond) ∈ gw := List.mem_filter.mpr ⟨List.mem_append_right _ (tb3 (List.mem_of_getElem? (i := 23) rfl)), rfl⟩
set_option maxRecDepth 100000 in
theorem w_399 : (Cond.selects "BelfryBox$Assembler" yX0_fail yX0_fail : Cond) ∈ gw := List.mem_filter.mpr ⟨List.mem_append_left _ (List.mem_map.mpr ⟨(⟨"BelfryBox$Assembler", "fail", "(II)Z"⟩, 18), sl1 (List.mem_of_getElem? (i := 10) rfl), rfl⟩), rfl⟩
set_option maxRecDepth 100000 in
theorem w_400 : (Cond.fieldLink "BelfryBox$Assembler" 18 "BelfryBox$Assembler" "told" "LBelfryBox$Names;" : Cond) ∈ gw := List.mem_filter.mpr ⟨List.mem_append_right _ (tb1 (List.mem_of_getElem? (i := 191) rfl)), rfl⟩
set_option maxRecDepth 100000 in
theorem w_401 : (Cond.methodLink "BelfryBox$Assembler" 39 yJ7_fill_53178 : Cond) ∈ gw := List.mem_filter.mpr ⟨List.mem_append_right _ (tb2 (List.mem_of_getElem? (i := 98) rfl)), rfl⟩
set_option maxRecDepth 100000 in
theorem w_402 : (Cond.methodLink "BelfryBox$Assembler" 45 ⟨"java/lang/System", "arraycopy", "(Ljava/lang/Object;ILjava/lang/Object;II)V"⟩ : Cond) ∈ gw := List.mem_filter.mpr ⟨List.mem_append_right _ (tb3 (List.mem_of_getElem? (i := 108) rfl)), rfl⟩
set_option maxRecDepth 100000 in
theorem w_403 : (Cond.fieldLink "BelfryBox$Assembler" 22 "BelfryBox$Assembler" "settled" "LBelfryBox$Names;" : Cond) ∈ gw := List.mem_filter.mpr ⟨List.mem_append_right _ (tb1 (List.mem_of_getElem? (i := 192) rfl)), rfl⟩
theorem nw_17 : (Cond.fieldLinkNest "BelfryBox$Assembler" 111 "BelfryBox$Tape" "place" "I" "BelfryBox" : Cond) ∈ nests := List.mem_of_getElem? (i := 17) rfl
theorem nw_22 : (Cond.fieldLinkNest "BelfryBox$Assembler" 36 "BelfryBox$Names" "count" "I" "BelfryBox" : Cond) ∈ nests := List.mem_of_getElem? (i := 22) rfl
theorem dX0_failHere_0 : decode cX0_failHere 0 = .ok (.aload_n 0, 1) := by decide +kernel
theorem dX0_failHere_1 : decode cX0_failHere 1 = .ok (.iconst 1, 1) := by decide +kernel
theorem dX0_failHere_2 : decode cX0_failHere 2 = .ok (.aload_n 0, 1) := by decide +kernel
theorem dX0_failHere_3 : decode cX0_failHere 3 = .ok (.getfield 32, 3) := by decide +kernel
theorem dX0_failHere_6 : decode cX0_failHere 6 = .ok (.getfield 111, 3) := by decide +kernel
theorem dX0_failHere_9 : decode cX0_failHere 9 = .ok (.invokevirtual 114, 3) := by decide +kernel
theorem dX0_failHere_12 : decode cX0_failHere 12 = .ok (.ireturn, 1) := by decide +kernel
theorem dX0_begin_0 : decode cX0_begin 0 = .ok (.aload_n 0, 1) := by decide +kernel
theorem dX0_begin_1 : decode cX0_begin 1 = .ok (.getfield 18, 3) := by decide +kernel
theorem dX0_begin_4 : decode cX0_begin 4 = .ok (.iconst 0, 1) := by decide +kernel
theorem dX0_begin_5 : decode cX0_begin 5 = .ok (.putfield 36, 3) := by decide +kernel
theorem dX0_begin_8 : decode cX0_begin 8 = .ok (.aload_n 0, 1) := by decide +kernel
theorem dX0_begin_9 : decode cX0_begin 9 = .ok (.iconst 0, 1) := by decide +kernel
theorem dX0_begin_10 : decode cX0_begin 10 = .ok (.putfield 25, 3) := by decide +kernel
theorem dX0_begin_13 : decode cX0_begin 13 = .ok (.aload_n 0, 1) := by decide +kernel
theorem dX0_begin_14 : decode cX0_begin 14 = .ok (.iconst (-1), 1) := by decide +kernel
theorem dX0_begin_15 : decode cX0_begin 15 = .ok (.putfield 29, 3) := by decide +kernel
theorem dX0_begin_18 : decode cX0_begin 18 = .ok (.aload_n 0, 1) := by decide +kernel
theorem dX0_begin_19 : decode cX0_begin 19 = .ok (.getfield 9, 3) := by decide +kernel
theorem dX0_begin_22 : decode cX0_begin 22 = .ok (.iconst 0, 1) := by decide +kernel
theorem dX0_begin_23 : decode cX0_begin 23 = .ok (.invokestatic 39, 3) := by decide +kernel
theorem dX0_begin_26 : decode cX0_begin 26 = .ok (.return_, 1) := by decide +kernel
theorem dX0_settle_0 : decode cX0_settle 0 = .ok (.aload_n 0, 1) := by decide +kernel
theorem dX0_settle_1 : decode cX0_settle 1 = .ok (.getfield 9, 3) := by decide +kernel
theorem dX0_settle_4 : decode cX0_settle 4 = .ok (.iconst 0, 1) := by decide +kernel
theorem dX0_settle_5 : decode cX0_settle 5 = .ok (.aload_n 1, 1) := by decide +kernel
theorem dX0_settle_6 : decode cX0_settle 6 = .ok (.iconst 0, 1) := by decide +kernel
theorem dX0_settle_7 : decode cX0_settle 7 = .ok (.sipush 4096, 3) := by decide +kernel
theorem dX0_settle_10 : decode cX0_settle 10 = .ok (.invokestatic 45, 3) := by decide +kernel
theorem dX0_settle_13 : decode cX0_settle 13 = .ok (.aload_n 0, 1) := by decide +kernel
theorem dX0_settle_14 : decode cX0_settle 14 = .ok (.getfield 22, 3) := by decide +kernel
theorem dX0_settle_17 : decode cX0_settle 17 = .ok (.astore_n 2, 1) := by decide +kernel
theorem dX0_settle_18 : decode cX0_settle 18 = .ok (.aload_n 0, 1) := by decide +kernel
theorem dX0_settle_19 : decode cX0_settle 19 = .ok (.aload_n 0, 1) := by decide +kernel
theorem dX0_settle_20 : decode cX0_settle 20 = .ok (.getfield 18, 3) := by decide +kernel
theorem dX0_settle_23 : decode cX0_settle 23 = .ok (.putfield 22, 3) := by decide +kernel
theorem dX0_settle_26 : decode cX0_settle 26 = .ok (.aload_n 0, 1) := by decide +kernel
theorem dX0_settle_27 : decode cX0_settle 27 = .ok (.aload_n 2, 1) := by decide +kernel
theorem dX0_settle_28 : decode cX0_settle 28 = .ok (.putfield 18, 3) := by decide +kernel
theorem dX0_settle_31 : decode cX0_settle 31 = .ok (.return_, 1) := by decide +kernel
theorem okB_zero {g : Nat → Int32} {n B : Nat} (hB : 0 < B) (h : ∀ j, j < n → g j = 0) : ∀ j, j < n → ∃ k : Nat, k < B ∧ g j = nI k := fun j hj => ⟨0, hB, h j hj⟩
theorem okB_cpy {f g : Nat → Int32} {sp dp n N B : Nat} (hf : ∀ j, j < N → ∃ k : Nat, k < B ∧ f j = nI k) (hs : sp = 0) (hd : dp = 0) (hn : n = N) : ∀ j, j < N → ∃ k : Nat, k < B ∧ va_cpy f g sp dp n j = nI k := by
  subst hs; subst hd; subst hn
  intro j hj
  rw [pk_cpy_in (by omega) (by omega)]
  have h2 : 0 + (j - 0) = j := by omega
  rw [h2]
  exact hf j hj
set_option maxHeartbeats 4000000 in
set_option maxRecDepth 100000 in
theorem c_s_failHere (l : Launch) (D : va_G) (cA cB : ClassId) (h0 : Nat) (qa : Nat) (qmi : Nat) (qmt : Nat) (qms : Nat) (htb : Nat) (ua : Int32) (ub : Int32) (uc : Int32) (ud : Int32) (ue : Int32) (uf : Int32) (ug : Int32) (uh : Int32) (ui : Int32) (uj : Int32) (uk : Int32) (ul : Int32) (um : Int32) (un : Int32) (t0 : Int32) (t1 : Int32) (t2 : Int32) (t3 : Int32) (t4 : Int32) (t5 : Int32) (t6 : Int32) (t7 : Int32)  : CI l yX0_failHere cX0_failHere 1 (some .boolean) 1 22 0 0 D cA cB [.ref h0] [(h0, .inr (0, [.ref qa, .ref qmi, .ref qmt, .ref qms, .int ua, .int ub, .int uc, .int ud, .int ue, .int uf, .int ug, .int uh, .int ui, .int uj, .int uk, .int ul, .int um, .int un])), (qa, .inr (7, [.ref htb, .int t0, .int t1, .int t2, .int t3, .int t4, .int t5, .int t6, .int t7]))] (fun r W1 => ∃ (ua2 : Int32) (ub2 : Int32) (rk : Nat), r = nI rk ∧ (rk < 2) ∧ W1 = [(h0, .inr (0, [.ref qa, .ref qmi, .ref qmt, .ref qms, .int ua2, .int ub2, .int uc, .int ud, .int ue, .int uf, .int ug, .int uh, .int ui, .int uj, .int uk, .int ul, .int um, .int un])), (qa, .inr (7, [.ref htb, .int t0, .int t1, .int t2, .int t3, .int t4, .int t5, .int t6, .int t7]))]) := by
  refine mkI (lv0 := [(0, .ref h0)]) (by decide) (Nat.le_of_ble_eq_true rfl) rfl ?_
  intro p e s m below meth c A ls X hr hlocks hnm hE hA hP hD hS hl
  have hx := X.1
  have hb := X.2.1
  refine qW (fun Q9 hQ9 => ?_)
  refine lv_aload_n hx hb dX0_failHere_0 rfl (lv_at hl 0 rfl) ?_
  refine lv_iconst (v := 1) hx hb dX0_failHere_1 (by decide) ?_
  refine lv_aload_n hx hb dX0_failHere_2 rfl (lv_at hl 0 rfl) ?_
  refine k_get (C := RX0) (T := TX0) (N := 18) (ci := 0) (v := .ref qa) X hE hP 0 rfl rfl iX0 0 (by decide) w_394 rfl dX0_failHere_3 ?_
  refine k_getN (C := RX7) (T := TX7) (N := 9) (ci := 7) (v := .int t4) X hE hP 1 rfl rfl iX7 5 (by decide) nw_17 rfl dX0_failHere_6 ?_
  refine kVi (n3 := 2) (As := [.int 1, .int t4]) (rest := []) X hl.1 hE hP hD hS hA [(h0, .inr (0, [.ref qa, .ref qmi, .ref qmt, .ref qms, .int ua, .int ub, .int uc, .int ud, .int ue, .int uf, .int ug, .int uh, .int ui, .int uj, .int uk, .int ul, .int um, .int un]))] [(qa, .inr (7, [.ref htb, .int t0, .int t1, .int t2, .int t3, .int t4, .int t5, .int t6, .int t7]))] [0] [1] rfl rfl rfl (by decide +kernel) (by decide +kernel) (by decide +kernel) (c_s_fail l D cA cB h0 qa qmi qmt qms ua ub uc ud ue uf ug uh ui uj uk ul um un 1 t4 ) w_396 w_397 w_395 w_398 w_399 0 (ci := 0) (T := TX0) (N := 18) rfl rfl (by decide +kernel) rfl rfl (Nat.le_of_ble_eq_true rfl) ⟨(Nat.le_of_ble_eq_true rfl), (Nat.le_of_ble_eq_true rfl)⟩ ⟨(Nat.le_of_ble_eq_true rfl), (Nat.le_of_ble_eq_true rfl)⟩ dX0_failHere_9 (fun r W1 H locs hw hP hD hS => ?_)
  obtain ⟨ua2_1, ub2_2, rk_3, rfl, hf_4, rfl⟩ := hw
  have hP : va_P D classes [(qa, .inr (7, [.ref htb, .int t0, .int t1, .int t2, .int t3, .int t4, .int t5, .int t6, .int t7])), (h0, .inr (0, [.ref qa, .ref qmi, .ref qmt, .ref qms, .int ua2_1, .int ub2_2, .int uc, .int ud, .int ue, .int uf, .int ug, .int uh, .int ui, .int uj, .int uk, .int ul, .int um, .int un]))] H := hP
  have hD : va_D A [(qa, .inr (7, [.ref htb, .int t0, .int t1, .int t2, .int t3, .int t4, .int t5, .int t6, .int t7])), (h0, .inr (0, [.ref qa, .ref qmi, .ref qmt, .ref qms, .int ua2_1, .int ub2_2, .int uc, .int ud, .int ue, .int uf, .int ug, .int uh, .int ui, .int uj, .int uk, .int ul, .int um, .int un]))] := hD
  have hP : va_P D classes [(h0, .inr (0, [.ref qa, .ref qmi, .ref qmt, .ref qms, .int ua2_1, .int ub2_2, .int uc, .int ud, .int ue, .int uf, .int ug, .int uh, .int ui, .int uj, .int uk, .int ul, .int um, .int un])), (qa, .inr (7, [.ref htb, .int t0, .int t1, .int t2, .int t3, .int t4, .int t5, .int t6, .int t7]))] _ := hP.sub [1, 0] rfl
  have hD : va_D A [(h0, .inr (0, [.ref qa, .ref qmi, .ref qmt, .ref qms, .int ua2_1, .int ub2_2, .int uc, .int ud, .int ue, .int uf, .int ug, .int uh, .int ui, .int uj, .int uk, .int ul, .int um, .int un])), (qa, .inr (7, [.ref htb, .int t0, .int t1, .int t2, .int t3, .int t4, .int t5, .int t6, .int t7]))] := hD.sub [1, 0] (by decide) rfl
  rw [hQ9]
  exact endZ X hr (nar_b (by omega)) hlocks hP hD hS dX0_failHere_12 ⟨ua2_1, ub2_2, rk_3, rfl, hf_4, rfl⟩
set_option maxHeartbeats 4000000 in
set_option maxRecDepth 100000 in
theorem c_s_abegin (l : Launch) (D : va_G) (cA cB : ClassId) (h0 : Nat) (qa : Nat) (qmi : Nat) (qmt : Nat) (qms : Nat) (na1 : Nat) (na2 : Nat) (na3 : Nat) (na4 : Nat) (ua : Int32) (ub : Int32) (uc : Int32) (ud : Int32) (ue : Int32) (uf : Int32) (ug : Int32) (uh : Int32) (ui : Int32) (uj : Int32) (uk : Int32) (ul : Int32) (um : Int32) (un : Int32) (cn : Nat) (im : Nat → Int32) (hcn : cn < 61) (him : ∀ j, j < 4096 → ∃ k : Nat, k < 256 ∧ im j = nI k) : CV l yX0_begin cX0_begin 1 none 1 23 0 0 D cA cB [.ref h0] [(h0, .inr (0, [.ref qa, .ref qmi, .ref qmt, .ref qms, .int ua, .int ub, .int uc, .int ud, .int ue, .int uf, .int ug, .int uh, .int ui, .int uj, .int uk, .int ul, .int um, .int un])), (qmt, .inr (2, [.ref na1, .ref na2, .ref na3, .ref na4, .int (nI cn)])), (qmi, .inl (cA, 4096, .inl im))] (fun W1 => ∃ (ua2 : Int32) (ub2 : Int32) (cn2 : Nat) (im2 : Nat → Int32), (cn2 < 61) ∧ (∀ j, j < 4096 → ∃ k : Nat, k < 256 ∧ im2 j = nI k) ∧ (cn2 = 0) ∧ W1 = [(h0, .inr (0, [.ref qa, .ref qmi, .ref qmt, .ref qms, .int ua2, .int ub2, .int uc, .int ud, .int ue, .int uf, .int ug, .int uh, .int ui, .int uj, .int uk, .int ul, .int um, .int un])), (qmt, .inr (2, [.ref na1, .ref na2, .ref na3, .ref na4, .int (nI cn2)])), (qmi, .inl (cA, 4096, .inl im2))]) := by
  refine mkV (lv0 := [(0, .ref h0)]) (by decide) (Nat.le_of_ble_eq_true rfl) rfl ?_
  intro p e s m below meth c A ls X hr hlocks hnm hE hA hP hD hS hl
  have hx := X.1
  have hb := X.2.1
  refine qW (fun Q9 hQ9 => ?_)
  refine lv_aload_n hx hb dX0_begin_0 rfl (lv_at hl 0 rfl) ?_
  refine k_get (C := RX0) (T := TX0) (N := 18) (ci := 0) (v := .ref qmt) X hE hP 0 rfl rfl iX0 2 (by decide) w_400 rfl dX0_begin_1 ?_
  refine lv_iconst (v := 0) hx hb dX0_begin_4 (by decide) ?_
  refine k_putN (C := RX2) (T := TX2) (N := 5) (ci := 2) (v := .int 0) (ty := .int) X hE hP hD hS 1 rfl rfl iX2 tyX2 tyX2_ok nmX2 4 (by decide) nw_22 rfl (by decide +kernel) rfl rfl (Nat.le_of_ble_eq_true rfl) [(h0, .inr (0, [.ref qa, .ref qmi, .ref qmt, .ref qms, .int ua, .int ub, .int uc, .int ud, .int ue, .int uf, .int ug, .int uh, .int ui, .int uj, .int uk, .int ul, .int um, .int un])), (qmt, .inr (2, [.ref na1, .ref na2, .ref na3, .ref na4, .int 0])), (qmi, .inl (cA, 4096, .inl im))] rfl dX0_begin_5 (fun H locs hP hD hS => ?_)
  refine lv_aload_n hx hb dX0_begin_8 rfl (lv_at hl 0 rfl) ?_
  refine lv_iconst (v := 0) hx hb dX0_begin_9 (by decide) ?_
  refine k_put (C := RX0) (T := TX0) (N := 18) (ci := 0) (v := .int 0) (ty := .int) X hE hP hD hS 0 rfl rfl iX0 tyX0 tyX0_ok nmX0 4 (by decide) w_384 rfl (by decide +kernel) rfl rfl (Nat.le_of_ble_eq_true rfl) [(h0, .inr (0, [.ref qa, .ref qmi, .ref qmt, .ref qms, .int 0, .int ub, .int uc, .int ud, .int ue, .int uf, .int ug, .int uh, .int ui, .int uj, .int uk, .int ul, .int um, .int un])), (qmt, .inr (2, [.ref na1, .ref na2, .ref na3, .ref na4, .int 0])), (qmi, .inl (cA, 4096, .inl im))] rfl dX0_begin_10 (fun H locs hP hD hS => ?_)
  refine lv_aload_n hx hb dX0_begin_13 rfl (lv_at hl 0 rfl) ?_
  refine lv_iconst (v := (-1)) hx hb dX0_begin_14 (by decide) ?_
  refine k_put (C := RX0) (T := TX0) (N := 18) (ci := 0) (v := .int (-1)) (ty := .int) X hE hP hD hS 0 rfl rfl iX0 tyX0 tyX0_ok nmX0 5 (by decide) w_385 rfl (by decide +kernel) rfl rfl (Nat.le_of_ble_eq_true rfl) [(h0, .inr (0, [.ref qa, .ref qmi, .ref qmt, .ref qms, .int 0, .int (-1), .int uc, .int ud, .int ue, .int uf, .int ug, .int uh, .int ui, .int uj, .int uk, .int ul, .int um, .int un])), (qmt, .inr (2, [.ref na1, .ref na2, .ref na3, .ref na4, .int 0])), (qmi, .inl (cA, 4096, .inl im))] rfl dX0_begin_15 (fun H locs hP hD hS => ?_)
  refine lv_aload_n hx hb dX0_begin_18 rfl (lv_at hl 0 rfl) ?_
  refine k_get (C := RX0) (T := TX0) (N := 18) (ci := 0) (v := .ref qmi) X hE hP 0 rfl rfl iX0 1 (by decide) w_393 rfl dX0_begin_19 ?_
  refine lv_iconst (v := 0) hx hb dX0_begin_22 (by decide) ?_
  refine kSv (n3 := 2) (As := [.ref qmi, .int 0]) (rest := []) X hl.1 hE hP hD hS hA [(qmi, .inl (cA, 4096, .inl im))] [(h0, .inr (0, [.ref qa, .ref qmi, .ref qmt, .ref qms, .int 0, .int (-1), .int uc, .int ud, .int ue, .int uf, .int ug, .int uh, .int ui, .int uj, .int uk, .int ul, .int um, .int un])), (qmt, .inr (2, [.ref na1, .ref na2, .ref na3, .ref na4, .int 0]))] [2] [0, 1] rfl rfl rfl (by decide +kernel) (by decide +kernel) (by decide +kernel) (c_fill l D cA cB qmi 4096 0 im (by first | assumption | omega | decide | rfl)) w_286 w_287 w_401 w_288 (by decide +kernel) rfl rfl (Nat.le_of_ble_eq_true rfl) ⟨(Nat.le_of_ble_eq_true rfl), (Nat.le_of_ble_eq_true rfl)⟩ ⟨(Nat.le_of_ble_eq_true rfl), (Nat.le_of_ble_eq_true rfl)⟩ dX0_begin_23 (fun W1 H locs hw hP hD hS => ?_)
  obtain ⟨g_1, hf_2, rfl⟩ := hw
  have hP : va_P D classes [(h0, .inr (0, [.ref qa, .ref qmi, .ref qmt, .ref qms, .int 0, .int (-1), .int uc, .int ud, .int ue, .int uf, .int ug, .int uh, .int ui, .int uj, .int uk, .int ul, .int um, .int un])), (qmt, .inr (2, [.ref na1, .ref na2, .ref na3, .ref na4, .int 0])), (qmi, .inl (cA, 4096, .inl g_1))] H := hP
  have hD : va_D A [(h0, .inr (0, [.ref qa, .ref qmi, .ref qmt, .ref qms, .int 0, .int (-1), .int uc, .int ud, .int ue, .int uf, .int ug, .int uh, .int ui, .int uj, .int uk, .int ul, .int um, .int un])), (qmt, .inr (2, [.ref na1, .ref na2, .ref na3, .ref na4, .int 0])), (qmi, .inl (cA, 4096, .inl g_1))] := hD
  have hzg_1 := okB_zero (B := 256) (by decide) hf_2
  rw [hQ9]
  exact endV X hr hlocks hP hD hS dX0_begin_26 ⟨0, (-1), 0, g_1, (by decide), hzg_1, rfl, rfl⟩
set_option maxHeartbeats 4000000 in
set_option maxRecDepth 100000 in
theorem c_s_settle (l : Launch) (D : va_G) (cA cB : ClassId) (h0 : Nat) (qa : Nat) (qmi : Nat) (qmt : Nat) (qms : Nat) (hs : Nat) (ua : Int32) (ub : Int32) (uc : Int32) (ud : Int32) (ue : Int32) (uf : Int32) (ug : Int32) (uh : Int32) (ui : Int32) (uj : Int32) (uk : Int32) (ul : Int32) (um : Int32) (un : Int32) (im : Nat → Int32) (st : Nat → Int32) (him : ∀ j, j < 4096 → ∃ k : Nat, k < 256 ∧ im j = nI k) (hst : ∀ j, j < 4096 → ∃ k : Nat, k < 256 ∧ st j = nI k) : CV l yX0_settle cX0_settle 3 none 1 40 0 0 D cA cB [.ref h0, .ref hs] [(h0, .inr (0, [.ref qa, .ref qmi, .ref qmt, .ref qms, .int ua, .int ub, .int uc, .int ud, .int ue, .int uf, .int ug, .int uh, .int ui, .int uj, .int uk, .int ul, .int um, .int un])), (qmi, .inl (cA, 4096, .inl im)), (hs, .inl (cA, 4096, .inl st))] (fun W1 => ∃ (st2 : Nat → Int32), (∀ j, j < 4096 → ∃ k : Nat, k < 256 ∧ st2 j = nI k) ∧ W1 = [(h0, .inr (0, [.ref qa, .ref qmi, .ref qms, .ref qmt, .int ua, .int ub, .int uc, .int ud, .int ue, .int uf, .int ug, .int uh, .int ui, .int uj, .int uk, .int ul, .int um, .int un])), (qmi, .inl (cA, 4096, .inl im)), (hs, .inl (cA, 4096, .inl st2))]) := by
  refine mkV (lv0 := [(0, .ref h0), (1, .ref hs)]) (by decide) (Nat.le_of_ble_eq_true rfl) rfl ?_
  intro p e s m below meth c A ls X hr hlocks hnm hE hA hP hD hS hl
  have hx := X.1
  have hb := X.2.1
  refine qW (fun Q9 hQ9 => ?_)
  refine lv_aload_n hx hb dX0_settle_0 rfl (lv_at hl 0 rfl) ?_
  refine k_get (C := RX0) (T := TX0) (N := 18) (ci := 0) (v := .ref qmi) X hE hP 0 rfl rfl iX0 1 (by decide) w_393 rfl dX0_settle_1 ?_
  refine lv_iconst (v := 0) hx hb dX0_settle_4 (by decide) ?_
  refine lv_aload_n hx hb dX0_settle_5 rfl (lv_at hl 1 rfl) ?_
  refine lv_iconst (v := 0) hx hb dX0_settle_6 (by decide) ?_
  refine lv_sipush (v := 4096) hx hb dX0_settle_7 (by decide) ?_
  refine va_copyi (ty := .int) hx hb (X.2.2.1.trans hl.1.symm) X.2.2.2.1 (X.2.2.2.2 _ w_402) (X.2.2.2.2 _ w_60) (X.2.2.2.2 _ w_61) (X.2.2.2.2 _ w_62) hE.1 hP hD hS 1 2 0 0 rfl rfl rfl rfl rfl (by decide) (by decide) (by decide) (by decide) (by decide) (fun _ _ => rfl) (Nat.le_of_ble_eq_true rfl) (Nat.le_of_ble_eq_true rfl) dX0_settle_10 (fun H locs hP hD hS => ?_)
  obtain ⟨g_1, eg_1⟩ : ∃ z, z = va_cpy im st (0 : Int32).toNatClampNeg (0 : Int32).toNatClampNeg (4096 : Int32).toNatClampNeg := ⟨_, rfl⟩
  rw [← eg_1] at hP hD
  have hP : va_P D classes [(h0, .inr (0, [.ref qa, .ref qmi, .ref qmt, .ref qms, .int ua, .int ub, .int uc, .int ud, .int ue, .int uf, .int ug, .int uh, .int ui, .int uj, .int uk, .int ul, .int um, .int un])), (qmi, .inl (cA, 4096, .inl im)), (hs, .inl (cA, 4096, .inl g_1))] H := hP
  have hD : va_D A [(h0, .inr (0, [.ref qa, .ref qmi, .ref qmt, .ref qms, .int ua, .int ub, .int uc, .int ud, .int ue, .int uf, .int ug, .int uh, .int ui, .int uj, .int uk, .int ul, .int um, .int un])), (qmi, .inl (cA, 4096, .inl im)), (hs, .inl (cA, 4096, .inl g_1))] := hD
  have hg_1 : ∀ j, j < 4096 → ∃ k : Nat, k < 256 ∧ g_1 j = nI k := by rw [eg_1]; exact okB_cpy him rfl rfl rfl
  refine lv_aload_n hx hb dX0_settle_13 rfl (lv_at hl 0 rfl) ?_
  refine k_get (C := RX0) (T := TX0) (N := 18) (ci := 0) (v := .ref qms) X hE hP 0 rfl rfl iX0 3 (by decide) w_403 rfl dX0_settle_14 ?_
  refine lv_astore_n (lv' := [(2, .ref qms), (0, .ref h0), (1, .ref hs)]) hx hb dX0_settle_17 rfl hl (by decide) rfl (fun ls hl => ?_)
  refine lv_aload_n hx hb dX0_settle_18 rfl (lv_at hl 1 rfl) ?_
  refine lv_aload_n hx hb dX0_settle_19 rfl (lv_at hl 1 rfl) ?_
  refine k_get (C := RX0) (T := TX0) (N := 18) (ci := 0) (v := .ref qmt) X hE hP 0 rfl rfl iX0 2 (by decide) w_400 rfl dX0_settle_20 ?_
  refine k_put (C := RX0) (T := TX0) (N := 18) (ci := 0) (v := .ref qmt) (ty := (.object "BelfryBox$Names")) X hE hP hD hS 0 rfl rfl iX0 tyX0 tyX0_ok nmX0 3 (by decide) w_403 rfl (by decide +kernel) rfl rfl (Nat.le_of_ble_eq_true rfl) [(h0, .inr (0, [.ref qa, .ref qmi, .ref qmt, .ref qmt, .int ua, .int ub, .int uc, .int ud, .int ue, .int uf, .int ug, .int uh, .int ui, .int uj, .int uk, .int ul, .int um, .int un])), (qmi, .inl (cA, 4096, .inl im)), (hs, .inl (cA, 4096, .inl g_1))] rfl dX0_settle_23 (fun H locs hP hD hS => ?_)
  refine lv_aload_n hx hb dX0_settle_26 rfl (lv_at hl 1 rfl) ?_
  refine lv_aload_n hx hb dX0_settle_27 rfl (lv_at hl 0 rfl) ?_
  refine k_put (C := RX0) (T := TX0) (N := 18) (ci := 0) (v := .ref qms) (ty := (.object "BelfryBox$Names")) X hE hP hD hS 0 rfl rfl iX0 tyX0 tyX0_ok nmX0 2 (by decide) w_400 rfl (by decide +kernel) rfl rfl (Nat.le_of_ble_eq_true rfl) [(h0, .inr (0, [.ref qa, .ref qmi, .ref qms, .ref qmt, .int ua, .int ub, .int uc, .int ud, .int ue, .int uf, .int ug, .int uh, .int ui, .int uj, .int uk, .int ul, .int um, .int un])), (qmi, .inl (cA, 4096, .inl im)), (hs, .inl (cA, 4096, .inl g_1))] rfl dX0_settle_28 (fun H locs hP hD hS => ?_)
  rw [hQ9]
  exact endV X hr hlocks hP hD hS dX0_settle_31 ⟨g_1, hg_1, rfl⟩
