abbrev cX2_find : ByteArray := prog_4_method_3_code
def yX2_find : MethodName := ⟨RX2, "find", "(LBelfryBox$Tape;II)I"⟩
set_option maxRecDepth 100000 in
theorem w_412 : (Cond.fieldLink "BelfryBox$Names" 15 "BelfryBox$Names" "letters" "[I" : Cond) ∈ gw := List.mem_filter.mpr ⟨List.mem_append_right _ (tb1 (List.mem_of_getElem? (i := 172) rfl)), rfl⟩
set_option maxRecDepth 100000 in
theorem w_413 : (Cond.methodLink "BelfryBox$Names" 28 yX7_sameLetters : Cond) ∈ gw := List.mem_filter.mpr ⟨List.mem_append_right _ (tb3 (List.mem_of_getElem? (i := 41) rfl)), rfl⟩
set_option maxRecDepth 100000 in
theorem w_414 : (Cond.code yX7_sameLetters prog_9_method_10_code 5 (Option.some Jvm.ClassFile.FieldType.boolean) : Cond) ∈ gw := List.mem_filter.mpr ⟨List.mem_append_right _ (tb3 (List.mem_of_getElem? (i := 44) rfl)), rfl⟩
set_option maxRecDepth 100000 in
theorem w_415 : (Cond.instanceMethod yX7_sameLetters : Cond) ∈ gw := List.mem_filter.mpr ⟨List.mem_append_right _ (tb3 (List.mem_of_getElem? (i := 42) rfl)), rfl⟩
set_option maxRecDepth 100000 in
theorem w_416 : (Cond.selects "BelfryBox$Tape" yX7_sameLetters yX7_sameLetters : Cond) ∈ gw := List.mem_filter.mpr ⟨List.mem_append_right _ (tb3 (List.mem_of_getElem? (i := 43) rfl)), rfl⟩
theorem dX2_find_0 : decode cX2_find 0 = .ok (.iconst 0, 1) := by decide +kernel
theorem dX2_find_1 : decode cX2_find 1 = .ok (.istore 4, 2) := by decide +kernel
theorem dX2_find_3 : decode cX2_find 3 = .ok (.iload 4, 2) := by decide +kernel
theorem dX2_find_5 : decode cX2_find 5 = .ok (.aload_n 0, 1) := by decide +kernel
theorem dX2_find_6 : decode cX2_find 6 = .ok (.getfield 24, 3) := by decide +kernel
theorem dX2_find_9 : decode cX2_find 9 = .ok (.if_icmp .ge 39, 3) := by decide +kernel
theorem dX2_find_48 : decode cX2_find 48 = .ok (.iconst (-1), 1) := by decide +kernel
theorem dX2_find_49 : decode cX2_find 49 = .ok (.ireturn, 1) := by decide +kernel
theorem dX2_find_12 : decode cX2_find 12 = .ok (.aload_n 0, 1) := by decide +kernel
theorem dX2_find_13 : decode cX2_find 13 = .ok (.getfield 15, 3) := by decide +kernel
theorem dX2_find_16 : decode cX2_find 16 = .ok (.iload 4, 2) := by decide +kernel
theorem dX2_find_18 : decode cX2_find 18 = .ok (.iaload, 1) := by decide +kernel
theorem dX2_find_19 : decode cX2_find 19 = .ok (.iload_n 3, 1) := by decide +kernel
theorem dX2_find_20 : decode cX2_find 20 = .ok (.if_icmp .ne 22, 3) := by decide +kernel
theorem dX2_find_42 : decode cX2_find 42 = .ok (.iinc 4 1, 3) := by decide +kernel
theorem dX2_find_45 : decode cX2_find 45 = .ok (.goto (-42), 3) := by decide +kernel
theorem dX2_find_23 : decode cX2_find 23 = .ok (.aload_n 1, 1) := by decide +kernel
theorem dX2_find_24 : decode cX2_find 24 = .ok (.aload_n 0, 1) := by decide +kernel
theorem dX2_find_25 : decode cX2_find 25 = .ok (.getfield 11, 3) := by decide +kernel
theorem dX2_find_28 : decode cX2_find 28 = .ok (.iload 4, 2) := by decide +kernel
theorem dX2_find_30 : decode cX2_find 30 = .ok (.iaload, 1) := by decide +kernel
theorem dX2_find_31 : decode cX2_find 31 = .ok (.iload_n 2, 1) := by decide +kernel
theorem dX2_find_32 : decode cX2_find 32 = .ok (.iload_n 3, 1) := by decide +kernel
theorem dX2_find_33 : decode cX2_find 33 = .ok (.invokevirtual 28, 3) := by decide +kernel
theorem dX2_find_36 : decode cX2_find 36 = .ok (.ifCond .eq 6, 3) := by decide +kernel
theorem dX2_find_39 : decode cX2_find 39 = .ok (.iload 4, 2) := by decide +kernel
theorem dX2_find_41 : decode cX2_find 41 = .ok (.ireturn, 1) := by decide +kernel
/-- the names told: each lies in the tape -/
def okT (pa lt : Nat → Int32) (n : Nat) : Prop := ∀ k, k < n → ∃ a b : Nat, a + b ≤ 6000 ∧ pa k = nI a ∧ lt k = nI b
theorem okT_add {pa lt : Nat → Int32} {n a b : Nat} (h : okT pa lt n) (hab : a + b ≤ 6000) : okT (upd pa n (nI a)) (upd lt n (nI b)) (n + 1) := by
  intro k hk
  by_cases e : k = n
  · subst e; exact ⟨a, b, hab, pk_us, pk_us⟩
  · rw [pk_un e, pk_un e]; exact h k (by omega)
set_option maxHeartbeats 4000000 in
set_option maxRecDepth 100000 in
theorem c_s_nfind (l : Launch) (D : va_G) (cA cB : ClassId) (h0 : Nat) (ha : Nat) (hb9 : Nat) (hc9 : Nat) (hd9 : Nat) (qa : Nat) (htb : Nat) (cn : Nat) (t0 : Int32) (t1 : Int32) (t2 : Int32) (t3 : Int32) (t4 : Int32) (t5 : Int32) (t6 : Int32) (t7 : Int32) (na : Nat → Int32) (nb : Nat → Int32) (tb : Nat → Int32) (p0 : Nat) (q0 : Nat) (hcn : cn < 61) (hp0 : p0 < 6001) (hq0 : q0 < 6001) (hT : okT na nb cn) (hpq : p0 + q0 ≤ 6000) : CI l yX2_find cX2_find 5 (some .int) 1 24 0 0 D cA cB [.ref h0, .ref qa, .int (nI p0), .int (nI q0)] [(h0, .inr (2, [.ref ha, .ref hb9, .ref hc9, .ref hd9, .int (nI cn)])), (qa, .inr (7, [.ref htb, .int t0, .int t1, .int t2, .int t3, .int t4, .int t5, .int t6, .int t7])), (ha, .inl (cA, 60, .inl na)), (hb9, .inl (cA, 60, .inl nb)), (htb, .inl (cA, 6000, .inl tb))] (fun r W1 => ∃ (cn2 : Nat) (t02 : Int32) (t12 : Int32) (t22 : Int32) (t32 : Int32) (t42 : Int32) (t52 : Int32) (t62 : Int32) (t72 : Int32) (na2 : Nat → Int32) (nb2 : Nat → Int32) (tb2 : Nat → Int32) (rv : Int32), r = rv ∧ (cn2 < 61) ∧ (okT na2 nb2 cn2) ∧ (rv = -1 ∨ ∃ k : Nat, k < cn2 ∧ rv = nI k) ∧ W1 = [(h0, .inr (2, [.ref ha, .ref hb9, .ref hc9, .ref hd9, .int (nI cn2)])), (qa, .inr (7, [.ref htb, .int t02, .int t12, .int t22, .int t32, .int t42, .int t52, .int t62, .int t72])), (ha, .inl (cA, 60, .inl na2)), (hb9, .inl (cA, 60, .inl nb2)), (htb, .inl (cA, 6000, .inl tb2))]) := by
  refine mkI (lv0 := [(0, .ref h0), (1, .ref qa), (2, .int (nI p0)), (3, .int (nI q0))]) (by decide) (Nat.le_of_ble_eq_true rfl) rfl ?_
  intro p e s m below meth c A ls X hr hlocks hnm hE hA hP hD hS hl
  have hx := X.1
  have hb := X.2.1
  refine lv_iconst (v := 0) hx hb dX2_find_0 (by decide) ?_
  refine lv_istore (lv' := [(4, .int 0), (0, .ref h0), (1, .ref qa), (2, .int (nI p0)), (3, .int (nI q0))]) hx hb dX2_find_1 hl (by decide) rfl (fun ls hl => ?_)
  have loop_3 : ∀ (n : Nat) (i : Nat) (w0 : Int32) (w1 : Int32) (w2 : Int32) (w3 : Int32) (w4 : Int32) (w5 : Int32) (w6 : Int32) (w7 : Int32) (tv : Nat → Int32), (i ≤ cn) → cn < i + n → ∀ (H : Heap) (locs : List Loc), va_P D classes [(h0, .inr (2, [.ref ha, .ref hb9, .ref hc9, .ref hd9, .int (nI cn)])), (qa, .inr (7, [.ref htb, .int w0, .int w1, .int w2, .int w3, .int w4, .int w5, .int w6, .int w7])), (ha, .inl (cA, 60, .inl na)), (hb9, .inl (cA, 60, .inl nb)), (htb, .inl (cA, 6000, .inl tv))] H → va_D A [(h0, .inr (2, [.ref ha, .ref hb9, .ref hc9, .ref hd9, .int (nI cn)])), (qa, .inr (7, [.ref htb, .int w0, .int w1, .int w2, .int w3, .int w4, .int w5, .int w6, .int w7])), (ha, .inl (cA, 60, .inl na)), (hb9, .inl (cA, 60, .inl nb)), (htb, .inl (cA, 6000, .inl tv))] → va_S A s.heap H locs → ∀ ls : Array Slot, lv_has ls 5 [(0, .ref h0), (1, .ref qa), (2, .int (nI p0)), (3, .int (nI q0)), (4, .int (nI i))] → W p l e { frames := 1, cells := 0, slots := 0, locals := 24 } s m (List.toArray [.ref h0, .ref qa, .int (nI p0), .int (nI q0)]) below meth c H locs 0 0 (MQ below (QI D (fun r W1 => ∃ (cn2 : Nat) (t02 : Int32) (t12 : Int32) (t22 : Int32) (t32 : Int32) (t42 : Int32) (t52 : Int32) (t62 : Int32) (t72 : Int32) (na2 : Nat → Int32) (nb2 : Nat → Int32) (tb2 : Nat → Int32) (rv : Int32), r = rv ∧ (cn2 < 61) ∧ (okT na2 nb2 cn2) ∧ (rv = -1 ∨ ∃ k : Nat, k < cn2 ∧ rv = nI k) ∧ W1 = [(h0, .inr (2, [.ref ha, .ref hb9, .ref hc9, .ref hd9, .int (nI cn2)])), (qa, .inr (7, [.ref htb, .int t02, .int t12, .int t22, .int t32, .int t42, .int t52, .int t62, .int t72])), (ha, .inl (cA, 60, .inl na2)), (hb9, .inl (cA, 60, .inl nb2)), (htb, .inl (cA, 6000, .inl tb2))]) A) (List.toArray [.ref h0, .ref qa, .int (nI p0), .int (nI q0)]) s 0 0 A) (F0 m 3 ls []) := by
    intro n
    induction n with
    | zero => intro i w0 w1 w2 w3 w4 w5 w6 w7 tv hi hfuel; exact absurd hfuel (by omega)
    | succ n ih =>
      intro i w0 w1 w2 w3 w4 w5 w6 w7 tv hi hfuel H locs hP hD hS ls hl
      refine lv_iload hx hb dX2_find_3 (lv_at hl 4 rfl) ?_
      refine lv_aload_n hx hb dX2_find_5 rfl (lv_at hl 0 rfl) ?_
      refine k_get (C := RX2) (T := TX2) (N := 5) (ci := 2) (v := .int (nI cn)) X hE hP 0 rfl rfl iX2 4 (by decide) w_365 rfl dX2_find_6 ?_
      refine lv_icmp_ge (tgt := 48) hx hb dX2_find_9 (by decide) (fun c_9_1 => ?_) (fun c_9_1 => ?_)
      · have nc_9_1 : cn ≤ i := (nI_leI (a := cn) (b := i) (by omega) (by omega)).mp c_9_1
        refine lv_iconst (v := (-1)) hx hb dX2_find_48 (by decide) ?_
        exact endI X hr hlocks hP hD hS dX2_find_49 ⟨cn, w0, w1, w2, w3, w4, w5, w6, w7, na, nb, tv, (-1), rfl, (by omega), hT, (Or.inl rfl), rfl⟩
      · have nc_9_1 : i < cn := Nat.not_le.mp (fun q => c_9_1 ((nI_leI (a := cn) (b := i) (by omega) (by omega)).mpr q))
        obtain ⟨a9, b9, hab, ea9, eb9⟩ := hT i (by omega)
        refine lv_aload_n hx hb dX2_find_12 rfl (lv_at hl 0 rfl) ?_
        refine k_get (C := RX2) (T := TX2) (N := 5) (ci := 2) (v := .ref hb9) X hE hP 0 rfl rfl iX2 1 (by decide) w_412 rfl dX2_find_13 ?_
        refine lv_iload hx hb dX2_find_16 (lv_at hl 4 rfl) ?_
        refine k_ald (v := nI b9) X hE hP 3 rfl i rfl (by omega) (by decide) eb9 dX2_find_18 ?_
        refine lv_iload_n hx hb dX2_find_19 rfl (lv_at hl 3 rfl) ?_
        refine lv_icmp_ne (tgt := 42) hx hb dX2_find_20 (by decide) (fun c_20_2 => ?_) (fun c_20_2 => ?_)
        · have nc_20_2 : ¬ b9 = q0 := fun q => c_20_2 ((nI_eq (a := b9) (b := q0) (by omega) (by omega)).mpr q)
          refine lv_iinc (v := nI (i + 1)) (lv' := [(4, .int (nI (i + 1))), (0, .ref h0), (1, .ref qa), (2, .int (nI p0)), (3, .int (nI q0))]) hx hb dX2_find_42 hl (k := 4) rfl (nI_1 i) (by decide) rfl (fun ls hl => ?_)
          refine lv_goto (tgt := 3) hx hb dX2_find_45 (by decide) ?_
          exact ih (i + 1) w0 w1 w2 w3 w4 w5 w6 w7 tv (by omega) (by omega) _ _ (hP.sub [0, 1, 2, 3, 4] rfl) (hD.sub [0, 1, 2, 3, 4] (by decide) rfl) hS ls (lv_sub hl [1, 2, 3, 4, 0] rfl)
        · have nc_20_2 : b9 = q0 := (nI_eq (a := b9) (b := q0) (by omega) (by omega)).mp c_20_2
          refine lv_aload_n hx hb dX2_find_23 rfl (lv_at hl 1 rfl) ?_
          refine lv_aload_n hx hb dX2_find_24 rfl (lv_at hl 0 rfl) ?_
          refine k_get (C := RX2) (T := TX2) (N := 5) (ci := 2) (v := .ref ha) X hE hP 0 rfl rfl iX2 0 (by decide) w_367 rfl dX2_find_25 ?_
          refine lv_iload hx hb dX2_find_28 (lv_at hl 4 rfl) ?_
          refine k_ald (v := nI a9) X hE hP 2 rfl i rfl (by omega) (by decide) ea9 dX2_find_30 ?_
          refine lv_iload_n hx hb dX2_find_31 rfl (lv_at hl 2 rfl) ?_
          refine lv_iload_n hx hb dX2_find_32 rfl (lv_at hl 3 rfl) ?_
          refine kVi (n3 := 3) (As := [.int (nI a9), .int (nI p0), .int (nI q0)]) (rest := []) X hl.1 hE hP hD hS hA [(qa, .inr (7, [.ref htb, .int w0, .int w1, .int w2, .int w3, .int w4, .int w5, .int w6, .int w7])), (htb, .inl (cA, 6000, .inl tv))] [(h0, .inr (2, [.ref ha, .ref hb9, .ref hc9, .ref hd9, .int (nI cn)])), (ha, .inl (cA, 60, .inl na)), (hb9, .inl (cA, 60, .inl nb))] [1, 4] [0, 2, 3] rfl rfl rfl (by decide) (by decide) (by decide) (c_s_sameLetters l D cA cB qa htb w0 w1 w2 w3 w4 w5 w6 w7 tv a9 p0 q0 (by first | assumption | decide | rfl | omega) (by first | assumption | decide | rfl | omega) (by first | assumption | decide | rfl | omega) (by omega) (by omega)) w_414 w_358 w_413 w_415 w_416 0 (ci := 7) (T := TX7) (N := 9) rfl rfl (by decide +kernel) rfl rfl (Nat.le_of_ble_eq_true rfl) ⟨(Nat.le_of_ble_eq_true rfl), (Nat.le_of_ble_eq_true rfl)⟩ ⟨(Nat.le_of_ble_eq_true rfl), (Nat.le_of_ble_eq_true rfl)⟩ dX2_find_33 (fun r W1 H locs hw hP hD hS => ?_)
          obtain ⟨t02_3, t12_4, t22_5, t32_6, t42_7, t52_8, t62_9, t72_10, tb2_11, rk_12, rfl, hf_13, rfl⟩ := hw
          have hP : va_P D classes [(h0, .inr (2, [.ref ha, .ref hb9, .ref hc9, .ref hd9, .int (nI cn)])), (ha, .inl (cA, 60, .inl na)), (hb9, .inl (cA, 60, .inl nb)), (qa, .inr (7, [.ref htb, .int t02_3, .int t12_4, .int t22_5, .int t32_6, .int t42_7, .int t52_8, .int t62_9, .int t72_10])), (htb, .inl (cA, 6000, .inl tb2_11))] H := hP
          have hD : va_D A [(h0, .inr (2, [.ref ha, .ref hb9, .ref hc9, .ref hd9, .int (nI cn)])), (ha, .inl (cA, 60, .inl na)), (hb9, .inl (cA, 60, .inl nb)), (qa, .inr (7, [.ref htb, .int t02_3, .int t12_4, .int t22_5, .int t32_6, .int t42_7, .int t52_8, .int t62_9, .int t72_10])), (htb, .inl (cA, 6000, .inl tb2_11))] := hD
          refine lv_if_eq (tgt := 42) hx hb dX2_find_36 (by decide) (fun c_36_14 => ?_) (fun c_36_14 => ?_)
          · have nc_36_14 : rk_12 = 0 := (nI_eq (a := rk_12) (b := 0) (by omega) (by omega)).mp c_36_14
            refine lv_iinc (v := nI (i + 1)) (lv' := [(4, .int (nI (i + 1))), (0, .ref h0), (1, .ref qa), (2, .int (nI p0)), (3, .int (nI q0))]) hx hb dX2_find_42 hl (k := 4) rfl (nI_1 i) (by decide) rfl (fun ls hl => ?_)
            refine lv_goto (tgt := 3) hx hb dX2_find_45 (by decide) ?_
            exact ih (i + 1) t02_3 t12_4 t22_5 t32_6 t42_7 t52_8 t62_9 t72_10 tb2_11 (by omega) (by omega) _ _ (hP.sub [0, 3, 1, 2, 4] rfl) (hD.sub [0, 3, 1, 2, 4] (by decide) rfl) hS ls (lv_sub hl [1, 2, 3, 4, 0] rfl)
          · have nc_36_14 : ¬ rk_12 = 0 := fun q => c_36_14 ((nI_eq (a := rk_12) (b := 0) (by omega) (by omega)).mpr q)
            refine lv_iload hx hb dX2_find_39 (lv_at hl 4 rfl) ?_
            have hP : va_P D classes [(h0, .inr (2, [.ref ha, .ref hb9, .ref hc9, .ref hd9, .int (nI cn)])), (qa, .inr (7, [.ref htb, .int t02_3, .int t12_4, .int t22_5, .int t32_6, .int t42_7, .int t52_8, .int t62_9, .int t72_10])), (ha, .inl (cA, 60, .inl na)), (hb9, .inl (cA, 60, .inl nb)), (htb, .inl (cA, 6000, .inl tb2_11))] _ := hP.sub [0, 3, 1, 2, 4] rfl
            have hD : va_D A [(h0, .inr (2, [.ref ha, .ref hb9, .ref hc9, .ref hd9, .int (nI cn)])), (qa, .inr (7, [.ref htb, .int t02_3, .int t12_4, .int t22_5, .int t32_6, .int t42_7, .int t52_8, .int t62_9, .int t72_10])), (ha, .inl (cA, 60, .inl na)), (hb9, .inl (cA, 60, .inl nb)), (htb, .inl (cA, 6000, .inl tb2_11))] := hD.sub [0, 3, 1, 2, 4] (by decide) rfl
            exact endI X hr hlocks hP hD hS dX2_find_41 ⟨cn, t02_3, t12_4, t22_5, t32_6, t42_7, t52_8, t62_9, t72_10, na, nb, tb2_11, (nI i), rfl, (by omega), hT, (Or.inr ⟨i, by omega, rfl⟩), rfl⟩
  exact loop_3 (cn + 1) 0 t0 t1 t2 t3 t4 t5 t6 t7 tb (by omega) (by omega) _ _ hP hD hS ls (lv_sub hl [1, 2, 3, 4, 0] rfl)
