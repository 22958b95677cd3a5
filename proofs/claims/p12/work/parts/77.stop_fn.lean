/-! the stops: the class's row of places, the reference's row of marks -/
def stR (sg : Nat → Int32) (cn : Nat) (fs : Nat → Int32) (many : Int32) : Prop := many = nI cn ∧ cn < 17 ∧ (∀ k, k < cn → ∃ a : Nat, a < 4096 ∧ sg k = nI a ∧ fs a = 1) ∧ (∀ a, a < 4096 → fs a = 0 ∨ (fs a = 1 ∧ ∃ k : Nat, k < cn ∧ sg k = nI a)) ∧ (∀ j k, j < cn → k < cn → sg j = sg k → j = k)
def setF (sg : Nat → Int32) (cn : Nat) (a : Int32) (rv : Int32) (sg2 : Nat → Int32) (cn2 : Nat) : Prop := ((∃ k : Nat, k < cn ∧ sg k = a) ∧ rv = nI cn ∧ cn2 = cn ∧ sg2 = sg) ∨ ((∀ k, k < cn → ¬ sg k = a) ∧ 16 ≤ cn ∧ rv = -1 ∧ cn2 = cn ∧ sg2 = sg) ∨ ((∀ k, k < cn → ¬ sg k = a) ∧ cn < 16 ∧ rv = nI (cn + 1) ∧ cn2 = cn + 1 ∧ sg2 = upd sg cn a)
def liftF (sg : Nat → Int32) (cn : Nat) (a : Int32) (rv : Int32) (sg2 : Nat → Int32) (cn2 : Nat) : Prop := (∃ k : Nat, k < cn ∧ sg k = a ∧ rv = nI (cn - 1) ∧ cn2 = cn - 1 ∧ sg2 = upd sg k (sg (cn - 1))) ∨ ((∀ k, k < cn → ¬ sg k = a) ∧ rv = nI cn ∧ cn2 = cn ∧ sg2 = sg)
def stopF (sg : Nat → Int32) (cn : Nat) (a o : Int32) (rv : Int32) (sg2 : Nat → Int32) (cn2 : Nat) : Prop := (isA a = 0 ∧ rv = -1 ∧ cn2 = cn ∧ sg2 = sg) ∨ (¬ isA a = 0 ∧ ¬ o = 0 ∧ setF sg cn a rv sg2 cn2) ∨ (¬ isA a = 0 ∧ o = 0 ∧ liftF sg cn a rv sg2 cn2)
theorem fnd_no {rv a : Int32} {sg : Nat → Int32} {cn : Nat} (h : (rv = -1 ∧ ∀ k, k < cn → ¬ sg k = a) ∨ (∃ k : Nat, k < cn ∧ rv = nI k ∧ sg k = a)) (hc : cn < 17) (e : rv = -1) : ∀ k, k < cn → ¬ sg k = a := by
  rcases h with h | ⟨k, h1, h2, h3⟩
  · exact h.2
  · exact absurd (show nI k < 0 by rw [← h2, e]; decide) (nI_nneg (by omega))
set_option maxHeartbeats 4000000 in
set_option maxRecDepth 100000 in
theorem c_p_find (l : Launch) (D : va_G) (cA cB : ClassId) (h0 : Nat) (hsp : Nat) (cn : Nat) (sg : Nat → Int32) (a : Int32) (hcn : cn < 17) : CI l yX6_find cX6_find 3 (some .int) 0 0 0 0 D cA cB [.ref h0, .int a] [(h0, .inr (6, [.ref hsp, .int (nI cn)])), (hsp, .inl (cA, 16, .inl sg))] (fun r W1 => ∃ (rv : Int32), r = rv ∧ ((rv = -1 ∧ ∀ k, k < cn → ¬ sg k = a) ∨ (∃ k : Nat, k < cn ∧ rv = nI k ∧ sg k = a)) ∧ W1 = [(h0, .inr (6, [.ref hsp, .int (nI cn)])), (hsp, .inl (cA, 16, .inl sg))]) := by
  refine mkI (lv0 := [(0, .ref h0), (1, .int a)]) (by decide) (Nat.le_of_ble_eq_true rfl) rfl ?_
  intro p e s m below meth c A ls X hr hlocks hnm hE hA hP hD hS hl
  have hx := X.1
  have hb := X.2.1
  refine qW (fun Q9 hQ9 => ?_)
  refine lv_iconst (v := 0) hx hb dX6_find_0 (by decide) ?_
  refine lv_istore_n (lv' := [(2, .int 0), (0, .ref h0), (1, .int a)]) hx hb dX6_find_1 rfl hl (by decide) rfl (fun ls hl => ?_)
  have loop_2 : ∀ (n : Nat) (i : Nat), (i < 18) → (i ≤ cn) → (∀ k, k < i → ¬ sg k = a) → cn - i < n → ∀ (H : Heap) (locs : List Loc), va_P D classes [(h0, .inr (6, [.ref hsp, .int (nI cn)])), (hsp, .inl (cA, 16, .inl sg))] H → va_D A [(h0, .inr (6, [.ref hsp, .int (nI cn)])), (hsp, .inl (cA, 16, .inl sg))] → va_S A s.heap H locs → ∀ ls : Array Slot, lv_has ls 3 [(0, .ref h0), (1, .int a), (2, .int (nI i))] → W p l e { frames := 0, cells := 0, slots := 0, locals := 0 } s m (List.toArray [.ref h0, .int a]) below meth c H locs 0 0 Q9 (F0 m 2 ls []) := by
    intro n
    induction n with
    | zero => intro i hi hi2 hno hfuel; exact absurd hfuel (by omega)
    | succ n ih_2 =>
      intro i hi hi2 hno hfuel H locs hP hD hS ls hl
      refine lv_iload_n hx hb dX6_find_2 rfl (lv_at hl 2 rfl) ?_
      refine lv_aload_n hx hb dX6_find_3 rfl (lv_at hl 0 rfl) ?_
      refine k_get (C := RX6) (T := TX6) (N := 2) (ci := 6) (v := .int (nI cn)) X hE hP 0 rfl rfl iX6 1 (by decide) w_293 rfl dX6_find_4 ?_
      refine lv_icmp_ge (tgt := 28) hx hb dX6_find_7 (by decide) (fun c_7_1 => ?_) (fun c_7_1 => ?_)
      · have nc_7_1 : cn ≤ i := (nI_leI (a := cn) (b := i) (by omega) (by omega)).mp c_7_1
        refine lv_iconst (v := (-1)) hx hb dX6_find_28 (by decide) ?_
        rw [hQ9]
        exact endI X hr hlocks hP hD hS dX6_find_29 ⟨(-1), rfl, (Or.inl ⟨rfl, fun k hk => hno k (by omega)⟩), rfl⟩
      · have nc_7_1 : i < cn := Nat.not_le.mp (fun q => c_7_1 ((nI_leI (a := cn) (b := i) (by omega) (by omega)).mpr q))
        refine lv_aload_n hx hb dX6_find_10 rfl (lv_at hl 0 rfl) ?_
        refine k_get (C := RX6) (T := TX6) (N := 2) (ci := 6) (v := .ref hsp) X hE hP 0 rfl rfl iX6 0 (by decide) w_294 rfl dX6_find_11 ?_
        refine lv_iload_n hx hb dX6_find_14 rfl (lv_at hl 2 rfl) ?_
        refine k_ald (v := sg i) X hE hP 1 rfl i rfl (by omega) (by decide) rfl dX6_find_15 ?_
        refine lv_iload_n hx hb dX6_find_16 rfl (lv_at hl 1 rfl) ?_
        refine lv_icmp_ne (tgt := 22) hx hb dX6_find_17 (by decide) (fun c_17 => ?_) (fun c_17 => ?_)
        · skip
          refine lv_iinc (v := nI (i + 1)) (lv' := [(2, .int (nI (i + 1))), (0, .ref h0), (1, .int a)]) hx hb dX6_find_22 hl (k := 2) rfl (nI_1 i) (by decide) rfl (fun ls hl => ?_)
          refine lv_goto (tgt := 2) hx hb dX6_find_25 (by decide) ?_
          exact ih_2 (i + 1) (by omega) (by omega) (fun k hk => by rcases Nat.lt_or_eq_of_le (Nat.le_of_lt_succ hk) with q | q; exact hno k q; subst q; exact c_17) (by omega) _ _ hP hD hS ls (lv_sub hl [1, 2, 0] rfl)
        · skip
          refine lv_iload_n hx hb dX6_find_20 rfl (lv_at hl 2 rfl) ?_
          rw [hQ9]
          exact endI X hr hlocks hP hD hS dX6_find_21 ⟨(nI i), rfl, (Or.inr ⟨i, by omega, rfl, c_17⟩), rfl⟩
  exact loop_2 19 0 (by omega) (by omega) (fun k hk => absurd hk (by omega)) (by omega) _ _ hP hD hS ls (lv_sub hl [1, 2, 0] rfl)
set_option maxHeartbeats 4000000 in
set_option maxRecDepth 100000 in
theorem c_p_set (l : Launch) (D : va_G) (cA cB : ClassId) (h0 : Nat) (hsp : Nat) (cn : Nat) (sg : Nat → Int32) (a : Int32) (hcn : cn < 17) : CI l yX6_set cX6_set 2 (some .int) 1 22 0 0 D cA cB [.ref h0, .int a] [(h0, .inr (6, [.ref hsp, .int (nI cn)])), (hsp, .inl (cA, 16, .inl sg))] (fun r W1 => ∃ (cn2 : Nat) (sg2 : Nat → Int32) (rv : Int32), r = rv ∧ (cn2 < 17) ∧ (setF sg cn a rv sg2 cn2) ∧ W1 = [(h0, .inr (6, [.ref hsp, .int (nI cn2)])), (hsp, .inl (cA, 16, .inl sg2))]) := by
  refine mkI (lv0 := [(0, .ref h0), (1, .int a)]) (by decide) (Nat.le_of_ble_eq_true rfl) rfl ?_
  intro p e s m below meth c A ls X hr hlocks hnm hE hA hP hD hS hl
  have hx := X.1
  have hb := X.2.1
  refine qW (fun Q9 hQ9 => ?_)
  refine lv_aload_n hx hb dX6_set_0 rfl (lv_at hl 0 rfl) ?_
  refine lv_iload_n hx hb dX6_set_1 rfl (lv_at hl 1 rfl) ?_
  refine kVi (n3 := 1) (As := [.int a]) (rest := []) X hl.1 hE hP hD hS hA [(h0, .inr (6, [.ref hsp, .int (nI cn)])), (hsp, .inl (cA, 16, .inl sg))] [] [0, 1] [] rfl rfl rfl (by decide +kernel) (by decide +kernel) (by decide +kernel) (c_p_find l D cA cB h0 hsp cn sg a hcn) w_306 w_307 w_344 w_308 w_309 0 (ci := 6) (T := TX6) (N := 2) rfl rfl (by decide +kernel) rfl rfl (Nat.le_of_ble_eq_true rfl) ⟨(Nat.le_of_ble_eq_true rfl), (Nat.le_of_ble_eq_true rfl)⟩ ⟨(Nat.le_of_ble_eq_true rfl), (Nat.le_of_ble_eq_true rfl)⟩ dX6_set_2 (fun r W1 H locs hw hP hD hS => ?_)
  obtain ⟨rv_1, er_3, hf_2, rfl⟩ := hw
  have hP : va_P D classes [(h0, .inr (6, [.ref hsp, .int (nI cn)])), (hsp, .inl (cA, 16, .inl sg))] H := hP
  have hD : va_D A [(h0, .inr (6, [.ref hsp, .int (nI cn)])), (hsp, .inl (cA, 16, .inl sg))] := hD
  refine tk (y := rv_1) er_3 ?_
  refine lv_iconst (v := (-1)) hx hb dX6_set_5 (by decide) ?_
  refine lv_icmp_eq (tgt := 14) hx hb dX6_set_6 (by decide) (fun c_6 => ?_) (fun c_6 => ?_)
  · skip
    have hnf := fnd_no hf_2 (by omega) c_6
    refine lv_aload_n hx hb dX6_set_14 rfl (lv_at hl 0 rfl) ?_
    refine k_get (C := RX6) (T := TX6) (N := 2) (ci := 6) (v := .int (nI cn)) X hE hP 0 rfl rfl iX6 1 (by decide) w_293 rfl dX6_set_15 ?_
    refine lv_bipush (v := 16) hx hb dX6_set_18 (by decide) ?_
    refine lv_icmp_lt (tgt := 25) hx hb dX6_set_20 (by decide) (fun c_20_4 => ?_) (fun c_20_4 => ?_)
    · have nc_20_4 : cn < 16 := (nI_ltI (a := cn) (b := 16) (by omega) (by omega)).mp c_20_4
      refine lv_aload_n hx hb dX6_set_25 rfl (lv_at hl 0 rfl) ?_
      refine k_get (C := RX6) (T := TX6) (N := 2) (ci := 6) (v := .ref hsp) X hE hP 0 rfl rfl iX6 0 (by decide) w_294 rfl dX6_set_26 ?_
      refine lv_aload_n hx hb dX6_set_29 rfl (lv_at hl 0 rfl) ?_
      refine k_get (C := RX6) (T := TX6) (N := 2) (ci := 6) (v := .int (nI cn)) X hE hP 0 rfl rfl iX6 1 (by decide) w_293 rfl dX6_set_30 ?_
      refine lv_iload_n hx hb dX6_set_33 rfl (lv_at hl 1 rfl) ?_
      refine k_ast X hE hP hD hS 1 rfl cn rfl (by omega) (by decide) [(h0, .inr (6, [.ref hsp, .int (nI cn)])), (hsp, .inl (cA, 16, .inl (upd sg cn a)))] rfl dX6_set_34 (fun H locs hP hD hS => ?_)
      obtain ⟨g_5, eg_5⟩ : ∃ z, z = upd sg cn a := ⟨_, rfl⟩
      rw [← eg_5] at hP hD
      have hP : va_P D classes [(h0, .inr (6, [.ref hsp, .int (nI cn)])), (hsp, .inl (cA, 16, .inl g_5))] H := hP
      have hD : va_D A [(h0, .inr (6, [.ref hsp, .int (nI cn)])), (hsp, .inl (cA, 16, .inl g_5))] := hD
      refine lv_aload_n hx hb dX6_set_35 rfl (lv_at hl 0 rfl) ?_
      refine lv_dup hx hb dX6_set_36 rfl ?_
      refine k_get (C := RX6) (T := TX6) (N := 2) (ci := 6) (v := .int (nI cn)) X hE hP 0 rfl rfl iX6 1 (by decide) w_293 rfl dX6_set_37 ?_
      refine lv_iconst (v := 1) hx hb dX6_set_40 (by decide) ?_
      refine lv_iadd hx hb dX6_set_41 ?_
      refine tk (y := nI (cn + 1)) (nI_add cn 1) ?_
      refine k_put (C := RX6) (T := TX6) (N := 2) (ci := 6) (v := .int (nI (cn + 1))) (ty := .int) X hE hP hD hS 0 rfl rfl iX6 tyX6 tyX6_ok nmX6 1 (by decide) w_293 rfl (by decide +kernel) rfl rfl (Nat.le_of_ble_eq_true rfl) [(h0, .inr (6, [.ref hsp, .int (nI (cn + 1))])), (hsp, .inl (cA, 16, .inl g_5))] rfl dX6_set_42 (fun H locs hP hD hS => ?_)
      refine lv_aload_n hx hb dX6_set_45 rfl (lv_at hl 0 rfl) ?_
      refine k_get (C := RX6) (T := TX6) (N := 2) (ci := 6) (v := .int (nI (cn + 1))) X hE hP 0 rfl rfl iX6 1 (by decide) w_293 rfl dX6_set_46 ?_
      rw [hQ9]
      exact endI X hr hlocks hP hD hS dX6_set_49 ⟨(cn + 1), g_5, (nI (cn + 1)), rfl, (by omega), (by unfold setF; exact (Or.inr (Or.inr ⟨hnf, by omega, rfl, rfl, eg_5⟩))), rfl⟩
    · have nc_20_4 : 16 ≤ cn := Nat.not_lt.mp (fun q => c_20_4 ((nI_ltI (a := cn) (b := 16) (by omega) (by omega)).mpr q))
      refine lv_iconst (v := (-1)) hx hb dX6_set_23 (by decide) ?_
      rw [hQ9]
      exact endI X hr hlocks hP hD hS dX6_set_24 ⟨cn, sg, (-1), rfl, hcn, (by unfold setF; exact (Or.inr (Or.inl ⟨hnf, by omega, rfl, rfl, rfl⟩))), rfl⟩
  · skip
    refine lv_aload_n hx hb dX6_set_9 rfl (lv_at hl 0 rfl) ?_
    refine k_get (C := RX6) (T := TX6) (N := 2) (ci := 6) (v := .int (nI cn)) X hE hP 0 rfl rfl iX6 1 (by decide) w_293 rfl dX6_set_10 ?_
    rw [hQ9]
    exact endI X hr hlocks hP hD hS dX6_set_13 ⟨cn, sg, (nI cn), rfl, hcn, (by unfold setF; exact (Or.inl ⟨by obtain ⟨k, h1, h2, h3⟩ := hf_2.resolve_left (fun q => c_6 q.1); exact ⟨k, h1, h3⟩, rfl, rfl, rfl⟩)), rfl⟩
set_option maxHeartbeats 4000000 in
set_option maxRecDepth 100000 in
theorem c_p_lift (l : Launch) (D : va_G) (cA cB : ClassId) (h0 : Nat) (hsp : Nat) (cn : Nat) (sg : Nat → Int32) (a : Int32) (hcn : cn < 17) : CI l yX6_lift cX6_lift 3 (some .int) 1 22 0 0 D cA cB [.ref h0, .int a] [(h0, .inr (6, [.ref hsp, .int (nI cn)])), (hsp, .inl (cA, 16, .inl sg))] (fun r W1 => ∃ (cn2 : Nat) (sg2 : Nat → Int32) (rv : Int32), r = rv ∧ (cn2 < 17) ∧ (liftF sg cn a rv sg2 cn2) ∧ W1 = [(h0, .inr (6, [.ref hsp, .int (nI cn2)])), (hsp, .inl (cA, 16, .inl sg2))]) := by
  refine mkI (lv0 := [(0, .ref h0), (1, .int a)]) (by decide) (Nat.le_of_ble_eq_true rfl) rfl ?_
  intro p e s m below meth c A ls X hr hlocks hnm hE hA hP hD hS hl
  have hx := X.1
  have hb := X.2.1
  refine qW (fun Q9 hQ9 => ?_)
  refine lv_aload_n hx hb dX6_lift_0 rfl (lv_at hl 0 rfl) ?_
  refine lv_iload_n hx hb dX6_lift_1 rfl (lv_at hl 1 rfl) ?_
  refine kVi (n3 := 1) (As := [.int a]) (rest := []) X hl.1 hE hP hD hS hA [(h0, .inr (6, [.ref hsp, .int (nI cn)])), (hsp, .inl (cA, 16, .inl sg))] [] [0, 1] [] rfl rfl rfl (by decide +kernel) (by decide +kernel) (by decide +kernel) (c_p_find l D cA cB h0 hsp cn sg a hcn) w_306 w_307 w_344 w_308 w_309 0 (ci := 6) (T := TX6) (N := 2) rfl rfl (by decide +kernel) rfl rfl (Nat.le_of_ble_eq_true rfl) ⟨(Nat.le_of_ble_eq_true rfl), (Nat.le_of_ble_eq_true rfl)⟩ ⟨(Nat.le_of_ble_eq_true rfl), (Nat.le_of_ble_eq_true rfl)⟩ dX6_lift_2 (fun r W1 H locs hw hP hD hS => ?_)
  obtain ⟨rv_1, er_3, hf_2, rfl⟩ := hw
  have hP : va_P D classes [(h0, .inr (6, [.ref hsp, .int (nI cn)])), (hsp, .inl (cA, 16, .inl sg))] H := hP
  have hD : va_D A [(h0, .inr (6, [.ref hsp, .int (nI cn)])), (hsp, .inl (cA, 16, .inl sg))] := hD
  refine tk (y := rv_1) er_3 ?_
  refine lv_istore_n (lv' := [(2, .int rv_1), (0, .ref h0), (1, .int a)]) hx hb dX6_lift_5 rfl hl (by decide) rfl (fun ls hl => ?_)
  refine lv_iload_n hx hb dX6_lift_6 rfl (lv_at hl 0 rfl) ?_
  refine lv_iconst (v := (-1)) hx hb dX6_lift_7 (by decide) ?_
  refine lv_icmp_eq (tgt := 36) hx hb dX6_lift_8 (by decide) (fun c_8 => ?_) (fun c_8 => ?_)
  · skip
    refine lv_aload_n hx hb dX6_lift_36 rfl (lv_at hl 1 rfl) ?_
    refine k_get (C := RX6) (T := TX6) (N := 2) (ci := 6) (v := .int (nI cn)) X hE hP 0 rfl rfl iX6 1 (by decide) w_293 rfl dX6_lift_37 ?_
    rw [hQ9]
    exact endI X hr hlocks hP hD hS dX6_lift_40 ⟨cn, sg, (nI cn), rfl, hcn, (by unfold liftF; exact (Or.inr ⟨fnd_no hf_2 (by omega) c_8, rfl, rfl, rfl⟩)), rfl⟩
  · skip
    obtain ⟨k9, hk9, ek9, es9⟩ := hf_2.resolve_left (fun q => c_8 q.1)
    rw [ek9] at hl
    refine lv_aload_n hx hb dX6_lift_11 rfl (lv_at hl 1 rfl) ?_
    refine lv_dup hx hb dX6_lift_12 rfl ?_
    refine k_get (C := RX6) (T := TX6) (N := 2) (ci := 6) (v := .int (nI cn)) X hE hP 0 rfl rfl iX6 1 (by decide) w_293 rfl dX6_lift_13 ?_
    refine lv_iconst (v := 1) hx hb dX6_lift_16 (by decide) ?_
    refine lv_isub hx hb dX6_lift_17 ?_
    refine tk (y := nI (cn - 1)) (pk_sub (a := cn) (b := 1) (by omega)) ?_
    refine k_put (C := RX6) (T := TX6) (N := 2) (ci := 6) (v := .int (nI (cn - 1))) (ty := .int) X hE hP hD hS 0 rfl rfl iX6 tyX6 tyX6_ok nmX6 1 (by decide) w_293 rfl (by decide +kernel) rfl rfl (Nat.le_of_ble_eq_true rfl) [(h0, .inr (6, [.ref hsp, .int (nI (cn - 1))])), (hsp, .inl (cA, 16, .inl sg))] rfl dX6_lift_18 (fun H locs hP hD hS => ?_)
    refine lv_aload_n hx hb dX6_lift_21 rfl (lv_at hl 1 rfl) ?_
    refine k_get (C := RX6) (T := TX6) (N := 2) (ci := 6) (v := .ref hsp) X hE hP 0 rfl rfl iX6 0 (by decide) w_294 rfl dX6_lift_22 ?_
    refine lv_iload_n hx hb dX6_lift_25 rfl (lv_at hl 0 rfl) ?_
    refine lv_aload_n hx hb dX6_lift_26 rfl (lv_at hl 1 rfl) ?_
    refine k_get (C := RX6) (T := TX6) (N := 2) (ci := 6) (v := .ref hsp) X hE hP 0 rfl rfl iX6 0 (by decide) w_294 rfl dX6_lift_27 ?_
    refine lv_aload_n hx hb dX6_lift_30 rfl (lv_at hl 1 rfl) ?_
    refine k_get (C := RX6) (T := TX6) (N := 2) (ci := 6) (v := .int (nI (cn - 1))) X hE hP 0 rfl rfl iX6 1 (by decide) w_293 rfl dX6_lift_31 ?_
    refine k_ald (v := sg (cn - 1)) X hE hP 1 rfl (cn - 1) rfl (by omega) (by decide) rfl dX6_lift_34 ?_
    refine k_ast X hE hP hD hS 1 rfl k9 rfl (by omega) (by decide) [(h0, .inr (6, [.ref hsp, .int (nI (cn - 1))])), (hsp, .inl (cA, 16, .inl (upd sg k9 (sg (cn - 1)))))] rfl dX6_lift_35 (fun H locs hP hD hS => ?_)
    obtain ⟨g_4, eg_4⟩ : ∃ z, z = upd sg k9 (sg (cn - 1)) := ⟨_, rfl⟩
    rw [← eg_4] at hP hD
    have hP : va_P D classes [(h0, .inr (6, [.ref hsp, .int (nI (cn - 1))])), (hsp, .inl (cA, 16, .inl g_4))] H := hP
    have hD : va_D A [(h0, .inr (6, [.ref hsp, .int (nI (cn - 1))])), (hsp, .inl (cA, 16, .inl g_4))] := hD
    refine lv_aload_n hx hb dX6_lift_36 rfl (lv_at hl 1 rfl) ?_
    refine k_get (C := RX6) (T := TX6) (N := 2) (ci := 6) (v := .int (nI (cn - 1))) X hE hP 0 rfl rfl iX6 1 (by decide) w_293 rfl dX6_lift_37 ?_
    rw [hQ9]
    exact endI X hr hlocks hP hD hS dX6_lift_40 ⟨(cn - 1), g_4, (nI (cn - 1)), rfl, (by omega), (by unfold liftF; exact (Or.inl ⟨k9, hk9, es9, rfl, rfl, eg_4⟩)), rfl⟩
set_option maxHeartbeats 4000000 in
set_option maxRecDepth 100000 in
theorem c_p_stop (l : Launch) (D : va_G) (cA cB : ClassId) (h0 : Nat) (hn : Nat) (hs : Nat) (hd : Nat) (hp : Nat) (qr : Nat) (qst : Nat) (qa : Nat) (qm : Nat) (qe : Nat) (qsp : Nat) (cn : Nat) (sg : Nat → Int32) (a : Int32) (o : Int32) (hcn : cn < 17) : CI l yX8_stop cX8_stop 3 (some .int) 2 44 0 0 D cA cB [.ref h0, .int a, .int o] [(h0, .inr (8, [.ref hn, .ref hs, .ref hd, .ref hp, .ref qr, .ref qst, .ref qa, .ref qm, .ref qe])), (qst, .inr (6, [.ref qsp, .int (nI cn)])), (qsp, .inl (cA, 16, .inl sg))] (fun r W1 => ∃ (cn2 : Nat) (sg2 : Nat → Int32) (rv : Int32), r = rv ∧ (cn2 < 17) ∧ (stopF sg cn a o rv sg2 cn2) ∧ W1 = [(h0, .inr (8, [.ref hn, .ref hs, .ref hd, .ref hp, .ref qr, .ref qst, .ref qa, .ref qm, .ref qe])), (qst, .inr (6, [.ref qsp, .int (nI cn2)])), (qsp, .inl (cA, 16, .inl sg2))]) := by
  refine mkI (lv0 := [(0, .ref h0), (1, .int a), (2, .int o)]) (by decide) (Nat.le_of_ble_eq_true rfl) rfl ?_
  intro p e s m below meth c A ls X hr hlocks hnm hE hA hP hD hS hl
  have hx := X.1
  have hb := X.2.1
  refine qW (fun Q9 hQ9 => ?_)
  refine lv_iload_n hx hb dX8_stop_0 rfl (lv_at hl 1 rfl) ?_
  refine kSi (n3 := 1) (As := [.int a]) (rest := []) X hl.1 hE hP hD hS hA [] [(h0, .inr (8, [.ref hn, .ref hs, .ref hd, .ref hp, .ref qr, .ref qst, .ref qa, .ref qm, .ref qe])), (qst, .inr (6, [.ref qsp, .int (nI cn)])), (qsp, .inl (cA, 16, .inl sg))] [] [0, 1, 2] rfl rfl rfl (by decide +kernel) (by decide +kernel) (by decide +kernel) (c_isAddress l D cA cB a ) w_311 w_107 w_310 w_312 (by decide +kernel) rfl rfl (Nat.le_of_ble_eq_true rfl) ⟨(Nat.le_of_ble_eq_true rfl), (Nat.le_of_ble_eq_true rfl)⟩ ⟨(Nat.le_of_ble_eq_true rfl), (Nat.le_of_ble_eq_true rfl)⟩ dX8_stop_1 (fun r W1 H locs hw hP hD hS => ?_)
  obtain ⟨rfl, rfl⟩ := hw
  have hP : va_P D classes [(h0, .inr (8, [.ref hn, .ref hs, .ref hd, .ref hp, .ref qr, .ref qst, .ref qa, .ref qm, .ref qe])), (qst, .inr (6, [.ref qsp, .int (nI cn)])), (qsp, .inl (cA, 16, .inl sg))] H := hP
  have hD : va_D A [(h0, .inr (8, [.ref hn, .ref hs, .ref hd, .ref hp, .ref qr, .ref qst, .ref qa, .ref qm, .ref qe])), (qst, .inr (6, [.ref qsp, .int (nI cn)])), (qsp, .inl (cA, 16, .inl sg))] := hD
  refine lv_if_ne (tgt := 9) hx hb dX8_stop_4 (by decide) (fun c_4 => ?_) (fun c_4 => ?_)
  · skip
    refine lv_iload_n hx hb dX8_stop_9 rfl (lv_at hl 2 rfl) ?_
    refine lv_if_eq (tgt := 24) hx hb dX8_stop_10 (by decide) (fun c_10 => ?_) (fun c_10 => ?_)
    · skip
      refine lv_aload_n hx hb dX8_stop_24 rfl (lv_at hl 0 rfl) ?_
      refine k_get (C := RX8) (T := TX8) (N := 9) (ci := 8) (v := .ref qst) X hE hP 0 rfl rfl iX8 5 (by decide) w_319 rfl dX8_stop_25 ?_
      refine lv_iload_n hx hb dX8_stop_28 rfl (lv_at hl 1 rfl) ?_
      refine kVi (n3 := 1) (As := [.int a]) (rest := []) X hl.1 hE hP hD hS hA [(qst, .inr (6, [.ref qsp, .int (nI cn)])), (qsp, .inl (cA, 16, .inl sg))] [(h0, .inr (8, [.ref hn, .ref hs, .ref hd, .ref hp, .ref qr, .ref qst, .ref qa, .ref qm, .ref qe]))] [1, 2] [0] rfl rfl rfl (by decide +kernel) (by decide +kernel) (by decide +kernel) (c_p_lift l D cA cB qst qsp cn sg a hcn) w_346 w_307 w_345 w_347 w_348 0 (ci := 6) (T := TX6) (N := 2) rfl rfl (by decide +kernel) rfl rfl (Nat.le_of_ble_eq_true rfl) ⟨(Nat.le_of_ble_eq_true rfl), (Nat.le_of_ble_eq_true rfl)⟩ ⟨(Nat.le_of_ble_eq_true rfl), (Nat.le_of_ble_eq_true rfl)⟩ dX8_stop_29 (fun r W1 H locs hw hP hD hS => ?_)
      obtain ⟨cn2_1, sg2_2, rv_3, er_6, hf_4, hf_5, rfl⟩ := hw
      have hP : va_P D classes [(h0, .inr (8, [.ref hn, .ref hs, .ref hd, .ref hp, .ref qr, .ref qst, .ref qa, .ref qm, .ref qe])), (qst, .inr (6, [.ref qsp, .int (nI cn2_1)])), (qsp, .inl (cA, 16, .inl sg2_2))] H := hP
      have hD : va_D A [(h0, .inr (8, [.ref hn, .ref hs, .ref hd, .ref hp, .ref qr, .ref qst, .ref qa, .ref qm, .ref qe])), (qst, .inr (6, [.ref qsp, .int (nI cn2_1)])), (qsp, .inl (cA, 16, .inl sg2_2))] := hD
      refine tk (y := rv_3) er_6 ?_
      rw [hQ9]
      exact endI X hr hlocks hP hD hS dX8_stop_32 ⟨cn2_1, sg2_2, rv_3, rfl, hf_4, (by unfold stopF; exact (Or.inr (Or.inr ⟨c_4, c_10, hf_5⟩))), rfl⟩
    · skip
      refine lv_aload_n hx hb dX8_stop_13 rfl (lv_at hl 0 rfl) ?_
      refine k_get (C := RX8) (T := TX8) (N := 9) (ci := 8) (v := .ref qst) X hE hP 0 rfl rfl iX8 5 (by decide) w_319 rfl dX8_stop_14 ?_
      refine lv_iload_n hx hb dX8_stop_17 rfl (lv_at hl 1 rfl) ?_
      refine kVi (n3 := 1) (As := [.int a]) (rest := []) X hl.1 hE hP hD hS hA [(qst, .inr (6, [.ref qsp, .int (nI cn)])), (qsp, .inl (cA, 16, .inl sg))] [(h0, .inr (8, [.ref hn, .ref hs, .ref hd, .ref hp, .ref qr, .ref qst, .ref qa, .ref qm, .ref qe]))] [1, 2] [0] rfl rfl rfl (by decide +kernel) (by decide +kernel) (by decide +kernel) (c_p_set l D cA cB qst qsp cn sg a hcn) w_350 w_307 w_349 w_351 w_352 0 (ci := 6) (T := TX6) (N := 2) rfl rfl (by decide +kernel) rfl rfl (Nat.le_of_ble_eq_true rfl) ⟨(Nat.le_of_ble_eq_true rfl), (Nat.le_of_ble_eq_true rfl)⟩ ⟨(Nat.le_of_ble_eq_true rfl), (Nat.le_of_ble_eq_true rfl)⟩ dX8_stop_18 (fun r W1 H locs hw hP hD hS => ?_)
      obtain ⟨cn2_7, sg2_8, rv_9, er_12, hf_10, hf_11, rfl⟩ := hw
      have hP : va_P D classes [(h0, .inr (8, [.ref hn, .ref hs, .ref hd, .ref hp, .ref qr, .ref qst, .ref qa, .ref qm, .ref qe])), (qst, .inr (6, [.ref qsp, .int (nI cn2_7)])), (qsp, .inl (cA, 16, .inl sg2_8))] H := hP
      have hD : va_D A [(h0, .inr (8, [.ref hn, .ref hs, .ref hd, .ref hp, .ref qr, .ref qst, .ref qa, .ref qm, .ref qe])), (qst, .inr (6, [.ref qsp, .int (nI cn2_7)])), (qsp, .inl (cA, 16, .inl sg2_8))] := hD
      refine tk (y := rv_9) er_12 ?_
      refine lv_goto (tgt := 32) hx hb dX8_stop_21 (by decide) ?_
      rw [hQ9]
      exact endI X hr hlocks hP hD hS dX8_stop_32 ⟨cn2_7, sg2_8, rv_9, rfl, hf_10, (by unfold stopF; exact (Or.inr (Or.inl ⟨c_4, c_10, hf_11⟩))), rfl⟩
  · skip
    refine lv_iconst (v := (-1)) hx hb dX8_stop_7 (by decide) ?_
    rw [hQ9]
    exact endI X hr hlocks hP hD hS dX8_stop_8 ⟨cn, sg, (-1), rfl, hcn, (by unfold stopF; exact (Or.inl ⟨c_4, rfl, rfl, rfl⟩)), rfl⟩
