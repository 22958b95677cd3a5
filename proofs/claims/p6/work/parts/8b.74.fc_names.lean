def TBc (G : Nat → Nat × Nat × Int32 × Int32) (a b c d : Nat → Int32) (n e : Nat) : Prop := ∀ k, k < n → a k = nI (G k).1 ∧ b k = nI (G k).2.1 ∧ c k = (G k).2.2.1 ∧ d k = (G k).2.2.2 ∧ (G k).1 + (G k).2.1 ≤ e
set_option maxHeartbeats 4000000 in
set_option maxRecDepth 100000 in
theorem c_k_sameLetters (l : Launch) (D : va_G) (cA cB : ClassId) (h0 : Nat) (htb : Nat) (ln : Nat) (le : Nat) (ax : Nat) (kd : Int32) (pl : Nat) (lt : Nat) (vl : Int32) (ms : Int32) (tz : Nat → Int32) (o1 : Nat) (o2 : Nat) (n0 : Nat) (hln : ln < 6001) (hle : le < 6001) (hax : ax < 6001) (hpl : pl < 6010) (hlt : lt < 6010) (htz : ∀ j, j < 6000 → ∃ k : Nat, k < 256 ∧ tz j = nI k) (ho1 : o1 < 6001) (ho2 : o2 < 6001) (hn0 : n0 < 6001) (ho3 : o1 + n0 ≤ ln) (ho4 : o2 + n0 ≤ ln) : CI l yX7_sameLetters cX7_sameLetters 5 (some .boolean) 0 0 0 0 D cA cB [.ref h0, .int (nI o1), .int (nI o2), .int (nI n0)] [(h0, .inr (7, [.ref htb, .int (nI ln), .int (nI le), .int (nI ax), .int kd, .int (nI pl), .int (nI lt), .int vl, .int ms])), (htb, .inl (cA, 6000, .inl tz))] (fun r W1 => ∃ (rv : Int32), r = rv ∧ ((rv = 1 ∧ ∀ j, j < n0 → sgn ln tz (o1 + j) = sgn ln tz (o2 + j)) ∨ (rv = 0 ∧ ¬ ∀ j, j < n0 → sgn ln tz (o1 + j) = sgn ln tz (o2 + j))) ∧ W1 = [(h0, .inr (7, [.ref htb, .int (nI ln), .int (nI le), .int (nI ax), .int kd, .int (nI pl), .int (nI lt), .int vl, .int ms])), (htb, .inl (cA, 6000, .inl tz))]) := by
  refine mkI (lv0 := [(0, .ref h0), (1, .int (nI o1)), (2, .int (nI o2)), (3, .int (nI n0))]) (by decide) (Nat.le_of_ble_eq_true rfl) rfl ?_
  intro p e s m below meth c A ls X hr hlocks hnm hE hA hP hD hS hl
  have hx := X.1
  have hb := X.2.1
  refine qW (fun Q9 hQ9 => ?_)
  refine lv_iconst (v := 0) hx hb dX7_sameLetters_0 (by decide) ?_
  refine lv_istore (lv' := [(4, .int 0), (0, .ref h0), (1, .int (nI o1)), (2, .int (nI o2)), (3, .int (nI n0))]) hx hb dX7_sameLetters_1 hl (by decide) rfl (fun ls hl => ?_)
  have loop_3 : ∀ (n : Nat) (i : Nat), (i < 6002) → (i ≤ n0) → (∀ j, j < i → sgn ln tz (o1 + j) = sgn ln tz (o2 + j)) → n0 - i < n → ∀ (H : Heap) (locs : List Loc), va_P D classes [(h0, .inr (7, [.ref htb, .int (nI ln), .int (nI le), .int (nI ax), .int kd, .int (nI pl), .int (nI lt), .int vl, .int ms])), (htb, .inl (cA, 6000, .inl tz))] H → va_D A [(h0, .inr (7, [.ref htb, .int (nI ln), .int (nI le), .int (nI ax), .int kd, .int (nI pl), .int (nI lt), .int vl, .int ms])), (htb, .inl (cA, 6000, .inl tz))] → va_S A s.heap H locs → ∀ ls : Array Slot, lv_has ls 5 [(0, .ref h0), (1, .int (nI o1)), (2, .int (nI o2)), (3, .int (nI n0)), (4, .int (nI i))] → W p l e { frames := 0, cells := 0, slots := 0, locals := 0 } s m (List.toArray [.ref h0, .int (nI o1), .int (nI o2), .int (nI n0)]) below meth c H locs 0 0 Q9 (F0 m 3 ls []) := by
    intro n
    induction n with
    | zero => intro i hi hi2 hsm hfuel; exact absurd hfuel (by omega)
    | succ n ih_3 =>
      intro i hi hi2 hsm hfuel H locs hP hD hS ls hl
      refine lv_iload hx hb dX7_sameLetters_3 (lv_at hl 4 rfl) ?_
      refine lv_iload_n hx hb dX7_sameLetters_5 rfl (lv_at hl 3 rfl) ?_
      refine lv_icmp_ge (tgt := 38) hx hb dX7_sameLetters_6 (by decide) (fun c_6_1 => ?_) (fun c_6_1 => ?_)
      · have nc_6_1 : n0 ≤ i := (nI_leI (a := n0) (b := i) (by omega) (by omega)).mp c_6_1
        refine lv_iconst (v := 1) hx hb dX7_sameLetters_38 (by decide) ?_
        rw [hQ9]
        exact endZ X hr rfl hlocks hP hD hS dX7_sameLetters_39 ⟨1, rfl, (Or.inl ⟨rfl, fun j hj => hsm j (by omega)⟩), rfl⟩
      · have nc_6_1 : i < n0 := Nat.not_le.mp (fun q => c_6_1 ((nI_leI (a := n0) (b := i) (by omega) (by omega)).mpr q))
        refine lv_aload_n hx hb dX7_sameLetters_9 rfl (lv_at hl 0 rfl) ?_
        refine k_get (C := RX7) (T := TX7) (N := 9) (ci := 7) (v := .ref htb) X hE hP 0 rfl rfl iX7 0 (by decide) w_368 rfl dX7_sameLetters_10 ?_
        refine lv_iload_n hx hb dX7_sameLetters_13 rfl (lv_at hl 1 rfl) ?_
        refine lv_iload hx hb dX7_sameLetters_14 (lv_at hl 4 rfl) ?_
        refine lv_iadd hx hb dX7_sameLetters_16 ?_
        refine tk (y := nI (o1 + i)) (nI_add o1 i) ?_
        refine k_ald (v := sgn ln tz (o1 + i)) X hE hP 1 rfl (o1 + i) rfl (by omega) (by decide) (sgn_in (by omega)).symm dX7_sameLetters_17 ?_
        refine lv_aload_n hx hb dX7_sameLetters_18 rfl (lv_at hl 0 rfl) ?_
        refine k_get (C := RX7) (T := TX7) (N := 9) (ci := 7) (v := .ref htb) X hE hP 0 rfl rfl iX7 0 (by decide) w_368 rfl dX7_sameLetters_19 ?_
        refine lv_iload_n hx hb dX7_sameLetters_22 rfl (lv_at hl 2 rfl) ?_
        refine lv_iload hx hb dX7_sameLetters_23 (lv_at hl 4 rfl) ?_
        refine lv_iadd hx hb dX7_sameLetters_25 ?_
        refine tk (y := nI (o2 + i)) (nI_add o2 i) ?_
        refine k_ald (v := sgn ln tz (o2 + i)) X hE hP 1 rfl (o2 + i) rfl (by omega) (by decide) (sgn_in (by omega)).symm dX7_sameLetters_26 ?_
        refine lv_icmp_eq (tgt := 32) hx hb dX7_sameLetters_27 (by decide) (fun c_27 => ?_) (fun c_27 => ?_)
        · skip
          refine lv_iinc (v := nI (i + 1)) (lv' := [(4, .int (nI (i + 1))), (0, .ref h0), (1, .int (nI o1)), (2, .int (nI o2)), (3, .int (nI n0))]) hx hb dX7_sameLetters_32 hl (k := 4) rfl (nI_1 i) (by decide) rfl (fun ls hl => ?_)
          refine lv_goto (tgt := 3) hx hb dX7_sameLetters_35 (by decide) ?_
          exact ih_3 (i + 1) (by omega) (by omega) (fun j hj => by rcases Nat.lt_or_eq_of_le (Nat.le_of_lt_succ hj) with z | z; exact hsm j z; subst z; exact c_27) (by omega) _ _ hP hD hS ls (lv_sub hl [1, 2, 3, 4, 0] rfl)
        · skip
          refine lv_iconst (v := 0) hx hb dX7_sameLetters_30 (by decide) ?_
          rw [hQ9]
          exact endZ X hr rfl hlocks hP hD hS dX7_sameLetters_31 ⟨0, rfl, (Or.inr ⟨rfl, fun z => c_27 (z i (by omega))⟩), rfl⟩
  exact loop_3 6003 0 (by omega) (by omega) (fun j hj => absurd hj (by omega)) (by omega) _ _ hP hD hS ls (lv_sub hl [1, 2, 3, 4, 0] rfl)
set_option maxHeartbeats 4000000 in
set_option maxRecDepth 100000 in
theorem c_k_find (l : Launch) (D : va_G) (cA cB : ClassId) (h0 : Nat) (ha : Nat) (hb9 : Nat) (hc9 : Nat) (hd9 : Nat) (qa : Nat) (htb : Nat) (cn : Nat) (ln : Nat) (le : Nat) (ax : Nat) (kd : Int32) (pl : Nat) (lt : Nat) (vl : Int32) (ms : Int32) (na : Nat → Int32) (nb : Nat → Int32) (nc : Nat → Int32) (nd : Nat → Int32) (tz : Nat → Int32) (p0 : Nat) (q0 : Nat) (G : Nat → Nat × Nat × Int32 × Int32) (hcn : cn < 61) (hln : ln < 6001) (hle : le < 6001) (hax : ax < 6001) (hpl : pl < 6010) (hlt : lt < 6010) (htz : ∀ j, j < 6000 → ∃ k : Nat, k < 256 ∧ tz j = nI k) (hp0 : p0 < 6010) (hq0 : q0 < 6010) (hTB : TBc G na nb nc nd cn ln) (hpq : p0 + q0 ≤ ln) : CI l yX2_find cX2_find 5 (some .int) 1 24 0 0 D cA cB [.ref h0, .ref qa, .int (nI p0), .int (nI q0)] [(h0, .inr (2, [.ref ha, .ref hb9, .ref hc9, .ref hd9, .int (nI cn)])), (qa, .inr (7, [.ref htb, .int (nI ln), .int (nI le), .int (nI ax), .int kd, .int (nI pl), .int (nI lt), .int vl, .int ms])), (ha, .inl (cA, 60, .inl na)), (hb9, .inl (cA, 60, .inl nb)), (hc9, .inl (cA, 60, .inl nc)), (hd9, .inl (cA, 60, .inl nd)), (htb, .inl (cA, 6000, .inl tz))] (fun r W1 => ∃ (rv : Int32), r = rv ∧ ((lk (sgn ln tz) cn G p0 (p0 + q0) < cn ∧ rv = nI (lk (sgn ln tz) cn G p0 (p0 + q0))) ∨ (¬ lk (sgn ln tz) cn G p0 (p0 + q0) < cn ∧ rv = -1)) ∧ W1 = [(h0, .inr (2, [.ref ha, .ref hb9, .ref hc9, .ref hd9, .int (nI cn)])), (qa, .inr (7, [.ref htb, .int (nI ln), .int (nI le), .int (nI ax), .int kd, .int (nI pl), .int (nI lt), .int vl, .int ms])), (ha, .inl (cA, 60, .inl na)), (hb9, .inl (cA, 60, .inl nb)), (hc9, .inl (cA, 60, .inl nc)), (hd9, .inl (cA, 60, .inl nd)), (htb, .inl (cA, 6000, .inl tz))]) := by
  refine mkI (lv0 := [(0, .ref h0), (1, .ref qa), (2, .int (nI p0)), (3, .int (nI q0))]) (by decide) (Nat.le_of_ble_eq_true rfl) rfl ?_
  intro p e s m below meth c A ls X hr hlocks hnm hE hA hP hD hS hl
  have hx := X.1
  have hb := X.2.1
  refine qW (fun Q9 hQ9 => ?_)
  refine lv_iconst (v := 0) hx hb dX2_find_0 (by decide) ?_
  refine lv_istore (lv' := [(4, .int 0), (0, .ref h0), (1, .ref qa), (2, .int (nI p0)), (3, .int (nI q0))]) hx hb dX2_find_1 hl (by decide) rfl (fun ls hl => ?_)
  have loop_3 : ∀ (n : Nat) (i : Nat) (fnl : Unit), (i < 62) → (i ≤ cn) → (∀ k, k < i → ¬ nmd (sgn ln tz) G k p0 (p0 + q0)) → cn - i < n → ∀ (H : Heap) (locs : List Loc), va_P D classes [(h0, .inr (2, [.ref ha, .ref hb9, .ref hc9, .ref hd9, .int (nI cn)])), (qa, .inr (7, [.ref htb, .int (nI ln), .int (nI le), .int (nI ax), .int kd, .int (nI pl), .int (nI lt), .int vl, .int ms])), (ha, .inl (cA, 60, .inl na)), (hb9, .inl (cA, 60, .inl nb)), (hc9, .inl (cA, 60, .inl nc)), (hd9, .inl (cA, 60, .inl nd)), (htb, .inl (cA, 6000, .inl tz))] H → va_D A [(h0, .inr (2, [.ref ha, .ref hb9, .ref hc9, .ref hd9, .int (nI cn)])), (qa, .inr (7, [.ref htb, .int (nI ln), .int (nI le), .int (nI ax), .int kd, .int (nI pl), .int (nI lt), .int vl, .int ms])), (ha, .inl (cA, 60, .inl na)), (hb9, .inl (cA, 60, .inl nb)), (hc9, .inl (cA, 60, .inl nc)), (hd9, .inl (cA, 60, .inl nd)), (htb, .inl (cA, 6000, .inl tz))] → va_S A s.heap H locs → ∀ ls : Array Slot, lv_has ls 5 [(0, .ref h0), (1, .ref qa), (2, .int (nI p0)), (3, .int (nI q0)), (4, .int (nI i))] → W p l e { frames := 1, cells := 0, slots := 0, locals := 24 } s m (List.toArray [.ref h0, .ref qa, .int (nI p0), .int (nI q0)]) below meth c H locs 0 0 Q9 (F0 m 3 ls []) := by
    intro n
    induction n with
    | zero => intro i fnl hi hi2 hno hfuel; exact absurd hfuel (by omega)
    | succ n ih_3 =>
      intro i fnl hi hi2 hno hfuel H locs hP hD hS ls hl
      refine lv_iload hx hb dX2_find_3 (lv_at hl 4 rfl) ?_
      refine lv_aload_n hx hb dX2_find_5 rfl (lv_at hl 0 rfl) ?_
      refine k_get (C := RX2) (T := TX2) (N := 5) (ci := 2) (v := .int (nI cn)) X hE hP 0 rfl rfl iX2 4 (by decide) w_355 rfl dX2_find_6 ?_
      refine lv_icmp_ge (tgt := 48) hx hb dX2_find_9 (by decide) (fun c_9_1 => ?_) (fun c_9_1 => ?_)
      · have nc_9_1 : cn ≤ i := (nI_leI (a := cn) (b := i) (by omega) (by omega)).mp c_9_1
        refine lv_iconst (v := (-1)) hx hb dX2_find_48 (by decide) ?_
        rw [hQ9]
        exact endI X hr hlocks hP hD hS dX2_find_49 ⟨(-1), rfl, (Or.inr (by rw [lk_no (fun k hk => hno k (by omega))]; exact ⟨by omega, rfl⟩)), rfl⟩
      · have nc_9_1 : i < cn := Nat.not_le.mp (fun q => c_9_1 ((nI_leI (a := cn) (b := i) (by omega) (by omega)).mpr q))
        obtain ⟨hG1, hG2, hG3, hG4, hG5⟩ := hTB i (by omega)
        refine lv_aload_n hx hb dX2_find_12 rfl (lv_at hl 0 rfl) ?_
        refine k_get (C := RX2) (T := TX2) (N := 5) (ci := 2) (v := .ref hb9) X hE hP 0 rfl rfl iX2 1 (by decide) w_404 rfl dX2_find_13 ?_
        refine lv_iload hx hb dX2_find_16 (lv_at hl 4 rfl) ?_
        refine k_ald (v := nI ((G i).2.1)) X hE hP 3 rfl i rfl (by omega) (by decide) hG2 dX2_find_18 ?_
        refine lv_iload_n hx hb dX2_find_19 rfl (lv_at hl 3 rfl) ?_
        refine lv_icmp_ne (tgt := 42) hx hb dX2_find_20 (by decide) (fun c_20_2 => ?_) (fun c_20_2 => ?_)
        · have nc_20_2 : ¬ ((G i).2.1) = q0 := fun q => c_20_2 ((nI_eq (a := (G i).2.1) (b := q0) (by omega) (by omega)).mpr q)
          refine lv_iinc (v := nI (i + 1)) (lv' := [(4, .int (nI (i + 1))), (0, .ref h0), (1, .ref qa), (2, .int (nI p0)), (3, .int (nI q0))]) hx hb dX2_find_42 hl (k := 4) rfl (nI_1 i) (by decide) rfl (fun ls hl => ?_)
          refine lv_goto (tgt := 3) hx hb dX2_find_45 (by decide) ?_
          exact ih_3 (i + 1) () (by omega) (by omega) (fun k hk => by rcases Nat.lt_or_eq_of_le (Nat.le_of_lt_succ hk) with z | z; exact hno k z; subst z; exact fun y => absurd y.1 (by omega)) (by omega) _ _ hP hD hS ls (lv_sub hl [1, 2, 3, 4, 0] rfl)
        · have nc_20_2 : ((G i).2.1) = q0 := (nI_eq (a := (G i).2.1) (b := q0) (by omega) (by omega)).mp c_20_2
          refine lv_aload_n hx hb dX2_find_23 rfl (lv_at hl 1 rfl) ?_
          refine lv_aload_n hx hb dX2_find_24 rfl (lv_at hl 0 rfl) ?_
          refine k_get (C := RX2) (T := TX2) (N := 5) (ci := 2) (v := .ref ha) X hE hP 0 rfl rfl iX2 0 (by decide) w_357 rfl dX2_find_25 ?_
          refine lv_iload hx hb dX2_find_28 (lv_at hl 4 rfl) ?_
          refine k_ald (v := nI ((G i).1)) X hE hP 2 rfl i rfl (by omega) (by decide) hG1 dX2_find_30 ?_
          refine lv_iload_n hx hb dX2_find_31 rfl (lv_at hl 2 rfl) ?_
          refine lv_iload_n hx hb dX2_find_32 rfl (lv_at hl 3 rfl) ?_
          refine kVi (n3 := 3) (As := [.int (nI ((G i).1)), .int (nI p0), .int (nI q0)]) (rest := []) X hl.1 hE hP hD hS hA [(qa, .inr (7, [.ref htb, .int (nI ln), .int (nI le), .int (nI ax), .int kd, .int (nI pl), .int (nI lt), .int vl, .int ms])), (htb, .inl (cA, 6000, .inl tz))] [(h0, .inr (2, [.ref ha, .ref hb9, .ref hc9, .ref hd9, .int (nI cn)])), (ha, .inl (cA, 60, .inl na)), (hb9, .inl (cA, 60, .inl nb)), (hc9, .inl (cA, 60, .inl nc)), (hd9, .inl (cA, 60, .inl nd))] [1, 6] [0, 2, 3, 4, 5] rfl rfl rfl (by decide +kernel) (by decide +kernel) (by decide +kernel) (c_k_sameLetters l D cA cB qa htb ln le ax kd pl lt vl ms tz ((G i).1) p0 q0 hln hle hax hpl hlt htz (by first | assumption | omega | decide | rfl) (by first | assumption | omega | decide | rfl) (by first | assumption | omega | decide | rfl) (by first | assumption | omega | decide | rfl) (by first | assumption | omega | decide | rfl)) w_460 w_374 w_459 w_461 w_462 0 (ci := 7) (T := TX7) (N := 9) rfl rfl (by decide +kernel) rfl rfl (Nat.le_of_ble_eq_true rfl) ⟨(Nat.le_of_ble_eq_true rfl), (Nat.le_of_ble_eq_true rfl)⟩ ⟨(Nat.le_of_ble_eq_true rfl), (Nat.le_of_ble_eq_true rfl)⟩ dX2_find_33 (fun r W1 H locs hw hP hD hS => ?_)
          obtain ⟨rv_3, er_5, hf_4, rfl⟩ := hw
          have hP : va_P D classes [(h0, .inr (2, [.ref ha, .ref hb9, .ref hc9, .ref hd9, .int (nI cn)])), (ha, .inl (cA, 60, .inl na)), (hb9, .inl (cA, 60, .inl nb)), (hc9, .inl (cA, 60, .inl nc)), (hd9, .inl (cA, 60, .inl nd)), (qa, .inr (7, [.ref htb, .int (nI ln), .int (nI le), .int (nI ax), .int kd, .int (nI pl), .int (nI lt), .int vl, .int ms])), (htb, .inl (cA, 6000, .inl tz))] H := hP
          have hD : va_D A [(h0, .inr (2, [.ref ha, .ref hb9, .ref hc9, .ref hd9, .int (nI cn)])), (ha, .inl (cA, 60, .inl na)), (hb9, .inl (cA, 60, .inl nb)), (hc9, .inl (cA, 60, .inl nc)), (hd9, .inl (cA, 60, .inl nd)), (qa, .inr (7, [.ref htb, .int (nI ln), .int (nI le), .int (nI ax), .int kd, .int (nI pl), .int (nI lt), .int vl, .int ms])), (htb, .inl (cA, 6000, .inl tz))] := hD
          refine tk (y := rv_3) er_5 ?_
          rcases hf_4 with ⟨rfl, hb_6⟩ | ⟨rfl, hb_6⟩
          · skip
            refine lv_if_eq (tgt := 42) hx hb dX2_find_36 (by decide) (fun c_36 => absurd c_36 (by decide)) (fun c_36 => ?_)
            refine lv_iload hx hb dX2_find_39 (lv_at hl 4 rfl) ?_
            have hP : va_P D classes [(h0, .inr (2, [.ref ha, .ref hb9, .ref hc9, .ref hd9, .int (nI cn)])), (qa, .inr (7, [.ref htb, .int (nI ln), .int (nI le), .int (nI ax), .int kd, .int (nI pl), .int (nI lt), .int vl, .int ms])), (ha, .inl (cA, 60, .inl na)), (hb9, .inl (cA, 60, .inl nb)), (hc9, .inl (cA, 60, .inl nc)), (hd9, .inl (cA, 60, .inl nd)), (htb, .inl (cA, 6000, .inl tz))] _ := hP.sub [0, 5, 1, 2, 3, 4, 6] rfl
            have hD : va_D A [(h0, .inr (2, [.ref ha, .ref hb9, .ref hc9, .ref hd9, .int (nI cn)])), (qa, .inr (7, [.ref htb, .int (nI ln), .int (nI le), .int (nI ax), .int kd, .int (nI pl), .int (nI lt), .int vl, .int ms])), (ha, .inl (cA, 60, .inl na)), (hb9, .inl (cA, 60, .inl nb)), (hc9, .inl (cA, 60, .inl nc)), (hd9, .inl (cA, 60, .inl nd)), (htb, .inl (cA, 6000, .inl tz))] := hD.sub [0, 5, 1, 2, 3, 4, 6] (by decide) rfl
            rw [hQ9]
            exact endI X hr hlocks hP hD hS dX2_find_41 ⟨(nI i), rfl, (Or.inl (by rw [lk_of (by omega) (show nmd (sgn ln tz) G i p0 (p0 + q0) from ⟨by omega, fun j hj => hb_6 j (by omega)⟩) hno]; exact ⟨by omega, rfl⟩)), rfl⟩
          · skip
            refine lv_if_eq (tgt := 42) hx hb dX2_find_36 (by decide) (fun c_36 => ?_) (fun c_36 => absurd (by decide) c_36)
            refine lv_iinc (v := nI (i + 1)) (lv' := [(4, .int (nI (i + 1))), (0, .ref h0), (1, .ref qa), (2, .int (nI p0)), (3, .int (nI q0))]) hx hb dX2_find_42 hl (k := 4) rfl (nI_1 i) (by decide) rfl (fun ls hl => ?_)
            refine lv_goto (tgt := 3) hx hb dX2_find_45 (by decide) ?_
            exact ih_3 (i + 1) () (by omega) (by omega) (fun k hk => by rcases Nat.lt_or_eq_of_le (Nat.le_of_lt_succ hk) with z | z; exact hno k z; subst z; exact fun y => hb_6 (fun j hj => y.2 j (by omega))) (by omega) _ _ (hP.sub [0, 5, 1, 2, 3, 4, 6] rfl) (hD.sub [0, 5, 1, 2, 3, 4, 6] (by decide) rfl) hS ls (lv_sub hl [1, 2, 3, 4, 0] rfl)
  exact loop_3 63 0 () (by omega) (by omega) (fun k hk => absurd hk (by omega)) (by omega) _ _ hP hD hS ls (lv_sub hl [1, 2, 3, 4, 0] rfl)
set_option maxHeartbeats 4000000 in
set_option maxRecDepth 100000 in
theorem c_k_tell0 (l : Launch) (D : va_G) (cA cB : ClassId) (h0 : Nat) (ha : Nat) (hb9 : Nat) (hc9 : Nat) (hd9 : Nat) (cn : Nat) (na : Nat → Int32) (nb : Nat → Int32) (nc : Nat → Int32) (nd : Nat → Int32) (k : Nat) (G : Nat → Nat × Nat × Int32 × Int32) (e9 : Nat) (hcn : cn < 61) (hk : k < 61) (hTB : TBc G na nb nc nd cn e9) (hkc : k < cn) : CI l yX2_tell cX2_tell 3 (some .int) 0 0 0 0 D cA cB [.ref h0, .int (nI k), .int 0] [(h0, .inr (2, [.ref ha, .ref hb9, .ref hc9, .ref hd9, .int (nI cn)])), (ha, .inl (cA, 60, .inl na)), (hb9, .inl (cA, 60, .inl nb)), (hc9, .inl (cA, 60, .inl nc)), (hd9, .inl (cA, 60, .inl nd))] (fun r W1 => ∃ (rv : Int32), r = rv ∧ (rv = (G k).2.2.1) ∧ W1 = [(h0, .inr (2, [.ref ha, .ref hb9, .ref hc9, .ref hd9, .int (nI cn)])), (ha, .inl (cA, 60, .inl na)), (hb9, .inl (cA, 60, .inl nb)), (hc9, .inl (cA, 60, .inl nc)), (hd9, .inl (cA, 60, .inl nd))]) := by
  refine mkI (lv0 := [(0, .ref h0), (1, .int (nI k)), (2, .int 0)]) (by decide) (Nat.le_of_ble_eq_true rfl) rfl ?_
  intro p e s m below meth c A ls X hr hlocks hnm hE hA hP hD hS hl
  have hx := X.1
  have hb := X.2.1
  refine qW (fun Q9 hQ9 => ?_)
  refine lv_iload_n hx hb dX2_tell_0 rfl (lv_at hl 1 rfl) ?_
  refine lv_if_lt (tgt := 12) hx hb dX2_tell_1 (by decide) (fun c_1 => absurd c_1 (nI_nneg (n := k) (by omega))) (fun c_1 => ?_)
  refine lv_iload_n hx hb dX2_tell_4 rfl (lv_at hl 1 rfl) ?_
  refine lv_aload_n hx hb dX2_tell_5 rfl (lv_at hl 0 rfl) ?_
  refine k_get (C := RX2) (T := TX2) (N := 5) (ci := 2) (v := .int (nI cn)) X hE hP 0 rfl rfl iX2 4 (by decide) w_355 rfl dX2_tell_6 ?_
  refine lv_icmp_lt (tgt := 14) hx hb dX2_tell_9 (by decide) (fun c_9_1 => ?_) (fun c_9_1 => ?_)
  · have nc_9_1 : k < cn := (nI_ltI (a := k) (b := cn) (by omega) (by omega)).mp c_9_1
    refine lv_iload_n hx hb dX2_tell_14 rfl (lv_at hl 2 rfl) ?_
    refine lv_tableIn (tgt := 40) (off := 25) hx hb dX2_tell_15 (by decide) (by decide) (by decide) (by decide) ?_
    refine lv_aload_n hx hb dX2_tell_40 rfl (lv_at hl 0 rfl) ?_
    refine k_get (C := RX2) (T := TX2) (N := 5) (ci := 2) (v := .ref hc9) X hE hP 0 rfl rfl iX2 2 (by decide) w_356 rfl dX2_tell_41 ?_
    refine lv_iload_n hx hb dX2_tell_44 rfl (lv_at hl 1 rfl) ?_
    refine k_ald (v := (G k).2.2.1) X hE hP 3 rfl k rfl (by omega) (by decide) (hTB k (by omega)).2.2.1 dX2_tell_45 ?_
    rw [hQ9]
    exact endI X hr hlocks hP hD hS dX2_tell_46 ⟨((G k).2.2.1), rfl, rfl, rfl⟩
  · have nc_9_1 : cn ≤ k := Nat.not_lt.mp (fun q => c_9_1 ((nI_ltI (a := k) (b := cn) (by omega) (by omega)).mpr q))
    refine lv_iconst (v := 0) hx hb dX2_tell_12 (by decide) ?_
    rw [hQ9]
    exact endI X hr hlocks hP hD hS dX2_tell_13 ⟨0, rfl, (absurd (show False by omega) id), rfl⟩
set_option maxHeartbeats 4000000 in
set_option maxRecDepth 100000 in
theorem c_k_tellN (l : Launch) (D : va_G) (cA cB : ClassId) (h0 : Nat) (ha : Nat) (hb9 : Nat) (hc9 : Nat) (hd9 : Nat) (cn : Nat) (na : Nat → Int32) (nb : Nat → Int32) (nc : Nat → Int32) (nd : Nat → Int32) (hcn : cn < 61) : CI l yX2_tell cX2_tell 3 (some .int) 0 0 0 0 D cA cB [.ref h0, .int (-1), .int 0] [(h0, .inr (2, [.ref ha, .ref hb9, .ref hc9, .ref hd9, .int (nI cn)])), (ha, .inl (cA, 60, .inl na)), (hb9, .inl (cA, 60, .inl nb)), (hc9, .inl (cA, 60, .inl nc)), (hd9, .inl (cA, 60, .inl nd))] (fun r W1 => r = 0 ∧ W1 = [(h0, .inr (2, [.ref ha, .ref hb9, .ref hc9, .ref hd9, .int (nI cn)])), (ha, .inl (cA, 60, .inl na)), (hb9, .inl (cA, 60, .inl nb)), (hc9, .inl (cA, 60, .inl nc)), (hd9, .inl (cA, 60, .inl nd))]) := by
  refine mkI (lv0 := [(0, .ref h0), (1, .int (-1)), (2, .int 0)]) (by decide) (Nat.le_of_ble_eq_true rfl) rfl ?_
  intro p e s m below meth c A ls X hr hlocks hnm hE hA hP hD hS hl
  have hx := X.1
  have hb := X.2.1
  refine qW (fun Q9 hQ9 => ?_)
  refine lv_iload_n hx hb dX2_tell_0 rfl (lv_at hl 1 rfl) ?_
  refine lv_if_lt (tgt := 12) hx hb dX2_tell_1 (by decide) (fun c_1 => ?_) (fun c_1 => absurd (by decide) c_1)
  refine lv_iconst (v := 0) hx hb dX2_tell_12 (by decide) ?_
  rw [hQ9]
  exact endI X hr hlocks hP hD hS dX2_tell_13 ⟨rfl, rfl⟩
