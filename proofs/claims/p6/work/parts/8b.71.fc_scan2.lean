set_option maxHeartbeats 4000000 in
set_option maxRecDepth 100000 in
theorem c_k_beginLine (l : Launch) (D : va_G) (cA cB : ClassId) (h0 : Nat) (htb : Nat) (ln : Nat) (le : Nat) (ax : Nat) (kd : Int32) (pl : Nat) (lt : Nat) (vl : Int32) (ms : Int32) (tz : Nat → Int32) (sa : Nat) (hln : ln < 6001) (hle : le < 6001) (hax : ax < 6001) (hpl : pl < 6010) (hlt : lt < 6010) (htz : ∀ j, j < 6000 → ∃ k : Nat, k < 256 ∧ tz j = nI k) (hsa : sa < 6001) (hsl9 : sa ≤ ln) : CV l yX7_beginLine cX7_beginLine 2 none 0 0 0 0 D cA cB [.ref h0, .int (nI sa)] [(h0, .inr (7, [.ref htb, .int (nI ln), .int (nI le), .int (nI ax), .int kd, .int (nI pl), .int (nI lt), .int vl, .int ms])), (htb, .inl (cA, 6000, .inl tz))] (fun W1 => ∃ (le2 : Nat) (ax2 : Nat), (le2 < 6001) ∧ (ax2 < 6001) ∧ (le2 ≤ ln) ∧ (LNo (sgn ln tz) le2 sa) ∧ (le2 = lE (sgn ln tz) sa) ∧ (sa = ax2) ∧ W1 = [(h0, .inr (7, [.ref htb, .int (nI ln), .int (nI le2), .int (nI ax2), .int kd, .int (nI pl), .int (nI lt), .int vl, .int ms])), (htb, .inl (cA, 6000, .inl tz))]) := by
  refine mkV (lv0 := [(0, .ref h0), (1, .int (nI sa))]) (by decide) (Nat.le_of_ble_eq_true rfl) rfl ?_
  intro p e s m below meth c A ls X hr hlocks hnm hE hA hP hD hS hl
  have hx := X.1
  have hb := X.2.1
  refine qW (fun Q9 hQ9 => ?_)
  refine lv_aload_n hx hb dX7_beginLine_0 rfl (lv_at hl 0 rfl) ?_
  refine lv_iload_n hx hb dX7_beginLine_1 rfl (lv_at hl 1 rfl) ?_
  refine k_put (C := RX7) (T := TX7) (N := 9) (ci := 7) (v := .int (nI sa)) (ty := .int) X hE hP hD hS 0 rfl rfl iX7 tyX7 tyX7_ok nmX7 3 (by decide) w_366 rfl (by decide +kernel) rfl rfl (Nat.le_of_ble_eq_true rfl) [(h0, .inr (7, [.ref htb, .int (nI ln), .int (nI le), .int (nI sa), .int kd, .int (nI pl), .int (nI lt), .int vl, .int ms])), (htb, .inl (cA, 6000, .inl tz))] rfl dX7_beginLine_2 (fun H locs hP hD hS => ?_)
  refine lv_aload_n hx hb dX7_beginLine_5 rfl (lv_at hl 0 rfl) ?_
  refine lv_iload_n hx hb dX7_beginLine_6 rfl (lv_at hl 1 rfl) ?_
  refine k_put (C := RX7) (T := TX7) (N := 9) (ci := 7) (v := .int (nI sa)) (ty := .int) X hE hP hD hS 0 rfl rfl iX7 tyX7 tyX7_ok nmX7 2 (by decide) w_367 rfl (by decide +kernel) rfl rfl (Nat.le_of_ble_eq_true rfl) [(h0, .inr (7, [.ref htb, .int (nI ln), .int (nI sa), .int (nI sa), .int kd, .int (nI pl), .int (nI lt), .int vl, .int ms])), (htb, .inl (cA, 6000, .inl tz))] rfl dX7_beginLine_7 (fun H locs hP hD hS => ?_)
  have loop_10 : ∀ (n : Nat) (lev : Nat), (lev < 6001) → (sa ≤ lev) → (lev ≤ ln) → (∀ j, sa ≤ j → j < lev → ¬ (sgn ln tz j = 10 ∨ sgn ln tz j < 0)) → ln + 1 - lev < n → ∀ (H : Heap) (locs : List Loc), va_P D classes [(h0, .inr (7, [.ref htb, .int (nI ln), .int (nI lev), .int (nI sa), .int kd, .int (nI pl), .int (nI lt), .int vl, .int ms])), (htb, .inl (cA, 6000, .inl tz))] H → va_D A [(h0, .inr (7, [.ref htb, .int (nI ln), .int (nI lev), .int (nI sa), .int kd, .int (nI pl), .int (nI lt), .int vl, .int ms])), (htb, .inl (cA, 6000, .inl tz))] → va_S A s.heap H locs → ∀ ls : Array Slot, lv_has ls 2 [(0, .ref h0), (1, .int (nI sa))] → W p l e { frames := 0, cells := 0, slots := 0, locals := 0 } s m (List.toArray [.ref h0, .int (nI sa)]) below meth c H locs 0 0 Q9 (F0 m 10 ls []) := by
    intro n
    induction n with
    | zero => intro lev hlev h1 h2 hno hfuel; exact absurd hfuel (by omega)
    | succ n ih_10 =>
      intro lev hlev h1 h2 hno hfuel H locs hP hD hS ls hl
      refine lv_aload_n hx hb dX7_beginLine_10 rfl (lv_at hl 0 rfl) ?_
      refine k_get (C := RX7) (T := TX7) (N := 9) (ci := 7) (v := .int (nI lev)) X hE hP 0 rfl rfl iX7 2 (by decide) w_367 rfl dX7_beginLine_11 ?_
      refine lv_aload_n hx hb dX7_beginLine_14 rfl (lv_at hl 0 rfl) ?_
      refine k_get (C := RX7) (T := TX7) (N := 9) (ci := 7) (v := .int (nI ln)) X hE hP 0 rfl rfl iX7 1 (by decide) w_353 rfl dX7_beginLine_15 ?_
      refine lv_icmp_ge (tgt := 48) hx hb dX7_beginLine_18 (by decide) (fun c_18_1 => ?_) (fun c_18_1 => ?_)
      · have nc_18_1 : ln ≤ lev := (nI_leI (a := ln) (b := lev) (by omega) (by omega)).mp c_18_1
        rw [hQ9]
        exact endV X hr hlocks hP hD hS dX7_beginLine_48 ⟨lev, sa, hlev, hsa, (by first | assumption | omega), ⟨by omega, (Or.inr (by rw [sgn_out (by omega)]; decide)), fun j j1 j2 => hno j j1 j2⟩, (sc_uniq (P := isLn) (by omega) (by omega) (fun j j1 j2 => isLn_1 (hno j j1 j2)) (isLn_0 (Or.inr (by rw [sgn_out (by omega)]; decide)))).symm, rfl, rfl⟩
      · have nc_18_1 : lev < ln := Nat.not_le.mp (fun q => c_18_1 ((nI_leI (a := ln) (b := lev) (by omega) (by omega)).mpr q))
        refine lv_aload_n hx hb dX7_beginLine_21 rfl (lv_at hl 0 rfl) ?_
        refine k_get (C := RX7) (T := TX7) (N := 9) (ci := 7) (v := .ref htb) X hE hP 0 rfl rfl iX7 0 (by decide) w_368 rfl dX7_beginLine_22 ?_
        refine lv_aload_n hx hb dX7_beginLine_25 rfl (lv_at hl 0 rfl) ?_
        refine k_get (C := RX7) (T := TX7) (N := 9) (ci := 7) (v := .int (nI lev)) X hE hP 0 rfl rfl iX7 2 (by decide) w_367 rfl dX7_beginLine_26 ?_
        refine k_ald (v := sgn ln tz lev) X hE hP 1 rfl lev rfl (by omega) (by decide) (sgn_in (by omega)).symm dX7_beginLine_29 ?_
        refine lv_bipush (v := 10) hx hb dX7_beginLine_30 (by decide) ?_
        refine lv_icmp_eq (tgt := 48) hx hb dX7_beginLine_32 (by decide) (fun c_32 => ?_) (fun c_32 => ?_)
        · have gc_32 : lev < ln := sgn_lt (f := tz) (by rw [c_32]; decide)
          rw [hQ9]
          exact endV X hr hlocks hP hD hS dX7_beginLine_48 ⟨lev, sa, hlev, hsa, (by first | assumption | omega), ⟨by omega, (Or.inl c_32), fun j j1 j2 => hno j j1 j2⟩, (sc_uniq (P := isLn) (by omega) (by omega) (fun j j1 j2 => isLn_1 (hno j j1 j2)) (isLn_0 (Or.inl c_32))).symm, rfl, rfl⟩
        · skip
          refine lv_aload_n hx hb dX7_beginLine_35 rfl (lv_at hl 0 rfl) ?_
          refine lv_dup hx hb dX7_beginLine_36 rfl ?_
          refine k_get (C := RX7) (T := TX7) (N := 9) (ci := 7) (v := .int (nI lev)) X hE hP 0 rfl rfl iX7 2 (by decide) w_367 rfl dX7_beginLine_37 ?_
          refine lv_iconst (v := 1) hx hb dX7_beginLine_40 (by decide) ?_
          refine lv_iadd hx hb dX7_beginLine_41 ?_
          refine tk (y := nI (lev + 1)) (nI_add lev 1) ?_
          refine k_put (C := RX7) (T := TX7) (N := 9) (ci := 7) (v := .int (nI (lev + 1))) (ty := .int) X hE hP hD hS 0 rfl rfl iX7 tyX7 tyX7_ok nmX7 2 (by decide) w_367 rfl (by decide +kernel) rfl rfl (Nat.le_of_ble_eq_true rfl) [(h0, .inr (7, [.ref htb, .int (nI ln), .int (nI (lev + 1)), .int (nI sa), .int kd, .int (nI pl), .int (nI lt), .int vl, .int ms])), (htb, .inl (cA, 6000, .inl tz))] rfl dX7_beginLine_42 (fun H locs hP hD hS => ?_)
          refine lv_goto (tgt := 10) hx hb dX7_beginLine_45 (by decide) ?_
          exact ih_10 (lev + 1) (by omega) (by first | assumption | omega) (by first | assumption | omega) (bl_next (s := (sgn ln tz)) (P := fun c => ¬ (c = 10 ∨ c < 0)) hno (fun z => z.elim c_32 (sgn_nn (by omega) (htz lev (by omega))))) (by omega) _ _ hP hD hS ls hl
  exact loop_10 6003 sa hsa (by first | assumption | omega) (by first | assumption | omega) (fun j h1 h2 => absurd h2 (by omega)) (by omega) _ _ hP hD hS ls hl
set_option maxHeartbeats 4000000 in
set_option maxRecDepth 100000 in
theorem c_k_readLetters (l : Launch) (D : va_G) (cA cB : ClassId) (h0 : Nat) (htb : Nat) (ln : Nat) (le : Nat) (ax : Nat) (kd : Int32) (pl : Nat) (lt : Nat) (vl : Int32) (ms : Int32) (tz : Nat → Int32) (hln : ln < 6001) (hle : le < 6001) (hax : ax < 6001) (hpl : pl < 6010) (hlt : lt < 6010) (htz : ∀ j, j < 6000 → ∃ k : Nat, k < 256 ∧ tz j = nI k) (hLo : LNo (sgn ln tz) le ax) (hll : le ≤ ln) (hpl9 : pl = ax) (haxl : ax < le) (hlet : ¬ inM (sgn ln tz ax) 97 122 = 0) : CV l yX7_readLetters cX7_readLetters 2 none 1 20 0 0 D cA cB [.ref h0] [(h0, .inr (7, [.ref htb, .int (nI ln), .int (nI le), .int (nI ax), .int kd, .int (nI pl), .int (nI lt), .int vl, .int ms])), (htb, .inl (cA, 6000, .inl tz))] (fun W1 => ∃ (ax2 : Nat) (kd2 : Int32) (pl2 : Nat) (lt2 : Nat), (ax2 < 6001) ∧ (pl2 < 6010) ∧ (lt2 < 6010) ∧ (LNo (sgn ln tz) le ax2) ∧ ((kd2 = 260 ∧ isNc (sgn ln tz (n8 (sgn ln tz) ax)) = true) ∨ (kd2 = sgn ln tz ax ∧ xy (sgn ln tz) ax ∧ ax2 = ax + 1 ∧ ax = pl2) ∨ (kd2 = 257 ∧ ¬ isNc (sgn ln tz (n8 (sgn ln tz) ax)) = true ∧ ¬ xy (sgn ln tz) ax ∧ ax2 = n8 (sgn ln tz) ax ∧ lt2 = n8 (sgn ln tz) ax - ax ∧ ax = pl2)) ∧ W1 = [(h0, .inr (7, [.ref htb, .int (nI ln), .int (nI le), .int (nI ax2), .int kd2, .int (nI pl2), .int (nI lt2), .int vl, .int ms])), (htb, .inl (cA, 6000, .inl tz))]) := by
  refine mkV (lv0 := [(0, .ref h0)]) (by decide) (Nat.le_of_ble_eq_true rfl) rfl ?_
  intro p e s m below meth c A ls X hr hlocks hnm hE hA hP hD hS hl
  have hx := X.1
  have hb := X.2.1
  refine qW (fun Q9 hQ9 => ?_)
  refine lv_aload_n hx hb dX7_readLetters_0 rfl (lv_at hl 0 rfl) ?_
  refine k_get (C := RX7) (T := TX7) (N := 9) (ci := 7) (v := .ref htb) X hE hP 0 rfl rfl iX7 0 (by decide) w_368 rfl dX7_readLetters_1 ?_
  refine lv_aload_n hx hb dX7_readLetters_4 rfl (lv_at hl 0 rfl) ?_
  refine k_get (C := RX7) (T := TX7) (N := 9) (ci := 7) (v := .int (nI ax)) X hE hP 0 rfl rfl iX7 3 (by decide) w_366 rfl dX7_readLetters_5 ?_
  refine k_ald (v := sgn ln tz ax) X hE hP 1 rfl ax rfl (by omega) (by decide) (sgn_in (by omega)).symm dX7_readLetters_8 ?_
  refine lv_istore_n (lv' := [(1, .int (sgn ln tz ax)), (0, .ref h0)]) hx hb dX7_readLetters_9 rfl hl (by decide) rfl (fun ls hl => ?_)
  have loop_10 : ∀ (n : Nat) (axv : Nat), (axv < 6001) → (ax ≤ axv) → (axv ≤ le) → (∀ j, ax ≤ j → j < axv → isNc (sgn ln tz j) = true) → le - axv < n → ∀ (H : Heap) (locs : List Loc), va_P D classes [(h0, .inr (7, [.ref htb, .int (nI ln), .int (nI le), .int (nI axv), .int kd, .int (nI pl), .int (nI lt), .int vl, .int ms])), (htb, .inl (cA, 6000, .inl tz))] H → va_D A [(h0, .inr (7, [.ref htb, .int (nI ln), .int (nI le), .int (nI axv), .int kd, .int (nI pl), .int (nI lt), .int vl, .int ms])), (htb, .inl (cA, 6000, .inl tz))] → va_S A s.heap H locs → ∀ ls : Array Slot, lv_has ls 2 [(0, .ref h0), (1, .int (sgn ln tz ax))] → W p l e { frames := 1, cells := 0, slots := 0, locals := 20 } s m (List.toArray [.ref h0]) below meth c H locs 0 0 Q9 (F0 m 10 ls []) := by
    intro n
    induction n with
    | zero => intro axv haxv hg1 hg2 hnc hfuel; exact absurd hfuel (by omega)
    | succ n ih_10 =>
      intro axv haxv hg1 hg2 hnc hfuel H locs hP hD hS ls hl
      refine lv_aload_n hx hb dX7_readLetters_10 rfl (lv_at hl 0 rfl) ?_
      refine k_get (C := RX7) (T := TX7) (N := 9) (ci := 7) (v := .int (nI axv)) X hE hP 0 rfl rfl iX7 3 (by decide) w_366 rfl dX7_readLetters_11 ?_
      refine lv_aload_n hx hb dX7_readLetters_14 rfl (lv_at hl 0 rfl) ?_
      refine k_get (C := RX7) (T := TX7) (N := 9) (ci := 7) (v := .int (nI le)) X hE hP 0 rfl rfl iX7 2 (by decide) w_367 rfl dX7_readLetters_15 ?_
      refine lv_icmp_ge (tgt := 64) hx hb dX7_readLetters_18 (by decide) (fun c_18_1 => ?_) (fun c_18_1 => ?_)
      · have nc_18_1 : le ≤ axv := (nI_leI (a := le) (b := axv) (by omega) (by omega)).mp c_18_1
        have hne : nE (sgn ln tz) ax = axv := sc_uniq (by omega) (by omega) hnc (eol_nc (by have z : axv = le := (by omega); rw [z]; exact hLo.2.1))
        have hgt : ax < axv := by rcases Nat.eq_or_lt_of_le hg1 with z | z; exact absurd (isNc_l hlet) (by rw [z]; exact (eol_nc (by have z : axv = le := (by omega); rw [z]; exact hLo.2.1))); exact z
        have h88 : n8 (sgn ln tz) ax = min axv (ax + 8) := by unfold n8; rw [hne]
        refine lv_aload_n hx hb dX7_readLetters_64 rfl (lv_at hl 0 rfl) ?_
        refine lv_aload_n hx hb dX7_readLetters_65 rfl (lv_at hl 0 rfl) ?_
        refine k_get (C := RX7) (T := TX7) (N := 9) (ci := 7) (v := .int (nI axv)) X hE hP 0 rfl rfl iX7 3 (by decide) w_366 rfl dX7_readLetters_66 ?_
        refine lv_aload_n hx hb dX7_readLetters_69 rfl (lv_at hl 0 rfl) ?_
        refine k_get (C := RX7) (T := TX7) (N := 9) (ci := 7) (v := .int (nI pl)) X hE hP 0 rfl rfl iX7 5 (by decide) w_376 rfl dX7_readLetters_70 ?_
        refine lv_isub hx hb dX7_readLetters_73 ?_
        refine tk (y := nI (axv - pl)) (pk_sub (a := axv) (b := pl) (by omega)) ?_
        refine k_put (C := RX7) (T := TX7) (N := 9) (ci := 7) (v := .int (nI (axv - pl))) (ty := .int) X hE hP hD hS 0 rfl rfl iX7 tyX7 tyX7_ok nmX7 6 (by decide) w_377 rfl (by decide +kernel) rfl rfl (Nat.le_of_ble_eq_true rfl) [(h0, .inr (7, [.ref htb, .int (nI ln), .int (nI le), .int (nI axv), .int kd, .int (nI pl), .int (nI (axv - pl)), .int vl, .int ms])), (htb, .inl (cA, 6000, .inl tz))] rfl dX7_readLetters_74 (fun H locs hP hD hS => ?_)
        refine lv_aload_n hx hb dX7_readLetters_77 rfl (lv_at hl 0 rfl) ?_
        refine k_get (C := RX7) (T := TX7) (N := 9) (ci := 7) (v := .int (nI (axv - pl))) X hE hP 0 rfl rfl iX7 6 (by decide) w_377 rfl dX7_readLetters_78 ?_
        refine lv_bipush (v := 8) hx hb dX7_readLetters_81 (by decide) ?_
        refine lv_icmp_le (tgt := 105) hx hb dX7_readLetters_83 (by decide) (fun c_83_2 => ?_) (fun c_83_2 => ?_)
        · have nc_83_2 : (axv - pl) ≤ 8 := (nI_leI (a := axv - pl) (b := 8) (by omega) (by omega)).mp c_83_2
          refine lv_aload_n hx hb dX7_readLetters_105 rfl (lv_at hl 0 rfl) ?_
          refine k_get (C := RX7) (T := TX7) (N := 9) (ci := 7) (v := .int (nI (axv - pl))) X hE hP 0 rfl rfl iX7 6 (by decide) w_377 rfl dX7_readLetters_106 ?_
          refine lv_iconst (v := 1) hx hb dX7_readLetters_109 (by decide) ?_
          refine lv_icmp_ne (tgt := 131) hx hb dX7_readLetters_110 (by decide) (fun c_110_3 => ?_) (fun c_110_3 => ?_)
          · have nc_110_3 : ¬ (axv - pl) = 1 := fun q => c_110_3 ((nI_eq (a := axv - pl) (b := 1) (by omega) (by omega)).mpr q)
            refine lv_aload_n hx hb dX7_readLetters_131 rfl (lv_at hl 0 rfl) ?_
            refine lv_sipush (v := 257) hx hb dX7_readLetters_132 (by decide) ?_
            refine k_put (C := RX7) (T := TX7) (N := 9) (ci := 7) (v := .int 257) (ty := .int) X hE hP hD hS 0 rfl rfl iX7 tyX7 tyX7_ok nmX7 4 (by decide) w_369 rfl (by decide +kernel) rfl rfl (Nat.le_of_ble_eq_true rfl) [(h0, .inr (7, [.ref htb, .int (nI ln), .int (nI le), .int (nI axv), .int 257, .int (nI pl), .int (nI (axv - pl)), .int vl, .int ms])), (htb, .inl (cA, 6000, .inl tz))] rfl dX7_readLetters_135 (fun H locs hP hD hS => ?_)
            rw [hQ9]
            exact endV X hr hlocks hP hD hS dX7_readLetters_138 ⟨axv, 257, pl, (axv - pl), haxv, hpl, (by omega), (LNo_up hLo (by omega) (by omega)), (Or.inr (Or.inr ⟨rfl, (by rw [h88, Nat.min_eq_left (by omega)]; exact (eol_nc (by have z : axv = le := (by omega); rw [z]; exact hLo.2.1))), (fun z => absurd z.1 (by rw [h88]; omega)), by rw [h88]; omega, by rw [h88]; omega, hpl9.symm⟩)), rfl⟩
          · have nc_110_3 : (axv - pl) = 1 := (nI_eq (a := axv - pl) (b := 1) (by omega) (by omega)).mp c_110_3
            refine lv_iload_n hx hb dX7_readLetters_113 rfl (lv_at hl 1 rfl) ?_
            refine lv_bipush (v := 120) hx hb dX7_readLetters_114 (by decide) ?_
            refine lv_icmp_eq (tgt := 125) hx hb dX7_readLetters_116 (by decide) (fun c_116 => ?_) (fun c_116 => ?_)
            · have gc_116 : ax < ln := sgn_lt (f := tz) (by rw [c_116]; decide)
              refine lv_aload_n hx hb dX7_readLetters_125 rfl (lv_at hl 0 rfl) ?_
              refine lv_iload_n hx hb dX7_readLetters_126 rfl (lv_at hl 1 rfl) ?_
              refine k_put (C := RX7) (T := TX7) (N := 9) (ci := 7) (v := .int (sgn ln tz ax)) (ty := .int) X hE hP hD hS 0 rfl rfl iX7 tyX7 tyX7_ok nmX7 4 (by decide) w_369 rfl (by decide +kernel) rfl rfl (Nat.le_of_ble_eq_true rfl) [(h0, .inr (7, [.ref htb, .int (nI ln), .int (nI le), .int (nI axv), .int (sgn ln tz ax), .int (nI pl), .int (nI (axv - pl)), .int vl, .int ms])), (htb, .inl (cA, 6000, .inl tz))] rfl dX7_readLetters_127 (fun H locs hP hD hS => ?_)
              rw [hQ9]
              exact endV X hr hlocks hP hD hS dX7_readLetters_130 ⟨axv, (sgn ln tz ax), pl, (axv - pl), haxv, hpl, (by omega), (LNo_up hLo (by omega) (by omega)), (Or.inr (Or.inl ⟨rfl, ⟨by rw [h88]; omega, Or.inl c_116⟩, by omega, hpl9.symm⟩)), rfl⟩
            · skip
              refine lv_iload_n hx hb dX7_readLetters_119 rfl (lv_at hl 1 rfl) ?_
              refine lv_bipush (v := 121) hx hb dX7_readLetters_120 (by decide) ?_
              refine lv_icmp_ne (tgt := 131) hx hb dX7_readLetters_122 (by decide) (fun c_122 => ?_) (fun c_122 => ?_)
              · skip
                refine lv_aload_n hx hb dX7_readLetters_131 rfl (lv_at hl 0 rfl) ?_
                refine lv_sipush (v := 257) hx hb dX7_readLetters_132 (by decide) ?_
                refine k_put (C := RX7) (T := TX7) (N := 9) (ci := 7) (v := .int 257) (ty := .int) X hE hP hD hS 0 rfl rfl iX7 tyX7 tyX7_ok nmX7 4 (by decide) w_369 rfl (by decide +kernel) rfl rfl (Nat.le_of_ble_eq_true rfl) [(h0, .inr (7, [.ref htb, .int (nI ln), .int (nI le), .int (nI axv), .int 257, .int (nI pl), .int (nI (axv - pl)), .int vl, .int ms])), (htb, .inl (cA, 6000, .inl tz))] rfl dX7_readLetters_135 (fun H locs hP hD hS => ?_)
                rw [hQ9]
                exact endV X hr hlocks hP hD hS dX7_readLetters_138 ⟨axv, 257, pl, (axv - pl), haxv, hpl, (by omega), (LNo_up hLo (by omega) (by omega)), (Or.inr (Or.inr ⟨rfl, (by rw [h88, Nat.min_eq_left (by omega)]; exact (eol_nc (by have z : axv = le := (by omega); rw [z]; exact hLo.2.1))), (fun z => z.2.elim c_116 c_122), by rw [h88]; omega, by rw [h88]; omega, hpl9.symm⟩)), rfl⟩
              · have gc_122 : ax < ln := sgn_lt (f := tz) (by rw [c_122]; decide)
                refine lv_aload_n hx hb dX7_readLetters_125 rfl (lv_at hl 0 rfl) ?_
                refine lv_iload_n hx hb dX7_readLetters_126 rfl (lv_at hl 1 rfl) ?_
                refine k_put (C := RX7) (T := TX7) (N := 9) (ci := 7) (v := .int (sgn ln tz ax)) (ty := .int) X hE hP hD hS 0 rfl rfl iX7 tyX7 tyX7_ok nmX7 4 (by decide) w_369 rfl (by decide +kernel) rfl rfl (Nat.le_of_ble_eq_true rfl) [(h0, .inr (7, [.ref htb, .int (nI ln), .int (nI le), .int (nI axv), .int (sgn ln tz ax), .int (nI pl), .int (nI (axv - pl)), .int vl, .int ms])), (htb, .inl (cA, 6000, .inl tz))] rfl dX7_readLetters_127 (fun H locs hP hD hS => ?_)
                rw [hQ9]
                exact endV X hr hlocks hP hD hS dX7_readLetters_130 ⟨axv, (sgn ln tz ax), pl, (axv - pl), haxv, hpl, (by omega), (LNo_up hLo (by omega) (by omega)), (Or.inr (Or.inl ⟨rfl, ⟨by rw [h88]; omega, Or.inr c_122⟩, by omega, hpl9.symm⟩)), rfl⟩
        · have nc_83_2 : 8 < (axv - pl) := Nat.not_le.mp (fun q => c_83_2 ((nI_leI (a := axv - pl) (b := 8) (by omega) (by omega)).mpr q))
          refine lv_aload_n hx hb dX7_readLetters_86 rfl (lv_at hl 0 rfl) ?_
          refine lv_sipush (v := 260) hx hb dX7_readLetters_87 (by decide) ?_
          refine k_put (C := RX7) (T := TX7) (N := 9) (ci := 7) (v := .int 260) (ty := .int) X hE hP hD hS 0 rfl rfl iX7 tyX7 tyX7_ok nmX7 4 (by decide) w_369 rfl (by decide +kernel) rfl rfl (Nat.le_of_ble_eq_true rfl) [(h0, .inr (7, [.ref htb, .int (nI ln), .int (nI le), .int (nI axv), .int 260, .int (nI pl), .int (nI (axv - pl)), .int vl, .int ms])), (htb, .inl (cA, 6000, .inl tz))] rfl dX7_readLetters_90 (fun H locs hP hD hS => ?_)
          refine lv_aload_n hx hb dX7_readLetters_93 rfl (lv_at hl 0 rfl) ?_
          refine lv_dup hx hb dX7_readLetters_94 rfl ?_
          refine k_get (C := RX7) (T := TX7) (N := 9) (ci := 7) (v := .int (nI pl)) X hE hP 0 rfl rfl iX7 5 (by decide) w_376 rfl dX7_readLetters_95 ?_
          refine lv_bipush (v := 8) hx hb dX7_readLetters_98 (by decide) ?_
          refine lv_iadd hx hb dX7_readLetters_100 ?_
          refine tk (y := nI (pl + 8)) (nI_add pl 8) ?_
          refine k_put (C := RX7) (T := TX7) (N := 9) (ci := 7) (v := .int (nI (pl + 8))) (ty := .int) X hE hP hD hS 0 rfl rfl iX7 tyX7 tyX7_ok nmX7 5 (by decide) w_376 rfl (by decide +kernel) rfl rfl (Nat.le_of_ble_eq_true rfl) [(h0, .inr (7, [.ref htb, .int (nI ln), .int (nI le), .int (nI axv), .int 260, .int (nI (pl + 8)), .int (nI (axv - pl)), .int vl, .int ms])), (htb, .inl (cA, 6000, .inl tz))] rfl dX7_readLetters_101 (fun H locs hP hD hS => ?_)
          rw [hQ9]
          exact endV X hr hlocks hP hD hS dX7_readLetters_104 ⟨axv, 260, (pl + 8), (axv - pl), haxv, (by omega), (by omega), (LNo_up hLo (by omega) (by omega)), (Or.inl ⟨rfl, by rw [h88, Nat.min_eq_right (by omega)]; exact hnc (ax + 8) (by omega) (by omega)⟩), rfl⟩
      · have nc_18_1 : axv < le := Nat.not_le.mp (fun q => c_18_1 ((nI_leI (a := le) (b := axv) (by omega) (by omega)).mpr q))
        refine lv_aload_n hx hb dX7_readLetters_21 rfl (lv_at hl 0 rfl) ?_
        refine k_get (C := RX7) (T := TX7) (N := 9) (ci := 7) (v := .ref htb) X hE hP 0 rfl rfl iX7 0 (by decide) w_368 rfl dX7_readLetters_22 ?_
        refine lv_aload_n hx hb dX7_readLetters_25 rfl (lv_at hl 0 rfl) ?_
        refine k_get (C := RX7) (T := TX7) (N := 9) (ci := 7) (v := .int (nI axv)) X hE hP 0 rfl rfl iX7 3 (by decide) w_366 rfl dX7_readLetters_26 ?_
        refine k_ald (v := sgn ln tz axv) X hE hP 1 rfl axv rfl (by omega) (by decide) (sgn_in (by omega)).symm dX7_readLetters_29 ?_
        refine kSi (n3 := 1) (As := [.int (sgn ln tz axv)]) (rest := []) X hl.1 hE hP hD hS hA [] [(h0, .inr (7, [.ref htb, .int (nI ln), .int (nI le), .int (nI axv), .int kd, .int (nI pl), .int (nI lt), .int vl, .int ms])), (htb, .inl (cA, 6000, .inl tz))] [] [0, 1] rfl rfl rfl (by decide +kernel) (by decide +kernel) (by decide +kernel) (c_k_isLetter l D cA cB (sgn ln tz axv) ) w_379 w_374 w_378 w_380 (by decide +kernel) rfl rfl (Nat.le_of_ble_eq_true rfl) ⟨(Nat.le_of_ble_eq_true rfl), (Nat.le_of_ble_eq_true rfl)⟩ ⟨(Nat.le_of_ble_eq_true rfl), (Nat.le_of_ble_eq_true rfl)⟩ dX7_readLetters_30 (fun r W1 H locs hw hP hD hS => ?_)
        obtain ⟨rfl, rfl⟩ := hw
        have hP : va_P D classes [(h0, .inr (7, [.ref htb, .int (nI ln), .int (nI le), .int (nI axv), .int kd, .int (nI pl), .int (nI lt), .int vl, .int ms])), (htb, .inl (cA, 6000, .inl tz))] H := hP
        have hD : va_D A [(h0, .inr (7, [.ref htb, .int (nI ln), .int (nI le), .int (nI axv), .int kd, .int (nI pl), .int (nI lt), .int vl, .int ms])), (htb, .inl (cA, 6000, .inl tz))] := hD
        refine lv_if_ne (tgt := 51) hx hb dX7_readLetters_33 (by decide) (fun c_33 => ?_) (fun c_33 => ?_)
        · have gc_33 : axv < ln := sgn_lt (f := tz) (fun z => c_33 (by rw [z]; decide))
          refine lv_aload_n hx hb dX7_readLetters_51 rfl (lv_at hl 0 rfl) ?_
          refine lv_dup hx hb dX7_readLetters_52 rfl ?_
          refine k_get (C := RX7) (T := TX7) (N := 9) (ci := 7) (v := .int (nI axv)) X hE hP 0 rfl rfl iX7 3 (by decide) w_366 rfl dX7_readLetters_53 ?_
          refine lv_iconst (v := 1) hx hb dX7_readLetters_56 (by decide) ?_
          refine lv_iadd hx hb dX7_readLetters_57 ?_
          refine tk (y := nI (axv + 1)) (nI_add axv 1) ?_
          refine k_put (C := RX7) (T := TX7) (N := 9) (ci := 7) (v := .int (nI (axv + 1))) (ty := .int) X hE hP hD hS 0 rfl rfl iX7 tyX7 tyX7_ok nmX7 3 (by decide) w_366 rfl (by decide +kernel) rfl rfl (Nat.le_of_ble_eq_true rfl) [(h0, .inr (7, [.ref htb, .int (nI ln), .int (nI le), .int (nI (axv + 1)), .int kd, .int (nI pl), .int (nI lt), .int vl, .int ms])), (htb, .inl (cA, 6000, .inl tz))] rfl dX7_readLetters_58 (fun H locs hP hD hS => ?_)
          refine lv_goto (tgt := 10) hx hb dX7_readLetters_61 (by decide) ?_
          exact ih_10 (axv + 1) (by omega) (by first | assumption | omega) (by first | assumption | omega) (bl_next (s := (sgn ln tz)) (P := fun c => isNc c = true) hnc (by first | exact isNc_l c_33 | exact isNc_d c_48)) (by omega) _ _ hP hD hS ls hl
        · skip
          refine lv_aload_n hx hb dX7_readLetters_36 rfl (lv_at hl 0 rfl) ?_
          refine k_get (C := RX7) (T := TX7) (N := 9) (ci := 7) (v := .ref htb) X hE hP 0 rfl rfl iX7 0 (by decide) w_368 rfl dX7_readLetters_37 ?_
          refine lv_aload_n hx hb dX7_readLetters_40 rfl (lv_at hl 0 rfl) ?_
          refine k_get (C := RX7) (T := TX7) (N := 9) (ci := 7) (v := .int (nI axv)) X hE hP 0 rfl rfl iX7 3 (by decide) w_366 rfl dX7_readLetters_41 ?_
          refine k_ald (v := sgn ln tz axv) X hE hP 1 rfl axv rfl (by omega) (by decide) (sgn_in (by omega)).symm dX7_readLetters_44 ?_
          refine kSi (n3 := 1) (As := [.int (sgn ln tz axv)]) (rest := []) X hl.1 hE hP hD hS hA [] [(h0, .inr (7, [.ref htb, .int (nI ln), .int (nI le), .int (nI axv), .int kd, .int (nI pl), .int (nI lt), .int vl, .int ms])), (htb, .inl (cA, 6000, .inl tz))] [] [0, 1] rfl rfl rfl (by decide +kernel) (by decide +kernel) (by decide +kernel) (c_k_isDecimal l D cA cB (sgn ln tz axv) ) w_382 w_374 w_381 w_383 (by decide +kernel) rfl rfl (Nat.le_of_ble_eq_true rfl) ⟨(Nat.le_of_ble_eq_true rfl), (Nat.le_of_ble_eq_true rfl)⟩ ⟨(Nat.le_of_ble_eq_true rfl), (Nat.le_of_ble_eq_true rfl)⟩ dX7_readLetters_45 (fun r W1 H locs hw hP hD hS => ?_)
          obtain ⟨rfl, rfl⟩ := hw
          have hP : va_P D classes [(h0, .inr (7, [.ref htb, .int (nI ln), .int (nI le), .int (nI axv), .int kd, .int (nI pl), .int (nI lt), .int vl, .int ms])), (htb, .inl (cA, 6000, .inl tz))] H := hP
          have hD : va_D A [(h0, .inr (7, [.ref htb, .int (nI ln), .int (nI le), .int (nI axv), .int kd, .int (nI pl), .int (nI lt), .int vl, .int ms])), (htb, .inl (cA, 6000, .inl tz))] := hD
          refine lv_if_eq (tgt := 64) hx hb dX7_readLetters_48 (by decide) (fun c_48 => ?_) (fun c_48 => ?_)
          · skip
            have hne : nE (sgn ln tz) ax = axv := sc_uniq (by omega) (by omega) hnc (isNc_no c_33 c_48)
            have hgt : ax < axv := by rcases Nat.eq_or_lt_of_le hg1 with z | z; exact absurd (isNc_l hlet) (by rw [z]; exact (isNc_no c_33 c_48)); exact z
            have h88 : n8 (sgn ln tz) ax = min axv (ax + 8) := by unfold n8; rw [hne]
            refine lv_aload_n hx hb dX7_readLetters_64 rfl (lv_at hl 0 rfl) ?_
            refine lv_aload_n hx hb dX7_readLetters_65 rfl (lv_at hl 0 rfl) ?_
            refine k_get (C := RX7) (T := TX7) (N := 9) (ci := 7) (v := .int (nI axv)) X hE hP 0 rfl rfl iX7 3 (by decide) w_366 rfl dX7_readLetters_66 ?_
            refine lv_aload_n hx hb dX7_readLetters_69 rfl (lv_at hl 0 rfl) ?_
            refine k_get (C := RX7) (T := TX7) (N := 9) (ci := 7) (v := .int (nI pl)) X hE hP 0 rfl rfl iX7 5 (by decide) w_376 rfl dX7_readLetters_70 ?_
            refine lv_isub hx hb dX7_readLetters_73 ?_
            refine tk (y := nI (axv - pl)) (pk_sub (a := axv) (b := pl) (by omega)) ?_
            refine k_put (C := RX7) (T := TX7) (N := 9) (ci := 7) (v := .int (nI (axv - pl))) (ty := .int) X hE hP hD hS 0 rfl rfl iX7 tyX7 tyX7_ok nmX7 6 (by decide) w_377 rfl (by decide +kernel) rfl rfl (Nat.le_of_ble_eq_true rfl) [(h0, .inr (7, [.ref htb, .int (nI ln), .int (nI le), .int (nI axv), .int kd, .int (nI pl), .int (nI (axv - pl)), .int vl, .int ms])), (htb, .inl (cA, 6000, .inl tz))] rfl dX7_readLetters_74 (fun H locs hP hD hS => ?_)
            refine lv_aload_n hx hb dX7_readLetters_77 rfl (lv_at hl 0 rfl) ?_
            refine k_get (C := RX7) (T := TX7) (N := 9) (ci := 7) (v := .int (nI (axv - pl))) X hE hP 0 rfl rfl iX7 6 (by decide) w_377 rfl dX7_readLetters_78 ?_
            refine lv_bipush (v := 8) hx hb dX7_readLetters_81 (by decide) ?_
            refine lv_icmp_le (tgt := 105) hx hb dX7_readLetters_83 (by decide) (fun c_83_4 => ?_) (fun c_83_4 => ?_)
            · have nc_83_4 : (axv - pl) ≤ 8 := (nI_leI (a := axv - pl) (b := 8) (by omega) (by omega)).mp c_83_4
              refine lv_aload_n hx hb dX7_readLetters_105 rfl (lv_at hl 0 rfl) ?_
              refine k_get (C := RX7) (T := TX7) (N := 9) (ci := 7) (v := .int (nI (axv - pl))) X hE hP 0 rfl rfl iX7 6 (by decide) w_377 rfl dX7_readLetters_106 ?_
              refine lv_iconst (v := 1) hx hb dX7_readLetters_109 (by decide) ?_
              refine lv_icmp_ne (tgt := 131) hx hb dX7_readLetters_110 (by decide) (fun c_110_5 => ?_) (fun c_110_5 => ?_)
              · have nc_110_5 : ¬ (axv - pl) = 1 := fun q => c_110_5 ((nI_eq (a := axv - pl) (b := 1) (by omega) (by omega)).mpr q)
                refine lv_aload_n hx hb dX7_readLetters_131 rfl (lv_at hl 0 rfl) ?_
                refine lv_sipush (v := 257) hx hb dX7_readLetters_132 (by decide) ?_
                refine k_put (C := RX7) (T := TX7) (N := 9) (ci := 7) (v := .int 257) (ty := .int) X hE hP hD hS 0 rfl rfl iX7 tyX7 tyX7_ok nmX7 4 (by decide) w_369 rfl (by decide +kernel) rfl rfl (Nat.le_of_ble_eq_true rfl) [(h0, .inr (7, [.ref htb, .int (nI ln), .int (nI le), .int (nI axv), .int 257, .int (nI pl), .int (nI (axv - pl)), .int vl, .int ms])), (htb, .inl (cA, 6000, .inl tz))] rfl dX7_readLetters_135 (fun H locs hP hD hS => ?_)
                rw [hQ9]
                exact endV X hr hlocks hP hD hS dX7_readLetters_138 ⟨axv, 257, pl, (axv - pl), haxv, hpl, (by omega), (LNo_up hLo (by omega) (by omega)), (Or.inr (Or.inr ⟨rfl, (by rw [h88, Nat.min_eq_left (by omega)]; exact (isNc_no c_33 c_48)), (fun z => absurd z.1 (by rw [h88]; omega)), by rw [h88]; omega, by rw [h88]; omega, hpl9.symm⟩)), rfl⟩
              · have nc_110_5 : (axv - pl) = 1 := (nI_eq (a := axv - pl) (b := 1) (by omega) (by omega)).mp c_110_5
                refine lv_iload_n hx hb dX7_readLetters_113 rfl (lv_at hl 1 rfl) ?_
                refine lv_bipush (v := 120) hx hb dX7_readLetters_114 (by decide) ?_
                refine lv_icmp_eq (tgt := 125) hx hb dX7_readLetters_116 (by decide) (fun c_116 => ?_) (fun c_116 => ?_)
                · have gc_116 : ax < ln := sgn_lt (f := tz) (by rw [c_116]; decide)
                  refine lv_aload_n hx hb dX7_readLetters_125 rfl (lv_at hl 0 rfl) ?_
                  refine lv_iload_n hx hb dX7_readLetters_126 rfl (lv_at hl 1 rfl) ?_
                  refine k_put (C := RX7) (T := TX7) (N := 9) (ci := 7) (v := .int (sgn ln tz ax)) (ty := .int) X hE hP hD hS 0 rfl rfl iX7 tyX7 tyX7_ok nmX7 4 (by decide) w_369 rfl (by decide +kernel) rfl rfl (Nat.le_of_ble_eq_true rfl) [(h0, .inr (7, [.ref htb, .int (nI ln), .int (nI le), .int (nI axv), .int (sgn ln tz ax), .int (nI pl), .int (nI (axv - pl)), .int vl, .int ms])), (htb, .inl (cA, 6000, .inl tz))] rfl dX7_readLetters_127 (fun H locs hP hD hS => ?_)
                  rw [hQ9]
                  exact endV X hr hlocks hP hD hS dX7_readLetters_130 ⟨axv, (sgn ln tz ax), pl, (axv - pl), haxv, hpl, (by omega), (LNo_up hLo (by omega) (by omega)), (Or.inr (Or.inl ⟨rfl, ⟨by rw [h88]; omega, Or.inl c_116⟩, by omega, hpl9.symm⟩)), rfl⟩
                · skip
                  refine lv_iload_n hx hb dX7_readLetters_119 rfl (lv_at hl 1 rfl) ?_
                  refine lv_bipush (v := 121) hx hb dX7_readLetters_120 (by decide) ?_
                  refine lv_icmp_ne (tgt := 131) hx hb dX7_readLetters_122 (by decide) (fun c_122 => ?_) (fun c_122 => ?_)
                  · skip
                    refine lv_aload_n hx hb dX7_readLetters_131 rfl (lv_at hl 0 rfl) ?_
                    refine lv_sipush (v := 257) hx hb dX7_readLetters_132 (by decide) ?_
                    refine k_put (C := RX7) (T := TX7) (N := 9) (ci := 7) (v := .int 257) (ty := .int) X hE hP hD hS 0 rfl rfl iX7 tyX7 tyX7_ok nmX7 4 (by decide) w_369 rfl (by decide +kernel) rfl rfl (Nat.le_of_ble_eq_true rfl) [(h0, .inr (7, [.ref htb, .int (nI ln), .int (nI le), .int (nI axv), .int 257, .int (nI pl), .int (nI (axv - pl)), .int vl, .int ms])), (htb, .inl (cA, 6000, .inl tz))] rfl dX7_readLetters_135 (fun H locs hP hD hS => ?_)
                    rw [hQ9]
                    exact endV X hr hlocks hP hD hS dX7_readLetters_138 ⟨axv, 257, pl, (axv - pl), haxv, hpl, (by omega), (LNo_up hLo (by omega) (by omega)), (Or.inr (Or.inr ⟨rfl, (by rw [h88, Nat.min_eq_left (by omega)]; exact (isNc_no c_33 c_48)), (fun z => z.2.elim c_116 c_122), by rw [h88]; omega, by rw [h88]; omega, hpl9.symm⟩)), rfl⟩
                  · have gc_122 : ax < ln := sgn_lt (f := tz) (by rw [c_122]; decide)
                    refine lv_aload_n hx hb dX7_readLetters_125 rfl (lv_at hl 0 rfl) ?_
                    refine lv_iload_n hx hb dX7_readLetters_126 rfl (lv_at hl 1 rfl) ?_
                    refine k_put (C := RX7) (T := TX7) (N := 9) (ci := 7) (v := .int (sgn ln tz ax)) (ty := .int) X hE hP hD hS 0 rfl rfl iX7 tyX7 tyX7_ok nmX7 4 (by decide) w_369 rfl (by decide +kernel) rfl rfl (Nat.le_of_ble_eq_true rfl) [(h0, .inr (7, [.ref htb, .int (nI ln), .int (nI le), .int (nI axv), .int (sgn ln tz ax), .int (nI pl), .int (nI (axv - pl)), .int vl, .int ms])), (htb, .inl (cA, 6000, .inl tz))] rfl dX7_readLetters_127 (fun H locs hP hD hS => ?_)
                    rw [hQ9]
                    exact endV X hr hlocks hP hD hS dX7_readLetters_130 ⟨axv, (sgn ln tz ax), pl, (axv - pl), haxv, hpl, (by omega), (LNo_up hLo (by omega) (by omega)), (Or.inr (Or.inl ⟨rfl, ⟨by rw [h88]; omega, Or.inr c_122⟩, by omega, hpl9.symm⟩)), rfl⟩
            · have nc_83_4 : 8 < (axv - pl) := Nat.not_le.mp (fun q => c_83_4 ((nI_leI (a := axv - pl) (b := 8) (by omega) (by omega)).mpr q))
              refine lv_aload_n hx hb dX7_readLetters_86 rfl (lv_at hl 0 rfl) ?_
              refine lv_sipush (v := 260) hx hb dX7_readLetters_87 (by decide) ?_
              refine k_put (C := RX7) (T := TX7) (N := 9) (ci := 7) (v := .int 260) (ty := .int) X hE hP hD hS 0 rfl rfl iX7 tyX7 tyX7_ok nmX7 4 (by decide) w_369 rfl (by decide +kernel) rfl rfl (Nat.le_of_ble_eq_true rfl) [(h0, .inr (7, [.ref htb, .int (nI ln), .int (nI le), .int (nI axv), .int 260, .int (nI pl), .int (nI (axv - pl)), .int vl, .int ms])), (htb, .inl (cA, 6000, .inl tz))] rfl dX7_readLetters_90 (fun H locs hP hD hS => ?_)
              refine lv_aload_n hx hb dX7_readLetters_93 rfl (lv_at hl 0 rfl) ?_
              refine lv_dup hx hb dX7_readLetters_94 rfl ?_
              refine k_get (C := RX7) (T := TX7) (N := 9) (ci := 7) (v := .int (nI pl)) X hE hP 0 rfl rfl iX7 5 (by decide) w_376 rfl dX7_readLetters_95 ?_
              refine lv_bipush (v := 8) hx hb dX7_readLetters_98 (by decide) ?_
              refine lv_iadd hx hb dX7_readLetters_100 ?_
              refine tk (y := nI (pl + 8)) (nI_add pl 8) ?_
              refine k_put (C := RX7) (T := TX7) (N := 9) (ci := 7) (v := .int (nI (pl + 8))) (ty := .int) X hE hP hD hS 0 rfl rfl iX7 tyX7 tyX7_ok nmX7 5 (by decide) w_376 rfl (by decide +kernel) rfl rfl (Nat.le_of_ble_eq_true rfl) [(h0, .inr (7, [.ref htb, .int (nI ln), .int (nI le), .int (nI axv), .int 260, .int (nI (pl + 8)), .int (nI (axv - pl)), .int vl, .int ms])), (htb, .inl (cA, 6000, .inl tz))] rfl dX7_readLetters_101 (fun H locs hP hD hS => ?_)
              rw [hQ9]
              exact endV X hr hlocks hP hD hS dX7_readLetters_104 ⟨axv, 260, (pl + 8), (axv - pl), haxv, (by omega), (by omega), (LNo_up hLo (by omega) (by omega)), (Or.inl ⟨rfl, by rw [h88, Nat.min_eq_right (by omega)]; exact hnc (ax + 8) (by omega) (by omega)⟩), rfl⟩
          · have gc_48 : axv < ln := sgn_lt (f := tz) (fun z => c_48 (by rw [z]; decide))
            refine lv_aload_n hx hb dX7_readLetters_51 rfl (lv_at hl 0 rfl) ?_
            refine lv_dup hx hb dX7_readLetters_52 rfl ?_
            refine k_get (C := RX7) (T := TX7) (N := 9) (ci := 7) (v := .int (nI axv)) X hE hP 0 rfl rfl iX7 3 (by decide) w_366 rfl dX7_readLetters_53 ?_
            refine lv_iconst (v := 1) hx hb dX7_readLetters_56 (by decide) ?_
            refine lv_iadd hx hb dX7_readLetters_57 ?_
            refine tk (y := nI (axv + 1)) (nI_add axv 1) ?_
            refine k_put (C := RX7) (T := TX7) (N := 9) (ci := 7) (v := .int (nI (axv + 1))) (ty := .int) X hE hP hD hS 0 rfl rfl iX7 tyX7 tyX7_ok nmX7 3 (by decide) w_366 rfl (by decide +kernel) rfl rfl (Nat.le_of_ble_eq_true rfl) [(h0, .inr (7, [.ref htb, .int (nI ln), .int (nI le), .int (nI (axv + 1)), .int kd, .int (nI pl), .int (nI lt), .int vl, .int ms])), (htb, .inl (cA, 6000, .inl tz))] rfl dX7_readLetters_58 (fun H locs hP hD hS => ?_)
            refine lv_goto (tgt := 10) hx hb dX7_readLetters_61 (by decide) ?_
            exact ih_10 (axv + 1) (by omega) (by first | assumption | omega) (by first | assumption | omega) (bl_next (s := (sgn ln tz)) (P := fun c => isNc c = true) hnc (by first | exact isNc_l c_33 | exact isNc_d c_48)) (by omega) _ _ hP hD hS ls hl
  exact loop_10 6002 ax hax (by first | assumption | omega) (by first | assumption | omega) (fun j h1 h2 => absurd h2 (by omega)) (by omega) _ _ hP hD hS ls (lv_sub hl [1, 0] rfl)
set_option maxHeartbeats 4000000 in
set_option maxRecDepth 100000 in
theorem c_k_readQuoted (l : Launch) (D : va_G) (cA cB : ClassId) (h0 : Nat) (htb : Nat) (ln : Nat) (le : Nat) (ax : Nat) (kd : Int32) (pl : Nat) (lt : Nat) (vl : Int32) (tz : Nat → Int32) (hln : ln < 6001) (hle : le < 6001) (hax : ax < 6001) (hpl : pl < 6010) (hlt : lt < 6010) (htz : ∀ j, j < 6000 → ∃ k : Nat, k < 256 ∧ tz j = nI k) (hLo : LNo (sgn ln tz) le ax) (hll : le ≤ ln) (haxl : ax < le) : CV l yX7_readQuoted cX7_readQuoted 1 none 0 0 0 0 D cA cB [.ref h0] [(h0, .inr (7, [.ref htb, .int (nI ln), .int (nI le), .int (nI ax), .int kd, .int (nI pl), .int (nI lt), .int vl, .int (-1)])), (htb, .inl (cA, 6000, .inl tz))] (fun W1 => ∃ (ax2 : Nat) (kd2 : Int32) (vl2 : Int32) (ms2 : Int32), (ax2 < 6001) ∧ (ax ≤ ax2) ∧ (ax2 ≤ le) ∧ (kd2 = 259) ∧ ((ms2 = -1 ∧ ¬ inM (sgn ln tz (ax + 1)) 32 126 = 0 ∧ ax2 = ax + 2 ∧ vl2 = sgn ln tz (ax + 1)) ∨ (ms2 = nI (ax + 1) ∧ inM (sgn ln tz (ax + 1)) 32 126 = 0)) ∧ W1 = [(h0, .inr (7, [.ref htb, .int (nI ln), .int (nI le), .int (nI ax2), .int kd2, .int (nI pl), .int (nI lt), .int vl2, .int ms2])), (htb, .inl (cA, 6000, .inl tz))]) := by
  refine mkV (lv0 := [(0, .ref h0)]) (by decide) (Nat.le_of_ble_eq_true rfl) rfl ?_
  intro p e s m below meth c A ls X hr hlocks hnm hE hA hP hD hS hl
  have hx := X.1
  have hb := X.2.1
  refine qW (fun Q9 hQ9 => ?_)
  refine lv_aload_n hx hb dX7_readQuoted_0 rfl (lv_at hl 0 rfl) ?_
  refine lv_sipush (v := 259) hx hb dX7_readQuoted_1 (by decide) ?_
  refine k_put (C := RX7) (T := TX7) (N := 9) (ci := 7) (v := .int 259) (ty := .int) X hE hP hD hS 0 rfl rfl iX7 tyX7 tyX7_ok nmX7 4 (by decide) w_369 rfl (by decide +kernel) rfl rfl (Nat.le_of_ble_eq_true rfl) [(h0, .inr (7, [.ref htb, .int (nI ln), .int (nI le), .int (nI ax), .int 259, .int (nI pl), .int (nI lt), .int vl, .int (-1)])), (htb, .inl (cA, 6000, .inl tz))] rfl dX7_readQuoted_4 (fun H locs hP hD hS => ?_)
  refine lv_aload_n hx hb dX7_readQuoted_7 rfl (lv_at hl 0 rfl) ?_
  refine lv_dup hx hb dX7_readQuoted_8 rfl ?_
  refine k_get (C := RX7) (T := TX7) (N := 9) (ci := 7) (v := .int (nI ax)) X hE hP 0 rfl rfl iX7 3 (by decide) w_366 rfl dX7_readQuoted_9 ?_
  refine lv_iconst (v := 1) hx hb dX7_readQuoted_12 (by decide) ?_
  refine lv_iadd hx hb dX7_readQuoted_13 ?_
  refine tk (y := nI (ax + 1)) (nI_add ax 1) ?_
  refine k_put (C := RX7) (T := TX7) (N := 9) (ci := 7) (v := .int (nI (ax + 1))) (ty := .int) X hE hP hD hS 0 rfl rfl iX7 tyX7 tyX7_ok nmX7 3 (by decide) w_366 rfl (by decide +kernel) rfl rfl (Nat.le_of_ble_eq_true rfl) [(h0, .inr (7, [.ref htb, .int (nI ln), .int (nI le), .int (nI (ax + 1)), .int 259, .int (nI pl), .int (nI lt), .int vl, .int (-1)])), (htb, .inl (cA, 6000, .inl tz))] rfl dX7_readQuoted_14 (fun H locs hP hD hS => ?_)
  refine lv_aload_n hx hb dX7_readQuoted_17 rfl (lv_at hl 0 rfl) ?_
  refine k_get (C := RX7) (T := TX7) (N := 9) (ci := 7) (v := .int (nI (ax + 1))) X hE hP 0 rfl rfl iX7 3 (by decide) w_366 rfl dX7_readQuoted_18 ?_
  refine lv_aload_n hx hb dX7_readQuoted_21 rfl (lv_at hl 0 rfl) ?_
  refine k_get (C := RX7) (T := TX7) (N := 9) (ci := 7) (v := .int (nI le)) X hE hP 0 rfl rfl iX7 2 (by decide) w_367 rfl dX7_readQuoted_22 ?_
  refine lv_icmp_ge (tgt := 82) hx hb dX7_readQuoted_25 (by decide) (fun c_25_1 => ?_) (fun c_25_1 => ?_)
  · have nc_25_1 : le ≤ (ax + 1) := (nI_leI (a := le) (b := ax + 1) (by omega) (by omega)).mp c_25_1
    refine lv_aload_n hx hb dX7_readQuoted_82 rfl (lv_at hl 0 rfl) ?_
    refine lv_aload_n hx hb dX7_readQuoted_83 rfl (lv_at hl 0 rfl) ?_
    refine k_get (C := RX7) (T := TX7) (N := 9) (ci := 7) (v := .int (nI (ax + 1))) X hE hP 0 rfl rfl iX7 3 (by decide) w_366 rfl dX7_readQuoted_84 ?_
    refine k_put (C := RX7) (T := TX7) (N := 9) (ci := 7) (v := .int (nI (ax + 1))) (ty := .int) X hE hP hD hS 0 rfl rfl iX7 tyX7 tyX7_ok nmX7 8 (by decide) w_370 rfl (by decide +kernel) rfl rfl (Nat.le_of_ble_eq_true rfl) [(h0, .inr (7, [.ref htb, .int (nI ln), .int (nI le), .int (nI (ax + 1)), .int 259, .int (nI pl), .int (nI lt), .int vl, .int (nI (ax + 1))])), (htb, .inl (cA, 6000, .inl tz))] rfl dX7_readQuoted_87 (fun H locs hP hD hS => ?_)
    rw [hQ9]
    exact endV X hr hlocks hP hD hS dX7_readQuoted_90 ⟨(ax + 1), 259, vl, (nI (ax + 1)), (by omega), (by first | assumption | omega), (by first | assumption | omega), rfl, (Or.inr ⟨rfl, (eol_in (by have z : ax + 1 = le := (by omega); rw [z]; exact hLo.2.1) (by decide))⟩), rfl⟩
  · have nc_25_1 : (ax + 1) < le := Nat.not_le.mp (fun q => c_25_1 ((nI_leI (a := le) (b := ax + 1) (by omega) (by omega)).mpr q))
    refine lv_aload_n hx hb dX7_readQuoted_28 rfl (lv_at hl 0 rfl) ?_
    refine k_get (C := RX7) (T := TX7) (N := 9) (ci := 7) (v := .ref htb) X hE hP 0 rfl rfl iX7 0 (by decide) w_368 rfl dX7_readQuoted_29 ?_
    refine lv_aload_n hx hb dX7_readQuoted_32 rfl (lv_at hl 0 rfl) ?_
    refine k_get (C := RX7) (T := TX7) (N := 9) (ci := 7) (v := .int (nI (ax + 1))) X hE hP 0 rfl rfl iX7 3 (by decide) w_366 rfl dX7_readQuoted_33 ?_
    refine k_ald (v := sgn ln tz (ax + 1)) X hE hP 1 rfl (ax + 1) rfl (by omega) (by decide) (sgn_in (by omega)).symm dX7_readQuoted_36 ?_
    refine lv_bipush (v := 32) hx hb dX7_readQuoted_37 (by decide) ?_
    refine lv_icmp_lt (tgt := 82) hx hb dX7_readQuoted_39 (by decide) (fun c_39 => ?_) (fun c_39 => ?_)
    · skip
      refine lv_aload_n hx hb dX7_readQuoted_82 rfl (lv_at hl 0 rfl) ?_
      refine lv_aload_n hx hb dX7_readQuoted_83 rfl (lv_at hl 0 rfl) ?_
      refine k_get (C := RX7) (T := TX7) (N := 9) (ci := 7) (v := .int (nI (ax + 1))) X hE hP 0 rfl rfl iX7 3 (by decide) w_366 rfl dX7_readQuoted_84 ?_
      refine k_put (C := RX7) (T := TX7) (N := 9) (ci := 7) (v := .int (nI (ax + 1))) (ty := .int) X hE hP hD hS 0 rfl rfl iX7 tyX7 tyX7_ok nmX7 8 (by decide) w_370 rfl (by decide +kernel) rfl rfl (Nat.le_of_ble_eq_true rfl) [(h0, .inr (7, [.ref htb, .int (nI ln), .int (nI le), .int (nI (ax + 1)), .int 259, .int (nI pl), .int (nI lt), .int vl, .int (nI (ax + 1))])), (htb, .inl (cA, 6000, .inl tz))] rfl dX7_readQuoted_87 (fun H locs hP hD hS => ?_)
      rw [hQ9]
      exact endV X hr hlocks hP hD hS dX7_readQuoted_90 ⟨(ax + 1), 259, vl, (nI (ax + 1)), (by omega), (by first | assumption | omega), (by first | assumption | omega), rfl, (Or.inr ⟨rfl, (inM_l c_39)⟩), rfl⟩
    · skip
      refine lv_aload_n hx hb dX7_readQuoted_42 rfl (lv_at hl 0 rfl) ?_
      refine k_get (C := RX7) (T := TX7) (N := 9) (ci := 7) (v := .ref htb) X hE hP 0 rfl rfl iX7 0 (by decide) w_368 rfl dX7_readQuoted_43 ?_
      refine lv_aload_n hx hb dX7_readQuoted_46 rfl (lv_at hl 0 rfl) ?_
      refine k_get (C := RX7) (T := TX7) (N := 9) (ci := 7) (v := .int (nI (ax + 1))) X hE hP 0 rfl rfl iX7 3 (by decide) w_366 rfl dX7_readQuoted_47 ?_
      refine k_ald (v := sgn ln tz (ax + 1)) X hE hP 1 rfl (ax + 1) rfl (by omega) (by decide) (sgn_in (by omega)).symm dX7_readQuoted_50 ?_
      refine lv_bipush (v := 126) hx hb dX7_readQuoted_51 (by decide) ?_
      refine lv_icmp_gt (tgt := 82) hx hb dX7_readQuoted_53 (by decide) (fun c_53 => ?_) (fun c_53 => ?_)
      · skip
        refine lv_aload_n hx hb dX7_readQuoted_82 rfl (lv_at hl 0 rfl) ?_
        refine lv_aload_n hx hb dX7_readQuoted_83 rfl (lv_at hl 0 rfl) ?_
        refine k_get (C := RX7) (T := TX7) (N := 9) (ci := 7) (v := .int (nI (ax + 1))) X hE hP 0 rfl rfl iX7 3 (by decide) w_366 rfl dX7_readQuoted_84 ?_
        refine k_put (C := RX7) (T := TX7) (N := 9) (ci := 7) (v := .int (nI (ax + 1))) (ty := .int) X hE hP hD hS 0 rfl rfl iX7 tyX7 tyX7_ok nmX7 8 (by decide) w_370 rfl (by decide +kernel) rfl rfl (Nat.le_of_ble_eq_true rfl) [(h0, .inr (7, [.ref htb, .int (nI ln), .int (nI le), .int (nI (ax + 1)), .int 259, .int (nI pl), .int (nI lt), .int vl, .int (nI (ax + 1))])), (htb, .inl (cA, 6000, .inl tz))] rfl dX7_readQuoted_87 (fun H locs hP hD hS => ?_)
        rw [hQ9]
        exact endV X hr hlocks hP hD hS dX7_readQuoted_90 ⟨(ax + 1), 259, vl, (nI (ax + 1)), (by omega), (by first | assumption | omega), (by first | assumption | omega), rfl, (Or.inr ⟨rfl, (inM_h c_53)⟩), rfl⟩
      · skip
        refine lv_aload_n hx hb dX7_readQuoted_56 rfl (lv_at hl 0 rfl) ?_
        refine lv_aload_n hx hb dX7_readQuoted_57 rfl (lv_at hl 0 rfl) ?_
        refine k_get (C := RX7) (T := TX7) (N := 9) (ci := 7) (v := .ref htb) X hE hP 0 rfl rfl iX7 0 (by decide) w_368 rfl dX7_readQuoted_58 ?_
        refine lv_aload_n hx hb dX7_readQuoted_61 rfl (lv_at hl 0 rfl) ?_
        refine k_get (C := RX7) (T := TX7) (N := 9) (ci := 7) (v := .int (nI (ax + 1))) X hE hP 0 rfl rfl iX7 3 (by decide) w_366 rfl dX7_readQuoted_62 ?_
        refine k_ald (v := sgn ln tz (ax + 1)) X hE hP 1 rfl (ax + 1) rfl (by omega) (by decide) (sgn_in (by omega)).symm dX7_readQuoted_65 ?_
        refine k_put (C := RX7) (T := TX7) (N := 9) (ci := 7) (v := .int (sgn ln tz (ax + 1))) (ty := .int) X hE hP hD hS 0 rfl rfl iX7 tyX7 tyX7_ok nmX7 7 (by decide) w_371 rfl (by decide +kernel) rfl rfl (Nat.le_of_ble_eq_true rfl) [(h0, .inr (7, [.ref htb, .int (nI ln), .int (nI le), .int (nI (ax + 1)), .int 259, .int (nI pl), .int (nI lt), .int (sgn ln tz (ax + 1)), .int (-1)])), (htb, .inl (cA, 6000, .inl tz))] rfl dX7_readQuoted_66 (fun H locs hP hD hS => ?_)
        refine lv_aload_n hx hb dX7_readQuoted_69 rfl (lv_at hl 0 rfl) ?_
        refine lv_dup hx hb dX7_readQuoted_70 rfl ?_
        refine k_get (C := RX7) (T := TX7) (N := 9) (ci := 7) (v := .int (nI (ax + 1))) X hE hP 0 rfl rfl iX7 3 (by decide) w_366 rfl dX7_readQuoted_71 ?_
        refine lv_iconst (v := 1) hx hb dX7_readQuoted_74 (by decide) ?_
        refine lv_iadd hx hb dX7_readQuoted_75 ?_
        refine tk (y := nI (ax + 1 + 1)) (nI_add (ax + 1) 1) ?_
        refine k_put (C := RX7) (T := TX7) (N := 9) (ci := 7) (v := .int (nI (ax + 1 + 1))) (ty := .int) X hE hP hD hS 0 rfl rfl iX7 tyX7 tyX7_ok nmX7 3 (by decide) w_366 rfl (by decide +kernel) rfl rfl (Nat.le_of_ble_eq_true rfl) [(h0, .inr (7, [.ref htb, .int (nI ln), .int (nI le), .int (nI (ax + 1 + 1)), .int 259, .int (nI pl), .int (nI lt), .int (sgn ln tz (ax + 1)), .int (-1)])), (htb, .inl (cA, 6000, .inl tz))] rfl dX7_readQuoted_76 (fun H locs hP hD hS => ?_)
        refine lv_goto (tgt := 90) hx hb dX7_readQuoted_79 (by decide) ?_
        rw [hQ9]
        exact endV X hr hlocks hP hD hS dX7_readQuoted_90 ⟨(ax + 1 + 1), 259, (sgn ln tz (ax + 1)), (-1), (by omega), (by first | assumption | omega), (by first | assumption | omega), rfl, (Or.inl ⟨rfl, inM_1 c_39 c_53, rfl, rfl⟩), rfl⟩
set_option maxHeartbeats 4000000 in
set_option maxRecDepth 100000 in
theorem c_k_readDigits10 (l : Launch) (D : va_G) (cA cB : ClassId) (h0 : Nat) (htb : Nat) (ln : Nat) (le : Nat) (ax : Nat) (kd : Int32) (pl : Nat) (lt : Nat) (vl : Int32) (tz : Nat → Int32) (hln : ln < 6001) (hle : le < 6001) (hax : ax < 6001) (hpl : pl < 6010) (hlt : lt < 6010) (htz : ∀ j, j < 6000 → ∃ k : Nat, k < 256 ∧ tz j = nI k) (hLo : LNo (sgn ln tz) le ax) (hll : le ≤ ln) : CV l yX7_readDigits cX7_readDigits 5 none 1 20 0 0 D cA cB [.ref h0, .int 10, .int 5] [(h0, .inr (7, [.ref htb, .int (nI ln), .int (nI le), .int (nI ax), .int kd, .int (nI pl), .int (nI lt), .int vl, .int (-1)])), (htb, .inl (cA, 6000, .inl tz))] (fun W1 => ∃ (ax2 : Nat) (kd2 : Int32) (vl2 : Int32) (ms2 : Int32), (ax2 < 6001) ∧ (ax ≤ ax2) ∧ (ax2 ≤ le) ∧ (kd2 = 259) ∧ ((dgt 10 (sgn ln tz ax) = true ∧ ms2 = -1 ∧ ax2 = (num (sgn ln tz) 10 5 ax 0).1 ∧ vl2 = (num (sgn ln tz) 10 5 ax 0).2) ∨ (¬ dgt 10 (sgn ln tz ax) = true ∧ ms2 = nI ax)) ∧ W1 = [(h0, .inr (7, [.ref htb, .int (nI ln), .int (nI le), .int (nI ax2), .int kd2, .int (nI pl), .int (nI lt), .int vl2, .int ms2])), (htb, .inl (cA, 6000, .inl tz))]) := by
  refine mkV (lv0 := [(0, .ref h0), (1, .int 10), (2, .int 5)]) (by decide) (Nat.le_of_ble_eq_true rfl) rfl ?_
  intro p e s m below meth c A ls X hr hlocks hnm hE hA hP hD hS hl
  have hx := X.1
  have hb := X.2.1
  refine qW (fun Q9 hQ9 => ?_)
  refine lv_aload_n hx hb dX7_readDigits_0 rfl (lv_at hl 0 rfl) ?_
  refine lv_sipush (v := 259) hx hb dX7_readDigits_1 (by decide) ?_
  refine k_put (C := RX7) (T := TX7) (N := 9) (ci := 7) (v := .int 259) (ty := .int) X hE hP hD hS 0 rfl rfl iX7 tyX7 tyX7_ok nmX7 4 (by decide) w_369 rfl (by decide +kernel) rfl rfl (Nat.le_of_ble_eq_true rfl) [(h0, .inr (7, [.ref htb, .int (nI ln), .int (nI le), .int (nI ax), .int 259, .int (nI pl), .int (nI lt), .int vl, .int (-1)])), (htb, .inl (cA, 6000, .inl tz))] rfl dX7_readDigits_4 (fun H locs hP hD hS => ?_)
  refine lv_aload_n hx hb dX7_readDigits_7 rfl (lv_at hl 0 rfl) ?_
  refine lv_iconst (v := 0) hx hb dX7_readDigits_8 (by decide) ?_
  refine k_put (C := RX7) (T := TX7) (N := 9) (ci := 7) (v := .int 0) (ty := .int) X hE hP hD hS 0 rfl rfl iX7 tyX7 tyX7_ok nmX7 7 (by decide) w_371 rfl (by decide +kernel) rfl rfl (Nat.le_of_ble_eq_true rfl) [(h0, .inr (7, [.ref htb, .int (nI ln), .int (nI le), .int (nI ax), .int 259, .int (nI pl), .int (nI lt), .int 0, .int (-1)])), (htb, .inl (cA, 6000, .inl tz))] rfl dX7_readDigits_9 (fun H locs hP hD hS => ?_)
  refine lv_aload_n hx hb dX7_readDigits_12 rfl (lv_at hl 0 rfl) ?_
  refine k_get (C := RX7) (T := TX7) (N := 9) (ci := 7) (v := .int (nI ax)) X hE hP 0 rfl rfl iX7 3 (by decide) w_366 rfl dX7_readDigits_13 ?_
  refine lv_istore_n (lv' := [(3, .int (nI ax)), (0, .ref h0), (1, .int 10), (2, .int 5)]) hx hb dX7_readDigits_16 rfl hl (by decide) rfl (fun ls hl => ?_)
  have loop_17 : ∀ (n : Nat) (axv : Nat) (vlv : Int32) (dgl : Unit), (axv < 6001) → (ax ≤ axv) → (axv ≤ le) → (axv ≤ ax + 5) → (num (sgn ln tz) 10 (ax + 5 - axv) axv vlv = num (sgn ln tz) 10 5 ax 0) → (axv = ax ∨ dgt 10 (sgn ln tz ax) = true) → le - axv < n → ∀ (H : Heap) (locs : List Loc), va_P D classes [(h0, .inr (7, [.ref htb, .int (nI ln), .int (nI le), .int (nI axv), .int 259, .int (nI pl), .int (nI lt), .int vlv, .int (-1)])), (htb, .inl (cA, 6000, .inl tz))] H → va_D A [(h0, .inr (7, [.ref htb, .int (nI ln), .int (nI le), .int (nI axv), .int 259, .int (nI pl), .int (nI lt), .int vlv, .int (-1)])), (htb, .inl (cA, 6000, .inl tz))] → va_S A s.heap H locs → ∀ ls : Array Slot, lv_has ls 5 [(0, .ref h0), (1, .int 10), (2, .int 5), (3, .int (nI ax))] → W p l e { frames := 1, cells := 0, slots := 0, locals := 20 } s m (List.toArray [.ref h0, .int 10, .int 5]) below meth c H locs 0 0 Q9 (F0 m 17 ls []) := by
    intro n
    induction n with
    | zero => intro axv vlv dgl haxv hg1 hg2 hg3 hN hd0 hfuel; exact absurd hfuel (by omega)
    | succ n ih_17 =>
      intro axv vlv dgl haxv hg1 hg2 hg3 hN hd0 hfuel H locs hP hD hS ls hl
      refine lv_aload_n hx hb dX7_readDigits_17 rfl (lv_at hl 0 rfl) ?_
      refine k_get (C := RX7) (T := TX7) (N := 9) (ci := 7) (v := .int (nI axv)) X hE hP 0 rfl rfl iX7 3 (by decide) w_366 rfl dX7_readDigits_18 ?_
      refine lv_aload_n hx hb dX7_readDigits_21 rfl (lv_at hl 0 rfl) ?_
      refine k_get (C := RX7) (T := TX7) (N := 9) (ci := 7) (v := .int (nI le)) X hE hP 0 rfl rfl iX7 2 (by decide) w_367 rfl dX7_readDigits_22 ?_
      refine lv_icmp_ge (tgt := 93) hx hb dX7_readDigits_25 (by decide) (fun c_25_1 => ?_) (fun c_25_1 => ?_)
      · have nc_25_1 : le ≤ axv := (nI_leI (a := le) (b := axv) (by omega) (by omega)).mp c_25_1
        refine lv_aload_n hx hb dX7_readDigits_93 rfl (lv_at hl 0 rfl) ?_
        refine k_get (C := RX7) (T := TX7) (N := 9) (ci := 7) (v := .int (nI axv)) X hE hP 0 rfl rfl iX7 3 (by decide) w_366 rfl dX7_readDigits_94 ?_
        refine lv_iload_n hx hb dX7_readDigits_97 rfl (lv_at hl 3 rfl) ?_
        refine lv_icmp_ne (tgt := 109) hx hb dX7_readDigits_98 (by decide) (fun c_98_2 => ?_) (fun c_98_2 => ?_)
        · have nc_98_2 : ¬ axv = ax := fun q => c_98_2 ((nI_eq (a := axv) (b := ax) (by omega) (by omega)).mpr q)
          rw [hQ9]
          exact endV X hr hlocks hP hD hS dX7_readDigits_109 ⟨axv, 259, vlv, (-1), haxv, (by first | assumption | omega), (by first | assumption | omega), rfl, (Or.inl ⟨hd0.resolve_left (by omega), rfl, by rw [← hN, (num_stop (Or.inr (eol_dgt (by have z : axv = le := (by omega); rw [z]; exact hLo.2.1))))], by rw [← hN, (num_stop (Or.inr (eol_dgt (by have z : axv = le := (by omega); rw [z]; exact hLo.2.1))))]⟩), rfl⟩
        · have nc_98_2 : axv = ax := (nI_eq (a := axv) (b := ax) (by omega) (by omega)).mp c_98_2
          refine lv_aload_n hx hb dX7_readDigits_101 rfl (lv_at hl 0 rfl) ?_
          refine lv_aload_n hx hb dX7_readDigits_102 rfl (lv_at hl 0 rfl) ?_
          refine k_get (C := RX7) (T := TX7) (N := 9) (ci := 7) (v := .int (nI axv)) X hE hP 0 rfl rfl iX7 3 (by decide) w_366 rfl dX7_readDigits_103 ?_
          refine k_put (C := RX7) (T := TX7) (N := 9) (ci := 7) (v := .int (nI axv)) (ty := .int) X hE hP hD hS 0 rfl rfl iX7 tyX7 tyX7_ok nmX7 8 (by decide) w_370 rfl (by decide +kernel) rfl rfl (Nat.le_of_ble_eq_true rfl) [(h0, .inr (7, [.ref htb, .int (nI ln), .int (nI le), .int (nI axv), .int 259, .int (nI pl), .int (nI lt), .int vlv, .int (nI axv)])), (htb, .inl (cA, 6000, .inl tz))] rfl dX7_readDigits_106 (fun H locs hP hD hS => ?_)
          rw [hQ9]
          exact endV X hr hlocks hP hD hS dX7_readDigits_109 ⟨axv, 259, vlv, (nI axv), haxv, (by first | assumption | omega), (by first | assumption | omega), rfl, (Or.inr ⟨by rw [show ax = axv by omega]; exact (eol_dgt (by have z : axv = le := (by omega); rw [z]; exact hLo.2.1)), by rw [show ax = axv by omega]⟩), rfl⟩
      · have nc_25_1 : axv < le := Nat.not_le.mp (fun q => c_25_1 ((nI_leI (a := le) (b := axv) (by omega) (by omega)).mpr q))
        refine lv_aload_n hx hb dX7_readDigits_28 rfl (lv_at hl 0 rfl) ?_
        refine k_get (C := RX7) (T := TX7) (N := 9) (ci := 7) (v := .int (nI axv)) X hE hP 0 rfl rfl iX7 3 (by decide) w_366 rfl dX7_readDigits_29 ?_
        refine lv_iload_n hx hb dX7_readDigits_32 rfl (lv_at hl 3 rfl) ?_
        refine lv_iload_n hx hb dX7_readDigits_33 rfl (lv_at hl 2 rfl) ?_
        refine lv_iadd hx hb dX7_readDigits_34 ?_
        refine tk (y := nI (ax + 5)) (nI_add ax 5) ?_
        refine lv_icmp_ge (tgt := 93) hx hb dX7_readDigits_35 (by decide) (fun c_35_3 => ?_) (fun c_35_3 => ?_)
        · have nc_35_3 : (ax + 5) ≤ axv := (nI_leI (a := ax + 5) (b := axv) (by omega) (by omega)).mp c_35_3
          refine lv_aload_n hx hb dX7_readDigits_93 rfl (lv_at hl 0 rfl) ?_
          refine k_get (C := RX7) (T := TX7) (N := 9) (ci := 7) (v := .int (nI axv)) X hE hP 0 rfl rfl iX7 3 (by decide) w_366 rfl dX7_readDigits_94 ?_
          refine lv_iload_n hx hb dX7_readDigits_97 rfl (lv_at hl 3 rfl) ?_
          refine lv_icmp_ne (tgt := 109) hx hb dX7_readDigits_98 (by decide) (fun c_98_4 => ?_) (fun c_98_4 => ?_)
          · have nc_98_4 : ¬ axv = ax := fun q => c_98_4 ((nI_eq (a := axv) (b := ax) (by omega) (by omega)).mpr q)
            rw [hQ9]
            exact endV X hr hlocks hP hD hS dX7_readDigits_109 ⟨axv, 259, vlv, (-1), haxv, (by first | assumption | omega), (by first | assumption | omega), rfl, (Or.inl ⟨hd0.resolve_left (by omega), rfl, by rw [← hN, (num_stop (Or.inl (by omega)))], by rw [← hN, (num_stop (Or.inl (by omega)))]⟩), rfl⟩
          · have nc_98_4 : axv = ax := (nI_eq (a := axv) (b := ax) (by omega) (by omega)).mp c_98_4
            refine lv_aload_n hx hb dX7_readDigits_101 rfl (lv_at hl 0 rfl) ?_
            refine lv_aload_n hx hb dX7_readDigits_102 rfl (lv_at hl 0 rfl) ?_
            refine k_get (C := RX7) (T := TX7) (N := 9) (ci := 7) (v := .int (nI axv)) X hE hP 0 rfl rfl iX7 3 (by decide) w_366 rfl dX7_readDigits_103 ?_
            refine k_put (C := RX7) (T := TX7) (N := 9) (ci := 7) (v := .int (nI axv)) (ty := .int) X hE hP hD hS 0 rfl rfl iX7 tyX7 tyX7_ok nmX7 8 (by decide) w_370 rfl (by decide +kernel) rfl rfl (Nat.le_of_ble_eq_true rfl) [(h0, .inr (7, [.ref htb, .int (nI ln), .int (nI le), .int (nI axv), .int 259, .int (nI pl), .int (nI lt), .int vlv, .int (nI axv)])), (htb, .inl (cA, 6000, .inl tz))] rfl dX7_readDigits_106 (fun H locs hP hD hS => ?_)
            rw [hQ9]
            exact endV X hr hlocks hP hD hS dX7_readDigits_109 ⟨axv, 259, vlv, (nI axv), haxv, (by first | assumption | omega), (by first | assumption | omega), rfl, (absurd (show False by omega) id), rfl⟩
        · have nc_35_3 : axv < (ax + 5) := Nat.not_le.mp (fun q => c_35_3 ((nI_leI (a := ax + 5) (b := axv) (by omega) (by omega)).mpr q))
          refine lv_aload_n hx hb dX7_readDigits_38 rfl (lv_at hl 0 rfl) ?_
          refine k_get (C := RX7) (T := TX7) (N := 9) (ci := 7) (v := .ref htb) X hE hP 0 rfl rfl iX7 0 (by decide) w_368 rfl dX7_readDigits_39 ?_
          refine lv_aload_n hx hb dX7_readDigits_42 rfl (lv_at hl 0 rfl) ?_
          refine k_get (C := RX7) (T := TX7) (N := 9) (ci := 7) (v := .int (nI axv)) X hE hP 0 rfl rfl iX7 3 (by decide) w_366 rfl dX7_readDigits_43 ?_
          refine k_ald (v := sgn ln tz axv) X hE hP 1 rfl axv rfl (by omega) (by decide) (sgn_in (by omega)).symm dX7_readDigits_46 ?_
          refine kSi (n3 := 1) (As := [.int (sgn ln tz axv)]) (rest := []) X hl.1 hE hP hD hS hA [] [(h0, .inr (7, [.ref htb, .int (nI ln), .int (nI le), .int (nI axv), .int 259, .int (nI pl), .int (nI lt), .int vlv, .int (-1)])), (htb, .inl (cA, 6000, .inl tz))] [] [0, 1] rfl rfl rfl (by decide +kernel) (by decide +kernel) (by decide +kernel) (c_k_digit l D cA cB (sgn ln tz axv) ) w_373 w_374 w_372 w_375 (by decide +kernel) rfl rfl (Nat.le_of_ble_eq_true rfl) ⟨(Nat.le_of_ble_eq_true rfl), (Nat.le_of_ble_eq_true rfl)⟩ ⟨(Nat.le_of_ble_eq_true rfl), (Nat.le_of_ble_eq_true rfl)⟩ dX7_readDigits_47 (fun r W1 H locs hw hP hD hS => ?_)
          obtain ⟨rv_5, er_7, hf_6, rfl⟩ := hw
          have hP : va_P D classes [(h0, .inr (7, [.ref htb, .int (nI ln), .int (nI le), .int (nI axv), .int 259, .int (nI pl), .int (nI lt), .int vlv, .int (-1)])), (htb, .inl (cA, 6000, .inl tz))] H := hP
          have hD : va_D A [(h0, .inr (7, [.ref htb, .int (nI ln), .int (nI le), .int (nI axv), .int 259, .int (nI pl), .int (nI lt), .int vlv, .int (-1)])), (htb, .inl (cA, 6000, .inl tz))] := hD
          refine tk (y := rv_5) er_7 ?_
          rcases hf_6 with ⟨d_8, b1_9, rfl, i1_10, dv_11⟩ | ⟨d_12, b1_13, b2_14, rfl, i1_15, i2_16, dv_17⟩ | ⟨rfl, i1_18, i2_19⟩
          · skip
            refine lv_istore (lv' := [(4, .int (nI d_8)), (0, .ref h0), (1, .int 10), (2, .int 5), (3, .int (nI ax))]) hx hb dX7_readDigits_50 hl (by decide) rfl (fun ls hl => ?_)
            refine lv_iload hx hb dX7_readDigits_52 (lv_at hl 0 rfl) ?_
            refine lv_iconst (v := (-1)) hx hb dX7_readDigits_54 (by decide) ?_
            refine lv_icmp_eq (tgt := 93) hx hb dX7_readDigits_55 (by decide) (fun c_55 => absurd c_55 (nI_nm1 (a := d_8) (by omega))) (fun c_55 => ?_)
            refine lv_iload hx hb dX7_readDigits_58 (lv_at hl 0 rfl) ?_
            refine lv_iload_n hx hb dX7_readDigits_60 rfl (lv_at hl 2 rfl) ?_
            refine lv_icmp_lt (tgt := 67) hx hb dX7_readDigits_61 (by decide) (fun c_61 => ?_) (fun c_61 => absurd ((nI_ltI (a := d_8) (b := 10) (by omega) (by omega)).mpr (by omega)) c_61)
            refine lv_aload_n hx hb dX7_readDigits_67 rfl (lv_at hl 1 rfl) ?_
            refine lv_aload_n hx hb dX7_readDigits_68 rfl (lv_at hl 1 rfl) ?_
            refine k_get (C := RX7) (T := TX7) (N := 9) (ci := 7) (v := .int vlv) X hE hP 0 rfl rfl iX7 7 (by decide) w_371 rfl dX7_readDigits_69 ?_
            refine lv_iload_n hx hb dX7_readDigits_72 rfl (lv_at hl 2 rfl) ?_
            refine lv_imul hx hb dX7_readDigits_73 ?_
            refine lv_iload hx hb dX7_readDigits_74 (lv_at hl 0 rfl) ?_
            refine lv_iadd hx hb dX7_readDigits_76 ?_
            refine k_put (C := RX7) (T := TX7) (N := 9) (ci := 7) (v := .int ((vlv * 10) + (nI d_8))) (ty := .int) X hE hP hD hS 0 rfl rfl iX7 tyX7 tyX7_ok nmX7 7 (by decide) w_371 rfl (by decide +kernel) rfl rfl (Nat.le_of_ble_eq_true rfl) [(h0, .inr (7, [.ref htb, .int (nI ln), .int (nI le), .int (nI axv), .int 259, .int (nI pl), .int (nI lt), .int ((vlv * 10) + (nI d_8)), .int (-1)])), (htb, .inl (cA, 6000, .inl tz))] rfl dX7_readDigits_77 (fun H locs hP hD hS => ?_)
            refine lv_aload_n hx hb dX7_readDigits_80 rfl (lv_at hl 1 rfl) ?_
            refine lv_dup hx hb dX7_readDigits_81 rfl ?_
            refine k_get (C := RX7) (T := TX7) (N := 9) (ci := 7) (v := .int (nI axv)) X hE hP 0 rfl rfl iX7 3 (by decide) w_366 rfl dX7_readDigits_82 ?_
            refine lv_iconst (v := 1) hx hb dX7_readDigits_85 (by decide) ?_
            refine lv_iadd hx hb dX7_readDigits_86 ?_
            refine tk (y := nI (axv + 1)) (nI_add axv 1) ?_
            refine k_put (C := RX7) (T := TX7) (N := 9) (ci := 7) (v := .int (nI (axv + 1))) (ty := .int) X hE hP hD hS 0 rfl rfl iX7 tyX7 tyX7_ok nmX7 3 (by decide) w_366 rfl (by decide +kernel) rfl rfl (Nat.le_of_ble_eq_true rfl) [(h0, .inr (7, [.ref htb, .int (nI ln), .int (nI le), .int (nI (axv + 1)), .int 259, .int (nI pl), .int (nI lt), .int ((vlv * 10) + (nI d_8)), .int (-1)])), (htb, .inl (cA, 6000, .inl tz))] rfl dX7_readDigits_87 (fun H locs hP hD hS => ?_)
            refine lv_goto (tgt := 17) hx hb dX7_readDigits_90 (by decide) ?_
            exact ih_17 (axv + 1) ((vlv * 10) + (nI d_8)) () (by omega) (by omega) (by omega) (by omega) (by rw [← hN, num_step (by omega) (dgt_d i1_10), dv_11, Int32.mul_comm]) (Or.inr (by rcases hd0 with z | z; rw [← z]; exact (dgt_d i1_10); exact z)) (by omega) _ _ hP hD hS ls (lv_sub hl [1, 2, 3, 4] rfl)
          · skip
            refine lv_istore (lv' := [(4, .int (nI d_12)), (0, .ref h0), (1, .int 10), (2, .int 5), (3, .int (nI ax))]) hx hb dX7_readDigits_50 hl (by decide) rfl (fun ls hl => ?_)
            refine lv_iload hx hb dX7_readDigits_52 (lv_at hl 0 rfl) ?_
            refine lv_iconst (v := (-1)) hx hb dX7_readDigits_54 (by decide) ?_
            refine lv_icmp_eq (tgt := 93) hx hb dX7_readDigits_55 (by decide) (fun c_55 => absurd c_55 (nI_nm1 (a := d_12) (by omega))) (fun c_55 => ?_)
            refine lv_iload hx hb dX7_readDigits_58 (lv_at hl 0 rfl) ?_
            refine lv_iload_n hx hb dX7_readDigits_60 rfl (lv_at hl 2 rfl) ?_
            refine lv_icmp_lt (tgt := 67) hx hb dX7_readDigits_61 (by decide) (fun c_61 => absurd c_61 (fun q => absurd ((nI_ltI (a := d_12) (b := 10) (by omega) (by omega)).mp q) (by omega))) (fun c_61 => ?_)
            refine lv_goto (tgt := 93) hx hb dX7_readDigits_64 (by decide) ?_
            refine lv_aload_n hx hb dX7_readDigits_93 rfl (lv_at hl 1 rfl) ?_
            refine k_get (C := RX7) (T := TX7) (N := 9) (ci := 7) (v := .int (nI axv)) X hE hP 0 rfl rfl iX7 3 (by decide) w_366 rfl dX7_readDigits_94 ?_
            refine lv_iload_n hx hb dX7_readDigits_97 rfl (lv_at hl 4 rfl) ?_
            refine lv_icmp_ne (tgt := 109) hx hb dX7_readDigits_98 (by decide) (fun c_98_20 => ?_) (fun c_98_20 => ?_)
            · have nc_98_20 : ¬ axv = ax := fun q => c_98_20 ((nI_eq (a := axv) (b := ax) (by omega) (by omega)).mpr q)
              rw [hQ9]
              exact endV X hr hlocks hP hD hS dX7_readDigits_109 ⟨axv, 259, vlv, (-1), haxv, (by first | assumption | omega), (by first | assumption | omega), rfl, (Or.inl ⟨hd0.resolve_left (by omega), rfl, by rw [← hN, (num_stop (Or.inr (dgt_10 i1_15)))], by rw [← hN, (num_stop (Or.inr (dgt_10 i1_15)))]⟩), rfl⟩
            · have nc_98_20 : axv = ax := (nI_eq (a := axv) (b := ax) (by omega) (by omega)).mp c_98_20
              refine lv_aload_n hx hb dX7_readDigits_101 rfl (lv_at hl 1 rfl) ?_
              refine lv_aload_n hx hb dX7_readDigits_102 rfl (lv_at hl 1 rfl) ?_
              refine k_get (C := RX7) (T := TX7) (N := 9) (ci := 7) (v := .int (nI axv)) X hE hP 0 rfl rfl iX7 3 (by decide) w_366 rfl dX7_readDigits_103 ?_
              refine k_put (C := RX7) (T := TX7) (N := 9) (ci := 7) (v := .int (nI axv)) (ty := .int) X hE hP hD hS 0 rfl rfl iX7 tyX7 tyX7_ok nmX7 8 (by decide) w_370 rfl (by decide +kernel) rfl rfl (Nat.le_of_ble_eq_true rfl) [(h0, .inr (7, [.ref htb, .int (nI ln), .int (nI le), .int (nI axv), .int 259, .int (nI pl), .int (nI lt), .int vlv, .int (nI axv)])), (htb, .inl (cA, 6000, .inl tz))] rfl dX7_readDigits_106 (fun H locs hP hD hS => ?_)
              rw [hQ9]
              exact endV X hr hlocks hP hD hS dX7_readDigits_109 ⟨axv, 259, vlv, (nI axv), haxv, (by first | assumption | omega), (by first | assumption | omega), rfl, (Or.inr ⟨by rw [show ax = axv by omega]; exact (dgt_10 i1_15), by rw [show ax = axv by omega]⟩), rfl⟩
          · skip
            refine lv_istore (lv' := [(4, .int (-1)), (0, .ref h0), (1, .int 10), (2, .int 5), (3, .int (nI ax))]) hx hb dX7_readDigits_50 hl (by decide) rfl (fun ls hl => ?_)
            refine lv_iload hx hb dX7_readDigits_52 (lv_at hl 0 rfl) ?_
            refine lv_iconst (v := (-1)) hx hb dX7_readDigits_54 (by decide) ?_
            refine lv_icmp_eq (tgt := 93) hx hb dX7_readDigits_55 (by decide) (fun c_55 => ?_) (fun c_55 => absurd (by decide) c_55)
            refine lv_aload_n hx hb dX7_readDigits_93 rfl (lv_at hl 1 rfl) ?_
            refine k_get (C := RX7) (T := TX7) (N := 9) (ci := 7) (v := .int (nI axv)) X hE hP 0 rfl rfl iX7 3 (by decide) w_366 rfl dX7_readDigits_94 ?_
            refine lv_iload_n hx hb dX7_readDigits_97 rfl (lv_at hl 4 rfl) ?_
            refine lv_icmp_ne (tgt := 109) hx hb dX7_readDigits_98 (by decide) (fun c_98_21 => ?_) (fun c_98_21 => ?_)
            · have nc_98_21 : ¬ axv = ax := fun q => c_98_21 ((nI_eq (a := axv) (b := ax) (by omega) (by omega)).mpr q)
              rw [hQ9]
              exact endV X hr hlocks hP hD hS dX7_readDigits_109 ⟨axv, 259, vlv, (-1), haxv, (by first | assumption | omega), (by first | assumption | omega), rfl, (Or.inl ⟨hd0.resolve_left (by omega), rfl, by rw [← hN, (num_stop (Or.inr (dgt_no i1_18 i2_19)))], by rw [← hN, (num_stop (Or.inr (dgt_no i1_18 i2_19)))]⟩), rfl⟩
            · have nc_98_21 : axv = ax := (nI_eq (a := axv) (b := ax) (by omega) (by omega)).mp c_98_21
              refine lv_aload_n hx hb dX7_readDigits_101 rfl (lv_at hl 1 rfl) ?_
              refine lv_aload_n hx hb dX7_readDigits_102 rfl (lv_at hl 1 rfl) ?_
              refine k_get (C := RX7) (T := TX7) (N := 9) (ci := 7) (v := .int (nI axv)) X hE hP 0 rfl rfl iX7 3 (by decide) w_366 rfl dX7_readDigits_103 ?_
              refine k_put (C := RX7) (T := TX7) (N := 9) (ci := 7) (v := .int (nI axv)) (ty := .int) X hE hP hD hS 0 rfl rfl iX7 tyX7 tyX7_ok nmX7 8 (by decide) w_370 rfl (by decide +kernel) rfl rfl (Nat.le_of_ble_eq_true rfl) [(h0, .inr (7, [.ref htb, .int (nI ln), .int (nI le), .int (nI axv), .int 259, .int (nI pl), .int (nI lt), .int vlv, .int (nI axv)])), (htb, .inl (cA, 6000, .inl tz))] rfl dX7_readDigits_106 (fun H locs hP hD hS => ?_)
              rw [hQ9]
              exact endV X hr hlocks hP hD hS dX7_readDigits_109 ⟨axv, 259, vlv, (nI axv), haxv, (by first | assumption | omega), (by first | assumption | omega), rfl, (Or.inr ⟨by rw [show ax = axv by omega]; exact (dgt_no i1_18 i2_19), by rw [show ax = axv by omega]⟩), rfl⟩
  exact loop_17 6002 ax 0 () hax (by omega) hLo.1 (by omega) (by rw [show ax + 5 - ax = 5 by omega]) (Or.inl rfl) (by omega) _ _ hP hD hS ls (lv_sub hl [1, 2, 3, 0] rfl)
set_option maxHeartbeats 4000000 in
set_option maxRecDepth 100000 in
theorem c_k_readDigits16 (l : Launch) (D : va_G) (cA cB : ClassId) (h0 : Nat) (htb : Nat) (ln : Nat) (le : Nat) (ax : Nat) (kd : Int32) (pl : Nat) (lt : Nat) (vl : Int32) (tz : Nat → Int32) (hln : ln < 6001) (hle : le < 6001) (hax : ax < 6001) (hpl : pl < 6010) (hlt : lt < 6010) (htz : ∀ j, j < 6000 → ∃ k : Nat, k < 256 ∧ tz j = nI k) (hLo : LNo (sgn ln tz) le ax) (hll : le ≤ ln) : CV l yX7_readDigits cX7_readDigits 5 none 1 20 0 0 D cA cB [.ref h0, .int 16, .int 4] [(h0, .inr (7, [.ref htb, .int (nI ln), .int (nI le), .int (nI ax), .int kd, .int (nI pl), .int (nI lt), .int vl, .int (-1)])), (htb, .inl (cA, 6000, .inl tz))] (fun W1 => ∃ (ax2 : Nat) (kd2 : Int32) (vl2 : Int32) (ms2 : Int32), (ax2 < 6001) ∧ (ax ≤ ax2) ∧ (ax2 ≤ le) ∧ (kd2 = 259) ∧ ((dgt 16 (sgn ln tz ax) = true ∧ ms2 = -1 ∧ ax2 = (num (sgn ln tz) 16 4 ax 0).1 ∧ vl2 = (num (sgn ln tz) 16 4 ax 0).2) ∨ (¬ dgt 16 (sgn ln tz ax) = true ∧ ms2 = nI ax)) ∧ W1 = [(h0, .inr (7, [.ref htb, .int (nI ln), .int (nI le), .int (nI ax2), .int kd2, .int (nI pl), .int (nI lt), .int vl2, .int ms2])), (htb, .inl (cA, 6000, .inl tz))]) := by
  refine mkV (lv0 := [(0, .ref h0), (1, .int 16), (2, .int 4)]) (by decide) (Nat.le_of_ble_eq_true rfl) rfl ?_
  intro p e s m below meth c A ls X hr hlocks hnm hE hA hP hD hS hl
  have hx := X.1
  have hb := X.2.1
  refine qW (fun Q9 hQ9 => ?_)
  refine lv_aload_n hx hb dX7_readDigits_0 rfl (lv_at hl 0 rfl) ?_
  refine lv_sipush (v := 259) hx hb dX7_readDigits_1 (by decide) ?_
  refine k_put (C := RX7) (T := TX7) (N := 9) (ci := 7) (v := .int 259) (ty := .int) X hE hP hD hS 0 rfl rfl iX7 tyX7 tyX7_ok nmX7 4 (by decide) w_369 rfl (by decide +kernel) rfl rfl (Nat.le_of_ble_eq_true rfl) [(h0, .inr (7, [.ref htb, .int (nI ln), .int (nI le), .int (nI ax), .int 259, .int (nI pl), .int (nI lt), .int vl, .int (-1)])), (htb, .inl (cA, 6000, .inl tz))] rfl dX7_readDigits_4 (fun H locs hP hD hS => ?_)
  refine lv_aload_n hx hb dX7_readDigits_7 rfl (lv_at hl 0 rfl) ?_
  refine lv_iconst (v := 0) hx hb dX7_readDigits_8 (by decide) ?_
  refine k_put (C := RX7) (T := TX7) (N := 9) (ci := 7) (v := .int 0) (ty := .int) X hE hP hD hS 0 rfl rfl iX7 tyX7 tyX7_ok nmX7 7 (by decide) w_371 rfl (by decide +kernel) rfl rfl (Nat.le_of_ble_eq_true rfl) [(h0, .inr (7, [.ref htb, .int (nI ln), .int (nI le), .int (nI ax), .int 259, .int (nI pl), .int (nI lt), .int 0, .int (-1)])), (htb, .inl (cA, 6000, .inl tz))] rfl dX7_readDigits_9 (fun H locs hP hD hS => ?_)
  refine lv_aload_n hx hb dX7_readDigits_12 rfl (lv_at hl 0 rfl) ?_
  refine k_get (C := RX7) (T := TX7) (N := 9) (ci := 7) (v := .int (nI ax)) X hE hP 0 rfl rfl iX7 3 (by decide) w_366 rfl dX7_readDigits_13 ?_
  refine lv_istore_n (lv' := [(3, .int (nI ax)), (0, .ref h0), (1, .int 16), (2, .int 4)]) hx hb dX7_readDigits_16 rfl hl (by decide) rfl (fun ls hl => ?_)
  have loop_17 : ∀ (n : Nat) (axv : Nat) (vlv : Int32) (dgl : Unit), (axv < 6001) → (ax ≤ axv) → (axv ≤ le) → (axv ≤ ax + 4) → (num (sgn ln tz) 16 (ax + 4 - axv) axv vlv = num (sgn ln tz) 16 4 ax 0) → (axv = ax ∨ dgt 16 (sgn ln tz ax) = true) → le - axv < n → ∀ (H : Heap) (locs : List Loc), va_P D classes [(h0, .inr (7, [.ref htb, .int (nI ln), .int (nI le), .int (nI axv), .int 259, .int (nI pl), .int (nI lt), .int vlv, .int (-1)])), (htb, .inl (cA, 6000, .inl tz))] H → va_D A [(h0, .inr (7, [.ref htb, .int (nI ln), .int (nI le), .int (nI axv), .int 259, .int (nI pl), .int (nI lt), .int vlv, .int (-1)])), (htb, .inl (cA, 6000, .inl tz))] → va_S A s.heap H locs → ∀ ls : Array Slot, lv_has ls 5 [(0, .ref h0), (1, .int 16), (2, .int 4), (3, .int (nI ax))] → W p l e { frames := 1, cells := 0, slots := 0, locals := 20 } s m (List.toArray [.ref h0, .int 16, .int 4]) below meth c H locs 0 0 Q9 (F0 m 17 ls []) := by
    intro n
    induction n with
    | zero => intro axv vlv dgl haxv hg1 hg2 hg3 hN hd0 hfuel; exact absurd hfuel (by omega)
    | succ n ih_17 =>
      intro axv vlv dgl haxv hg1 hg2 hg3 hN hd0 hfuel H locs hP hD hS ls hl
      refine lv_aload_n hx hb dX7_readDigits_17 rfl (lv_at hl 0 rfl) ?_
      refine k_get (C := RX7) (T := TX7) (N := 9) (ci := 7) (v := .int (nI axv)) X hE hP 0 rfl rfl iX7 3 (by decide) w_366 rfl dX7_readDigits_18 ?_
      refine lv_aload_n hx hb dX7_readDigits_21 rfl (lv_at hl 0 rfl) ?_
      refine k_get (C := RX7) (T := TX7) (N := 9) (ci := 7) (v := .int (nI le)) X hE hP 0 rfl rfl iX7 2 (by decide) w_367 rfl dX7_readDigits_22 ?_
      refine lv_icmp_ge (tgt := 93) hx hb dX7_readDigits_25 (by decide) (fun c_25_1 => ?_) (fun c_25_1 => ?_)
      · have nc_25_1 : le ≤ axv := (nI_leI (a := le) (b := axv) (by omega) (by omega)).mp c_25_1
        refine lv_aload_n hx hb dX7_readDigits_93 rfl (lv_at hl 0 rfl) ?_
        refine k_get (C := RX7) (T := TX7) (N := 9) (ci := 7) (v := .int (nI axv)) X hE hP 0 rfl rfl iX7 3 (by decide) w_366 rfl dX7_readDigits_94 ?_
        refine lv_iload_n hx hb dX7_readDigits_97 rfl (lv_at hl 3 rfl) ?_
        refine lv_icmp_ne (tgt := 109) hx hb dX7_readDigits_98 (by decide) (fun c_98_2 => ?_) (fun c_98_2 => ?_)
        · have nc_98_2 : ¬ axv = ax := fun q => c_98_2 ((nI_eq (a := axv) (b := ax) (by omega) (by omega)).mpr q)
          rw [hQ9]
          exact endV X hr hlocks hP hD hS dX7_readDigits_109 ⟨axv, 259, vlv, (-1), haxv, (by first | assumption | omega), (by first | assumption | omega), rfl, (Or.inl ⟨hd0.resolve_left (by omega), rfl, by rw [← hN, (num_stop (Or.inr (eol_dgt (by have z : axv = le := (by omega); rw [z]; exact hLo.2.1))))], by rw [← hN, (num_stop (Or.inr (eol_dgt (by have z : axv = le := (by omega); rw [z]; exact hLo.2.1))))]⟩), rfl⟩
        · have nc_98_2 : axv = ax := (nI_eq (a := axv) (b := ax) (by omega) (by omega)).mp c_98_2
          refine lv_aload_n hx hb dX7_readDigits_101 rfl (lv_at hl 0 rfl) ?_
          refine lv_aload_n hx hb dX7_readDigits_102 rfl (lv_at hl 0 rfl) ?_
          refine k_get (C := RX7) (T := TX7) (N := 9) (ci := 7) (v := .int (nI axv)) X hE hP 0 rfl rfl iX7 3 (by decide) w_366 rfl dX7_readDigits_103 ?_
          refine k_put (C := RX7) (T := TX7) (N := 9) (ci := 7) (v := .int (nI axv)) (ty := .int) X hE hP hD hS 0 rfl rfl iX7 tyX7 tyX7_ok nmX7 8 (by decide) w_370 rfl (by decide +kernel) rfl rfl (Nat.le_of_ble_eq_true rfl) [(h0, .inr (7, [.ref htb, .int (nI ln), .int (nI le), .int (nI axv), .int 259, .int (nI pl), .int (nI lt), .int vlv, .int (nI axv)])), (htb, .inl (cA, 6000, .inl tz))] rfl dX7_readDigits_106 (fun H locs hP hD hS => ?_)
          rw [hQ9]
          exact endV X hr hlocks hP hD hS dX7_readDigits_109 ⟨axv, 259, vlv, (nI axv), haxv, (by first | assumption | omega), (by first | assumption | omega), rfl, (Or.inr ⟨by rw [show ax = axv by omega]; exact (eol_dgt (by have z : axv = le := (by omega); rw [z]; exact hLo.2.1)), by rw [show ax = axv by omega]⟩), rfl⟩
      · have nc_25_1 : axv < le := Nat.not_le.mp (fun q => c_25_1 ((nI_leI (a := le) (b := axv) (by omega) (by omega)).mpr q))
        refine lv_aload_n hx hb dX7_readDigits_28 rfl (lv_at hl 0 rfl) ?_
        refine k_get (C := RX7) (T := TX7) (N := 9) (ci := 7) (v := .int (nI axv)) X hE hP 0 rfl rfl iX7 3 (by decide) w_366 rfl dX7_readDigits_29 ?_
        refine lv_iload_n hx hb dX7_readDigits_32 rfl (lv_at hl 3 rfl) ?_
        refine lv_iload_n hx hb dX7_readDigits_33 rfl (lv_at hl 2 rfl) ?_
        refine lv_iadd hx hb dX7_readDigits_34 ?_
        refine tk (y := nI (ax + 4)) (nI_add ax 4) ?_
        refine lv_icmp_ge (tgt := 93) hx hb dX7_readDigits_35 (by decide) (fun c_35_3 => ?_) (fun c_35_3 => ?_)
        · have nc_35_3 : (ax + 4) ≤ axv := (nI_leI (a := ax + 4) (b := axv) (by omega) (by omega)).mp c_35_3
          refine lv_aload_n hx hb dX7_readDigits_93 rfl (lv_at hl 0 rfl) ?_
          refine k_get (C := RX7) (T := TX7) (N := 9) (ci := 7) (v := .int (nI axv)) X hE hP 0 rfl rfl iX7 3 (by decide) w_366 rfl dX7_readDigits_94 ?_
          refine lv_iload_n hx hb dX7_readDigits_97 rfl (lv_at hl 3 rfl) ?_
          refine lv_icmp_ne (tgt := 109) hx hb dX7_readDigits_98 (by decide) (fun c_98_4 => ?_) (fun c_98_4 => ?_)
          · have nc_98_4 : ¬ axv = ax := fun q => c_98_4 ((nI_eq (a := axv) (b := ax) (by omega) (by omega)).mpr q)
            rw [hQ9]
            exact endV X hr hlocks hP hD hS dX7_readDigits_109 ⟨axv, 259, vlv, (-1), haxv, (by first | assumption | omega), (by first | assumption | omega), rfl, (Or.inl ⟨hd0.resolve_left (by omega), rfl, by rw [← hN, (num_stop (Or.inl (by omega)))], by rw [← hN, (num_stop (Or.inl (by omega)))]⟩), rfl⟩
          · have nc_98_4 : axv = ax := (nI_eq (a := axv) (b := ax) (by omega) (by omega)).mp c_98_4
            refine lv_aload_n hx hb dX7_readDigits_101 rfl (lv_at hl 0 rfl) ?_
            refine lv_aload_n hx hb dX7_readDigits_102 rfl (lv_at hl 0 rfl) ?_
            refine k_get (C := RX7) (T := TX7) (N := 9) (ci := 7) (v := .int (nI axv)) X hE hP 0 rfl rfl iX7 3 (by decide) w_366 rfl dX7_readDigits_103 ?_
            refine k_put (C := RX7) (T := TX7) (N := 9) (ci := 7) (v := .int (nI axv)) (ty := .int) X hE hP hD hS 0 rfl rfl iX7 tyX7 tyX7_ok nmX7 8 (by decide) w_370 rfl (by decide +kernel) rfl rfl (Nat.le_of_ble_eq_true rfl) [(h0, .inr (7, [.ref htb, .int (nI ln), .int (nI le), .int (nI axv), .int 259, .int (nI pl), .int (nI lt), .int vlv, .int (nI axv)])), (htb, .inl (cA, 6000, .inl tz))] rfl dX7_readDigits_106 (fun H locs hP hD hS => ?_)
            rw [hQ9]
            exact endV X hr hlocks hP hD hS dX7_readDigits_109 ⟨axv, 259, vlv, (nI axv), haxv, (by first | assumption | omega), (by first | assumption | omega), rfl, (absurd (show False by omega) id), rfl⟩
        · have nc_35_3 : axv < (ax + 4) := Nat.not_le.mp (fun q => c_35_3 ((nI_leI (a := ax + 4) (b := axv) (by omega) (by omega)).mpr q))
          refine lv_aload_n hx hb dX7_readDigits_38 rfl (lv_at hl 0 rfl) ?_
          refine k_get (C := RX7) (T := TX7) (N := 9) (ci := 7) (v := .ref htb) X hE hP 0 rfl rfl iX7 0 (by decide) w_368 rfl dX7_readDigits_39 ?_
          refine lv_aload_n hx hb dX7_readDigits_42 rfl (lv_at hl 0 rfl) ?_
          refine k_get (C := RX7) (T := TX7) (N := 9) (ci := 7) (v := .int (nI axv)) X hE hP 0 rfl rfl iX7 3 (by decide) w_366 rfl dX7_readDigits_43 ?_
          refine k_ald (v := sgn ln tz axv) X hE hP 1 rfl axv rfl (by omega) (by decide) (sgn_in (by omega)).symm dX7_readDigits_46 ?_
          refine kSi (n3 := 1) (As := [.int (sgn ln tz axv)]) (rest := []) X hl.1 hE hP hD hS hA [] [(h0, .inr (7, [.ref htb, .int (nI ln), .int (nI le), .int (nI axv), .int 259, .int (nI pl), .int (nI lt), .int vlv, .int (-1)])), (htb, .inl (cA, 6000, .inl tz))] [] [0, 1] rfl rfl rfl (by decide +kernel) (by decide +kernel) (by decide +kernel) (c_k_digit l D cA cB (sgn ln tz axv) ) w_373 w_374 w_372 w_375 (by decide +kernel) rfl rfl (Nat.le_of_ble_eq_true rfl) ⟨(Nat.le_of_ble_eq_true rfl), (Nat.le_of_ble_eq_true rfl)⟩ ⟨(Nat.le_of_ble_eq_true rfl), (Nat.le_of_ble_eq_true rfl)⟩ dX7_readDigits_47 (fun r W1 H locs hw hP hD hS => ?_)
          obtain ⟨rv_5, er_7, hf_6, rfl⟩ := hw
          have hP : va_P D classes [(h0, .inr (7, [.ref htb, .int (nI ln), .int (nI le), .int (nI axv), .int 259, .int (nI pl), .int (nI lt), .int vlv, .int (-1)])), (htb, .inl (cA, 6000, .inl tz))] H := hP
          have hD : va_D A [(h0, .inr (7, [.ref htb, .int (nI ln), .int (nI le), .int (nI axv), .int 259, .int (nI pl), .int (nI lt), .int vlv, .int (-1)])), (htb, .inl (cA, 6000, .inl tz))] := hD
          refine tk (y := rv_5) er_7 ?_
          rcases hf_6 with ⟨d_8, b1_9, rfl, i1_10, dv_11⟩ | ⟨d_12, b1_13, b2_14, rfl, i1_15, i2_16, dv_17⟩ | ⟨rfl, i1_18, i2_19⟩
          · skip
            refine lv_istore (lv' := [(4, .int (nI d_8)), (0, .ref h0), (1, .int 16), (2, .int 4), (3, .int (nI ax))]) hx hb dX7_readDigits_50 hl (by decide) rfl (fun ls hl => ?_)
            refine lv_iload hx hb dX7_readDigits_52 (lv_at hl 0 rfl) ?_
            refine lv_iconst (v := (-1)) hx hb dX7_readDigits_54 (by decide) ?_
            refine lv_icmp_eq (tgt := 93) hx hb dX7_readDigits_55 (by decide) (fun c_55 => absurd c_55 (nI_nm1 (a := d_8) (by omega))) (fun c_55 => ?_)
            refine lv_iload hx hb dX7_readDigits_58 (lv_at hl 0 rfl) ?_
            refine lv_iload_n hx hb dX7_readDigits_60 rfl (lv_at hl 2 rfl) ?_
            refine lv_icmp_lt (tgt := 67) hx hb dX7_readDigits_61 (by decide) (fun c_61 => ?_) (fun c_61 => absurd ((nI_ltI (a := d_8) (b := 16) (by omega) (by omega)).mpr (by omega)) c_61)
            refine lv_aload_n hx hb dX7_readDigits_67 rfl (lv_at hl 1 rfl) ?_
            refine lv_aload_n hx hb dX7_readDigits_68 rfl (lv_at hl 1 rfl) ?_
            refine k_get (C := RX7) (T := TX7) (N := 9) (ci := 7) (v := .int vlv) X hE hP 0 rfl rfl iX7 7 (by decide) w_371 rfl dX7_readDigits_69 ?_
            refine lv_iload_n hx hb dX7_readDigits_72 rfl (lv_at hl 2 rfl) ?_
            refine lv_imul hx hb dX7_readDigits_73 ?_
            refine lv_iload hx hb dX7_readDigits_74 (lv_at hl 0 rfl) ?_
            refine lv_iadd hx hb dX7_readDigits_76 ?_
            refine k_put (C := RX7) (T := TX7) (N := 9) (ci := 7) (v := .int ((vlv * 16) + (nI d_8))) (ty := .int) X hE hP hD hS 0 rfl rfl iX7 tyX7 tyX7_ok nmX7 7 (by decide) w_371 rfl (by decide +kernel) rfl rfl (Nat.le_of_ble_eq_true rfl) [(h0, .inr (7, [.ref htb, .int (nI ln), .int (nI le), .int (nI axv), .int 259, .int (nI pl), .int (nI lt), .int ((vlv * 16) + (nI d_8)), .int (-1)])), (htb, .inl (cA, 6000, .inl tz))] rfl dX7_readDigits_77 (fun H locs hP hD hS => ?_)
            refine lv_aload_n hx hb dX7_readDigits_80 rfl (lv_at hl 1 rfl) ?_
            refine lv_dup hx hb dX7_readDigits_81 rfl ?_
            refine k_get (C := RX7) (T := TX7) (N := 9) (ci := 7) (v := .int (nI axv)) X hE hP 0 rfl rfl iX7 3 (by decide) w_366 rfl dX7_readDigits_82 ?_
            refine lv_iconst (v := 1) hx hb dX7_readDigits_85 (by decide) ?_
            refine lv_iadd hx hb dX7_readDigits_86 ?_
            refine tk (y := nI (axv + 1)) (nI_add axv 1) ?_
            refine k_put (C := RX7) (T := TX7) (N := 9) (ci := 7) (v := .int (nI (axv + 1))) (ty := .int) X hE hP hD hS 0 rfl rfl iX7 tyX7 tyX7_ok nmX7 3 (by decide) w_366 rfl (by decide +kernel) rfl rfl (Nat.le_of_ble_eq_true rfl) [(h0, .inr (7, [.ref htb, .int (nI ln), .int (nI le), .int (nI (axv + 1)), .int 259, .int (nI pl), .int (nI lt), .int ((vlv * 16) + (nI d_8)), .int (-1)])), (htb, .inl (cA, 6000, .inl tz))] rfl dX7_readDigits_87 (fun H locs hP hD hS => ?_)
            refine lv_goto (tgt := 17) hx hb dX7_readDigits_90 (by decide) ?_
            exact ih_17 (axv + 1) ((vlv * 16) + (nI d_8)) () (by omega) (by omega) (by omega) (by omega) (by rw [← hN, num_step (by omega) (dgt_d i1_10), dv_11, Int32.mul_comm]) (Or.inr (by rcases hd0 with z | z; rw [← z]; exact (dgt_d i1_10); exact z)) (by omega) _ _ hP hD hS ls (lv_sub hl [1, 2, 3, 4] rfl)
          · skip
            refine lv_istore (lv' := [(4, .int (nI d_12)), (0, .ref h0), (1, .int 16), (2, .int 4), (3, .int (nI ax))]) hx hb dX7_readDigits_50 hl (by decide) rfl (fun ls hl => ?_)
            refine lv_iload hx hb dX7_readDigits_52 (lv_at hl 0 rfl) ?_
            refine lv_iconst (v := (-1)) hx hb dX7_readDigits_54 (by decide) ?_
            refine lv_icmp_eq (tgt := 93) hx hb dX7_readDigits_55 (by decide) (fun c_55 => absurd c_55 (nI_nm1 (a := d_12) (by omega))) (fun c_55 => ?_)
            refine lv_iload hx hb dX7_readDigits_58 (lv_at hl 0 rfl) ?_
            refine lv_iload_n hx hb dX7_readDigits_60 rfl (lv_at hl 2 rfl) ?_
            refine lv_icmp_lt (tgt := 67) hx hb dX7_readDigits_61 (by decide) (fun c_61 => ?_) (fun c_61 => absurd ((nI_ltI (a := d_12) (b := 16) (by omega) (by omega)).mpr (by omega)) c_61)
            refine lv_aload_n hx hb dX7_readDigits_67 rfl (lv_at hl 1 rfl) ?_
            refine lv_aload_n hx hb dX7_readDigits_68 rfl (lv_at hl 1 rfl) ?_
            refine k_get (C := RX7) (T := TX7) (N := 9) (ci := 7) (v := .int vlv) X hE hP 0 rfl rfl iX7 7 (by decide) w_371 rfl dX7_readDigits_69 ?_
            refine lv_iload_n hx hb dX7_readDigits_72 rfl (lv_at hl 2 rfl) ?_
            refine lv_imul hx hb dX7_readDigits_73 ?_
            refine lv_iload hx hb dX7_readDigits_74 (lv_at hl 0 rfl) ?_
            refine lv_iadd hx hb dX7_readDigits_76 ?_
            refine k_put (C := RX7) (T := TX7) (N := 9) (ci := 7) (v := .int ((vlv * 16) + (nI d_12))) (ty := .int) X hE hP hD hS 0 rfl rfl iX7 tyX7 tyX7_ok nmX7 7 (by decide) w_371 rfl (by decide +kernel) rfl rfl (Nat.le_of_ble_eq_true rfl) [(h0, .inr (7, [.ref htb, .int (nI ln), .int (nI le), .int (nI axv), .int 259, .int (nI pl), .int (nI lt), .int ((vlv * 16) + (nI d_12)), .int (-1)])), (htb, .inl (cA, 6000, .inl tz))] rfl dX7_readDigits_77 (fun H locs hP hD hS => ?_)
            refine lv_aload_n hx hb dX7_readDigits_80 rfl (lv_at hl 1 rfl) ?_
            refine lv_dup hx hb dX7_readDigits_81 rfl ?_
            refine k_get (C := RX7) (T := TX7) (N := 9) (ci := 7) (v := .int (nI axv)) X hE hP 0 rfl rfl iX7 3 (by decide) w_366 rfl dX7_readDigits_82 ?_
            refine lv_iconst (v := 1) hx hb dX7_readDigits_85 (by decide) ?_
            refine lv_iadd hx hb dX7_readDigits_86 ?_
            refine tk (y := nI (axv + 1)) (nI_add axv 1) ?_
            refine k_put (C := RX7) (T := TX7) (N := 9) (ci := 7) (v := .int (nI (axv + 1))) (ty := .int) X hE hP hD hS 0 rfl rfl iX7 tyX7 tyX7_ok nmX7 3 (by decide) w_366 rfl (by decide +kernel) rfl rfl (Nat.le_of_ble_eq_true rfl) [(h0, .inr (7, [.ref htb, .int (nI ln), .int (nI le), .int (nI (axv + 1)), .int 259, .int (nI pl), .int (nI lt), .int ((vlv * 16) + (nI d_12)), .int (-1)])), (htb, .inl (cA, 6000, .inl tz))] rfl dX7_readDigits_87 (fun H locs hP hD hS => ?_)
            refine lv_goto (tgt := 17) hx hb dX7_readDigits_90 (by decide) ?_
            exact ih_17 (axv + 1) ((vlv * 16) + (nI d_12)) () (by omega) (by omega) (by omega) (by omega) (by rw [← hN, num_step (by omega) (dgt_16.mpr (Or.inr i2_16)), dv_17, Int32.mul_comm]) (Or.inr (by rcases hd0 with z | z; rw [← z]; exact (dgt_16.mpr (Or.inr i2_16)); exact z)) (by omega) _ _ hP hD hS ls (lv_sub hl [1, 2, 3, 4] rfl)
          · skip
            refine lv_istore (lv' := [(4, .int (-1)), (0, .ref h0), (1, .int 16), (2, .int 4), (3, .int (nI ax))]) hx hb dX7_readDigits_50 hl (by decide) rfl (fun ls hl => ?_)
            refine lv_iload hx hb dX7_readDigits_52 (lv_at hl 0 rfl) ?_
            refine lv_iconst (v := (-1)) hx hb dX7_readDigits_54 (by decide) ?_
            refine lv_icmp_eq (tgt := 93) hx hb dX7_readDigits_55 (by decide) (fun c_55 => ?_) (fun c_55 => absurd (by decide) c_55)
            refine lv_aload_n hx hb dX7_readDigits_93 rfl (lv_at hl 1 rfl) ?_
            refine k_get (C := RX7) (T := TX7) (N := 9) (ci := 7) (v := .int (nI axv)) X hE hP 0 rfl rfl iX7 3 (by decide) w_366 rfl dX7_readDigits_94 ?_
            refine lv_iload_n hx hb dX7_readDigits_97 rfl (lv_at hl 4 rfl) ?_
            refine lv_icmp_ne (tgt := 109) hx hb dX7_readDigits_98 (by decide) (fun c_98_20 => ?_) (fun c_98_20 => ?_)
            · have nc_98_20 : ¬ axv = ax := fun q => c_98_20 ((nI_eq (a := axv) (b := ax) (by omega) (by omega)).mpr q)
              rw [hQ9]
              exact endV X hr hlocks hP hD hS dX7_readDigits_109 ⟨axv, 259, vlv, (-1), haxv, (by first | assumption | omega), (by first | assumption | omega), rfl, (Or.inl ⟨hd0.resolve_left (by omega), rfl, by rw [← hN, (num_stop (Or.inr (dgt_no i1_18 i2_19)))], by rw [← hN, (num_stop (Or.inr (dgt_no i1_18 i2_19)))]⟩), rfl⟩
            · have nc_98_20 : axv = ax := (nI_eq (a := axv) (b := ax) (by omega) (by omega)).mp c_98_20
              refine lv_aload_n hx hb dX7_readDigits_101 rfl (lv_at hl 1 rfl) ?_
              refine lv_aload_n hx hb dX7_readDigits_102 rfl (lv_at hl 1 rfl) ?_
              refine k_get (C := RX7) (T := TX7) (N := 9) (ci := 7) (v := .int (nI axv)) X hE hP 0 rfl rfl iX7 3 (by decide) w_366 rfl dX7_readDigits_103 ?_
              refine k_put (C := RX7) (T := TX7) (N := 9) (ci := 7) (v := .int (nI axv)) (ty := .int) X hE hP hD hS 0 rfl rfl iX7 tyX7 tyX7_ok nmX7 8 (by decide) w_370 rfl (by decide +kernel) rfl rfl (Nat.le_of_ble_eq_true rfl) [(h0, .inr (7, [.ref htb, .int (nI ln), .int (nI le), .int (nI axv), .int 259, .int (nI pl), .int (nI lt), .int vlv, .int (nI axv)])), (htb, .inl (cA, 6000, .inl tz))] rfl dX7_readDigits_106 (fun H locs hP hD hS => ?_)
              rw [hQ9]
              exact endV X hr hlocks hP hD hS dX7_readDigits_109 ⟨axv, 259, vlv, (nI axv), haxv, (by first | assumption | omega), (by first | assumption | omega), rfl, (Or.inr ⟨by rw [show ax = axv by omega]; exact (dgt_no i1_18 i2_19), by rw [show ax = axv by omega]⟩), rfl⟩
  exact loop_17 6002 ax 0 () hax (by omega) hLo.1 (by omega) (by rw [show ax + 4 - ax = 4 by omega]) (Or.inl rfl) (by omega) _ _ hP hD hS ls (lv_sub hl [1, 2, 3, 0] rfl)
