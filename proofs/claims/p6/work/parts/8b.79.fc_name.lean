set_option maxHeartbeats 4000000 in
set_option maxRecDepth 100000 in
theorem c_k_tellG (l : Launch) (D : va_G) (cA cB : ClassId) (h0 : Nat) (ha : Nat) (hb9 : Nat) (hc9 : Nat) (hd9 : Nat) (cn : Nat) (na : Nat → Int32) (nb : Nat → Int32) (nc : Nat → Int32) (nd : Nat → Int32) (a : Int32) (v : Int32) (hcn : cn < 61) : CI l yX2_tell cX2_tell 3 (some .int) 0 0 0 0 D cA cB [.ref h0, .int a, .int v] [(h0, .inr (2, [.ref ha, .ref hb9, .ref hc9, .ref hd9, .int (nI cn)])), (ha, .inl (cA, 60, .inl na)), (hb9, .inl (cA, 60, .inl nb)), (hc9, .inl (cA, 60, .inl nc)), (hd9, .inl (cA, 60, .inl nd))] (fun r W1 => ∃ (rv : Int32), r = rv ∧ (tlF cn nc na nd a v rv) ∧ W1 = [(h0, .inr (2, [.ref ha, .ref hb9, .ref hc9, .ref hd9, .int (nI cn)])), (ha, .inl (cA, 60, .inl na)), (hb9, .inl (cA, 60, .inl nb)), (hc9, .inl (cA, 60, .inl nc)), (hd9, .inl (cA, 60, .inl nd))]) := by
  refine mkI (lv0 := [(0, .ref h0), (1, .int a), (2, .int v)]) (by decide) (Nat.le_of_ble_eq_true rfl) rfl ?_
  intro p e s m below meth c A ls X hr hlocks hnm hE hA hP hD hS hl
  have hx := X.1
  have hb := X.2.1
  refine qW (fun Q9 hQ9 => ?_)
  refine lv_iload_n hx hb dX2_tell_0 rfl (lv_at hl 1 rfl) ?_
  refine lv_if_lt (tgt := 12) hx hb dX2_tell_1 (by decide) (fun c_1 => ?_) (fun c_1 => ?_)
  · skip
    refine lv_iconst (v := 0) hx hb dX2_tell_12 (by decide) ?_
    rw [hQ9]
    exact endI X hr hlocks hP hD hS dX2_tell_13 ⟨0, rfl, (Or.inl ⟨by unfold inM; rw [if_pos c_1], rfl⟩), rfl⟩
  · skip
    obtain ⟨j, hj, ej⟩ := nI_of c_1
    rw [ej] at hl
    refine lv_iload_n hx hb dX2_tell_4 rfl (lv_at hl 1 rfl) ?_
    refine lv_aload_n hx hb dX2_tell_5 rfl (lv_at hl 0 rfl) ?_
    refine k_get (C := RX2) (T := TX2) (N := 5) (ci := 2) (v := .int (nI cn)) X hE hP 0 rfl rfl iX2 4 (by decide) w_355 rfl dX2_tell_6 ?_
    refine lv_icmp_lt (tgt := 14) hx hb dX2_tell_9 (by decide) (fun c_9_1 => ?_) (fun c_9_1 => ?_)
    · have nc_9_1 : j < cn := (nI_ltI (a := j) (b := cn) (by omega) (by omega)).mp c_9_1
      refine lv_iload_n hx hb dX2_tell_14 rfl (lv_at hl 2 rfl) ?_
      by_cases c_15_2 : v = 0
      · refine lv_tableIn (tgt := 40) (off := 25) hx hb dX2_tell_15 (by rw [c_15_2]; decide) (by rw [c_15_2]; decide) (by rw [c_15_2]; decide) (by decide) ?_
        refine lv_aload_n hx hb dX2_tell_40 rfl (lv_at hl 0 rfl) ?_
        refine k_get (C := RX2) (T := TX2) (N := 5) (ci := 2) (v := .ref hc9) X hE hP 0 rfl rfl iX2 2 (by decide) w_356 rfl dX2_tell_41 ?_
        refine lv_iload_n hx hb dX2_tell_44 rfl (lv_at hl 1 rfl) ?_
        refine k_ald (v := nc j) X hE hP 3 rfl j rfl (by omega) (by decide) rfl dX2_tell_45 ?_
        rw [hQ9]
        exact endI X hr hlocks hP hD hS dX2_tell_46 ⟨(nc j), rfl, (Or.inr ⟨j, by omega, ej, Or.inl ⟨c_15_2, rfl⟩⟩), rfl⟩
      · skip
        by_cases c_15_3 : v = 1
        · refine lv_tableIn (tgt := 47) (off := 32) hx hb dX2_tell_15 (by rw [c_15_3]; decide) (by rw [c_15_3]; decide) (by rw [c_15_3]; decide) (by decide) ?_
          refine lv_aload_n hx hb dX2_tell_47 rfl (lv_at hl 0 rfl) ?_
          refine k_get (C := RX2) (T := TX2) (N := 5) (ci := 2) (v := .ref ha) X hE hP 0 rfl rfl iX2 0 (by decide) w_357 rfl dX2_tell_48 ?_
          refine lv_iload_n hx hb dX2_tell_51 rfl (lv_at hl 1 rfl) ?_
          refine k_ald (v := na j) X hE hP 1 rfl j rfl (by omega) (by decide) rfl dX2_tell_52 ?_
          rw [hQ9]
          exact endI X hr hlocks hP hD hS dX2_tell_53 ⟨(na j), rfl, (Or.inr ⟨j, by omega, ej, Or.inr (Or.inl ⟨c_15_3, rfl⟩)⟩), rfl⟩
        · skip
          by_cases c_15_4 : v = 2
          · refine lv_tableIn (tgt := 54) (off := 39) hx hb dX2_tell_15 (by rw [c_15_4]; decide) (by rw [c_15_4]; decide) (by rw [c_15_4]; decide) (by decide) ?_
            refine lv_aload_n hx hb dX2_tell_54 rfl (lv_at hl 0 rfl) ?_
            refine k_get (C := RX2) (T := TX2) (N := 5) (ci := 2) (v := .ref hd9) X hE hP 0 rfl rfl iX2 3 (by decide) w_358 rfl dX2_tell_55 ?_
            refine lv_iload_n hx hb dX2_tell_58 rfl (lv_at hl 1 rfl) ?_
            refine k_ald (v := nd j) X hE hP 4 rfl j rfl (by omega) (by decide) rfl dX2_tell_59 ?_
            rw [hQ9]
            exact endI X hr hlocks hP hD hS dX2_tell_60 ⟨(nd j), rfl, (Or.inr ⟨j, by omega, ej, Or.inr (Or.inr (Or.inl ⟨c_15_4, rfl⟩))⟩), rfl⟩
          · skip
            refine lv_tableOut (tgt := 61) hx hb dX2_tell_15 (by have n_0 := lv_neT (k := 0) (a := 0) c_15_2 (by decide); have n_1 := lv_neT (k := 1) (a := 1) c_15_3 (by decide); have n_2 := lv_neT (k := 2) (a := 2) c_15_4 (by decide); omega) (by decide) ?_
            refine lv_iconst (v := 0) hx hb dX2_tell_61 (by decide) ?_
            rw [hQ9]
            exact endI X hr hlocks hP hD hS dX2_tell_62 ⟨0, rfl, (Or.inr ⟨j, by omega, ej, Or.inr (Or.inr (Or.inr ⟨c_15_2, c_15_3, c_15_4, rfl⟩))⟩), rfl⟩
    · have nc_9_1 : cn ≤ j := Nat.not_lt.mp (fun q => c_9_1 ((nI_ltI (a := j) (b := cn) (by omega) (by omega)).mpr q))
      refine lv_iconst (v := 0) hx hb dX2_tell_12 (by decide) ?_
      rw [hQ9]
      exact endI X hr hlocks hP hD hS dX2_tell_13 ⟨0, rfl, (Or.inl ⟨by rw [ej]; exact inM_ge (by omega) (by omega) (by omega), rfl⟩), rfl⟩
set_option maxHeartbeats 4000000 in
set_option maxRecDepth 100000 in
theorem c_k_name (l : Launch) (D : va_G) (cA cB : ClassId) (h0 : Nat) (hn : Nat) (hs : Nat) (hd : Nat) (hp : Nat) (qr : Nat) (qst : Nat) (qa : Nat) (qm : Nat) (qe : Nat) (qmi : Nat) (qmt : Nat) (qms : Nat) (ka : Nat) (kb : Nat) (kc : Nat) (kd9 : Nat) (ua : Int32) (ub : Int32) (uc : Int32) (ud : Int32) (ue : Int32) (uf : Int32) (ug : Int32) (uh : Int32) (ui : Int32) (uj : Int32) (uk : Int32) (ul : Int32) (um : Int32) (un : Int32) (cm : Nat) (ma : Nat → Int32) (mb : Nat → Int32) (mc_ : Nat → Int32) (md : Nat → Int32) (a : Int32) (v : Int32) (hcm : cm < 61) : CI l yX8_name cX8_name 3 (some .int) 1 22 0 0 D cA cB [.ref h0, .int a, .int v] [(h0, .inr (8, [.ref hn, .ref hs, .ref hd, .ref hp, .ref qr, .ref qst, .ref qa, .ref qm, .ref qe])), (qm, .inr (0, [.ref qa, .ref qmi, .ref qmt, .ref qms, .int ua, .int ub, .int uc, .int ud, .int ue, .int uf, .int ug, .int uh, .int ui, .int uj, .int uk, .int ul, .int um, .int un])), (qms, .inr (2, [.ref ka, .ref kb, .ref kc, .ref kd9, .int (nI cm)])), (ka, .inl (cA, 60, .inl ma)), (kb, .inl (cA, 60, .inl mb)), (kc, .inl (cA, 60, .inl mc_)), (kd9, .inl (cA, 60, .inl md))] (fun r W1 => ∃ (rv : Int32), r = rv ∧ (tlF cm mc_ ma md a v rv) ∧ W1 = [(h0, .inr (8, [.ref hn, .ref hs, .ref hd, .ref hp, .ref qr, .ref qst, .ref qa, .ref qm, .ref qe])), (qm, .inr (0, [.ref qa, .ref qmi, .ref qmt, .ref qms, .int ua, .int ub, .int uc, .int ud, .int ue, .int uf, .int ug, .int uh, .int ui, .int uj, .int uk, .int ul, .int um, .int un])), (qms, .inr (2, [.ref ka, .ref kb, .ref kc, .ref kd9, .int (nI cm)])), (ka, .inl (cA, 60, .inl ma)), (kb, .inl (cA, 60, .inl mb)), (kc, .inl (cA, 60, .inl mc_)), (kd9, .inl (cA, 60, .inl md))]) := by
  refine mkI (lv0 := [(0, .ref h0), (1, .int a), (2, .int v)]) (by decide) (Nat.le_of_ble_eq_true rfl) rfl ?_
  intro p e s m below meth c A ls X hr hlocks hnm hE hA hP hD hS hl
  have hx := X.1
  have hb := X.2.1
  refine qW (fun Q9 hQ9 => ?_)
  refine lv_aload_n hx hb dX8_name_0 rfl (lv_at hl 0 rfl) ?_
  refine k_get (C := RX8) (T := TX8) (N := 9) (ci := 8) (v := .ref qm) X hE hP 0 rfl rfl iX8 7 (by decide) w_359 rfl dX8_name_1 ?_
  refine k_getN (C := RX0) (T := TX0) (N := 18) (ci := 0) (v := .ref qms) X hE hP 1 rfl rfl iX0 3 (by decide) nw_24 rfl dX8_name_4 ?_
  refine lv_iload_n hx hb dX8_name_7 rfl (lv_at hl 1 rfl) ?_
  refine lv_iload_n hx hb dX8_name_8 rfl (lv_at hl 2 rfl) ?_
  refine kVi (n3 := 2) (As := [.int a, .int v]) (rest := []) X hl.1 hE hP hD hS hA [(qms, .inr (2, [.ref ka, .ref kb, .ref kc, .ref kd9, .int (nI cm)])), (ka, .inl (cA, 60, .inl ma)), (kb, .inl (cA, 60, .inl mb)), (kc, .inl (cA, 60, .inl mc_)), (kd9, .inl (cA, 60, .inl md))] [(h0, .inr (8, [.ref hn, .ref hs, .ref hd, .ref hp, .ref qr, .ref qst, .ref qa, .ref qm, .ref qe])), (qm, .inr (0, [.ref qa, .ref qmi, .ref qmt, .ref qms, .int ua, .int ub, .int uc, .int ud, .int ue, .int uf, .int ug, .int uh, .int ui, .int uj, .int uk, .int ul, .int um, .int un]))] [2, 3, 4, 5, 6] [0, 1] rfl rfl rfl (by decide +kernel) (by decide +kernel) (by decide +kernel) (c_k_tellG l D cA cB qms ka kb kc kd9 cm ma mb mc_ md a v hcm) w_361 w_362 w_360 w_363 w_364 0 (ci := 2) (T := TX2) (N := 5) rfl rfl (by decide +kernel) rfl rfl (Nat.le_of_ble_eq_true rfl) ⟨(Nat.le_of_ble_eq_true rfl), (Nat.le_of_ble_eq_true rfl)⟩ ⟨(Nat.le_of_ble_eq_true rfl), (Nat.le_of_ble_eq_true rfl)⟩ dX8_name_9 (fun r W1 H locs hw hP hD hS => ?_)
  obtain ⟨rv_1, er_3, hf_2, rfl⟩ := hw
  have hP : va_P D classes [(h0, .inr (8, [.ref hn, .ref hs, .ref hd, .ref hp, .ref qr, .ref qst, .ref qa, .ref qm, .ref qe])), (qm, .inr (0, [.ref qa, .ref qmi, .ref qmt, .ref qms, .int ua, .int ub, .int uc, .int ud, .int ue, .int uf, .int ug, .int uh, .int ui, .int uj, .int uk, .int ul, .int um, .int un])), (qms, .inr (2, [.ref ka, .ref kb, .ref kc, .ref kd9, .int (nI cm)])), (ka, .inl (cA, 60, .inl ma)), (kb, .inl (cA, 60, .inl mb)), (kc, .inl (cA, 60, .inl mc_)), (kd9, .inl (cA, 60, .inl md))] H := hP
  have hD : va_D A [(h0, .inr (8, [.ref hn, .ref hs, .ref hd, .ref hp, .ref qr, .ref qst, .ref qa, .ref qm, .ref qe])), (qm, .inr (0, [.ref qa, .ref qmi, .ref qmt, .ref qms, .int ua, .int ub, .int uc, .int ud, .int ue, .int uf, .int ug, .int uh, .int ui, .int uj, .int uk, .int ul, .int um, .int un])), (qms, .inr (2, [.ref ka, .ref kb, .ref kc, .ref kd9, .int (nI cm)])), (ka, .inl (cA, 60, .inl ma)), (kb, .inl (cA, 60, .inl mb)), (kc, .inl (cA, 60, .inl mc_)), (kd9, .inl (cA, 60, .inl md))] := hD
  refine tk (y := rv_1) er_3 ?_
  rw [hQ9]
  exact endI X hr hlocks hP hD hS dX8_name_12 ⟨rv_1, rfl, hf_2, rfl⟩
