abbrev cX7_wordIn : ByteArray := prog_9_method_7_code
def yX7_wordIn : MethodName := ⟨RX7, "wordIn", "(Ljava/lang/String;II)I"⟩
set_option maxRecDepth 100000 in
theorem w_901 : (Cond.methodLink "BelfryBox$Tape" 86 yJ0_length_8abf5 : Cond) ∈ gw := List.mem_filter.mpr ⟨List.mem_append_right _ (tb2 (List.mem_of_getElem? (i := 130) rfl)), rfl⟩
set_option maxRecDepth 100000 in
theorem w_902 : (Cond.methodLink "BelfryBox$Tape" 89 yJ0_charAt_5068e : Cond) ∈ gw := List.mem_filter.mpr ⟨List.mem_append_right _ (tb2 (List.mem_of_getElem? (i := 140) rfl)), rfl⟩
theorem dX7_wordIn_0 : decode cX7_wordIn 0 = .ok (.aload_n 0, 1) := by decide +kernel
theorem dX7_wordIn_1 : decode cX7_wordIn 1 = .ok (.getfield 83, 3) := by decide +kernel
theorem dX7_wordIn_4 : decode cX7_wordIn 4 = .ok (.iconst 3, 1) := by decide +kernel
theorem dX7_wordIn_5 : decode cX7_wordIn 5 = .ok (.if_icmp .lt 11, 3) := by decide +kernel
theorem dX7_wordIn_16 : decode cX7_wordIn 16 = .ok (.iconst (-1), 1) := by decide +kernel
theorem dX7_wordIn_17 : decode cX7_wordIn 17 = .ok (.ireturn, 1) := by decide +kernel
theorem dX7_wordIn_8 : decode cX7_wordIn 8 = .ok (.aload_n 0, 1) := by decide +kernel
theorem dX7_wordIn_9 : decode cX7_wordIn 9 = .ok (.getfield 83, 3) := by decide +kernel
theorem dX7_wordIn_12 : decode cX7_wordIn 12 = .ok (.iload_n 2, 1) := by decide +kernel
theorem dX7_wordIn_13 : decode cX7_wordIn 13 = .ok (.if_icmp .le 5, 3) := by decide +kernel
theorem dX7_wordIn_18 : decode cX7_wordIn 18 = .ok (.iconst 0, 1) := by decide +kernel
theorem dX7_wordIn_19 : decode cX7_wordIn 19 = .ok (.istore 4, 2) := by decide +kernel
theorem dX7_wordIn_21 : decode cX7_wordIn 21 = .ok (.iload_n 2, 1) := by decide +kernel
theorem dX7_wordIn_22 : decode cX7_wordIn 22 = .ok (.iload 4, 2) := by decide +kernel
theorem dX7_wordIn_24 : decode cX7_wordIn 24 = .ok (.iconst 1, 1) := by decide +kernel
theorem dX7_wordIn_25 : decode cX7_wordIn 25 = .ok (.iadd, 1) := by decide +kernel
theorem dX7_wordIn_26 : decode cX7_wordIn 26 = .ok (.imul, 1) := by decide +kernel
theorem dX7_wordIn_27 : decode cX7_wordIn 27 = .ok (.aload_n 1, 1) := by decide +kernel
theorem dX7_wordIn_28 : decode cX7_wordIn 28 = .ok (.invokevirtual 86, 3) := by decide +kernel
theorem dX7_wordIn_31 : decode cX7_wordIn 31 = .ok (.if_icmp .gt 89, 3) := by decide +kernel
theorem dX7_wordIn_120 : decode cX7_wordIn 120 = .ok (.iconst (-1), 1) := by decide +kernel
theorem dX7_wordIn_121 : decode cX7_wordIn 121 = .ok (.ireturn, 1) := by decide +kernel
theorem dX7_wordIn_34 : decode cX7_wordIn 34 = .ok (.iconst 0, 1) := by decide +kernel
theorem dX7_wordIn_35 : decode cX7_wordIn 35 = .ok (.istore 5, 2) := by decide +kernel
theorem dX7_wordIn_37 : decode cX7_wordIn 37 = .ok (.iload 5, 2) := by decide +kernel
theorem dX7_wordIn_39 : decode cX7_wordIn 39 = .ok (.aload_n 0, 1) := by decide +kernel
theorem dX7_wordIn_40 : decode cX7_wordIn 40 = .ok (.getfield 83, 3) := by decide +kernel
theorem dX7_wordIn_43 : decode cX7_wordIn 43 = .ok (.if_icmp .ge 35, 3) := by decide +kernel
theorem dX7_wordIn_78 : decode cX7_wordIn 78 = .ok (.iload 5, 2) := by decide +kernel
theorem dX7_wordIn_80 : decode cX7_wordIn 80 = .ok (.aload_n 0, 1) := by decide +kernel
theorem dX7_wordIn_81 : decode cX7_wordIn 81 = .ok (.getfield 83, 3) := by decide +kernel
theorem dX7_wordIn_84 : decode cX7_wordIn 84 = .ok (.if_icmp .ne 30, 3) := by decide +kernel
theorem dX7_wordIn_114 : decode cX7_wordIn 114 = .ok (.iinc 4 1, 3) := by decide +kernel
theorem dX7_wordIn_117 : decode cX7_wordIn 117 = .ok (.goto (-96), 3) := by decide +kernel
theorem dX7_wordIn_87 : decode cX7_wordIn 87 = .ok (.iload 5, 2) := by decide +kernel
theorem dX7_wordIn_89 : decode cX7_wordIn 89 = .ok (.iload_n 2, 1) := by decide +kernel
theorem dX7_wordIn_90 : decode cX7_wordIn 90 = .ok (.if_icmp .eq 19, 3) := by decide +kernel
theorem dX7_wordIn_109 : decode cX7_wordIn 109 = .ok (.iload_n 3, 1) := by decide +kernel
theorem dX7_wordIn_110 : decode cX7_wordIn 110 = .ok (.iload 4, 2) := by decide +kernel
theorem dX7_wordIn_112 : decode cX7_wordIn 112 = .ok (.iadd, 1) := by decide +kernel
theorem dX7_wordIn_113 : decode cX7_wordIn 113 = .ok (.ireturn, 1) := by decide +kernel
theorem dX7_wordIn_93 : decode cX7_wordIn 93 = .ok (.aload_n 1, 1) := by decide +kernel
theorem dX7_wordIn_94 : decode cX7_wordIn 94 = .ok (.iload_n 2, 1) := by decide +kernel
theorem dX7_wordIn_95 : decode cX7_wordIn 95 = .ok (.iload 4, 2) := by decide +kernel
theorem dX7_wordIn_97 : decode cX7_wordIn 97 = .ok (.imul, 1) := by decide +kernel
theorem dX7_wordIn_98 : decode cX7_wordIn 98 = .ok (.iload 5, 2) := by decide +kernel
theorem dX7_wordIn_100 : decode cX7_wordIn 100 = .ok (.iadd, 1) := by decide +kernel
theorem dX7_wordIn_101 : decode cX7_wordIn 101 = .ok (.invokevirtual 89, 3) := by decide +kernel
theorem dX7_wordIn_104 : decode cX7_wordIn 104 = .ok (.bipush 32, 2) := by decide +kernel
theorem dX7_wordIn_106 : decode cX7_wordIn 106 = .ok (.if_icmp .ne 8, 3) := by decide +kernel
theorem dX7_wordIn_46 : decode cX7_wordIn 46 = .ok (.aload_n 1, 1) := by decide +kernel
theorem dX7_wordIn_47 : decode cX7_wordIn 47 = .ok (.iload_n 2, 1) := by decide +kernel
theorem dX7_wordIn_48 : decode cX7_wordIn 48 = .ok (.iload 4, 2) := by decide +kernel
theorem dX7_wordIn_50 : decode cX7_wordIn 50 = .ok (.imul, 1) := by decide +kernel
theorem dX7_wordIn_51 : decode cX7_wordIn 51 = .ok (.iload 5, 2) := by decide +kernel
theorem dX7_wordIn_53 : decode cX7_wordIn 53 = .ok (.iadd, 1) := by decide +kernel
theorem dX7_wordIn_54 : decode cX7_wordIn 54 = .ok (.invokevirtual 89, 3) := by decide +kernel
theorem dX7_wordIn_57 : decode cX7_wordIn 57 = .ok (.aload_n 0, 1) := by decide +kernel
theorem dX7_wordIn_58 : decode cX7_wordIn 58 = .ok (.getfield 11, 3) := by decide +kernel
theorem dX7_wordIn_61 : decode cX7_wordIn 61 = .ok (.aload_n 0, 1) := by decide +kernel
theorem dX7_wordIn_62 : decode cX7_wordIn 62 = .ok (.getfield 25, 3) := by decide +kernel
theorem dX7_wordIn_65 : decode cX7_wordIn 65 = .ok (.iload 5, 2) := by decide +kernel
theorem dX7_wordIn_67 : decode cX7_wordIn 67 = .ok (.iadd, 1) := by decide +kernel
theorem dX7_wordIn_68 : decode cX7_wordIn 68 = .ok (.iaload, 1) := by decide +kernel
theorem dX7_wordIn_69 : decode cX7_wordIn 69 = .ok (.if_icmp .ne 9, 3) := by decide +kernel
theorem dX7_wordIn_72 : decode cX7_wordIn 72 = .ok (.iinc 5 1, 3) := by decide +kernel
theorem dX7_wordIn_75 : decode cX7_wordIn 75 = .ok (.goto (-38), 3) := by decide +kernel
theorem cm_wno0 {s : Nat → Int32} {k pl lt : Nat} (t1 : tabo (wno 0 k) = 0) (t2 : isW s pl (pl + lt) (wno 0 k)) (hk : wdt 0 * (k + 1) ≤ sl 0) (hn : ∀ j, j < lt → isNc (s (pl + j)) = true) (h0 : 0 < lt) (h : mtc s 0 k pl lt) : nI (cm (wno 0 k)) = nI (0 + k) := by
  have hk33 : k < 33 := by have e : wdt 0 = 3 := rfl; have e2 : sl 0 = 96 := by decide
                           rw [e, e2] at hk; omega
  rw [cm_no 0 (by decide) k hk33 hk (fun z => absurd z.1 (by decide))]
  rfl
set_option maxHeartbeats 4000000 in
set_option maxRecDepth 100000 in
theorem c_k_wordIn0 (l : Launch) (D : va_G) (cA cB : ClassId) (h0 : Nat) (htb : Nat) (ln : Nat) (le : Nat) (ax : Nat) (kd : Int32) (pl : Nat) (lt : Nat) (vl : Int32) (ms : Int32) (tz : Nat → Int32) (hln : ln < 6001) (hle : le < 6001) (hax : ax < 6001) (hpl : pl < 6010) (hlt : lt < 6010) (htz : ∀ j, j < 6000 → ∃ k : Nat, k < 256 ∧ tz j = nI k) (hpl2 : pl + lt ≤ ln) (hnc : ∀ j, j < lt → isNc (sgn ln tz (pl + j)) = true) : CI l yX7_wordIn cX7_wordIn 6 (some .int) 4 85 0 0 D cA cB [.ref h0, .ref (aK D 0), .int 3, .int 0] [(h0, .inr (7, [.ref htb, .int (nI ln), .int (nI le), .int (nI ax), .int kd, .int (nI pl), .int (nI lt), .int vl, .int ms])), (htb, .inl (cA, 6000, .inl tz))] (fun r W1 => ∃ (rv : Int32), r = rv ∧ ((rv = -1 ∧ ∀ w, tabo w = 0 → ¬ isW (sgn ln tz) pl (pl + lt) w) ∨ (∃ w : Nat, w < 84 ∧ tabo w = 0 ∧ isW (sgn ln tz) pl (pl + lt) w ∧ rv = nI (cm w))) ∧ W1 = [(h0, .inr (7, [.ref htb, .int (nI ln), .int (nI le), .int (nI ax), .int kd, .int (nI pl), .int (nI lt), .int vl, .int ms])), (htb, .inl (cA, 6000, .inl tz))]) := by
  refine mkI (lv0 := [(0, .ref h0), (1, .ref (aK D 0)), (2, .int 3), (3, .int 0)]) (by decide) (Nat.le_of_ble_eq_true rfl) rfl ?_
  intro p e s m below meth c A ls X hr hlocks hnm hE hA hP hD hS hl
  have hx := X.1
  have hb := X.2.1
  refine qW (fun Q9 hQ9 => ?_)
  have hsl : sl 0 = 96 := by decide
  refine lv_aload_n hx hb dX7_wordIn_0 rfl (lv_at hl 0 rfl) ?_
  refine k_get (C := RX7) (T := TX7) (N := 9) (ci := 7) (v := .int (nI lt)) X hE hP 0 rfl rfl iX7 6 (by decide) w_377 rfl dX7_wordIn_1 ?_
  refine lv_iconst (v := 3) hx hb dX7_wordIn_4 (by decide) ?_
  refine lv_icmp_lt (tgt := 16) hx hb dX7_wordIn_5 (by decide) (fun c_5_1 => ?_) (fun c_5_1 => ?_)
  · have nc_5_1 : lt < 3 := (nI_ltI (a := lt) (b := 3) (by omega) (by omega)).mp c_5_1
    refine lv_iconst (v := (-1)) hx hb dX7_wordIn_16 (by decide) ?_
    rw [hQ9]
    exact endI X hr hlocks hP hD hS dX7_wordIn_17 ⟨(-1), rfl, (Or.inl ⟨rfl, fun w hw z => by obtain ⟨y1, y2, y3, y4⟩ := isW_mt z; rw [hw, show wdt 0 = 3 from rfl] at y3; omega⟩), rfl⟩
  · have nc_5_1 : 3 ≤ lt := Nat.not_lt.mp (fun q => c_5_1 ((nI_ltI (a := lt) (b := 3) (by omega) (by omega)).mpr q))
    refine lv_aload_n hx hb dX7_wordIn_8 rfl (lv_at hl 0 rfl) ?_
    refine k_get (C := RX7) (T := TX7) (N := 9) (ci := 7) (v := .int (nI lt)) X hE hP 0 rfl rfl iX7 6 (by decide) w_377 rfl dX7_wordIn_9 ?_
    refine lv_iload_n hx hb dX7_wordIn_12 rfl (lv_at hl 2 rfl) ?_
    refine lv_icmp_le (tgt := 18) hx hb dX7_wordIn_13 (by decide) (fun c_13_2 => ?_) (fun c_13_2 => ?_)
    · have nc_13_2 : lt ≤ 3 := (nI_leI (a := lt) (b := 3) (by omega) (by omega)).mp c_13_2
      refine lv_iconst (v := 0) hx hb dX7_wordIn_18 (by decide) ?_
      refine lv_istore (lv' := [(4, .int 0), (0, .ref h0), (1, .ref (aK D 0)), (2, .int 3), (3, .int 0)]) hx hb dX7_wordIn_19 hl (by decide) rfl (fun ls hl => ?_)
      have loop_21 : ∀ (n : Nat) (k4 : Nat) (k4v : Unit), (k4 < 98) → (∀ k, k < k4 → ¬ mtc (sgn ln tz) 0 k pl lt) → (3 * k4 ≤ sl 0) → 98 - k4 < n → ∀ (H : Heap) (locs : List Loc), va_P D classes [(h0, .inr (7, [.ref htb, .int (nI ln), .int (nI le), .int (nI ax), .int kd, .int (nI pl), .int (nI lt), .int vl, .int ms])), (htb, .inl (cA, 6000, .inl tz))] H → va_D A [(h0, .inr (7, [.ref htb, .int (nI ln), .int (nI le), .int (nI ax), .int kd, .int (nI pl), .int (nI lt), .int vl, .int ms])), (htb, .inl (cA, 6000, .inl tz))] → va_S A s.heap H locs → ∀ ls : Array Slot, lv_has ls 6 [(0, .ref h0), (1, .ref (aK D 0)), (2, .int 3), (3, .int 0), (4, .int (nI k4))] → W p l e { frames := 4, cells := 0, slots := 0, locals := 85 } s m (List.toArray [.ref h0, .ref (aK D 0), .int 3, .int 0]) below meth c H locs 0 0 Q9 (F0 m 21 ls []) := by
        intro n
        induction n with
        | zero => intro k4 k4v hk4 hno hk33 hfuel; exact absurd hfuel (by omega)
        | succ n ih_21 =>
          intro k4 k4v hk4 hno hk33 hfuel H locs hP hD hS ls hl
          refine lv_iload_n hx hb dX7_wordIn_21 rfl (lv_at hl 2 rfl) ?_
          refine lv_iload hx hb dX7_wordIn_22 (lv_at hl 4 rfl) ?_
          refine lv_iconst (v := 1) hx hb dX7_wordIn_24 (by decide) ?_
          refine lv_iadd hx hb dX7_wordIn_25 ?_
          refine tk (y := nI (k4 + 1)) (nI_add k4 1) ?_
          refine lv_imul hx hb dX7_wordIn_26 ?_
          refine tk (y := nI (3 * (k4 + 1))) (pk_mul 3 (k4 + 1)) ?_
          refine lv_aload_n hx hb dX7_wordIn_27 rfl (lv_at hl 1 rfl) ?_
          refine kVsi (n3 := 0) (As := []) (rest := [.int (nI (3 * (k4 + 1)))]) X hl.1 hE hP hD hS hA [0, 1] rfl (by decide) (c_s_length l D cA cB 0 (by first | assumption | omega | decide | rfl)) w_449 w_421 w_901 w_450 w_451 ((e_str hE).1 0 (by decide)).1 (by decide +kernel) rfl rfl (Nat.le_of_ble_eq_true rfl) ⟨(Nat.le_of_ble_eq_true rfl), (Nat.le_of_ble_eq_true rfl)⟩ ⟨(Nat.le_of_ble_eq_true rfl), (Nat.le_of_ble_eq_true rfl)⟩ dX7_wordIn_28 (fun r W1 H locs hw hP hD hS => ?_)
          obtain ⟨rfl, rfl⟩ := hw
          have hP : va_P D classes [(h0, .inr (7, [.ref htb, .int (nI ln), .int (nI le), .int (nI ax), .int kd, .int (nI pl), .int (nI lt), .int vl, .int ms])), (htb, .inl (cA, 6000, .inl tz))] H := hP
          have hD : va_D A [(h0, .inr (7, [.ref htb, .int (nI ln), .int (nI le), .int (nI ax), .int kd, .int (nI pl), .int (nI lt), .int vl, .int ms])), (htb, .inl (cA, 6000, .inl tz))] := hD
          refine lv_icmp_gt (tgt := 120) hx hb dX7_wordIn_31 (by decide) (fun c_31_3 => ?_) (fun c_31_3 => ?_)
          · have nc_31_3 : (sl 0) < (3 * (k4 + 1)) := (nI_ltI (a := sl 0) (b := 3 * (k4 + 1)) (by omega) (by omega)).mp c_31_3
            refine lv_iconst (v := (-1)) hx hb dX7_wordIn_120 (by decide) ?_
            rw [hQ9]
            exact endI X hr hlocks hP hD hS dX7_wordIn_121 ⟨(-1), rfl, (Or.inl ⟨rfl, fun w hw z => by obtain ⟨y1, y2, y3, y4⟩ := isW_mt z; rw [hw] at y1 y3 y4; rw [show wdt 0 = 3 from rfl] at y1; exact hno (kof w) (by omega) y4⟩), rfl⟩
          · have nc_31_3 : (3 * (k4 + 1)) ≤ (sl 0) := Nat.not_lt.mp (fun q => c_31_3 ((nI_ltI (a := sl 0) (b := 3 * (k4 + 1)) (by omega) (by omega)).mpr q))
            refine lv_iconst (v := 0) hx hb dX7_wordIn_34 (by decide) ?_
            refine lv_istore (lv' := [(5, .int 0), (0, .ref h0), (1, .ref (aK D 0)), (2, .int 3), (3, .int 0), (4, .int (nI k4))]) hx hb dX7_wordIn_35 hl (by decide) rfl (fun ls hl => ?_)
            have loop_37 : ∀ (n : Nat) (j5 : Nat), (j5 < 6011) → (j5 ≤ lt) → (∀ j, j < j5 → nI (sbN 0 (3 * k4 + j)) = sgn ln tz (pl + j)) → lt + 1 - j5 < n → ∀ (H : Heap) (locs : List Loc), va_P D classes [(h0, .inr (7, [.ref htb, .int (nI ln), .int (nI le), .int (nI ax), .int kd, .int (nI pl), .int (nI lt), .int vl, .int ms])), (htb, .inl (cA, 6000, .inl tz))] H → va_D A [(h0, .inr (7, [.ref htb, .int (nI ln), .int (nI le), .int (nI ax), .int kd, .int (nI pl), .int (nI lt), .int vl, .int ms])), (htb, .inl (cA, 6000, .inl tz))] → va_S A s.heap H locs → ∀ ls : Array Slot, lv_has ls 6 [(0, .ref h0), (1, .ref (aK D 0)), (2, .int 3), (3, .int 0), (4, .int (nI k4)), (5, .int (nI j5))] → W p l e { frames := 4, cells := 0, slots := 0, locals := 85 } s m (List.toArray [.ref h0, .ref (aK D 0), .int 3, .int 0]) below meth c H locs 0 0 Q9 (F0 m 37 ls []) := by
              intro n
              induction n with
              | zero => intro j5 hj5 hj6 hsm hfuel; exact absurd hfuel (by omega)
              | succ n ih_37 =>
                intro j5 hj5 hj6 hsm hfuel H locs hP hD hS ls hl
                refine lv_iload hx hb dX7_wordIn_37 (lv_at hl 5 rfl) ?_
                refine lv_aload_n hx hb dX7_wordIn_39 rfl (lv_at hl 0 rfl) ?_
                refine k_get (C := RX7) (T := TX7) (N := 9) (ci := 7) (v := .int (nI lt)) X hE hP 0 rfl rfl iX7 6 (by decide) w_377 rfl dX7_wordIn_40 ?_
                refine lv_icmp_ge (tgt := 78) hx hb dX7_wordIn_43 (by decide) (fun c_43_4 => ?_) (fun c_43_4 => ?_)
                · have nc_43_4 : lt ≤ j5 := (nI_leI (a := lt) (b := j5) (by omega) (by omega)).mp c_43_4
                  refine lv_iload hx hb dX7_wordIn_78 (lv_at hl 5 rfl) ?_
                  refine lv_aload_n hx hb dX7_wordIn_80 rfl (lv_at hl 0 rfl) ?_
                  refine k_get (C := RX7) (T := TX7) (N := 9) (ci := 7) (v := .int (nI lt)) X hE hP 0 rfl rfl iX7 6 (by decide) w_377 rfl dX7_wordIn_81 ?_
                  refine lv_icmp_ne (tgt := 114) hx hb dX7_wordIn_84 (by decide) (fun c_84_5 => ?_) (fun c_84_5 => ?_)
                  · have nc_84_5 : ¬ j5 = lt := fun q => c_84_5 ((nI_eq (a := j5) (b := lt) (by omega) (by omega)).mpr q)
                    refine lv_iinc (v := nI (k4 + 1)) (lv' := [(4, .int (nI (k4 + 1))), (0, .ref h0), (1, .ref (aK D 0)), (2, .int 3), (3, .int 0), (5, .int (nI j5))]) hx hb dX7_wordIn_114 hl (k := 4) rfl (nI_1 k4) (by decide) rfl (fun ls hl => ?_)
                    refine lv_goto (tgt := 21) hx hb dX7_wordIn_117 (by decide) ?_
                    exact ih_21 (k4 + 1) () (by omega) (fun k hk => by rcases Nat.lt_or_eq_of_le (Nat.le_of_lt_succ hk) with z | z; exact hno k z; subst z; exact absurd (show False by omega) id) (by omega) (by omega) _ _ hP hD hS ls (lv_sub hl [1, 2, 3, 4, 0] rfl)
                  · have nc_84_5 : j5 = lt := (nI_eq (a := j5) (b := lt) (by omega) (by omega)).mp c_84_5
                    refine lv_iload hx hb dX7_wordIn_87 (lv_at hl 5 rfl) ?_
                    refine lv_iload_n hx hb dX7_wordIn_89 rfl (lv_at hl 2 rfl) ?_
                    refine lv_icmp_eq (tgt := 109) hx hb dX7_wordIn_90 (by decide) (fun c_90_6 => ?_) (fun c_90_6 => ?_)
                    · have nc_90_6 : j5 = 3 := (nI_eq (a := j5) (b := 3) (by omega) (by omega)).mp c_90_6
                      refine lv_iload_n hx hb dX7_wordIn_109 rfl (lv_at hl 3 rfl) ?_
                      refine lv_iload hx hb dX7_wordIn_110 (lv_at hl 4 rfl) ?_
                      refine lv_iadd hx hb dX7_wordIn_112 ?_
                      refine tk (y := nI (0 + k4)) (nI_add 0 k4) ?_
                      rw [hQ9]
                      exact endI X hr hlocks hP hD hS dX7_wordIn_113 ⟨(nI (0 + k4)), rfl, (Or.inr (by obtain ⟨t1, t2⟩ := mt_isW (i := 0) (k := k4) (by decide) (by rw [show wdt 0 = 3 from rfl]; omega) (by omega) (by rw [show wdt 0 = 3 from rfl]; omega) hnc ⟨fun j hj => by rw [show wdt 0 = 3 from rfl]; exact hsm j (by omega), Or.inl (by unfold wdt; simp +decide only [if_false, if_true]; omega)⟩; exact ⟨_, t2.1, t1, t2, by rw [cm_wno0 t1 t2 (by rw [show wdt 0 = 3 from rfl]; omega) hnc (by omega) ⟨fun j hj => by rw [show wdt 0 = 3 from rfl]; exact hsm j (by omega), Or.inl (by unfold wdt; simp +decide only [if_false, if_true]; omega)⟩]⟩)), rfl⟩
                    · have nc_90_6 : ¬ j5 = 3 := fun q => c_90_6 ((nI_eq (a := j5) (b := 3) (by omega) (by omega)).mpr q)
                      refine lv_aload_n hx hb dX7_wordIn_93 rfl (lv_at hl 1 rfl) ?_
                      refine lv_iload_n hx hb dX7_wordIn_94 rfl (lv_at hl 2 rfl) ?_
                      refine lv_iload hx hb dX7_wordIn_95 (lv_at hl 4 rfl) ?_
                      refine lv_imul hx hb dX7_wordIn_97 ?_
                      refine tk (y := nI (3 * k4)) (pk_mul 3 k4) ?_
                      refine lv_iload hx hb dX7_wordIn_98 (lv_at hl 5 rfl) ?_
                      refine lv_iadd hx hb dX7_wordIn_100 ?_
                      refine tk (y := nI (3 * k4 + j5)) (nI_add (3 * k4) j5) ?_
                      refine kVsi (n3 := 1) (As := [.int (nI (3 * k4 + j5))]) (rest := []) X hl.1 hE hP hD hS hA [0, 1] rfl (by decide) (c_k_charAt l D cA cB 0 (3 * k4 + j5) (by first | assumption | omega | decide | rfl) (by first | assumption | omega | decide | rfl)) w_473 w_421 w_902 w_474 w_475 ((e_str hE).1 0 (by decide)).1 (by decide +kernel) rfl rfl (Nat.le_of_ble_eq_true rfl) ⟨(Nat.le_of_ble_eq_true rfl), (Nat.le_of_ble_eq_true rfl)⟩ ⟨(Nat.le_of_ble_eq_true rfl), (Nat.le_of_ble_eq_true rfl)⟩ dX7_wordIn_101 (fun r W1 H locs hw hP hD hS => ?_)
                      obtain ⟨rfl, rfl⟩ := hw
                      have hP : va_P D classes [(h0, .inr (7, [.ref htb, .int (nI ln), .int (nI le), .int (nI ax), .int kd, .int (nI pl), .int (nI lt), .int vl, .int ms])), (htb, .inl (cA, 6000, .inl tz))] H := hP
                      have hD : va_D A [(h0, .inr (7, [.ref htb, .int (nI ln), .int (nI le), .int (nI ax), .int kd, .int (nI pl), .int (nI lt), .int vl, .int ms])), (htb, .inl (cA, 6000, .inl tz))] := hD
                      refine lv_bipush (v := 32) hx hb dX7_wordIn_104 (by decide) ?_
                      have hsb9 := (sbN_all 0 (by omega) (3 * k4 + j5) (by omega)).2.2
                      refine lv_icmp_ne (tgt := 114) hx hb dX7_wordIn_106 (by decide) (fun c_106_7 => ?_) (fun c_106_7 => ?_)
                      · have nc_106_7 : ¬ (sbN 0 (3 * k4 + j5)) = 32 := fun q => c_106_7 ((nI_eq (a := sbN 0 (3 * k4 + j5)) (b := 32) (by omega) (by omega)).mpr q)
                        refine lv_iinc (v := nI (k4 + 1)) (lv' := [(4, .int (nI (k4 + 1))), (0, .ref h0), (1, .ref (aK D 0)), (2, .int 3), (3, .int 0), (5, .int (nI j5))]) hx hb dX7_wordIn_114 hl (k := 4) rfl (nI_1 k4) (by decide) rfl (fun ls hl => ?_)
                        refine lv_goto (tgt := 21) hx hb dX7_wordIn_117 (by decide) ?_
                        exact ih_21 (k4 + 1) () (by omega) (fun k hk => by rcases Nat.lt_or_eq_of_le (Nat.le_of_lt_succ hk) with z | z; exact hno k z; subst z; exact fun y => y.2.elim (fun x => absurd x (by rw [show wdt 0 = 3 from rfl]; omega)) (fun x => nc_106_7 (by rw [show wdt 0 = 3 from rfl] at x; rw [show j5 = lt by omega]; exact x))) (by omega) (by omega) _ _ hP hD hS ls (lv_sub hl [1, 2, 3, 4, 0] rfl)
                      · have nc_106_7 : (sbN 0 (3 * k4 + j5)) = 32 := (nI_eq (a := sbN 0 (3 * k4 + j5)) (b := 32) (by omega) (by omega)).mp c_106_7
                        refine lv_iload_n hx hb dX7_wordIn_109 rfl (lv_at hl 3 rfl) ?_
                        refine lv_iload hx hb dX7_wordIn_110 (lv_at hl 4 rfl) ?_
                        refine lv_iadd hx hb dX7_wordIn_112 ?_
                        refine tk (y := nI (0 + k4)) (nI_add 0 k4) ?_
                        rw [hQ9]
                        exact endI X hr hlocks hP hD hS dX7_wordIn_113 ⟨(nI (0 + k4)), rfl, (Or.inr (by obtain ⟨t1, t2⟩ := mt_isW (i := 0) (k := k4) (by decide) (by rw [show wdt 0 = 3 from rfl]; omega) (by omega) (by rw [show wdt 0 = 3 from rfl]; omega) hnc ⟨fun j hj => by rw [show wdt 0 = 3 from rfl]; exact hsm j (by omega), Or.inr (by rw [show wdt 0 = 3 from rfl, show lt = j5 by omega]; exact nc_106_7)⟩; exact ⟨_, t2.1, t1, t2, by rw [cm_wno0 t1 t2 (by rw [show wdt 0 = 3 from rfl]; omega) hnc (by omega) ⟨fun j hj => by rw [show wdt 0 = 3 from rfl]; exact hsm j (by omega), Or.inr (by rw [show wdt 0 = 3 from rfl, show lt = j5 by omega]; exact nc_106_7)⟩]⟩)), rfl⟩
                · have nc_43_4 : j5 < lt := Nat.not_le.mp (fun q => c_43_4 ((nI_leI (a := lt) (b := j5) (by omega) (by omega)).mpr q))
                  refine lv_aload_n hx hb dX7_wordIn_46 rfl (lv_at hl 1 rfl) ?_
                  refine lv_iload_n hx hb dX7_wordIn_47 rfl (lv_at hl 2 rfl) ?_
                  refine lv_iload hx hb dX7_wordIn_48 (lv_at hl 4 rfl) ?_
                  refine lv_imul hx hb dX7_wordIn_50 ?_
                  refine tk (y := nI (3 * k4)) (pk_mul 3 k4) ?_
                  refine lv_iload hx hb dX7_wordIn_51 (lv_at hl 5 rfl) ?_
                  refine lv_iadd hx hb dX7_wordIn_53 ?_
                  refine tk (y := nI (3 * k4 + j5)) (nI_add (3 * k4) j5) ?_
                  refine kVsi (n3 := 1) (As := [.int (nI (3 * k4 + j5))]) (rest := []) X hl.1 hE hP hD hS hA [0, 1] rfl (by decide) (c_k_charAt l D cA cB 0 (3 * k4 + j5) (by first | assumption | omega | decide | rfl) (by first | assumption | omega | decide | rfl)) w_473 w_421 w_902 w_474 w_475 ((e_str hE).1 0 (by decide)).1 (by decide +kernel) rfl rfl (Nat.le_of_ble_eq_true rfl) ⟨(Nat.le_of_ble_eq_true rfl), (Nat.le_of_ble_eq_true rfl)⟩ ⟨(Nat.le_of_ble_eq_true rfl), (Nat.le_of_ble_eq_true rfl)⟩ dX7_wordIn_54 (fun r W1 H locs hw hP hD hS => ?_)
                  obtain ⟨rfl, rfl⟩ := hw
                  have hP : va_P D classes [(h0, .inr (7, [.ref htb, .int (nI ln), .int (nI le), .int (nI ax), .int kd, .int (nI pl), .int (nI lt), .int vl, .int ms])), (htb, .inl (cA, 6000, .inl tz))] H := hP
                  have hD : va_D A [(h0, .inr (7, [.ref htb, .int (nI ln), .int (nI le), .int (nI ax), .int kd, .int (nI pl), .int (nI lt), .int vl, .int ms])), (htb, .inl (cA, 6000, .inl tz))] := hD
                  refine lv_aload_n hx hb dX7_wordIn_57 rfl (lv_at hl 0 rfl) ?_
                  refine k_get (C := RX7) (T := TX7) (N := 9) (ci := 7) (v := .ref htb) X hE hP 0 rfl rfl iX7 0 (by decide) w_368 rfl dX7_wordIn_58 ?_
                  refine lv_aload_n hx hb dX7_wordIn_61 rfl (lv_at hl 0 rfl) ?_
                  refine k_get (C := RX7) (T := TX7) (N := 9) (ci := 7) (v := .int (nI pl)) X hE hP 0 rfl rfl iX7 5 (by decide) w_376 rfl dX7_wordIn_62 ?_
                  refine lv_iload hx hb dX7_wordIn_65 (lv_at hl 5 rfl) ?_
                  refine lv_iadd hx hb dX7_wordIn_67 ?_
                  refine tk (y := nI (pl + j5)) (nI_add pl j5) ?_
                  refine k_ald (v := sgn ln tz (pl + j5)) X hE hP 1 rfl (pl + j5) rfl (by omega) (by decide) (sgn_in (by omega)).symm dX7_wordIn_68 ?_
                  refine lv_icmp_ne (tgt := 78) hx hb dX7_wordIn_69 (by decide) (fun c_69 => ?_) (fun c_69 => ?_)
                  · skip
                    refine lv_iload hx hb dX7_wordIn_78 (lv_at hl 5 rfl) ?_
                    refine lv_aload_n hx hb dX7_wordIn_80 rfl (lv_at hl 0 rfl) ?_
                    refine k_get (C := RX7) (T := TX7) (N := 9) (ci := 7) (v := .int (nI lt)) X hE hP 0 rfl rfl iX7 6 (by decide) w_377 rfl dX7_wordIn_81 ?_
                    refine lv_icmp_ne (tgt := 114) hx hb dX7_wordIn_84 (by decide) (fun c_84_8 => ?_) (fun c_84_8 => ?_)
                    · have nc_84_8 : ¬ j5 = lt := fun q => c_84_8 ((nI_eq (a := j5) (b := lt) (by omega) (by omega)).mpr q)
                      refine lv_iinc (v := nI (k4 + 1)) (lv' := [(4, .int (nI (k4 + 1))), (0, .ref h0), (1, .ref (aK D 0)), (2, .int 3), (3, .int 0), (5, .int (nI j5))]) hx hb dX7_wordIn_114 hl (k := 4) rfl (nI_1 k4) (by decide) rfl (fun ls hl => ?_)
                      refine lv_goto (tgt := 21) hx hb dX7_wordIn_117 (by decide) ?_
                      exact ih_21 (k4 + 1) () (by omega) (fun k hk => by rcases Nat.lt_or_eq_of_le (Nat.le_of_lt_succ hk) with z | z; exact hno k z; subst z; exact fun y => c_69 (by have x := y.1 j5 (by omega); rw [show wdt 0 = 3 from rfl] at x; exact x)) (by omega) (by omega) _ _ hP hD hS ls (lv_sub hl [1, 2, 3, 4, 0] rfl)
                    · have nc_84_8 : j5 = lt := (nI_eq (a := j5) (b := lt) (by omega) (by omega)).mp c_84_8
                      refine lv_iload hx hb dX7_wordIn_87 (lv_at hl 5 rfl) ?_
                      refine lv_iload_n hx hb dX7_wordIn_89 rfl (lv_at hl 2 rfl) ?_
                      refine lv_icmp_eq (tgt := 109) hx hb dX7_wordIn_90 (by decide) (fun c_90_9 => ?_) (fun c_90_9 => ?_)
                      · have nc_90_9 : j5 = 3 := (nI_eq (a := j5) (b := 3) (by omega) (by omega)).mp c_90_9
                        refine lv_iload_n hx hb dX7_wordIn_109 rfl (lv_at hl 3 rfl) ?_
                        refine lv_iload hx hb dX7_wordIn_110 (lv_at hl 4 rfl) ?_
                        refine lv_iadd hx hb dX7_wordIn_112 ?_
                        refine tk (y := nI (0 + k4)) (nI_add 0 k4) ?_
                        rw [hQ9]
                        exact endI X hr hlocks hP hD hS dX7_wordIn_113 ⟨(nI (0 + k4)), rfl, (Or.inr (by obtain ⟨t1, t2⟩ := mt_isW (i := 0) (k := k4) (by decide) (by rw [show wdt 0 = 3 from rfl]; omega) (by omega) (by rw [show wdt 0 = 3 from rfl]; omega) hnc ⟨fun j hj => by rw [show wdt 0 = 3 from rfl]; exact hsm j (by omega), Or.inl (by unfold wdt; simp +decide only [if_false, if_true]; omega)⟩; exact ⟨_, t2.1, t1, t2, by rw [cm_wno0 t1 t2 (by rw [show wdt 0 = 3 from rfl]; omega) hnc (by omega) ⟨fun j hj => by rw [show wdt 0 = 3 from rfl]; exact hsm j (by omega), Or.inl (by unfold wdt; simp +decide only [if_false, if_true]; omega)⟩]⟩)), rfl⟩
                      · have nc_90_9 : ¬ j5 = 3 := fun q => c_90_9 ((nI_eq (a := j5) (b := 3) (by omega) (by omega)).mpr q)
                        refine lv_aload_n hx hb dX7_wordIn_93 rfl (lv_at hl 1 rfl) ?_
                        refine lv_iload_n hx hb dX7_wordIn_94 rfl (lv_at hl 2 rfl) ?_
                        refine lv_iload hx hb dX7_wordIn_95 (lv_at hl 4 rfl) ?_
                        refine lv_imul hx hb dX7_wordIn_97 ?_
                        refine tk (y := nI (3 * k4)) (pk_mul 3 k4) ?_
                        refine lv_iload hx hb dX7_wordIn_98 (lv_at hl 5 rfl) ?_
                        refine lv_iadd hx hb dX7_wordIn_100 ?_
                        refine tk (y := nI (3 * k4 + j5)) (nI_add (3 * k4) j5) ?_
                        refine kVsi (n3 := 1) (As := [.int (nI (3 * k4 + j5))]) (rest := []) X hl.1 hE hP hD hS hA [0, 1] rfl (by decide) (c_k_charAt l D cA cB 0 (3 * k4 + j5) (by first | assumption | omega | decide | rfl) (by first | assumption | omega | decide | rfl)) w_473 w_421 w_902 w_474 w_475 ((e_str hE).1 0 (by decide)).1 (by decide +kernel) rfl rfl (Nat.le_of_ble_eq_true rfl) ⟨(Nat.le_of_ble_eq_true rfl), (Nat.le_of_ble_eq_true rfl)⟩ ⟨(Nat.le_of_ble_eq_true rfl), (Nat.le_of_ble_eq_true rfl)⟩ dX7_wordIn_101 (fun r W1 H locs hw hP hD hS => ?_)
                        obtain ⟨rfl, rfl⟩ := hw
                        have hP : va_P D classes [(h0, .inr (7, [.ref htb, .int (nI ln), .int (nI le), .int (nI ax), .int kd, .int (nI pl), .int (nI lt), .int vl, .int ms])), (htb, .inl (cA, 6000, .inl tz))] H := hP
                        have hD : va_D A [(h0, .inr (7, [.ref htb, .int (nI ln), .int (nI le), .int (nI ax), .int kd, .int (nI pl), .int (nI lt), .int vl, .int ms])), (htb, .inl (cA, 6000, .inl tz))] := hD
                        refine lv_bipush (v := 32) hx hb dX7_wordIn_104 (by decide) ?_
                        have hsb9 := (sbN_all 0 (by omega) (3 * k4 + j5) (by omega)).2.2
                        refine lv_icmp_ne (tgt := 114) hx hb dX7_wordIn_106 (by decide) (fun c_106_10 => ?_) (fun c_106_10 => ?_)
                        · have nc_106_10 : ¬ (sbN 0 (3 * k4 + j5)) = 32 := fun q => c_106_10 ((nI_eq (a := sbN 0 (3 * k4 + j5)) (b := 32) (by omega) (by omega)).mpr q)
                          refine lv_iinc (v := nI (k4 + 1)) (lv' := [(4, .int (nI (k4 + 1))), (0, .ref h0), (1, .ref (aK D 0)), (2, .int 3), (3, .int 0), (5, .int (nI j5))]) hx hb dX7_wordIn_114 hl (k := 4) rfl (nI_1 k4) (by decide) rfl (fun ls hl => ?_)
                          refine lv_goto (tgt := 21) hx hb dX7_wordIn_117 (by decide) ?_
                          exact ih_21 (k4 + 1) () (by omega) (fun k hk => by rcases Nat.lt_or_eq_of_le (Nat.le_of_lt_succ hk) with z | z; exact hno k z; subst z; exact fun y => y.2.elim (fun x => absurd x (by rw [show wdt 0 = 3 from rfl]; omega)) (fun x => nc_106_10 (by rw [show wdt 0 = 3 from rfl] at x; rw [show j5 = lt by omega]; exact x))) (by omega) (by omega) _ _ hP hD hS ls (lv_sub hl [1, 2, 3, 4, 0] rfl)
                        · have nc_106_10 : (sbN 0 (3 * k4 + j5)) = 32 := (nI_eq (a := sbN 0 (3 * k4 + j5)) (b := 32) (by omega) (by omega)).mp c_106_10
                          refine lv_iload_n hx hb dX7_wordIn_109 rfl (lv_at hl 3 rfl) ?_
                          refine lv_iload hx hb dX7_wordIn_110 (lv_at hl 4 rfl) ?_
                          refine lv_iadd hx hb dX7_wordIn_112 ?_
                          refine tk (y := nI (0 + k4)) (nI_add 0 k4) ?_
                          rw [hQ9]
                          exact endI X hr hlocks hP hD hS dX7_wordIn_113 ⟨(nI (0 + k4)), rfl, (Or.inr (by obtain ⟨t1, t2⟩ := mt_isW (i := 0) (k := k4) (by decide) (by rw [show wdt 0 = 3 from rfl]; omega) (by omega) (by rw [show wdt 0 = 3 from rfl]; omega) hnc ⟨fun j hj => by rw [show wdt 0 = 3 from rfl]; exact hsm j (by omega), Or.inr (by rw [show wdt 0 = 3 from rfl, show lt = j5 by omega]; exact nc_106_10)⟩; exact ⟨_, t2.1, t1, t2, by rw [cm_wno0 t1 t2 (by rw [show wdt 0 = 3 from rfl]; omega) hnc (by omega) ⟨fun j hj => by rw [show wdt 0 = 3 from rfl]; exact hsm j (by omega), Or.inr (by rw [show wdt 0 = 3 from rfl, show lt = j5 by omega]; exact nc_106_10)⟩]⟩)), rfl⟩
                  · skip
                    refine lv_iinc (v := nI (j5 + 1)) (lv' := [(5, .int (nI (j5 + 1))), (0, .ref h0), (1, .ref (aK D 0)), (2, .int 3), (3, .int 0), (4, .int (nI k4))]) hx hb dX7_wordIn_72 hl (k := 5) rfl (nI_1 j5) (by decide) rfl (fun ls hl => ?_)
                    refine lv_goto (tgt := 37) hx hb dX7_wordIn_75 (by decide) ?_
                    exact ih_37 (j5 + 1) (by omega) (by omega) (fun j hj => by rcases Nat.lt_or_eq_of_le (Nat.le_of_lt_succ hj) with z | z; exact hsm j z; subst z; exact c_69) (by omega) _ _ hP hD hS ls (lv_sub hl [1, 2, 3, 4, 5, 0] rfl)
            exact loop_37 6012 0 (by omega) (by omega) (fun j hj => absurd hj (by omega)) (by omega) _ _ hP hD hS ls (lv_sub hl [1, 2, 3, 4, 5, 0] rfl)
      exact loop_21 99 0 () (by omega) (fun k hk => absurd hk (by omega)) (by omega) (by omega) _ _ hP hD hS ls (lv_sub hl [1, 2, 3, 4, 0] rfl)
    · have nc_13_2 : 3 < lt := Nat.not_le.mp (fun q => c_13_2 ((nI_leI (a := lt) (b := 3) (by omega) (by omega)).mpr q))
      refine lv_iconst (v := (-1)) hx hb dX7_wordIn_16 (by decide) ?_
      rw [hQ9]
      exact endI X hr hlocks hP hD hS dX7_wordIn_17 ⟨(-1), rfl, (Or.inl ⟨rfl, fun w hw z => by obtain ⟨y1, y2, y3, y4⟩ := isW_mt z; rw [hw, show wdt 0 = 3 from rfl] at y3; omega⟩), rfl⟩
theorem cm_wno1 {s : Nat → Int32} {k pl lt : Nat} (t1 : tabo (wno 1 k) = 1) (t2 : isW s pl (pl + lt) (wno 1 k)) (hk : wdt 1 * (k + 1) ≤ sl 1) (hn : ∀ j, j < lt → isNc (s (pl + j)) = true) (h0 : 0 < lt) (h : mtc s 1 k pl lt) : nI (cm (wno 1 k)) = nI (32 + k) := by
  have hk33 : k < 33 := by have e : wdt 1 = 3 := rfl; have e2 : sl 1 = 48 := by decide
                           rw [e, e2] at hk; omega
  rw [cm_no 1 (by decide) k hk33 hk (fun z => by obtain ⟨-, rfl⟩ := z; have y := h.1 0 h0; rw [show sbN 1 (wdt 1 * 11 + 0) = 45 from tab_dash] at y; have x := hn 0 h0; rw [← y, nc_45] at x; exact absurd x (by decide))]
  rfl
set_option maxHeartbeats 4000000 in
set_option maxRecDepth 100000 in
theorem c_k_wordIn1 (l : Launch) (D : va_G) (cA cB : ClassId) (h0 : Nat) (htb : Nat) (ln : Nat) (le : Nat) (ax : Nat) (kd : Int32) (pl : Nat) (lt : Nat) (vl : Int32) (ms : Int32) (tz : Nat → Int32) (hln : ln < 6001) (hle : le < 6001) (hax : ax < 6001) (hpl : pl < 6010) (hlt : lt < 6010) (htz : ∀ j, j < 6000 → ∃ k : Nat, k < 256 ∧ tz j = nI k) (hpl2 : pl + lt ≤ ln) (hnc : ∀ j, j < lt → isNc (sgn ln tz (pl + j)) = true) : CI l yX7_wordIn cX7_wordIn 6 (some .int) 4 85 0 0 D cA cB [.ref h0, .ref (aK D 1), .int 3, .int 32] [(h0, .inr (7, [.ref htb, .int (nI ln), .int (nI le), .int (nI ax), .int kd, .int (nI pl), .int (nI lt), .int vl, .int ms])), (htb, .inl (cA, 6000, .inl tz))] (fun r W1 => ∃ (rv : Int32), r = rv ∧ ((rv = -1 ∧ ∀ w, tabo w = 1 → ¬ isW (sgn ln tz) pl (pl + lt) w) ∨ (∃ w : Nat, w < 84 ∧ tabo w = 1 ∧ isW (sgn ln tz) pl (pl + lt) w ∧ rv = nI (cm w))) ∧ W1 = [(h0, .inr (7, [.ref htb, .int (nI ln), .int (nI le), .int (nI ax), .int kd, .int (nI pl), .int (nI lt), .int vl, .int ms])), (htb, .inl (cA, 6000, .inl tz))]) := by
  refine mkI (lv0 := [(0, .ref h0), (1, .ref (aK D 1)), (2, .int 3), (3, .int 32)]) (by decide) (Nat.le_of_ble_eq_true rfl) rfl ?_
  intro p e s m below meth c A ls X hr hlocks hnm hE hA hP hD hS hl
  have hx := X.1
  have hb := X.2.1
  refine qW (fun Q9 hQ9 => ?_)
  have hsl : sl 1 = 48 := by decide
  refine lv_aload_n hx hb dX7_wordIn_0 rfl (lv_at hl 0 rfl) ?_
  refine k_get (C := RX7) (T := TX7) (N := 9) (ci := 7) (v := .int (nI lt)) X hE hP 0 rfl rfl iX7 6 (by decide) w_377 rfl dX7_wordIn_1 ?_
  refine lv_iconst (v := 3) hx hb dX7_wordIn_4 (by decide) ?_
  refine lv_icmp_lt (tgt := 16) hx hb dX7_wordIn_5 (by decide) (fun c_5_1 => ?_) (fun c_5_1 => ?_)
  · have nc_5_1 : lt < 3 := (nI_ltI (a := lt) (b := 3) (by omega) (by omega)).mp c_5_1
    refine lv_iconst (v := (-1)) hx hb dX7_wordIn_16 (by decide) ?_
    rw [hQ9]
    exact endI X hr hlocks hP hD hS dX7_wordIn_17 ⟨(-1), rfl, (Or.inl ⟨rfl, fun w hw z => by obtain ⟨y1, y2, y3, y4⟩ := isW_mt z; rw [hw, show wdt 1 = 3 from rfl] at y3; omega⟩), rfl⟩
  · have nc_5_1 : 3 ≤ lt := Nat.not_lt.mp (fun q => c_5_1 ((nI_ltI (a := lt) (b := 3) (by omega) (by omega)).mpr q))
    refine lv_aload_n hx hb dX7_wordIn_8 rfl (lv_at hl 0 rfl) ?_
    refine k_get (C := RX7) (T := TX7) (N := 9) (ci := 7) (v := .int (nI lt)) X hE hP 0 rfl rfl iX7 6 (by decide) w_377 rfl dX7_wordIn_9 ?_
    refine lv_iload_n hx hb dX7_wordIn_12 rfl (lv_at hl 2 rfl) ?_
    refine lv_icmp_le (tgt := 18) hx hb dX7_wordIn_13 (by decide) (fun c_13_2 => ?_) (fun c_13_2 => ?_)
    · have nc_13_2 : lt ≤ 3 := (nI_leI (a := lt) (b := 3) (by omega) (by omega)).mp c_13_2
      refine lv_iconst (v := 0) hx hb dX7_wordIn_18 (by decide) ?_
      refine lv_istore (lv' := [(4, .int 0), (0, .ref h0), (1, .ref (aK D 1)), (2, .int 3), (3, .int 32)]) hx hb dX7_wordIn_19 hl (by decide) rfl (fun ls hl => ?_)
      have loop_21 : ∀ (n : Nat) (k4 : Nat) (k4v : Unit), (k4 < 98) → (∀ k, k < k4 → ¬ mtc (sgn ln tz) 1 k pl lt) → (3 * k4 ≤ sl 1) → 98 - k4 < n → ∀ (H : Heap) (locs : List Loc), va_P D classes [(h0, .inr (7, [.ref htb, .int (nI ln), .int (nI le), .int (nI ax), .int kd, .int (nI pl), .int (nI lt), .int vl, .int ms])), (htb, .inl (cA, 6000, .inl tz))] H → va_D A [(h0, .inr (7, [.ref htb, .int (nI ln), .int (nI le), .int (nI ax), .int kd, .int (nI pl), .int (nI lt), .int vl, .int ms])), (htb, .inl (cA, 6000, .inl tz))] → va_S A s.heap H locs → ∀ ls : Array Slot, lv_has ls 6 [(0, .ref h0), (1, .ref (aK D 1)), (2, .int 3), (3, .int 32), (4, .int (nI k4))] → W p l e { frames := 4, cells := 0, slots := 0, locals := 85 } s m (List.toArray [.ref h0, .ref (aK D 1), .int 3, .int 32]) below meth c H locs 0 0 Q9 (F0 m 21 ls []) := by
        intro n
        induction n with
        | zero => intro k4 k4v hk4 hno hk33 hfuel; exact absurd hfuel (by omega)
        | succ n ih_21 =>
          intro k4 k4v hk4 hno hk33 hfuel H locs hP hD hS ls hl
          refine lv_iload_n hx hb dX7_wordIn_21 rfl (lv_at hl 2 rfl) ?_
          refine lv_iload hx hb dX7_wordIn_22 (lv_at hl 4 rfl) ?_
          refine lv_iconst (v := 1) hx hb dX7_wordIn_24 (by decide) ?_
          refine lv_iadd hx hb dX7_wordIn_25 ?_
          refine tk (y := nI (k4 + 1)) (nI_add k4 1) ?_
          refine lv_imul hx hb dX7_wordIn_26 ?_
          refine tk (y := nI (3 * (k4 + 1))) (pk_mul 3 (k4 + 1)) ?_
          refine lv_aload_n hx hb dX7_wordIn_27 rfl (lv_at hl 1 rfl) ?_
          refine kVsi (n3 := 0) (As := []) (rest := [.int (nI (3 * (k4 + 1)))]) X hl.1 hE hP hD hS hA [0, 1] rfl (by decide) (c_s_length l D cA cB 1 (by first | assumption | omega | decide | rfl)) w_449 w_421 w_901 w_450 w_451 ((e_str hE).1 1 (by decide)).1 (by decide +kernel) rfl rfl (Nat.le_of_ble_eq_true rfl) ⟨(Nat.le_of_ble_eq_true rfl), (Nat.le_of_ble_eq_true rfl)⟩ ⟨(Nat.le_of_ble_eq_true rfl), (Nat.le_of_ble_eq_true rfl)⟩ dX7_wordIn_28 (fun r W1 H locs hw hP hD hS => ?_)
          obtain ⟨rfl, rfl⟩ := hw
          have hP : va_P D classes [(h0, .inr (7, [.ref htb, .int (nI ln), .int (nI le), .int (nI ax), .int kd, .int (nI pl), .int (nI lt), .int vl, .int ms])), (htb, .inl (cA, 6000, .inl tz))] H := hP
          have hD : va_D A [(h0, .inr (7, [.ref htb, .int (nI ln), .int (nI le), .int (nI ax), .int kd, .int (nI pl), .int (nI lt), .int vl, .int ms])), (htb, .inl (cA, 6000, .inl tz))] := hD
          refine lv_icmp_gt (tgt := 120) hx hb dX7_wordIn_31 (by decide) (fun c_31_3 => ?_) (fun c_31_3 => ?_)
          · have nc_31_3 : (sl 1) < (3 * (k4 + 1)) := (nI_ltI (a := sl 1) (b := 3 * (k4 + 1)) (by omega) (by omega)).mp c_31_3
            refine lv_iconst (v := (-1)) hx hb dX7_wordIn_120 (by decide) ?_
            rw [hQ9]
            exact endI X hr hlocks hP hD hS dX7_wordIn_121 ⟨(-1), rfl, (Or.inl ⟨rfl, fun w hw z => by obtain ⟨y1, y2, y3, y4⟩ := isW_mt z; rw [hw] at y1 y3 y4; rw [show wdt 1 = 3 from rfl] at y1; exact hno (kof w) (by omega) y4⟩), rfl⟩
          · have nc_31_3 : (3 * (k4 + 1)) ≤ (sl 1) := Nat.not_lt.mp (fun q => c_31_3 ((nI_ltI (a := sl 1) (b := 3 * (k4 + 1)) (by omega) (by omega)).mpr q))
            refine lv_iconst (v := 0) hx hb dX7_wordIn_34 (by decide) ?_
            refine lv_istore (lv' := [(5, .int 0), (0, .ref h0), (1, .ref (aK D 1)), (2, .int 3), (3, .int 32), (4, .int (nI k4))]) hx hb dX7_wordIn_35 hl (by decide) rfl (fun ls hl => ?_)
            have loop_37 : ∀ (n : Nat) (j5 : Nat), (j5 < 6011) → (j5 ≤ lt) → (∀ j, j < j5 → nI (sbN 1 (3 * k4 + j)) = sgn ln tz (pl + j)) → lt + 1 - j5 < n → ∀ (H : Heap) (locs : List Loc), va_P D classes [(h0, .inr (7, [.ref htb, .int (nI ln), .int (nI le), .int (nI ax), .int kd, .int (nI pl), .int (nI lt), .int vl, .int ms])), (htb, .inl (cA, 6000, .inl tz))] H → va_D A [(h0, .inr (7, [.ref htb, .int (nI ln), .int (nI le), .int (nI ax), .int kd, .int (nI pl), .int (nI lt), .int vl, .int ms])), (htb, .inl (cA, 6000, .inl tz))] → va_S A s.heap H locs → ∀ ls : Array Slot, lv_has ls 6 [(0, .ref h0), (1, .ref (aK D 1)), (2, .int 3), (3, .int 32), (4, .int (nI k4)), (5, .int (nI j5))] → W p l e { frames := 4, cells := 0, slots := 0, locals := 85 } s m (List.toArray [.ref h0, .ref (aK D 1), .int 3, .int 32]) below meth c H locs 0 0 Q9 (F0 m 37 ls []) := by
              intro n
              induction n with
              | zero => intro j5 hj5 hj6 hsm hfuel; exact absurd hfuel (by omega)
              | succ n ih_37 =>
                intro j5 hj5 hj6 hsm hfuel H locs hP hD hS ls hl
                refine lv_iload hx hb dX7_wordIn_37 (lv_at hl 5 rfl) ?_
                refine lv_aload_n hx hb dX7_wordIn_39 rfl (lv_at hl 0 rfl) ?_
                refine k_get (C := RX7) (T := TX7) (N := 9) (ci := 7) (v := .int (nI lt)) X hE hP 0 rfl rfl iX7 6 (by decide) w_377 rfl dX7_wordIn_40 ?_
                refine lv_icmp_ge (tgt := 78) hx hb dX7_wordIn_43 (by decide) (fun c_43_4 => ?_) (fun c_43_4 => ?_)
                · have nc_43_4 : lt ≤ j5 := (nI_leI (a := lt) (b := j5) (by omega) (by omega)).mp c_43_4
                  refine lv_iload hx hb dX7_wordIn_78 (lv_at hl 5 rfl) ?_
                  refine lv_aload_n hx hb dX7_wordIn_80 rfl (lv_at hl 0 rfl) ?_
                  refine k_get (C := RX7) (T := TX7) (N := 9) (ci := 7) (v := .int (nI lt)) X hE hP 0 rfl rfl iX7 6 (by decide) w_377 rfl dX7_wordIn_81 ?_
                  refine lv_icmp_ne (tgt := 114) hx hb dX7_wordIn_84 (by decide) (fun c_84_5 => ?_) (fun c_84_5 => ?_)
                  · have nc_84_5 : ¬ j5 = lt := fun q => c_84_5 ((nI_eq (a := j5) (b := lt) (by omega) (by omega)).mpr q)
                    refine lv_iinc (v := nI (k4 + 1)) (lv' := [(4, .int (nI (k4 + 1))), (0, .ref h0), (1, .ref (aK D 1)), (2, .int 3), (3, .int 32), (5, .int (nI j5))]) hx hb dX7_wordIn_114 hl (k := 4) rfl (nI_1 k4) (by decide) rfl (fun ls hl => ?_)
                    refine lv_goto (tgt := 21) hx hb dX7_wordIn_117 (by decide) ?_
                    exact ih_21 (k4 + 1) () (by omega) (fun k hk => by rcases Nat.lt_or_eq_of_le (Nat.le_of_lt_succ hk) with z | z; exact hno k z; subst z; exact absurd (show False by omega) id) (by omega) (by omega) _ _ hP hD hS ls (lv_sub hl [1, 2, 3, 4, 0] rfl)
                  · have nc_84_5 : j5 = lt := (nI_eq (a := j5) (b := lt) (by omega) (by omega)).mp c_84_5
                    refine lv_iload hx hb dX7_wordIn_87 (lv_at hl 5 rfl) ?_
                    refine lv_iload_n hx hb dX7_wordIn_89 rfl (lv_at hl 2 rfl) ?_
                    refine lv_icmp_eq (tgt := 109) hx hb dX7_wordIn_90 (by decide) (fun c_90_6 => ?_) (fun c_90_6 => ?_)
                    · have nc_90_6 : j5 = 3 := (nI_eq (a := j5) (b := 3) (by omega) (by omega)).mp c_90_6
                      refine lv_iload_n hx hb dX7_wordIn_109 rfl (lv_at hl 3 rfl) ?_
                      refine lv_iload hx hb dX7_wordIn_110 (lv_at hl 4 rfl) ?_
                      refine lv_iadd hx hb dX7_wordIn_112 ?_
                      refine tk (y := nI (32 + k4)) (nI_add 32 k4) ?_
                      rw [hQ9]
                      exact endI X hr hlocks hP hD hS dX7_wordIn_113 ⟨(nI (32 + k4)), rfl, (Or.inr (by obtain ⟨t1, t2⟩ := mt_isW (i := 1) (k := k4) (by decide) (by rw [show wdt 1 = 3 from rfl]; omega) (by omega) (by rw [show wdt 1 = 3 from rfl]; omega) hnc ⟨fun j hj => by rw [show wdt 1 = 3 from rfl]; exact hsm j (by omega), Or.inl (by unfold wdt; simp +decide only [if_false, if_true]; omega)⟩; exact ⟨_, t2.1, t1, t2, by rw [cm_wno1 t1 t2 (by rw [show wdt 1 = 3 from rfl]; omega) hnc (by omega) ⟨fun j hj => by rw [show wdt 1 = 3 from rfl]; exact hsm j (by omega), Or.inl (by unfold wdt; simp +decide only [if_false, if_true]; omega)⟩]⟩)), rfl⟩
                    · have nc_90_6 : ¬ j5 = 3 := fun q => c_90_6 ((nI_eq (a := j5) (b := 3) (by omega) (by omega)).mpr q)
                      refine lv_aload_n hx hb dX7_wordIn_93 rfl (lv_at hl 1 rfl) ?_
                      refine lv_iload_n hx hb dX7_wordIn_94 rfl (lv_at hl 2 rfl) ?_
                      refine lv_iload hx hb dX7_wordIn_95 (lv_at hl 4 rfl) ?_
                      refine lv_imul hx hb dX7_wordIn_97 ?_
                      refine tk (y := nI (3 * k4)) (pk_mul 3 k4) ?_
                      refine lv_iload hx hb dX7_wordIn_98 (lv_at hl 5 rfl) ?_
                      refine lv_iadd hx hb dX7_wordIn_100 ?_
                      refine tk (y := nI (3 * k4 + j5)) (nI_add (3 * k4) j5) ?_
                      refine kVsi (n3 := 1) (As := [.int (nI (3 * k4 + j5))]) (rest := []) X hl.1 hE hP hD hS hA [0, 1] rfl (by decide) (c_k_charAt l D cA cB 1 (3 * k4 + j5) (by first | assumption | omega | decide | rfl) (by first | assumption | omega | decide | rfl)) w_473 w_421 w_902 w_474 w_475 ((e_str hE).1 1 (by decide)).1 (by decide +kernel) rfl rfl (Nat.le_of_ble_eq_true rfl) ⟨(Nat.le_of_ble_eq_true rfl), (Nat.le_of_ble_eq_true rfl)⟩ ⟨(Nat.le_of_ble_eq_true rfl), (Nat.le_of_ble_eq_true rfl)⟩ dX7_wordIn_101 (fun r W1 H locs hw hP hD hS => ?_)
                      obtain ⟨rfl, rfl⟩ := hw
                      have hP : va_P D classes [(h0, .inr (7, [.ref htb, .int (nI ln), .int (nI le), .int (nI ax), .int kd, .int (nI pl), .int (nI lt), .int vl, .int ms])), (htb, .inl (cA, 6000, .inl tz))] H := hP
                      have hD : va_D A [(h0, .inr (7, [.ref htb, .int (nI ln), .int (nI le), .int (nI ax), .int kd, .int (nI pl), .int (nI lt), .int vl, .int ms])), (htb, .inl (cA, 6000, .inl tz))] := hD
                      refine lv_bipush (v := 32) hx hb dX7_wordIn_104 (by decide) ?_
                      have hsb9 := (sbN_all 1 (by omega) (3 * k4 + j5) (by omega)).2.2
                      refine lv_icmp_ne (tgt := 114) hx hb dX7_wordIn_106 (by decide) (fun c_106_7 => ?_) (fun c_106_7 => ?_)
                      · have nc_106_7 : ¬ (sbN 1 (3 * k4 + j5)) = 32 := fun q => c_106_7 ((nI_eq (a := sbN 1 (3 * k4 + j5)) (b := 32) (by omega) (by omega)).mpr q)
                        refine lv_iinc (v := nI (k4 + 1)) (lv' := [(4, .int (nI (k4 + 1))), (0, .ref h0), (1, .ref (aK D 1)), (2, .int 3), (3, .int 32), (5, .int (nI j5))]) hx hb dX7_wordIn_114 hl (k := 4) rfl (nI_1 k4) (by decide) rfl (fun ls hl => ?_)
                        refine lv_goto (tgt := 21) hx hb dX7_wordIn_117 (by decide) ?_
                        exact ih_21 (k4 + 1) () (by omega) (fun k hk => by rcases Nat.lt_or_eq_of_le (Nat.le_of_lt_succ hk) with z | z; exact hno k z; subst z; exact fun y => y.2.elim (fun x => absurd x (by rw [show wdt 1 = 3 from rfl]; omega)) (fun x => nc_106_7 (by rw [show wdt 1 = 3 from rfl] at x; rw [show j5 = lt by omega]; exact x))) (by omega) (by omega) _ _ hP hD hS ls (lv_sub hl [1, 2, 3, 4, 0] rfl)
                      · have nc_106_7 : (sbN 1 (3 * k4 + j5)) = 32 := (nI_eq (a := sbN 1 (3 * k4 + j5)) (b := 32) (by omega) (by omega)).mp c_106_7
                        refine lv_iload_n hx hb dX7_wordIn_109 rfl (lv_at hl 3 rfl) ?_
                        refine lv_iload hx hb dX7_wordIn_110 (lv_at hl 4 rfl) ?_
                        refine lv_iadd hx hb dX7_wordIn_112 ?_
                        refine tk (y := nI (32 + k4)) (nI_add 32 k4) ?_
                        rw [hQ9]
                        exact endI X hr hlocks hP hD hS dX7_wordIn_113 ⟨(nI (32 + k4)), rfl, (Or.inr (by obtain ⟨t1, t2⟩ := mt_isW (i := 1) (k := k4) (by decide) (by rw [show wdt 1 = 3 from rfl]; omega) (by omega) (by rw [show wdt 1 = 3 from rfl]; omega) hnc ⟨fun j hj => by rw [show wdt 1 = 3 from rfl]; exact hsm j (by omega), Or.inr (by rw [show wdt 1 = 3 from rfl, show lt = j5 by omega]; exact nc_106_7)⟩; exact ⟨_, t2.1, t1, t2, by rw [cm_wno1 t1 t2 (by rw [show wdt 1 = 3 from rfl]; omega) hnc (by omega) ⟨fun j hj => by rw [show wdt 1 = 3 from rfl]; exact hsm j (by omega), Or.inr (by rw [show wdt 1 = 3 from rfl, show lt = j5 by omega]; exact nc_106_7)⟩]⟩)), rfl⟩
                · have nc_43_4 : j5 < lt := Nat.not_le.mp (fun q => c_43_4 ((nI_leI (a := lt) (b := j5) (by omega) (by omega)).mpr q))
                  refine lv_aload_n hx hb dX7_wordIn_46 rfl (lv_at hl 1 rfl) ?_
                  refine lv_iload_n hx hb dX7_wordIn_47 rfl (lv_at hl 2 rfl) ?_
                  refine lv_iload hx hb dX7_wordIn_48 (lv_at hl 4 rfl) ?_
                  refine lv_imul hx hb dX7_wordIn_50 ?_
                  refine tk (y := nI (3 * k4)) (pk_mul 3 k4) ?_
                  refine lv_iload hx hb dX7_wordIn_51 (lv_at hl 5 rfl) ?_
                  refine lv_iadd hx hb dX7_wordIn_53 ?_
                  refine tk (y := nI (3 * k4 + j5)) (nI_add (3 * k4) j5) ?_
                  refine kVsi (n3 := 1) (As := [.int (nI (3 * k4 + j5))]) (rest := []) X hl.1 hE hP hD hS hA [0, 1] rfl (by decide) (c_k_charAt l D cA cB 1 (3 * k4 + j5) (by first | assumption | omega | decide | rfl) (by first | assumption | omega | decide | rfl)) w_473 w_421 w_902 w_474 w_475 ((e_str hE).1 1 (by decide)).1 (by decide +kernel) rfl rfl (Nat.le_of_ble_eq_true rfl) ⟨(Nat.le_of_ble_eq_true rfl), (Nat.le_of_ble_eq_true rfl)⟩ ⟨(Nat.le_of_ble_eq_true rfl), (Nat.le_of_ble_eq_true rfl)⟩ dX7_wordIn_54 (fun r W1 H locs hw hP hD hS => ?_)
                  obtain ⟨rfl, rfl⟩ := hw
                  have hP : va_P D classes [(h0, .inr (7, [.ref htb, .int (nI ln), .int (nI le), .int (nI ax), .int kd, .int (nI pl), .int (nI lt), .int vl, .int ms])), (htb, .inl (cA, 6000, .inl tz))] H := hP
                  have hD : va_D A [(h0, .inr (7, [.ref htb, .int (nI ln), .int (nI le), .int (nI ax), .int kd, .int (nI pl), .int (nI lt), .int vl, .int ms])), (htb, .inl (cA, 6000, .inl tz))] := hD
                  refine lv_aload_n hx hb dX7_wordIn_57 rfl (lv_at hl 0 rfl) ?_
                  refine k_get (C := RX7) (T := TX7) (N := 9) (ci := 7) (v := .ref htb) X hE hP 0 rfl rfl iX7 0 (by decide) w_368 rfl dX7_wordIn_58 ?_
                  refine lv_aload_n hx hb dX7_wordIn_61 rfl (lv_at hl 0 rfl) ?_
                  refine k_get (C := RX7) (T := TX7) (N := 9) (ci := 7) (v := .int (nI pl)) X hE hP 0 rfl rfl iX7 5 (by decide) w_376 rfl dX7_wordIn_62 ?_
                  refine lv_iload hx hb dX7_wordIn_65 (lv_at hl 5 rfl) ?_
                  refine lv_iadd hx hb dX7_wordIn_67 ?_
                  refine tk (y := nI (pl + j5)) (nI_add pl j5) ?_
                  refine k_ald (v := sgn ln tz (pl + j5)) X hE hP 1 rfl (pl + j5) rfl (by omega) (by decide) (sgn_in (by omega)).symm dX7_wordIn_68 ?_
                  refine lv_icmp_ne (tgt := 78) hx hb dX7_wordIn_69 (by decide) (fun c_69 => ?_) (fun c_69 => ?_)
                  · skip
                    refine lv_iload hx hb dX7_wordIn_78 (lv_at hl 5 rfl) ?_
                    refine lv_aload_n hx hb dX7_wordIn_80 rfl (lv_at hl 0 rfl) ?_
                    refine k_get (C := RX7) (T := TX7) (N := 9) (ci := 7) (v := .int (nI lt)) X hE hP 0 rfl rfl iX7 6 (by decide) w_377 rfl dX7_wordIn_81 ?_
                    refine lv_icmp_ne (tgt := 114) hx hb dX7_wordIn_84 (by decide) (fun c_84_8 => ?_) (fun c_84_8 => ?_)
                    · have nc_84_8 : ¬ j5 = lt := fun q => c_84_8 ((nI_eq (a := j5) (b := lt) (by omega) (by omega)).mpr q)
                      refine lv_iinc (v := nI (k4 + 1)) (lv' := [(4, .int (nI (k4 + 1))), (0, .ref h0), (1, .ref (aK D 1)), (2, .int 3), (3, .int 32), (5, .int (nI j5))]) hx hb dX7_wordIn_114 hl (k := 4) rfl (nI_1 k4) (by decide) rfl (fun ls hl => ?_)
                      refine lv_goto (tgt := 21) hx hb dX7_wordIn_117 (by decide) ?_
                      exact ih_21 (k4 + 1) () (by omega) (fun k hk => by rcases Nat.lt_or_eq_of_le (Nat.le_of_lt_succ hk) with z | z; exact hno k z; subst z; exact fun y => c_69 (by have x := y.1 j5 (by omega); rw [show wdt 1 = 3 from rfl] at x; exact x)) (by omega) (by omega) _ _ hP hD hS ls (lv_sub hl [1, 2, 3, 4, 0] rfl)
                    · have nc_84_8 : j5 = lt := (nI_eq (a := j5) (b := lt) (by omega) (by omega)).mp c_84_8
                      refine lv_iload hx hb dX7_wordIn_87 (lv_at hl 5 rfl) ?_
                      refine lv_iload_n hx hb dX7_wordIn_89 rfl (lv_at hl 2 rfl) ?_
                      refine lv_icmp_eq (tgt := 109) hx hb dX7_wordIn_90 (by decide) (fun c_90_9 => ?_) (fun c_90_9 => ?_)
                      · have nc_90_9 : j5 = 3 := (nI_eq (a := j5) (b := 3) (by omega) (by omega)).mp c_90_9
                        refine lv_iload_n hx hb dX7_wordIn_109 rfl (lv_at hl 3 rfl) ?_
                        refine lv_iload hx hb dX7_wordIn_110 (lv_at hl 4 rfl) ?_
                        refine lv_iadd hx hb dX7_wordIn_112 ?_
                        refine tk (y := nI (32 + k4)) (nI_add 32 k4) ?_
                        rw [hQ9]
                        exact endI X hr hlocks hP hD hS dX7_wordIn_113 ⟨(nI (32 + k4)), rfl, (Or.inr (by obtain ⟨t1, t2⟩ := mt_isW (i := 1) (k := k4) (by decide) (by rw [show wdt 1 = 3 from rfl]; omega) (by omega) (by rw [show wdt 1 = 3 from rfl]; omega) hnc ⟨fun j hj => by rw [show wdt 1 = 3 from rfl]; exact hsm j (by omega), Or.inl (by unfold wdt; simp +decide only [if_false, if_true]; omega)⟩; exact ⟨_, t2.1, t1, t2, by rw [cm_wno1 t1 t2 (by rw [show wdt 1 = 3 from rfl]; omega) hnc (by omega) ⟨fun j hj => by rw [show wdt 1 = 3 from rfl]; exact hsm j (by omega), Or.inl (by unfold wdt; simp +decide only [if_false, if_true]; omega)⟩]⟩)), rfl⟩
                      · have nc_90_9 : ¬ j5 = 3 := fun q => c_90_9 ((nI_eq (a := j5) (b := 3) (by omega) (by omega)).mpr q)
                        refine lv_aload_n hx hb dX7_wordIn_93 rfl (lv_at hl 1 rfl) ?_
                        refine lv_iload_n hx hb dX7_wordIn_94 rfl (lv_at hl 2 rfl) ?_
                        refine lv_iload hx hb dX7_wordIn_95 (lv_at hl 4 rfl) ?_
                        refine lv_imul hx hb dX7_wordIn_97 ?_
                        refine tk (y := nI (3 * k4)) (pk_mul 3 k4) ?_
                        refine lv_iload hx hb dX7_wordIn_98 (lv_at hl 5 rfl) ?_
                        refine lv_iadd hx hb dX7_wordIn_100 ?_
                        refine tk (y := nI (3 * k4 + j5)) (nI_add (3 * k4) j5) ?_
                        refine kVsi (n3 := 1) (As := [.int (nI (3 * k4 + j5))]) (rest := []) X hl.1 hE hP hD hS hA [0, 1] rfl (by decide) (c_k_charAt l D cA cB 1 (3 * k4 + j5) (by first | assumption | omega | decide | rfl) (by first | assumption | omega | decide | rfl)) w_473 w_421 w_902 w_474 w_475 ((e_str hE).1 1 (by decide)).1 (by decide +kernel) rfl rfl (Nat.le_of_ble_eq_true rfl) ⟨(Nat.le_of_ble_eq_true rfl), (Nat.le_of_ble_eq_true rfl)⟩ ⟨(Nat.le_of_ble_eq_true rfl), (Nat.le_of_ble_eq_true rfl)⟩ dX7_wordIn_101 (fun r W1 H locs hw hP hD hS => ?_)
                        obtain ⟨rfl, rfl⟩ := hw
                        have hP : va_P D classes [(h0, .inr (7, [.ref htb, .int (nI ln), .int (nI le), .int (nI ax), .int kd, .int (nI pl), .int (nI lt), .int vl, .int ms])), (htb, .inl (cA, 6000, .inl tz))] H := hP
                        have hD : va_D A [(h0, .inr (7, [.ref htb, .int (nI ln), .int (nI le), .int (nI ax), .int kd, .int (nI pl), .int (nI lt), .int vl, .int ms])), (htb, .inl (cA, 6000, .inl tz))] := hD
                        refine lv_bipush (v := 32) hx hb dX7_wordIn_104 (by decide) ?_
                        have hsb9 := (sbN_all 1 (by omega) (3 * k4 + j5) (by omega)).2.2
                        refine lv_icmp_ne (tgt := 114) hx hb dX7_wordIn_106 (by decide) (fun c_106_10 => ?_) (fun c_106_10 => ?_)
                        · have nc_106_10 : ¬ (sbN 1 (3 * k4 + j5)) = 32 := fun q => c_106_10 ((nI_eq (a := sbN 1 (3 * k4 + j5)) (b := 32) (by omega) (by omega)).mpr q)
                          refine lv_iinc (v := nI (k4 + 1)) (lv' := [(4, .int (nI (k4 + 1))), (0, .ref h0), (1, .ref (aK D 1)), (2, .int 3), (3, .int 32), (5, .int (nI j5))]) hx hb dX7_wordIn_114 hl (k := 4) rfl (nI_1 k4) (by decide) rfl (fun ls hl => ?_)
                          refine lv_goto (tgt := 21) hx hb dX7_wordIn_117 (by decide) ?_
                          exact ih_21 (k4 + 1) () (by omega) (fun k hk => by rcases Nat.lt_or_eq_of_le (Nat.le_of_lt_succ hk) with z | z; exact hno k z; subst z; exact fun y => y.2.elim (fun x => absurd x (by rw [show wdt 1 = 3 from rfl]; omega)) (fun x => nc_106_10 (by rw [show wdt 1 = 3 from rfl] at x; rw [show j5 = lt by omega]; exact x))) (by omega) (by omega) _ _ hP hD hS ls (lv_sub hl [1, 2, 3, 4, 0] rfl)
                        · have nc_106_10 : (sbN 1 (3 * k4 + j5)) = 32 := (nI_eq (a := sbN 1 (3 * k4 + j5)) (b := 32) (by omega) (by omega)).mp c_106_10
                          refine lv_iload_n hx hb dX7_wordIn_109 rfl (lv_at hl 3 rfl) ?_
                          refine lv_iload hx hb dX7_wordIn_110 (lv_at hl 4 rfl) ?_
                          refine lv_iadd hx hb dX7_wordIn_112 ?_
                          refine tk (y := nI (32 + k4)) (nI_add 32 k4) ?_
                          rw [hQ9]
                          exact endI X hr hlocks hP hD hS dX7_wordIn_113 ⟨(nI (32 + k4)), rfl, (Or.inr (by obtain ⟨t1, t2⟩ := mt_isW (i := 1) (k := k4) (by decide) (by rw [show wdt 1 = 3 from rfl]; omega) (by omega) (by rw [show wdt 1 = 3 from rfl]; omega) hnc ⟨fun j hj => by rw [show wdt 1 = 3 from rfl]; exact hsm j (by omega), Or.inr (by rw [show wdt 1 = 3 from rfl, show lt = j5 by omega]; exact nc_106_10)⟩; exact ⟨_, t2.1, t1, t2, by rw [cm_wno1 t1 t2 (by rw [show wdt 1 = 3 from rfl]; omega) hnc (by omega) ⟨fun j hj => by rw [show wdt 1 = 3 from rfl]; exact hsm j (by omega), Or.inr (by rw [show wdt 1 = 3 from rfl, show lt = j5 by omega]; exact nc_106_10)⟩]⟩)), rfl⟩
                  · skip
                    refine lv_iinc (v := nI (j5 + 1)) (lv' := [(5, .int (nI (j5 + 1))), (0, .ref h0), (1, .ref (aK D 1)), (2, .int 3), (3, .int 32), (4, .int (nI k4))]) hx hb dX7_wordIn_72 hl (k := 5) rfl (nI_1 j5) (by decide) rfl (fun ls hl => ?_)
                    refine lv_goto (tgt := 37) hx hb dX7_wordIn_75 (by decide) ?_
                    exact ih_37 (j5 + 1) (by omega) (by omega) (fun j hj => by rcases Nat.lt_or_eq_of_le (Nat.le_of_lt_succ hj) with z | z; exact hsm j z; subst z; exact c_69) (by omega) _ _ hP hD hS ls (lv_sub hl [1, 2, 3, 4, 5, 0] rfl)
            exact loop_37 6012 0 (by omega) (by omega) (fun j hj => absurd hj (by omega)) (by omega) _ _ hP hD hS ls (lv_sub hl [1, 2, 3, 4, 5, 0] rfl)
      exact loop_21 99 0 () (by omega) (fun k hk => absurd hk (by omega)) (by omega) (by omega) _ _ hP hD hS ls (lv_sub hl [1, 2, 3, 4, 0] rfl)
    · have nc_13_2 : 3 < lt := Nat.not_le.mp (fun q => c_13_2 ((nI_leI (a := lt) (b := 3) (by omega) (by omega)).mpr q))
      refine lv_iconst (v := (-1)) hx hb dX7_wordIn_16 (by decide) ?_
      rw [hQ9]
      exact endI X hr hlocks hP hD hS dX7_wordIn_17 ⟨(-1), rfl, (Or.inl ⟨rfl, fun w hw z => by obtain ⟨y1, y2, y3, y4⟩ := isW_mt z; rw [hw, show wdt 1 = 3 from rfl] at y3; omega⟩), rfl⟩
theorem cm_wno2 {s : Nat → Int32} {k pl lt : Nat} (t1 : tabo (wno 2 k) = 2) (t2 : isW s pl (pl + lt) (wno 2 k)) (hk : wdt 2 * (k + 1) ≤ sl 2) (hn : ∀ j, j < lt → isNc (s (pl + j)) = true) (h0 : 0 < lt) (h : mtc s 2 k pl lt) : nI (cm (wno 2 k)) = nI (48 + k) := by
  have hk33 : k < 33 := by have e : wdt 2 = 3 := rfl; have e2 : sl 2 = 96 := by decide
                           rw [e, e2] at hk; omega
  rw [cm_no 2 (by decide) k hk33 hk (fun z => absurd z.1 (by decide))]
  rfl
set_option maxHeartbeats 4000000 in
set_option maxRecDepth 100000 in
theorem c_k_wordIn2 (l : Launch) (D : va_G) (cA cB : ClassId) (h0 : Nat) (htb : Nat) (ln : Nat) (le : Nat) (ax : Nat) (kd : Int32) (pl : Nat) (lt : Nat) (vl : Int32) (ms : Int32) (tz : Nat → Int32) (hln : ln < 6001) (hle : le < 6001) (hax : ax < 6001) (hpl : pl < 6010) (hlt : lt < 6010) (htz : ∀ j, j < 6000 → ∃ k : Nat, k < 256 ∧ tz j = nI k) (hpl2 : pl + lt ≤ ln) (hnc : ∀ j, j < lt → isNc (sgn ln tz (pl + j)) = true) : CI l yX7_wordIn cX7_wordIn 6 (some .int) 4 85 0 0 D cA cB [.ref h0, .ref (aK D 2), .int 3, .int 48] [(h0, .inr (7, [.ref htb, .int (nI ln), .int (nI le), .int (nI ax), .int kd, .int (nI pl), .int (nI lt), .int vl, .int ms])), (htb, .inl (cA, 6000, .inl tz))] (fun r W1 => ∃ (rv : Int32), r = rv ∧ ((rv = -1 ∧ ∀ w, tabo w = 2 → ¬ isW (sgn ln tz) pl (pl + lt) w) ∨ (∃ w : Nat, w < 84 ∧ tabo w = 2 ∧ isW (sgn ln tz) pl (pl + lt) w ∧ rv = nI (cm w))) ∧ W1 = [(h0, .inr (7, [.ref htb, .int (nI ln), .int (nI le), .int (nI ax), .int kd, .int (nI pl), .int (nI lt), .int vl, .int ms])), (htb, .inl (cA, 6000, .inl tz))]) := by
  refine mkI (lv0 := [(0, .ref h0), (1, .ref (aK D 2)), (2, .int 3), (3, .int 48)]) (by decide) (Nat.le_of_ble_eq_true rfl) rfl ?_
  intro p e s m below meth c A ls X hr hlocks hnm hE hA hP hD hS hl
  have hx := X.1
  have hb := X.2.1
  refine qW (fun Q9 hQ9 => ?_)
  have hsl : sl 2 = 96 := by decide
  refine lv_aload_n hx hb dX7_wordIn_0 rfl (lv_at hl 0 rfl) ?_
  refine k_get (C := RX7) (T := TX7) (N := 9) (ci := 7) (v := .int (nI lt)) X hE hP 0 rfl rfl iX7 6 (by decide) w_377 rfl dX7_wordIn_1 ?_
  refine lv_iconst (v := 3) hx hb dX7_wordIn_4 (by decide) ?_
  refine lv_icmp_lt (tgt := 16) hx hb dX7_wordIn_5 (by decide) (fun c_5_1 => ?_) (fun c_5_1 => ?_)
  · have nc_5_1 : lt < 3 := (nI_ltI (a := lt) (b := 3) (by omega) (by omega)).mp c_5_1
    refine lv_iconst (v := (-1)) hx hb dX7_wordIn_16 (by decide) ?_
    rw [hQ9]
    exact endI X hr hlocks hP hD hS dX7_wordIn_17 ⟨(-1), rfl, (Or.inl ⟨rfl, fun w hw z => by obtain ⟨y1, y2, y3, y4⟩ := isW_mt z; rw [hw, show wdt 2 = 3 from rfl] at y3; omega⟩), rfl⟩
  · have nc_5_1 : 3 ≤ lt := Nat.not_lt.mp (fun q => c_5_1 ((nI_ltI (a := lt) (b := 3) (by omega) (by omega)).mpr q))
    refine lv_aload_n hx hb dX7_wordIn_8 rfl (lv_at hl 0 rfl) ?_
    refine k_get (C := RX7) (T := TX7) (N := 9) (ci := 7) (v := .int (nI lt)) X hE hP 0 rfl rfl iX7 6 (by decide) w_377 rfl dX7_wordIn_9 ?_
    refine lv_iload_n hx hb dX7_wordIn_12 rfl (lv_at hl 2 rfl) ?_
    refine lv_icmp_le (tgt := 18) hx hb dX7_wordIn_13 (by decide) (fun c_13_2 => ?_) (fun c_13_2 => ?_)
    · have nc_13_2 : lt ≤ 3 := (nI_leI (a := lt) (b := 3) (by omega) (by omega)).mp c_13_2
      refine lv_iconst (v := 0) hx hb dX7_wordIn_18 (by decide) ?_
      refine lv_istore (lv' := [(4, .int 0), (0, .ref h0), (1, .ref (aK D 2)), (2, .int 3), (3, .int 48)]) hx hb dX7_wordIn_19 hl (by decide) rfl (fun ls hl => ?_)
      have loop_21 : ∀ (n : Nat) (k4 : Nat) (k4v : Unit), (k4 < 98) → (∀ k, k < k4 → ¬ mtc (sgn ln tz) 2 k pl lt) → (3 * k4 ≤ sl 2) → 98 - k4 < n → ∀ (H : Heap) (locs : List Loc), va_P D classes [(h0, .inr (7, [.ref htb, .int (nI ln), .int (nI le), .int (nI ax), .int kd, .int (nI pl), .int (nI lt), .int vl, .int ms])), (htb, .inl (cA, 6000, .inl tz))] H → va_D A [(h0, .inr (7, [.ref htb, .int (nI ln), .int (nI le), .int (nI ax), .int kd, .int (nI pl), .int (nI lt), .int vl, .int ms])), (htb, .inl (cA, 6000, .inl tz))] → va_S A s.heap H locs → ∀ ls : Array Slot, lv_has ls 6 [(0, .ref h0), (1, .ref (aK D 2)), (2, .int 3), (3, .int 48), (4, .int (nI k4))] → W p l e { frames := 4, cells := 0, slots := 0, locals := 85 } s m (List.toArray [.ref h0, .ref (aK D 2), .int 3, .int 48]) below meth c H locs 0 0 Q9 (F0 m 21 ls []) := by
        intro n
        induction n with
        | zero => intro k4 k4v hk4 hno hk33 hfuel; exact absurd hfuel (by omega)
        | succ n ih_21 =>
          intro k4 k4v hk4 hno hk33 hfuel H locs hP hD hS ls hl
          refine lv_iload_n hx hb dX7_wordIn_21 rfl (lv_at hl 2 rfl) ?_
          refine lv_iload hx hb dX7_wordIn_22 (lv_at hl 4 rfl) ?_
          refine lv_iconst (v := 1) hx hb dX7_wordIn_24 (by decide) ?_
          refine lv_iadd hx hb dX7_wordIn_25 ?_
          refine tk (y := nI (k4 + 1)) (nI_add k4 1) ?_
          refine lv_imul hx hb dX7_wordIn_26 ?_
          refine tk (y := nI (3 * (k4 + 1))) (pk_mul 3 (k4 + 1)) ?_
          refine lv_aload_n hx hb dX7_wordIn_27 rfl (lv_at hl 1 rfl) ?_
          refine kVsi (n3 := 0) (As := []) (rest := [.int (nI (3 * (k4 + 1)))]) X hl.1 hE hP hD hS hA [0, 1] rfl (by decide) (c_s_length l D cA cB 2 (by first | assumption | omega | decide | rfl)) w_449 w_421 w_901 w_450 w_451 ((e_str hE).1 2 (by decide)).1 (by decide +kernel) rfl rfl (Nat.le_of_ble_eq_true rfl) ⟨(Nat.le_of_ble_eq_true rfl), (Nat.le_of_ble_eq_true rfl)⟩ ⟨(Nat.le_of_ble_eq_true rfl), (Nat.le_of_ble_eq_true rfl)⟩ dX7_wordIn_28 (fun r W1 H locs hw hP hD hS => ?_)
          obtain ⟨rfl, rfl⟩ := hw
          have hP : va_P D classes [(h0, .inr (7, [.ref htb, .int (nI ln), .int (nI le), .int (nI ax), .int kd, .int (nI pl), .int (nI lt), .int vl, .int ms])), (htb, .inl (cA, 6000, .inl tz))] H := hP
          have hD : va_D A [(h0, .inr (7, [.ref htb, .int (nI ln), .int (nI le), .int (nI ax), .int kd, .int (nI pl), .int (nI lt), .int vl, .int ms])), (htb, .inl (cA, 6000, .inl tz))] := hD
          refine lv_icmp_gt (tgt := 120) hx hb dX7_wordIn_31 (by decide) (fun c_31_3 => ?_) (fun c_31_3 => ?_)
          · have nc_31_3 : (sl 2) < (3 * (k4 + 1)) := (nI_ltI (a := sl 2) (b := 3 * (k4 + 1)) (by omega) (by omega)).mp c_31_3
            refine lv_iconst (v := (-1)) hx hb dX7_wordIn_120 (by decide) ?_
            rw [hQ9]
            exact endI X hr hlocks hP hD hS dX7_wordIn_121 ⟨(-1), rfl, (Or.inl ⟨rfl, fun w hw z => by obtain ⟨y1, y2, y3, y4⟩ := isW_mt z; rw [hw] at y1 y3 y4; rw [show wdt 2 = 3 from rfl] at y1; exact hno (kof w) (by omega) y4⟩), rfl⟩
          · have nc_31_3 : (3 * (k4 + 1)) ≤ (sl 2) := Nat.not_lt.mp (fun q => c_31_3 ((nI_ltI (a := sl 2) (b := 3 * (k4 + 1)) (by omega) (by omega)).mpr q))
            refine lv_iconst (v := 0) hx hb dX7_wordIn_34 (by decide) ?_
            refine lv_istore (lv' := [(5, .int 0), (0, .ref h0), (1, .ref (aK D 2)), (2, .int 3), (3, .int 48), (4, .int (nI k4))]) hx hb dX7_wordIn_35 hl (by decide) rfl (fun ls hl => ?_)
            have loop_37 : ∀ (n : Nat) (j5 : Nat), (j5 < 6011) → (j5 ≤ lt) → (∀ j, j < j5 → nI (sbN 2 (3 * k4 + j)) = sgn ln tz (pl + j)) → lt + 1 - j5 < n → ∀ (H : Heap) (locs : List Loc), va_P D classes [(h0, .inr (7, [.ref htb, .int (nI ln), .int (nI le), .int (nI ax), .int kd, .int (nI pl), .int (nI lt), .int vl, .int ms])), (htb, .inl (cA, 6000, .inl tz))] H → va_D A [(h0, .inr (7, [.ref htb, .int (nI ln), .int (nI le), .int (nI ax), .int kd, .int (nI pl), .int (nI lt), .int vl, .int ms])), (htb, .inl (cA, 6000, .inl tz))] → va_S A s.heap H locs → ∀ ls : Array Slot, lv_has ls 6 [(0, .ref h0), (1, .ref (aK D 2)), (2, .int 3), (3, .int 48), (4, .int (nI k4)), (5, .int (nI j5))] → W p l e { frames := 4, cells := 0, slots := 0, locals := 85 } s m (List.toArray [.ref h0, .ref (aK D 2), .int 3, .int 48]) below meth c H locs 0 0 Q9 (F0 m 37 ls []) := by
              intro n
              induction n with
              | zero => intro j5 hj5 hj6 hsm hfuel; exact absurd hfuel (by omega)
              | succ n ih_37 =>
                intro j5 hj5 hj6 hsm hfuel H locs hP hD hS ls hl
                refine lv_iload hx hb dX7_wordIn_37 (lv_at hl 5 rfl) ?_
                refine lv_aload_n hx hb dX7_wordIn_39 rfl (lv_at hl 0 rfl) ?_
                refine k_get (C := RX7) (T := TX7) (N := 9) (ci := 7) (v := .int (nI lt)) X hE hP 0 rfl rfl iX7 6 (by decide) w_377 rfl dX7_wordIn_40 ?_
                refine lv_icmp_ge (tgt := 78) hx hb dX7_wordIn_43 (by decide) (fun c_43_4 => ?_) (fun c_43_4 => ?_)
                · have nc_43_4 : lt ≤ j5 := (nI_leI (a := lt) (b := j5) (by omega) (by omega)).mp c_43_4
                  refine lv_iload hx hb dX7_wordIn_78 (lv_at hl 5 rfl) ?_
                  refine lv_aload_n hx hb dX7_wordIn_80 rfl (lv_at hl 0 rfl) ?_
                  refine k_get (C := RX7) (T := TX7) (N := 9) (ci := 7) (v := .int (nI lt)) X hE hP 0 rfl rfl iX7 6 (by decide) w_377 rfl dX7_wordIn_81 ?_
                  refine lv_icmp_ne (tgt := 114) hx hb dX7_wordIn_84 (by decide) (fun c_84_5 => ?_) (fun c_84_5 => ?_)
                  · have nc_84_5 : ¬ j5 = lt := fun q => c_84_5 ((nI_eq (a := j5) (b := lt) (by omega) (by omega)).mpr q)
                    refine lv_iinc (v := nI (k4 + 1)) (lv' := [(4, .int (nI (k4 + 1))), (0, .ref h0), (1, .ref (aK D 2)), (2, .int 3), (3, .int 48), (5, .int (nI j5))]) hx hb dX7_wordIn_114 hl (k := 4) rfl (nI_1 k4) (by decide) rfl (fun ls hl => ?_)
                    refine lv_goto (tgt := 21) hx hb dX7_wordIn_117 (by decide) ?_
                    exact ih_21 (k4 + 1) () (by omega) (fun k hk => by rcases Nat.lt_or_eq_of_le (Nat.le_of_lt_succ hk) with z | z; exact hno k z; subst z; exact absurd (show False by omega) id) (by omega) (by omega) _ _ hP hD hS ls (lv_sub hl [1, 2, 3, 4, 0] rfl)
                  · have nc_84_5 : j5 = lt := (nI_eq (a := j5) (b := lt) (by omega) (by omega)).mp c_84_5
                    refine lv_iload hx hb dX7_wordIn_87 (lv_at hl 5 rfl) ?_
                    refine lv_iload_n hx hb dX7_wordIn_89 rfl (lv_at hl 2 rfl) ?_
                    refine lv_icmp_eq (tgt := 109) hx hb dX7_wordIn_90 (by decide) (fun c_90_6 => ?_) (fun c_90_6 => ?_)
                    · have nc_90_6 : j5 = 3 := (nI_eq (a := j5) (b := 3) (by omega) (by omega)).mp c_90_6
                      refine lv_iload_n hx hb dX7_wordIn_109 rfl (lv_at hl 3 rfl) ?_
                      refine lv_iload hx hb dX7_wordIn_110 (lv_at hl 4 rfl) ?_
                      refine lv_iadd hx hb dX7_wordIn_112 ?_
                      refine tk (y := nI (48 + k4)) (nI_add 48 k4) ?_
                      rw [hQ9]
                      exact endI X hr hlocks hP hD hS dX7_wordIn_113 ⟨(nI (48 + k4)), rfl, (Or.inr (by obtain ⟨t1, t2⟩ := mt_isW (i := 2) (k := k4) (by decide) (by rw [show wdt 2 = 3 from rfl]; omega) (by omega) (by rw [show wdt 2 = 3 from rfl]; omega) hnc ⟨fun j hj => by rw [show wdt 2 = 3 from rfl]; exact hsm j (by omega), Or.inl (by unfold wdt; simp +decide only [if_false, if_true]; omega)⟩; exact ⟨_, t2.1, t1, t2, by rw [cm_wno2 t1 t2 (by rw [show wdt 2 = 3 from rfl]; omega) hnc (by omega) ⟨fun j hj => by rw [show wdt 2 = 3 from rfl]; exact hsm j (by omega), Or.inl (by unfold wdt; simp +decide only [if_false, if_true]; omega)⟩]⟩)), rfl⟩
                    · have nc_90_6 : ¬ j5 = 3 := fun q => c_90_6 ((nI_eq (a := j5) (b := 3) (by omega) (by omega)).mpr q)
                      refine lv_aload_n hx hb dX7_wordIn_93 rfl (lv_at hl 1 rfl) ?_
                      refine lv_iload_n hx hb dX7_wordIn_94 rfl (lv_at hl 2 rfl) ?_
                      refine lv_iload hx hb dX7_wordIn_95 (lv_at hl 4 rfl) ?_
                      refine lv_imul hx hb dX7_wordIn_97 ?_
                      refine tk (y := nI (3 * k4)) (pk_mul 3 k4) ?_
                      refine lv_iload hx hb dX7_wordIn_98 (lv_at hl 5 rfl) ?_
                      refine lv_iadd hx hb dX7_wordIn_100 ?_
                      refine tk (y := nI (3 * k4 + j5)) (nI_add (3 * k4) j5) ?_
                      refine kVsi (n3 := 1) (As := [.int (nI (3 * k4 + j5))]) (rest := []) X hl.1 hE hP hD hS hA [0, 1] rfl (by decide) (c_k_charAt l D cA cB 2 (3 * k4 + j5) (by first | assumption | omega | decide | rfl) (by first | assumption | omega | decide | rfl)) w_473 w_421 w_902 w_474 w_475 ((e_str hE).1 2 (by decide)).1 (by decide +kernel) rfl rfl (Nat.le_of_ble_eq_true rfl) ⟨(Nat.le_of_ble_eq_true rfl), (Nat.le_of_ble_eq_true rfl)⟩ ⟨(Nat.le_of_ble_eq_true rfl), (Nat.le_of_ble_eq_true rfl)⟩ dX7_wordIn_101 (fun r W1 H locs hw hP hD hS => ?_)
                      obtain ⟨rfl, rfl⟩ := hw
                      have hP : va_P D classes [(h0, .inr (7, [.ref htb, .int (nI ln), .int (nI le), .int (nI ax), .int kd, .int (nI pl), .int (nI lt), .int vl, .int ms])), (htb, .inl (cA, 6000, .inl tz))] H := hP
                      have hD : va_D A [(h0, .inr (7, [.ref htb, .int (nI ln), .int (nI le), .int (nI ax), .int kd, .int (nI pl), .int (nI lt), .int vl, .int ms])), (htb, .inl (cA, 6000, .inl tz))] := hD
                      refine lv_bipush (v := 32) hx hb dX7_wordIn_104 (by decide) ?_
                      have hsb9 := (sbN_all 2 (by omega) (3 * k4 + j5) (by omega)).2.2
                      refine lv_icmp_ne (tgt := 114) hx hb dX7_wordIn_106 (by decide) (fun c_106_7 => ?_) (fun c_106_7 => ?_)
                      · have nc_106_7 : ¬ (sbN 2 (3 * k4 + j5)) = 32 := fun q => c_106_7 ((nI_eq (a := sbN 2 (3 * k4 + j5)) (b := 32) (by omega) (by omega)).mpr q)
                        refine lv_iinc (v := nI (k4 + 1)) (lv' := [(4, .int (nI (k4 + 1))), (0, .ref h0), (1, .ref (aK D 2)), (2, .int 3), (3, .int 48), (5, .int (nI j5))]) hx hb dX7_wordIn_114 hl (k := 4) rfl (nI_1 k4) (by decide) rfl (fun ls hl => ?_)
                        refine lv_goto (tgt := 21) hx hb dX7_wordIn_117 (by decide) ?_
                        exact ih_21 (k4 + 1) () (by omega) (fun k hk => by rcases Nat.lt_or_eq_of_le (Nat.le_of_lt_succ hk) with z | z; exact hno k z; subst z; exact fun y => y.2.elim (fun x => absurd x (by rw [show wdt 2 = 3 from rfl]; omega)) (fun x => nc_106_7 (by rw [show wdt 2 = 3 from rfl] at x; rw [show j5 = lt by omega]; exact x))) (by omega) (by omega) _ _ hP hD hS ls (lv_sub hl [1, 2, 3, 4, 0] rfl)
                      · have nc_106_7 : (sbN 2 (3 * k4 + j5)) = 32 := (nI_eq (a := sbN 2 (3 * k4 + j5)) (b := 32) (by omega) (by omega)).mp c_106_7
                        refine lv_iload_n hx hb dX7_wordIn_109 rfl (lv_at hl 3 rfl) ?_
                        refine lv_iload hx hb dX7_wordIn_110 (lv_at hl 4 rfl) ?_
                        refine lv_iadd hx hb dX7_wordIn_112 ?_
                        refine tk (y := nI (48 + k4)) (nI_add 48 k4) ?_
                        rw [hQ9]
                        exact endI X hr hlocks hP hD hS dX7_wordIn_113 ⟨(nI (48 + k4)), rfl, (Or.inr (by obtain ⟨t1, t2⟩ := mt_isW (i := 2) (k := k4) (by decide) (by rw [show wdt 2 = 3 from rfl]; omega) (by omega) (by rw [show wdt 2 = 3 from rfl]; omega) hnc ⟨fun j hj => by rw [show wdt 2 = 3 from rfl]; exact hsm j (by omega), Or.inr (by rw [show wdt 2 = 3 from rfl, show lt = j5 by omega]; exact nc_106_7)⟩; exact ⟨_, t2.1, t1, t2, by rw [cm_wno2 t1 t2 (by rw [show wdt 2 = 3 from rfl]; omega) hnc (by omega) ⟨fun j hj => by rw [show wdt 2 = 3 from rfl]; exact hsm j (by omega), Or.inr (by rw [show wdt 2 = 3 from rfl, show lt = j5 by omega]; exact nc_106_7)⟩]⟩)), rfl⟩
                · have nc_43_4 : j5 < lt := Nat.not_le.mp (fun q => c_43_4 ((nI_leI (a := lt) (b := j5) (by omega) (by omega)).mpr q))
                  refine lv_aload_n hx hb dX7_wordIn_46 rfl (lv_at hl 1 rfl) ?_
                  refine lv_iload_n hx hb dX7_wordIn_47 rfl (lv_at hl 2 rfl) ?_
                  refine lv_iload hx hb dX7_wordIn_48 (lv_at hl 4 rfl) ?_
                  refine lv_imul hx hb dX7_wordIn_50 ?_
                  refine tk (y := nI (3 * k4)) (pk_mul 3 k4) ?_
                  refine lv_iload hx hb dX7_wordIn_51 (lv_at hl 5 rfl) ?_
                  refine lv_iadd hx hb dX7_wordIn_53 ?_
                  refine tk (y := nI (3 * k4 + j5)) (nI_add (3 * k4) j5) ?_
                  refine kVsi (n3 := 1) (As := [.int (nI (3 * k4 + j5))]) (rest := []) X hl.1 hE hP hD hS hA [0, 1] rfl (by decide) (c_k_charAt l D cA cB 2 (3 * k4 + j5) (by first | assumption | omega | decide | rfl) (by first | assumption | omega | decide | rfl)) w_473 w_421 w_902 w_474 w_475 ((e_str hE).1 2 (by decide)).1 (by decide +kernel) rfl rfl (Nat.le_of_ble_eq_true rfl) ⟨(Nat.le_of_ble_eq_true rfl), (Nat.le_of_ble_eq_true rfl)⟩ ⟨(Nat.le_of_ble_eq_true rfl), (Nat.le_of_ble_eq_true rfl)⟩ dX7_wordIn_54 (fun r W1 H locs hw hP hD hS => ?_)
                  obtain ⟨rfl, rfl⟩ := hw
                  have hP : va_P D classes [(h0, .inr (7, [.ref htb, .int (nI ln), .int (nI le), .int (nI ax), .int kd, .int (nI pl), .int (nI lt), .int vl, .int ms])), (htb, .inl (cA, 6000, .inl tz))] H := hP
                  have hD : va_D A [(h0, .inr (7, [.ref htb, .int (nI ln), .int (nI le), .int (nI ax), .int kd, .int (nI pl), .int (nI lt), .int vl, .int ms])), (htb, .inl (cA, 6000, .inl tz))] := hD
                  refine lv_aload_n hx hb dX7_wordIn_57 rfl (lv_at hl 0 rfl) ?_
                  refine k_get (C := RX7) (T := TX7) (N := 9) (ci := 7) (v := .ref htb) X hE hP 0 rfl rfl iX7 0 (by decide) w_368 rfl dX7_wordIn_58 ?_
                  refine lv_aload_n hx hb dX7_wordIn_61 rfl (lv_at hl 0 rfl) ?_
                  refine k_get (C := RX7) (T := TX7) (N := 9) (ci := 7) (v := .int (nI pl)) X hE hP 0 rfl rfl iX7 5 (by decide) w_376 rfl dX7_wordIn_62 ?_
                  refine lv_iload hx hb dX7_wordIn_65 (lv_at hl 5 rfl) ?_
                  refine lv_iadd hx hb dX7_wordIn_67 ?_
                  refine tk (y := nI (pl + j5)) (nI_add pl j5) ?_
                  refine k_ald (v := sgn ln tz (pl + j5)) X hE hP 1 rfl (pl + j5) rfl (by omega) (by decide) (sgn_in (by omega)).symm dX7_wordIn_68 ?_
                  refine lv_icmp_ne (tgt := 78) hx hb dX7_wordIn_69 (by decide) (fun c_69 => ?_) (fun c_69 => ?_)
                  · skip
                    refine lv_iload hx hb dX7_wordIn_78 (lv_at hl 5 rfl) ?_
                    refine lv_aload_n hx hb dX7_wordIn_80 rfl (lv_at hl 0 rfl) ?_
                    refine k_get (C := RX7) (T := TX7) (N := 9) (ci := 7) (v := .int (nI lt)) X hE hP 0 rfl rfl iX7 6 (by decide) w_377 rfl dX7_wordIn_81 ?_
                    refine lv_icmp_ne (tgt := 114) hx hb dX7_wordIn_84 (by decide) (fun c_84_8 => ?_) (fun c_84_8 => ?_)
                    · have nc_84_8 : ¬ j5 = lt := fun q => c_84_8 ((nI_eq (a := j5) (b := lt) (by omega) (by omega)).mpr q)
                      refine lv_iinc (v := nI (k4 + 1)) (lv' := [(4, .int (nI (k4 + 1))), (0, .ref h0), (1, .ref (aK D 2)), (2, .int 3), (3, .int 48), (5, .int (nI j5))]) hx hb dX7_wordIn_114 hl (k := 4) rfl (nI_1 k4) (by decide) rfl (fun ls hl => ?_)
                      refine lv_goto (tgt := 21) hx hb dX7_wordIn_117 (by decide) ?_
                      exact ih_21 (k4 + 1) () (by omega) (fun k hk => by rcases Nat.lt_or_eq_of_le (Nat.le_of_lt_succ hk) with z | z; exact hno k z; subst z; exact fun y => c_69 (by have x := y.1 j5 (by omega); rw [show wdt 2 = 3 from rfl] at x; exact x)) (by omega) (by omega) _ _ hP hD hS ls (lv_sub hl [1, 2, 3, 4, 0] rfl)
                    · have nc_84_8 : j5 = lt := (nI_eq (a := j5) (b := lt) (by omega) (by omega)).mp c_84_8
                      refine lv_iload hx hb dX7_wordIn_87 (lv_at hl 5 rfl) ?_
                      refine lv_iload_n hx hb dX7_wordIn_89 rfl (lv_at hl 2 rfl) ?_
                      refine lv_icmp_eq (tgt := 109) hx hb dX7_wordIn_90 (by decide) (fun c_90_9 => ?_) (fun c_90_9 => ?_)
                      · have nc_90_9 : j5 = 3 := (nI_eq (a := j5) (b := 3) (by omega) (by omega)).mp c_90_9
                        refine lv_iload_n hx hb dX7_wordIn_109 rfl (lv_at hl 3 rfl) ?_
                        refine lv_iload hx hb dX7_wordIn_110 (lv_at hl 4 rfl) ?_
                        refine lv_iadd hx hb dX7_wordIn_112 ?_
                        refine tk (y := nI (48 + k4)) (nI_add 48 k4) ?_
                        rw [hQ9]
                        exact endI X hr hlocks hP hD hS dX7_wordIn_113 ⟨(nI (48 + k4)), rfl, (Or.inr (by obtain ⟨t1, t2⟩ := mt_isW (i := 2) (k := k4) (by decide) (by rw [show wdt 2 = 3 from rfl]; omega) (by omega) (by rw [show wdt 2 = 3 from rfl]; omega) hnc ⟨fun j hj => by rw [show wdt 2 = 3 from rfl]; exact hsm j (by omega), Or.inl (by unfold wdt; simp +decide only [if_false, if_true]; omega)⟩; exact ⟨_, t2.1, t1, t2, by rw [cm_wno2 t1 t2 (by rw [show wdt 2 = 3 from rfl]; omega) hnc (by omega) ⟨fun j hj => by rw [show wdt 2 = 3 from rfl]; exact hsm j (by omega), Or.inl (by unfold wdt; simp +decide only [if_false, if_true]; omega)⟩]⟩)), rfl⟩
                      · have nc_90_9 : ¬ j5 = 3 := fun q => c_90_9 ((nI_eq (a := j5) (b := 3) (by omega) (by omega)).mpr q)
                        refine lv_aload_n hx hb dX7_wordIn_93 rfl (lv_at hl 1 rfl) ?_
                        refine lv_iload_n hx hb dX7_wordIn_94 rfl (lv_at hl 2 rfl) ?_
                        refine lv_iload hx hb dX7_wordIn_95 (lv_at hl 4 rfl) ?_
                        refine lv_imul hx hb dX7_wordIn_97 ?_
                        refine tk (y := nI (3 * k4)) (pk_mul 3 k4) ?_
                        refine lv_iload hx hb dX7_wordIn_98 (lv_at hl 5 rfl) ?_
                        refine lv_iadd hx hb dX7_wordIn_100 ?_
                        refine tk (y := nI (3 * k4 + j5)) (nI_add (3 * k4) j5) ?_
                        refine kVsi (n3 := 1) (As := [.int (nI (3 * k4 + j5))]) (rest := []) X hl.1 hE hP hD hS hA [0, 1] rfl (by decide) (c_k_charAt l D cA cB 2 (3 * k4 + j5) (by first | assumption | omega | decide | rfl) (by first | assumption | omega | decide | rfl)) w_473 w_421 w_902 w_474 w_475 ((e_str hE).1 2 (by decide)).1 (by decide +kernel) rfl rfl (Nat.le_of_ble_eq_true rfl) ⟨(Nat.le_of_ble_eq_true rfl), (Nat.le_of_ble_eq_true rfl)⟩ ⟨(Nat.le_of_ble_eq_true rfl), (Nat.le_of_ble_eq_true rfl)⟩ dX7_wordIn_101 (fun r W1 H locs hw hP hD hS => ?_)
                        obtain ⟨rfl, rfl⟩ := hw
                        have hP : va_P D classes [(h0, .inr (7, [.ref htb, .int (nI ln), .int (nI le), .int (nI ax), .int kd, .int (nI pl), .int (nI lt), .int vl, .int ms])), (htb, .inl (cA, 6000, .inl tz))] H := hP
                        have hD : va_D A [(h0, .inr (7, [.ref htb, .int (nI ln), .int (nI le), .int (nI ax), .int kd, .int (nI pl), .int (nI lt), .int vl, .int ms])), (htb, .inl (cA, 6000, .inl tz))] := hD
                        refine lv_bipush (v := 32) hx hb dX7_wordIn_104 (by decide) ?_
                        have hsb9 := (sbN_all 2 (by omega) (3 * k4 + j5) (by omega)).2.2
                        refine lv_icmp_ne (tgt := 114) hx hb dX7_wordIn_106 (by decide) (fun c_106_10 => ?_) (fun c_106_10 => ?_)
                        · have nc_106_10 : ¬ (sbN 2 (3 * k4 + j5)) = 32 := fun q => c_106_10 ((nI_eq (a := sbN 2 (3 * k4 + j5)) (b := 32) (by omega) (by omega)).mpr q)
                          refine lv_iinc (v := nI (k4 + 1)) (lv' := [(4, .int (nI (k4 + 1))), (0, .ref h0), (1, .ref (aK D 2)), (2, .int 3), (3, .int 48), (5, .int (nI j5))]) hx hb dX7_wordIn_114 hl (k := 4) rfl (nI_1 k4) (by decide) rfl (fun ls hl => ?_)
                          refine lv_goto (tgt := 21) hx hb dX7_wordIn_117 (by decide) ?_
                          exact ih_21 (k4 + 1) () (by omega) (fun k hk => by rcases Nat.lt_or_eq_of_le (Nat.le_of_lt_succ hk) with z | z; exact hno k z; subst z; exact fun y => y.2.elim (fun x => absurd x (by rw [show wdt 2 = 3 from rfl]; omega)) (fun x => nc_106_10 (by rw [show wdt 2 = 3 from rfl] at x; rw [show j5 = lt by omega]; exact x))) (by omega) (by omega) _ _ hP hD hS ls (lv_sub hl [1, 2, 3, 4, 0] rfl)
                        · have nc_106_10 : (sbN 2 (3 * k4 + j5)) = 32 := (nI_eq (a := sbN 2 (3 * k4 + j5)) (b := 32) (by omega) (by omega)).mp c_106_10
                          refine lv_iload_n hx hb dX7_wordIn_109 rfl (lv_at hl 3 rfl) ?_
                          refine lv_iload hx hb dX7_wordIn_110 (lv_at hl 4 rfl) ?_
                          refine lv_iadd hx hb dX7_wordIn_112 ?_
                          refine tk (y := nI (48 + k4)) (nI_add 48 k4) ?_
                          rw [hQ9]
                          exact endI X hr hlocks hP hD hS dX7_wordIn_113 ⟨(nI (48 + k4)), rfl, (Or.inr (by obtain ⟨t1, t2⟩ := mt_isW (i := 2) (k := k4) (by decide) (by rw [show wdt 2 = 3 from rfl]; omega) (by omega) (by rw [show wdt 2 = 3 from rfl]; omega) hnc ⟨fun j hj => by rw [show wdt 2 = 3 from rfl]; exact hsm j (by omega), Or.inr (by rw [show wdt 2 = 3 from rfl, show lt = j5 by omega]; exact nc_106_10)⟩; exact ⟨_, t2.1, t1, t2, by rw [cm_wno2 t1 t2 (by rw [show wdt 2 = 3 from rfl]; omega) hnc (by omega) ⟨fun j hj => by rw [show wdt 2 = 3 from rfl]; exact hsm j (by omega), Or.inr (by rw [show wdt 2 = 3 from rfl, show lt = j5 by omega]; exact nc_106_10)⟩]⟩)), rfl⟩
                  · skip
                    refine lv_iinc (v := nI (j5 + 1)) (lv' := [(5, .int (nI (j5 + 1))), (0, .ref h0), (1, .ref (aK D 2)), (2, .int 3), (3, .int 48), (4, .int (nI k4))]) hx hb dX7_wordIn_72 hl (k := 5) rfl (nI_1 j5) (by decide) rfl (fun ls hl => ?_)
                    refine lv_goto (tgt := 37) hx hb dX7_wordIn_75 (by decide) ?_
                    exact ih_37 (j5 + 1) (by omega) (by omega) (fun j hj => by rcases Nat.lt_or_eq_of_le (Nat.le_of_lt_succ hj) with z | z; exact hsm j z; subst z; exact c_69) (by omega) _ _ hP hD hS ls (lv_sub hl [1, 2, 3, 4, 5, 0] rfl)
            exact loop_37 6012 0 (by omega) (by omega) (fun j hj => absurd hj (by omega)) (by omega) _ _ hP hD hS ls (lv_sub hl [1, 2, 3, 4, 5, 0] rfl)
      exact loop_21 99 0 () (by omega) (fun k hk => absurd hk (by omega)) (by omega) (by omega) _ _ hP hD hS ls (lv_sub hl [1, 2, 3, 4, 0] rfl)
    · have nc_13_2 : 3 < lt := Nat.not_le.mp (fun q => c_13_2 ((nI_leI (a := lt) (b := 3) (by omega) (by omega)).mpr q))
      refine lv_iconst (v := (-1)) hx hb dX7_wordIn_16 (by decide) ?_
      rw [hQ9]
      exact endI X hr hlocks hP hD hS dX7_wordIn_17 ⟨(-1), rfl, (Or.inl ⟨rfl, fun w hw z => by obtain ⟨y1, y2, y3, y4⟩ := isW_mt z; rw [hw, show wdt 2 = 3 from rfl] at y3; omega⟩), rfl⟩
theorem cm_wno3 {s : Nat → Int32} {k pl lt : Nat} (t1 : tabo (wno 3 k) = 3) (t2 : isW s pl (pl + lt) (wno 3 k)) (hk : wdt 3 * (k + 1) ≤ sl 3) (hn : ∀ j, j < lt → isNc (s (pl + j)) = true) (h0 : 0 < lt) (h : mtc s 3 k pl lt) : nI (cm (wno 3 k)) = nI (80 + k) := by
  have hk33 : k < 33 := by have e : wdt 3 = 5 := rfl; have e2 : sl 3 = 25 := by decide
                           rw [e, e2] at hk; omega
  rw [cm_no 3 (by decide) k hk33 hk (fun z => absurd z.1 (by decide))]
  rfl
set_option maxHeartbeats 4000000 in
set_option maxRecDepth 100000 in
theorem c_k_wordIn3 (l : Launch) (D : va_G) (cA cB : ClassId) (h0 : Nat) (htb : Nat) (ln : Nat) (le : Nat) (ax : Nat) (kd : Int32) (pl : Nat) (lt : Nat) (vl : Int32) (ms : Int32) (tz : Nat → Int32) (hln : ln < 6001) (hle : le < 6001) (hax : ax < 6001) (hpl : pl < 6010) (hlt : lt < 6010) (htz : ∀ j, j < 6000 → ∃ k : Nat, k < 256 ∧ tz j = nI k) (hpl2 : pl + lt ≤ ln) (hnc : ∀ j, j < lt → isNc (sgn ln tz (pl + j)) = true) : CI l yX7_wordIn cX7_wordIn 6 (some .int) 4 85 0 0 D cA cB [.ref h0, .ref (aK D 3), .int 5, .int 80] [(h0, .inr (7, [.ref htb, .int (nI ln), .int (nI le), .int (nI ax), .int kd, .int (nI pl), .int (nI lt), .int vl, .int ms])), (htb, .inl (cA, 6000, .inl tz))] (fun r W1 => ∃ (rv : Int32), r = rv ∧ ((rv = -1 ∧ ∀ w, tabo w = 3 → ¬ isW (sgn ln tz) pl (pl + lt) w) ∨ (∃ w : Nat, w < 84 ∧ tabo w = 3 ∧ isW (sgn ln tz) pl (pl + lt) w ∧ rv = nI (cm w))) ∧ W1 = [(h0, .inr (7, [.ref htb, .int (nI ln), .int (nI le), .int (nI ax), .int kd, .int (nI pl), .int (nI lt), .int vl, .int ms])), (htb, .inl (cA, 6000, .inl tz))]) := by
  refine mkI (lv0 := [(0, .ref h0), (1, .ref (aK D 3)), (2, .int 5), (3, .int 80)]) (by decide) (Nat.le_of_ble_eq_true rfl) rfl ?_
  intro p e s m below meth c A ls X hr hlocks hnm hE hA hP hD hS hl
  have hx := X.1
  have hb := X.2.1
  refine qW (fun Q9 hQ9 => ?_)
  have hsl : sl 3 = 25 := by decide
  refine lv_aload_n hx hb dX7_wordIn_0 rfl (lv_at hl 0 rfl) ?_
  refine k_get (C := RX7) (T := TX7) (N := 9) (ci := 7) (v := .int (nI lt)) X hE hP 0 rfl rfl iX7 6 (by decide) w_377 rfl dX7_wordIn_1 ?_
  refine lv_iconst (v := 3) hx hb dX7_wordIn_4 (by decide) ?_
  refine lv_icmp_lt (tgt := 16) hx hb dX7_wordIn_5 (by decide) (fun c_5_1 => ?_) (fun c_5_1 => ?_)
  · have nc_5_1 : lt < 3 := (nI_ltI (a := lt) (b := 3) (by omega) (by omega)).mp c_5_1
    refine lv_iconst (v := (-1)) hx hb dX7_wordIn_16 (by decide) ?_
    rw [hQ9]
    exact endI X hr hlocks hP hD hS dX7_wordIn_17 ⟨(-1), rfl, (Or.inl ⟨rfl, fun w hw z => by obtain ⟨y1, y2, y3, y4⟩ := isW_mt z; rw [hw, show wdt 3 = 5 from rfl] at y3; omega⟩), rfl⟩
  · have nc_5_1 : 3 ≤ lt := Nat.not_lt.mp (fun q => c_5_1 ((nI_ltI (a := lt) (b := 3) (by omega) (by omega)).mpr q))
    refine lv_aload_n hx hb dX7_wordIn_8 rfl (lv_at hl 0 rfl) ?_
    refine k_get (C := RX7) (T := TX7) (N := 9) (ci := 7) (v := .int (nI lt)) X hE hP 0 rfl rfl iX7 6 (by decide) w_377 rfl dX7_wordIn_9 ?_
    refine lv_iload_n hx hb dX7_wordIn_12 rfl (lv_at hl 2 rfl) ?_
    refine lv_icmp_le (tgt := 18) hx hb dX7_wordIn_13 (by decide) (fun c_13_2 => ?_) (fun c_13_2 => ?_)
    · have nc_13_2 : lt ≤ 5 := (nI_leI (a := lt) (b := 5) (by omega) (by omega)).mp c_13_2
      refine lv_iconst (v := 0) hx hb dX7_wordIn_18 (by decide) ?_
      refine lv_istore (lv' := [(4, .int 0), (0, .ref h0), (1, .ref (aK D 3)), (2, .int 5), (3, .int 80)]) hx hb dX7_wordIn_19 hl (by decide) rfl (fun ls hl => ?_)
      have loop_21 : ∀ (n : Nat) (k4 : Nat) (k4v : Unit), (k4 < 98) → (∀ k, k < k4 → ¬ mtc (sgn ln tz) 3 k pl lt) → (5 * k4 ≤ sl 3) → 98 - k4 < n → ∀ (H : Heap) (locs : List Loc), va_P D classes [(h0, .inr (7, [.ref htb, .int (nI ln), .int (nI le), .int (nI ax), .int kd, .int (nI pl), .int (nI lt), .int vl, .int ms])), (htb, .inl (cA, 6000, .inl tz))] H → va_D A [(h0, .inr (7, [.ref htb, .int (nI ln), .int (nI le), .int (nI ax), .int kd, .int (nI pl), .int (nI lt), .int vl, .int ms])), (htb, .inl (cA, 6000, .inl tz))] → va_S A s.heap H locs → ∀ ls : Array Slot, lv_has ls 6 [(0, .ref h0), (1, .ref (aK D 3)), (2, .int 5), (3, .int 80), (4, .int (nI k4))] → W p l e { frames := 4, cells := 0, slots := 0, locals := 85 } s m (List.toArray [.ref h0, .ref (aK D 3), .int 5, .int 80]) below meth c H locs 0 0 Q9 (F0 m 21 ls []) := by
        intro n
        induction n with
        | zero => intro k4 k4v hk4 hno hk33 hfuel; exact absurd hfuel (by omega)
        | succ n ih_21 =>
          intro k4 k4v hk4 hno hk33 hfuel H locs hP hD hS ls hl
          refine lv_iload_n hx hb dX7_wordIn_21 rfl (lv_at hl 2 rfl) ?_
          refine lv_iload hx hb dX7_wordIn_22 (lv_at hl 4 rfl) ?_
          refine lv_iconst (v := 1) hx hb dX7_wordIn_24 (by decide) ?_
          refine lv_iadd hx hb dX7_wordIn_25 ?_
          refine tk (y := nI (k4 + 1)) (nI_add k4 1) ?_
          refine lv_imul hx hb dX7_wordIn_26 ?_
          refine tk (y := nI (5 * (k4 + 1))) (pk_mul 5 (k4 + 1)) ?_
          refine lv_aload_n hx hb dX7_wordIn_27 rfl (lv_at hl 1 rfl) ?_
          refine kVsi (n3 := 0) (As := []) (rest := [.int (nI (5 * (k4 + 1)))]) X hl.1 hE hP hD hS hA [0, 1] rfl (by decide) (c_s_length l D cA cB 3 (by first | assumption | omega | decide | rfl)) w_449 w_421 w_901 w_450 w_451 ((e_str hE).1 3 (by decide)).1 (by decide +kernel) rfl rfl (Nat.le_of_ble_eq_true rfl) ⟨(Nat.le_of_ble_eq_true rfl), (Nat.le_of_ble_eq_true rfl)⟩ ⟨(Nat.le_of_ble_eq_true rfl), (Nat.le_of_ble_eq_true rfl)⟩ dX7_wordIn_28 (fun r W1 H locs hw hP hD hS => ?_)
          obtain ⟨rfl, rfl⟩ := hw
          have hP : va_P D classes [(h0, .inr (7, [.ref htb, .int (nI ln), .int (nI le), .int (nI ax), .int kd, .int (nI pl), .int (nI lt), .int vl, .int ms])), (htb, .inl (cA, 6000, .inl tz))] H := hP
          have hD : va_D A [(h0, .inr (7, [.ref htb, .int (nI ln), .int (nI le), .int (nI ax), .int kd, .int (nI pl), .int (nI lt), .int vl, .int ms])), (htb, .inl (cA, 6000, .inl tz))] := hD
          refine lv_icmp_gt (tgt := 120) hx hb dX7_wordIn_31 (by decide) (fun c_31_3 => ?_) (fun c_31_3 => ?_)
          · have nc_31_3 : (sl 3) < (5 * (k4 + 1)) := (nI_ltI (a := sl 3) (b := 5 * (k4 + 1)) (by omega) (by omega)).mp c_31_3
            refine lv_iconst (v := (-1)) hx hb dX7_wordIn_120 (by decide) ?_
            rw [hQ9]
            exact endI X hr hlocks hP hD hS dX7_wordIn_121 ⟨(-1), rfl, (Or.inl ⟨rfl, fun w hw z => by obtain ⟨y1, y2, y3, y4⟩ := isW_mt z; rw [hw] at y1 y3 y4; rw [show wdt 3 = 5 from rfl] at y1; exact hno (kof w) (by omega) y4⟩), rfl⟩
          · have nc_31_3 : (5 * (k4 + 1)) ≤ (sl 3) := Nat.not_lt.mp (fun q => c_31_3 ((nI_ltI (a := sl 3) (b := 5 * (k4 + 1)) (by omega) (by omega)).mpr q))
            refine lv_iconst (v := 0) hx hb dX7_wordIn_34 (by decide) ?_
            refine lv_istore (lv' := [(5, .int 0), (0, .ref h0), (1, .ref (aK D 3)), (2, .int 5), (3, .int 80), (4, .int (nI k4))]) hx hb dX7_wordIn_35 hl (by decide) rfl (fun ls hl => ?_)
            have loop_37 : ∀ (n : Nat) (j5 : Nat), (j5 < 6011) → (j5 ≤ lt) → (∀ j, j < j5 → nI (sbN 3 (5 * k4 + j)) = sgn ln tz (pl + j)) → lt + 1 - j5 < n → ∀ (H : Heap) (locs : List Loc), va_P D classes [(h0, .inr (7, [.ref htb, .int (nI ln), .int (nI le), .int (nI ax), .int kd, .int (nI pl), .int (nI lt), .int vl, .int ms])), (htb, .inl (cA, 6000, .inl tz))] H → va_D A [(h0, .inr (7, [.ref htb, .int (nI ln), .int (nI le), .int (nI ax), .int kd, .int (nI pl), .int (nI lt), .int vl, .int ms])), (htb, .inl (cA, 6000, .inl tz))] → va_S A s.heap H locs → ∀ ls : Array Slot, lv_has ls 6 [(0, .ref h0), (1, .ref (aK D 3)), (2, .int 5), (3, .int 80), (4, .int (nI k4)), (5, .int (nI j5))] → W p l e { frames := 4, cells := 0, slots := 0, locals := 85 } s m (List.toArray [.ref h0, .ref (aK D 3), .int 5, .int 80]) below meth c H locs 0 0 Q9 (F0 m 37 ls []) := by
              intro n
              induction n with
              | zero => intro j5 hj5 hj6 hsm hfuel; exact absurd hfuel (by omega)
              | succ n ih_37 =>
                intro j5 hj5 hj6 hsm hfuel H locs hP hD hS ls hl
                refine lv_iload hx hb dX7_wordIn_37 (lv_at hl 5 rfl) ?_
                refine lv_aload_n hx hb dX7_wordIn_39 rfl (lv_at hl 0 rfl) ?_
                refine k_get (C := RX7) (T := TX7) (N := 9) (ci := 7) (v := .int (nI lt)) X hE hP 0 rfl rfl iX7 6 (by decide) w_377 rfl dX7_wordIn_40 ?_
                refine lv_icmp_ge (tgt := 78) hx hb dX7_wordIn_43 (by decide) (fun c_43_4 => ?_) (fun c_43_4 => ?_)
                · have nc_43_4 : lt ≤ j5 := (nI_leI (a := lt) (b := j5) (by omega) (by omega)).mp c_43_4
                  refine lv_iload hx hb dX7_wordIn_78 (lv_at hl 5 rfl) ?_
                  refine lv_aload_n hx hb dX7_wordIn_80 rfl (lv_at hl 0 rfl) ?_
                  refine k_get (C := RX7) (T := TX7) (N := 9) (ci := 7) (v := .int (nI lt)) X hE hP 0 rfl rfl iX7 6 (by decide) w_377 rfl dX7_wordIn_81 ?_
                  refine lv_icmp_ne (tgt := 114) hx hb dX7_wordIn_84 (by decide) (fun c_84_5 => ?_) (fun c_84_5 => ?_)
                  · have nc_84_5 : ¬ j5 = lt := fun q => c_84_5 ((nI_eq (a := j5) (b := lt) (by omega) (by omega)).mpr q)
                    refine lv_iinc (v := nI (k4 + 1)) (lv' := [(4, .int (nI (k4 + 1))), (0, .ref h0), (1, .ref (aK D 3)), (2, .int 5), (3, .int 80), (5, .int (nI j5))]) hx hb dX7_wordIn_114 hl (k := 4) rfl (nI_1 k4) (by decide) rfl (fun ls hl => ?_)
                    refine lv_goto (tgt := 21) hx hb dX7_wordIn_117 (by decide) ?_
                    exact ih_21 (k4 + 1) () (by omega) (fun k hk => by rcases Nat.lt_or_eq_of_le (Nat.le_of_lt_succ hk) with z | z; exact hno k z; subst z; exact absurd (show False by omega) id) (by omega) (by omega) _ _ hP hD hS ls (lv_sub hl [1, 2, 3, 4, 0] rfl)
                  · have nc_84_5 : j5 = lt := (nI_eq (a := j5) (b := lt) (by omega) (by omega)).mp c_84_5
                    refine lv_iload hx hb dX7_wordIn_87 (lv_at hl 5 rfl) ?_
                    refine lv_iload_n hx hb dX7_wordIn_89 rfl (lv_at hl 2 rfl) ?_
                    refine lv_icmp_eq (tgt := 109) hx hb dX7_wordIn_90 (by decide) (fun c_90_6 => ?_) (fun c_90_6 => ?_)
                    · have nc_90_6 : j5 = 5 := (nI_eq (a := j5) (b := 5) (by omega) (by omega)).mp c_90_6
                      refine lv_iload_n hx hb dX7_wordIn_109 rfl (lv_at hl 3 rfl) ?_
                      refine lv_iload hx hb dX7_wordIn_110 (lv_at hl 4 rfl) ?_
                      refine lv_iadd hx hb dX7_wordIn_112 ?_
                      refine tk (y := nI (80 + k4)) (nI_add 80 k4) ?_
                      rw [hQ9]
                      exact endI X hr hlocks hP hD hS dX7_wordIn_113 ⟨(nI (80 + k4)), rfl, (Or.inr (by obtain ⟨t1, t2⟩ := mt_isW (i := 3) (k := k4) (by decide) (by rw [show wdt 3 = 5 from rfl]; omega) (by omega) (by rw [show wdt 3 = 5 from rfl]; omega) hnc ⟨fun j hj => by rw [show wdt 3 = 5 from rfl]; exact hsm j (by omega), Or.inl (by unfold wdt; simp +decide only [if_false, if_true]; omega)⟩; exact ⟨_, t2.1, t1, t2, by rw [cm_wno3 t1 t2 (by rw [show wdt 3 = 5 from rfl]; omega) hnc (by omega) ⟨fun j hj => by rw [show wdt 3 = 5 from rfl]; exact hsm j (by omega), Or.inl (by unfold wdt; simp +decide only [if_false, if_true]; omega)⟩]⟩)), rfl⟩
                    · have nc_90_6 : ¬ j5 = 5 := fun q => c_90_6 ((nI_eq (a := j5) (b := 5) (by omega) (by omega)).mpr q)
                      refine lv_aload_n hx hb dX7_wordIn_93 rfl (lv_at hl 1 rfl) ?_
                      refine lv_iload_n hx hb dX7_wordIn_94 rfl (lv_at hl 2 rfl) ?_
                      refine lv_iload hx hb dX7_wordIn_95 (lv_at hl 4 rfl) ?_
                      refine lv_imul hx hb dX7_wordIn_97 ?_
                      refine tk (y := nI (5 * k4)) (pk_mul 5 k4) ?_
                      refine lv_iload hx hb dX7_wordIn_98 (lv_at hl 5 rfl) ?_
                      refine lv_iadd hx hb dX7_wordIn_100 ?_
                      refine tk (y := nI (5 * k4 + j5)) (nI_add (5 * k4) j5) ?_
                      refine kVsi (n3 := 1) (As := [.int (nI (5 * k4 + j5))]) (rest := []) X hl.1 hE hP hD hS hA [0, 1] rfl (by decide) (c_k_charAt l D cA cB 3 (5 * k4 + j5) (by first | assumption | omega | decide | rfl) (by first | assumption | omega | decide | rfl)) w_473 w_421 w_902 w_474 w_475 ((e_str hE).1 3 (by decide)).1 (by decide +kernel) rfl rfl (Nat.le_of_ble_eq_true rfl) ⟨(Nat.le_of_ble_eq_true rfl), (Nat.le_of_ble_eq_true rfl)⟩ ⟨(Nat.le_of_ble_eq_true rfl), (Nat.le_of_ble_eq_true rfl)⟩ dX7_wordIn_101 (fun r W1 H locs hw hP hD hS => ?_)
                      obtain ⟨rfl, rfl⟩ := hw
                      have hP : va_P D classes [(h0, .inr (7, [.ref htb, .int (nI ln), .int (nI le), .int (nI ax), .int kd, .int (nI pl), .int (nI lt), .int vl, .int ms])), (htb, .inl (cA, 6000, .inl tz))] H := hP
                      have hD : va_D A [(h0, .inr (7, [.ref htb, .int (nI ln), .int (nI le), .int (nI ax), .int kd, .int (nI pl), .int (nI lt), .int vl, .int ms])), (htb, .inl (cA, 6000, .inl tz))] := hD
                      refine lv_bipush (v := 32) hx hb dX7_wordIn_104 (by decide) ?_
                      have hsb9 := (sbN_all 3 (by omega) (5 * k4 + j5) (by omega)).2.2
                      refine lv_icmp_ne (tgt := 114) hx hb dX7_wordIn_106 (by decide) (fun c_106_7 => ?_) (fun c_106_7 => ?_)
                      · have nc_106_7 : ¬ (sbN 3 (5 * k4 + j5)) = 32 := fun q => c_106_7 ((nI_eq (a := sbN 3 (5 * k4 + j5)) (b := 32) (by omega) (by omega)).mpr q)
                        refine lv_iinc (v := nI (k4 + 1)) (lv' := [(4, .int (nI (k4 + 1))), (0, .ref h0), (1, .ref (aK D 3)), (2, .int 5), (3, .int 80), (5, .int (nI j5))]) hx hb dX7_wordIn_114 hl (k := 4) rfl (nI_1 k4) (by decide) rfl (fun ls hl => ?_)
                        refine lv_goto (tgt := 21) hx hb dX7_wordIn_117 (by decide) ?_
                        exact ih_21 (k4 + 1) () (by omega) (fun k hk => by rcases Nat.lt_or_eq_of_le (Nat.le_of_lt_succ hk) with z | z; exact hno k z; subst z; exact fun y => y.2.elim (fun x => absurd x (by rw [show wdt 3 = 5 from rfl]; omega)) (fun x => nc_106_7 (by rw [show wdt 3 = 5 from rfl] at x; rw [show j5 = lt by omega]; exact x))) (by omega) (by omega) _ _ hP hD hS ls (lv_sub hl [1, 2, 3, 4, 0] rfl)
                      · have nc_106_7 : (sbN 3 (5 * k4 + j5)) = 32 := (nI_eq (a := sbN 3 (5 * k4 + j5)) (b := 32) (by omega) (by omega)).mp c_106_7
                        refine lv_iload_n hx hb dX7_wordIn_109 rfl (lv_at hl 3 rfl) ?_
                        refine lv_iload hx hb dX7_wordIn_110 (lv_at hl 4 rfl) ?_
                        refine lv_iadd hx hb dX7_wordIn_112 ?_
                        refine tk (y := nI (80 + k4)) (nI_add 80 k4) ?_
                        rw [hQ9]
                        exact endI X hr hlocks hP hD hS dX7_wordIn_113 ⟨(nI (80 + k4)), rfl, (Or.inr (by obtain ⟨t1, t2⟩ := mt_isW (i := 3) (k := k4) (by decide) (by rw [show wdt 3 = 5 from rfl]; omega) (by omega) (by rw [show wdt 3 = 5 from rfl]; omega) hnc ⟨fun j hj => by rw [show wdt 3 = 5 from rfl]; exact hsm j (by omega), Or.inr (by rw [show wdt 3 = 5 from rfl, show lt = j5 by omega]; exact nc_106_7)⟩; exact ⟨_, t2.1, t1, t2, by rw [cm_wno3 t1 t2 (by rw [show wdt 3 = 5 from rfl]; omega) hnc (by omega) ⟨fun j hj => by rw [show wdt 3 = 5 from rfl]; exact hsm j (by omega), Or.inr (by rw [show wdt 3 = 5 from rfl, show lt = j5 by omega]; exact nc_106_7)⟩]⟩)), rfl⟩
                · have nc_43_4 : j5 < lt := Nat.not_le.mp (fun q => c_43_4 ((nI_leI (a := lt) (b := j5) (by omega) (by omega)).mpr q))
                  refine lv_aload_n hx hb dX7_wordIn_46 rfl (lv_at hl 1 rfl) ?_
                  refine lv_iload_n hx hb dX7_wordIn_47 rfl (lv_at hl 2 rfl) ?_
                  refine lv_iload hx hb dX7_wordIn_48 (lv_at hl 4 rfl) ?_
                  refine lv_imul hx hb dX7_wordIn_50 ?_
                  refine tk (y := nI (5 * k4)) (pk_mul 5 k4) ?_
                  refine lv_iload hx hb dX7_wordIn_51 (lv_at hl 5 rfl) ?_
                  refine lv_iadd hx hb dX7_wordIn_53 ?_
                  refine tk (y := nI (5 * k4 + j5)) (nI_add (5 * k4) j5) ?_
                  refine kVsi (n3 := 1) (As := [.int (nI (5 * k4 + j5))]) (rest := []) X hl.1 hE hP hD hS hA [0, 1] rfl (by decide) (c_k_charAt l D cA cB 3 (5 * k4 + j5) (by first | assumption | omega | decide | rfl) (by first | assumption | omega | decide | rfl)) w_473 w_421 w_902 w_474 w_475 ((e_str hE).1 3 (by decide)).1 (by decide +kernel) rfl rfl (Nat.le_of_ble_eq_true rfl) ⟨(Nat.le_of_ble_eq_true rfl), (Nat.le_of_ble_eq_true rfl)⟩ ⟨(Nat.le_of_ble_eq_true rfl), (Nat.le_of_ble_eq_true rfl)⟩ dX7_wordIn_54 (fun r W1 H locs hw hP hD hS => ?_)
                  obtain ⟨rfl, rfl⟩ := hw
                  have hP : va_P D classes [(h0, .inr (7, [.ref htb, .int (nI ln), .int (nI le), .int (nI ax), .int kd, .int (nI pl), .int (nI lt), .int vl, .int ms])), (htb, .inl (cA, 6000, .inl tz))] H := hP
                  have hD : va_D A [(h0, .inr (7, [.ref htb, .int (nI ln), .int (nI le), .int (nI ax), .int kd, .int (nI pl), .int (nI lt), .int vl, .int ms])), (htb, .inl (cA, 6000, .inl tz))] := hD
                  refine lv_aload_n hx hb dX7_wordIn_57 rfl (lv_at hl 0 rfl) ?_
                  refine k_get (C := RX7) (T := TX7) (N := 9) (ci := 7) (v := .ref htb) X hE hP 0 rfl rfl iX7 0 (by decide) w_368 rfl dX7_wordIn_58 ?_
                  refine lv_aload_n hx hb dX7_wordIn_61 rfl (lv_at hl 0 rfl) ?_
                  refine k_get (C := RX7) (T := TX7) (N := 9) (ci := 7) (v := .int (nI pl)) X hE hP 0 rfl rfl iX7 5 (by decide) w_376 rfl dX7_wordIn_62 ?_
                  refine lv_iload hx hb dX7_wordIn_65 (lv_at hl 5 rfl) ?_
                  refine lv_iadd hx hb dX7_wordIn_67 ?_
                  refine tk (y := nI (pl + j5)) (nI_add pl j5) ?_
                  refine k_ald (v := sgn ln tz (pl + j5)) X hE hP 1 rfl (pl + j5) rfl (by omega) (by decide) (sgn_in (by omega)).symm dX7_wordIn_68 ?_
                  refine lv_icmp_ne (tgt := 78) hx hb dX7_wordIn_69 (by decide) (fun c_69 => ?_) (fun c_69 => ?_)
                  · skip
                    refine lv_iload hx hb dX7_wordIn_78 (lv_at hl 5 rfl) ?_
                    refine lv_aload_n hx hb dX7_wordIn_80 rfl (lv_at hl 0 rfl) ?_
                    refine k_get (C := RX7) (T := TX7) (N := 9) (ci := 7) (v := .int (nI lt)) X hE hP 0 rfl rfl iX7 6 (by decide) w_377 rfl dX7_wordIn_81 ?_
                    refine lv_icmp_ne (tgt := 114) hx hb dX7_wordIn_84 (by decide) (fun c_84_8 => ?_) (fun c_84_8 => ?_)
                    · have nc_84_8 : ¬ j5 = lt := fun q => c_84_8 ((nI_eq (a := j5) (b := lt) (by omega) (by omega)).mpr q)
                      refine lv_iinc (v := nI (k4 + 1)) (lv' := [(4, .int (nI (k4 + 1))), (0, .ref h0), (1, .ref (aK D 3)), (2, .int 5), (3, .int 80), (5, .int (nI j5))]) hx hb dX7_wordIn_114 hl (k := 4) rfl (nI_1 k4) (by decide) rfl (fun ls hl => ?_)
                      refine lv_goto (tgt := 21) hx hb dX7_wordIn_117 (by decide) ?_
                      exact ih_21 (k4 + 1) () (by omega) (fun k hk => by rcases Nat.lt_or_eq_of_le (Nat.le_of_lt_succ hk) with z | z; exact hno k z; subst z; exact fun y => c_69 (by have x := y.1 j5 (by omega); rw [show wdt 3 = 5 from rfl] at x; exact x)) (by omega) (by omega) _ _ hP hD hS ls (lv_sub hl [1, 2, 3, 4, 0] rfl)
                    · have nc_84_8 : j5 = lt := (nI_eq (a := j5) (b := lt) (by omega) (by omega)).mp c_84_8
                      refine lv_iload hx hb dX7_wordIn_87 (lv_at hl 5 rfl) ?_
                      refine lv_iload_n hx hb dX7_wordIn_89 rfl (lv_at hl 2 rfl) ?_
                      refine lv_icmp_eq (tgt := 109) hx hb dX7_wordIn_90 (by decide) (fun c_90_9 => ?_) (fun c_90_9 => ?_)
                      · have nc_90_9 : j5 = 5 := (nI_eq (a := j5) (b := 5) (by omega) (by omega)).mp c_90_9
                        refine lv_iload_n hx hb dX7_wordIn_109 rfl (lv_at hl 3 rfl) ?_
                        refine lv_iload hx hb dX7_wordIn_110 (lv_at hl 4 rfl) ?_
                        refine lv_iadd hx hb dX7_wordIn_112 ?_
                        refine tk (y := nI (80 + k4)) (nI_add 80 k4) ?_
                        rw [hQ9]
                        exact endI X hr hlocks hP hD hS dX7_wordIn_113 ⟨(nI (80 + k4)), rfl, (Or.inr (by obtain ⟨t1, t2⟩ := mt_isW (i := 3) (k := k4) (by decide) (by rw [show wdt 3 = 5 from rfl]; omega) (by omega) (by rw [show wdt 3 = 5 from rfl]; omega) hnc ⟨fun j hj => by rw [show wdt 3 = 5 from rfl]; exact hsm j (by omega), Or.inl (by unfold wdt; simp +decide only [if_false, if_true]; omega)⟩; exact ⟨_, t2.1, t1, t2, by rw [cm_wno3 t1 t2 (by rw [show wdt 3 = 5 from rfl]; omega) hnc (by omega) ⟨fun j hj => by rw [show wdt 3 = 5 from rfl]; exact hsm j (by omega), Or.inl (by unfold wdt; simp +decide only [if_false, if_true]; omega)⟩]⟩)), rfl⟩
                      · have nc_90_9 : ¬ j5 = 5 := fun q => c_90_9 ((nI_eq (a := j5) (b := 5) (by omega) (by omega)).mpr q)
                        refine lv_aload_n hx hb dX7_wordIn_93 rfl (lv_at hl 1 rfl) ?_
                        refine lv_iload_n hx hb dX7_wordIn_94 rfl (lv_at hl 2 rfl) ?_
                        refine lv_iload hx hb dX7_wordIn_95 (lv_at hl 4 rfl) ?_
                        refine lv_imul hx hb dX7_wordIn_97 ?_
                        refine tk (y := nI (5 * k4)) (pk_mul 5 k4) ?_
                        refine lv_iload hx hb dX7_wordIn_98 (lv_at hl 5 rfl) ?_
                        refine lv_iadd hx hb dX7_wordIn_100 ?_
                        refine tk (y := nI (5 * k4 + j5)) (nI_add (5 * k4) j5) ?_
                        refine kVsi (n3 := 1) (As := [.int (nI (5 * k4 + j5))]) (rest := []) X hl.1 hE hP hD hS hA [0, 1] rfl (by decide) (c_k_charAt l D cA cB 3 (5 * k4 + j5) (by first | assumption | omega | decide | rfl) (by first | assumption | omega | decide | rfl)) w_473 w_421 w_902 w_474 w_475 ((e_str hE).1 3 (by decide)).1 (by decide +kernel) rfl rfl (Nat.le_of_ble_eq_true rfl) ⟨(Nat.le_of_ble_eq_true rfl), (Nat.le_of_ble_eq_true rfl)⟩ ⟨(Nat.le_of_ble_eq_true rfl), (Nat.le_of_ble_eq_true rfl)⟩ dX7_wordIn_101 (fun r W1 H locs hw hP hD hS => ?_)
                        obtain ⟨rfl, rfl⟩ := hw
                        have hP : va_P D classes [(h0, .inr (7, [.ref htb, .int (nI ln), .int (nI le), .int (nI ax), .int kd, .int (nI pl), .int (nI lt), .int vl, .int ms])), (htb, .inl (cA, 6000, .inl tz))] H := hP
                        have hD : va_D A [(h0, .inr (7, [.ref htb, .int (nI ln), .int (nI le), .int (nI ax), .int kd, .int (nI pl), .int (nI lt), .int vl, .int ms])), (htb, .inl (cA, 6000, .inl tz))] := hD
                        refine lv_bipush (v := 32) hx hb dX7_wordIn_104 (by decide) ?_
                        have hsb9 := (sbN_all 3 (by omega) (5 * k4 + j5) (by omega)).2.2
                        refine lv_icmp_ne (tgt := 114) hx hb dX7_wordIn_106 (by decide) (fun c_106_10 => ?_) (fun c_106_10 => ?_)
                        · have nc_106_10 : ¬ (sbN 3 (5 * k4 + j5)) = 32 := fun q => c_106_10 ((nI_eq (a := sbN 3 (5 * k4 + j5)) (b := 32) (by omega) (by omega)).mpr q)
                          refine lv_iinc (v := nI (k4 + 1)) (lv' := [(4, .int (nI (k4 + 1))), (0, .ref h0), (1, .ref (aK D 3)), (2, .int 5), (3, .int 80), (5, .int (nI j5))]) hx hb dX7_wordIn_114 hl (k := 4) rfl (nI_1 k4) (by decide) rfl (fun ls hl => ?_)
                          refine lv_goto (tgt := 21) hx hb dX7_wordIn_117 (by decide) ?_
                          exact ih_21 (k4 + 1) () (by omega) (fun k hk => by rcases Nat.lt_or_eq_of_le (Nat.le_of_lt_succ hk) with z | z; exact hno k z; subst z; exact fun y => y.2.elim (fun x => absurd x (by rw [show wdt 3 = 5 from rfl]; omega)) (fun x => nc_106_10 (by rw [show wdt 3 = 5 from rfl] at x; rw [show j5 = lt by omega]; exact x))) (by omega) (by omega) _ _ hP hD hS ls (lv_sub hl [1, 2, 3, 4, 0] rfl)
                        · have nc_106_10 : (sbN 3 (5 * k4 + j5)) = 32 := (nI_eq (a := sbN 3 (5 * k4 + j5)) (b := 32) (by omega) (by omega)).mp c_106_10
                          refine lv_iload_n hx hb dX7_wordIn_109 rfl (lv_at hl 3 rfl) ?_
                          refine lv_iload hx hb dX7_wordIn_110 (lv_at hl 4 rfl) ?_
                          refine lv_iadd hx hb dX7_wordIn_112 ?_
                          refine tk (y := nI (80 + k4)) (nI_add 80 k4) ?_
                          rw [hQ9]
                          exact endI X hr hlocks hP hD hS dX7_wordIn_113 ⟨(nI (80 + k4)), rfl, (Or.inr (by obtain ⟨t1, t2⟩ := mt_isW (i := 3) (k := k4) (by decide) (by rw [show wdt 3 = 5 from rfl]; omega) (by omega) (by rw [show wdt 3 = 5 from rfl]; omega) hnc ⟨fun j hj => by rw [show wdt 3 = 5 from rfl]; exact hsm j (by omega), Or.inr (by rw [show wdt 3 = 5 from rfl, show lt = j5 by omega]; exact nc_106_10)⟩; exact ⟨_, t2.1, t1, t2, by rw [cm_wno3 t1 t2 (by rw [show wdt 3 = 5 from rfl]; omega) hnc (by omega) ⟨fun j hj => by rw [show wdt 3 = 5 from rfl]; exact hsm j (by omega), Or.inr (by rw [show wdt 3 = 5 from rfl, show lt = j5 by omega]; exact nc_106_10)⟩]⟩)), rfl⟩
                  · skip
                    refine lv_iinc (v := nI (j5 + 1)) (lv' := [(5, .int (nI (j5 + 1))), (0, .ref h0), (1, .ref (aK D 3)), (2, .int 5), (3, .int 80), (4, .int (nI k4))]) hx hb dX7_wordIn_72 hl (k := 5) rfl (nI_1 j5) (by decide) rfl (fun ls hl => ?_)
                    refine lv_goto (tgt := 37) hx hb dX7_wordIn_75 (by decide) ?_
                    exact ih_37 (j5 + 1) (by omega) (by omega) (fun j hj => by rcases Nat.lt_or_eq_of_le (Nat.le_of_lt_succ hj) with z | z; exact hsm j z; subst z; exact c_69) (by omega) _ _ hP hD hS ls (lv_sub hl [1, 2, 3, 4, 5, 0] rfl)
            exact loop_37 6012 0 (by omega) (by omega) (fun j hj => absurd hj (by omega)) (by omega) _ _ hP hD hS ls (lv_sub hl [1, 2, 3, 4, 5, 0] rfl)
      exact loop_21 99 0 () (by omega) (fun k hk => absurd hk (by omega)) (by omega) (by omega) _ _ hP hD hS ls (lv_sub hl [1, 2, 3, 4, 0] rfl)
    · have nc_13_2 : 5 < lt := Nat.not_le.mp (fun q => c_13_2 ((nI_leI (a := lt) (b := 5) (by omega) (by omega)).mpr q))
      refine lv_iconst (v := (-1)) hx hb dX7_wordIn_16 (by decide) ?_
      rw [hQ9]
      exact endI X hr hlocks hP hD hS dX7_wordIn_17 ⟨(-1), rfl, (Or.inl ⟨rfl, fun w hw z => by obtain ⟨y1, y2, y3, y4⟩ := isW_mt z; rw [hw, show wdt 3 = 5 from rfl] at y3; omega⟩), rfl⟩
