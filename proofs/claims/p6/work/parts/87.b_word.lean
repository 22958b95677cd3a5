abbrev cX9_wordOf : ByteArray := prog_11_method_60_code
def yX9_wordOf : MethodName := ⟨RX9, "wordOf", "(II)I"⟩
theorem dX9_wordOf_0 : decode cX9_wordOf 0 = .ok (.iconst 0, 1) := by decide +kernel
theorem dX9_wordOf_1 : decode cX9_wordOf 1 = .ok (.istore_n 3, 1) := by decide +kernel
theorem dX9_wordOf_2 : decode cX9_wordOf 2 = .ok (.iload_n 1, 1) := by decide +kernel
theorem dX9_wordOf_3 : decode cX9_wordOf 3 = .ok (.istore 4, 2) := by decide +kernel
theorem dX9_wordOf_5 : decode cX9_wordOf 5 = .ok (.iload 4, 2) := by decide +kernel
theorem dX9_wordOf_7 : decode cX9_wordOf 7 = .ok (.iload_n 2, 1) := by decide +kernel
theorem dX9_wordOf_8 : decode cX9_wordOf 8 = .ok (.if_icmp .ge 52, 3) := by decide +kernel
theorem dX9_wordOf_60 : decode cX9_wordOf 60 = .ok (.iconst 0, 1) := by decide +kernel
theorem dX9_wordOf_61 : decode cX9_wordOf 61 = .ok (.istore 4, 2) := by decide +kernel
theorem dX9_wordOf_63 : decode cX9_wordOf 63 = .ok (.iload 4, 2) := by decide +kernel
theorem dX9_wordOf_65 : decode cX9_wordOf 65 = .ok (.aload_n 0, 1) := by decide +kernel
theorem dX9_wordOf_66 : decode cX9_wordOf 66 = .ok (.getfield 11, 3) := by decide +kernel
theorem dX9_wordOf_69 : decode cX9_wordOf 69 = .ok (.arraylength, 1) := by decide +kernel
theorem dX9_wordOf_70 : decode cX9_wordOf 70 = .ok (.if_icmp .ge 23, 3) := by decide +kernel
theorem dX9_wordOf_93 : decode cX9_wordOf 93 = .ok (.iconst (-1), 1) := by decide +kernel
theorem dX9_wordOf_94 : decode cX9_wordOf 94 = .ok (.ireturn, 1) := by decide +kernel
theorem dX9_wordOf_73 : decode cX9_wordOf 73 = .ok (.aload_n 0, 1) := by decide +kernel
theorem dX9_wordOf_74 : decode cX9_wordOf 74 = .ok (.getfield 11, 3) := by decide +kernel
theorem dX9_wordOf_77 : decode cX9_wordOf 77 = .ok (.iload 4, 2) := by decide +kernel
theorem dX9_wordOf_79 : decode cX9_wordOf 79 = .ok (.iaload, 1) := by decide +kernel
theorem dX9_wordOf_80 : decode cX9_wordOf 80 = .ok (.iload_n 3, 1) := by decide +kernel
theorem dX9_wordOf_81 : decode cX9_wordOf 81 = .ok (.if_icmp .ne 6, 3) := by decide +kernel
theorem dX9_wordOf_87 : decode cX9_wordOf 87 = .ok (.iinc 4 1, 3) := by decide +kernel
theorem dX9_wordOf_90 : decode cX9_wordOf 90 = .ok (.goto (-27), 3) := by decide +kernel
theorem dX9_wordOf_84 : decode cX9_wordOf 84 = .ok (.iload 4, 2) := by decide +kernel
theorem dX9_wordOf_86 : decode cX9_wordOf 86 = .ok (.ireturn, 1) := by decide +kernel
theorem dX9_wordOf_11 : decode cX9_wordOf 11 = .ok (.iload 4, 2) := by decide +kernel
theorem dX9_wordOf_13 : decode cX9_wordOf 13 = .ok (.iload_n 1, 1) := by decide +kernel
theorem dX9_wordOf_14 : decode cX9_wordOf 14 = .ok (.iconst 5, 1) := by decide +kernel
theorem dX9_wordOf_15 : decode cX9_wordOf 15 = .ok (.iadd, 1) := by decide +kernel
theorem dX9_wordOf_16 : decode cX9_wordOf 16 = .ok (.if_icmp .eq 16, 3) := by decide +kernel
theorem dX9_wordOf_32 : decode cX9_wordOf 32 = .ok (.iconst (-1), 1) := by decide +kernel
theorem dX9_wordOf_33 : decode cX9_wordOf 33 = .ok (.ireturn, 1) := by decide +kernel
theorem dX9_wordOf_19 : decode cX9_wordOf 19 = .ok (.aload_n 0, 1) := by decide +kernel
theorem dX9_wordOf_20 : decode cX9_wordOf 20 = .ok (.getfield 45, 3) := by decide +kernel
theorem dX9_wordOf_23 : decode cX9_wordOf 23 = .ok (.iload 4, 2) := by decide +kernel
theorem dX9_wordOf_25 : decode cX9_wordOf 25 = .ok (.iaload, 1) := by decide +kernel
theorem dX9_wordOf_26 : decode cX9_wordOf 26 = .ok (.invokestatic 340, 3) := by decide +kernel
theorem dX9_wordOf_29 : decode cX9_wordOf 29 = .ok (.ifCond .ne 5, 3) := by decide +kernel
theorem dX9_wordOf_34 : decode cX9_wordOf 34 = .ok (.iload_n 3, 1) := by decide +kernel
theorem dX9_wordOf_35 : decode cX9_wordOf 35 = .ok (.aload_n 0, 1) := by decide +kernel
theorem dX9_wordOf_36 : decode cX9_wordOf 36 = .ok (.getfield 45, 3) := by decide +kernel
theorem dX9_wordOf_39 : decode cX9_wordOf 39 = .ok (.iload 4, 2) := by decide +kernel
theorem dX9_wordOf_41 : decode cX9_wordOf 41 = .ok (.iaload, 1) := by decide +kernel
theorem dX9_wordOf_42 : decode cX9_wordOf 42 = .ok (.bipush 96, 2) := by decide +kernel
theorem dX9_wordOf_44 : decode cX9_wordOf 44 = .ok (.isub, 1) := by decide +kernel
theorem dX9_wordOf_45 : decode cX9_wordOf 45 = .ok (.iconst 5, 1) := by decide +kernel
theorem dX9_wordOf_46 : decode cX9_wordOf 46 = .ok (.iload 4, 2) := by decide +kernel
theorem dX9_wordOf_48 : decode cX9_wordOf 48 = .ok (.iload_n 1, 1) := by decide +kernel
theorem dX9_wordOf_49 : decode cX9_wordOf 49 = .ok (.isub, 1) := by decide +kernel
theorem dX9_wordOf_50 : decode cX9_wordOf 50 = .ok (.imul, 1) := by decide +kernel
theorem dX9_wordOf_51 : decode cX9_wordOf 51 = .ok (.ishl, 1) := by decide +kernel
theorem dX9_wordOf_52 : decode cX9_wordOf 52 = .ok (.iadd, 1) := by decide +kernel
theorem dX9_wordOf_53 : decode cX9_wordOf 53 = .ok (.istore_n 3, 1) := by decide +kernel
theorem dX9_wordOf_54 : decode cX9_wordOf 54 = .ok (.iinc 4 1, 3) := by decide +kernel
theorem dX9_wordOf_57 : decode cX9_wordOf 57 = .ok (.goto (-52), 3) := by decide +kernel
theorem wordsL_lt : ∀ w, w < 84 → wordsL.getD w 0 < 33554432 := by decide +kernel
set_option maxHeartbeats 4000000 in
set_option maxRecDepth 100000 in
theorem c_f_wordOf (l : Launch) (D : va_G) (cA cB : ClassId) (h0 : Nat) (mwords : Nat) (mstore : Nat) (mkeys : Nat) (mrests : Nat) (mring : Nat) (mstrip : Nat) (mpins : Nat) (mstops : Nat) (mdone : Nat) (mkept : Nat) (mtape : Nat) (mnameValue : Nat) (mnamePlace : Nat) (mnameEquals : Nat) (mout : Nat) (mtellFrom : Nat) (mtellEnd : Nat) (mtellValue : Nat) (mtellEquals : Nat) (mlaid : Nat) (v_a : Nat) (v_x : Nat) (v_y : Nat) (v_s : Nat) (v_p : Nat) (v_n : Nat) (v_v : Nat) (v_i : Nat) (v_z : Nat) (v_c : Nat) (v_cycles : Int32) (v_isHalted : Int32) (v_load : Nat) (v_count : Nat) (v_runs : Nat) (v_turns : Int32) (v_speed : Int32) (v_part : Int32) (v_row : Nat) (v_came : Nat) (v_mask : Nat) (v_watch : Int32) (v_seed : Int32) (v_keyMany : Nat) (v_muffled : Int32) (v_lost : Int32) (v_resets : Int32) (v_rings : Nat) (v_strips : Nat) (v_stopMany : Int32) (v_ended : Nat) (v_endedSteps : Nat) (v_keptAt : Nat) (v_keptMany : Nat) (v_at : Nat) (v_writes : Nat) (v_taped : Nat) (v_faultKind : Int32) (v_faultPlace : Int32) (v_nameMany : Nat) (v_outs : Nat) (v_go : Nat) (v_end : Nat) (v_wrong : Int32) (v_lineName : Int32) (v_lineNameEnd : Int32) (v_word : Int32) (v_wordPlace : Int32) (v_way : Int32) (v_ePlace : Int32) (v_eMany : Int32) (v_textFrom : Nat) (v_here : Int32) (v_unknown : Int32) (v_tellMany : Nat) (v_isSecond : Int32) (v_laidMany : Int32) (v_rangeFault : Int32) (v_told : Int32) (f_words : Nat → Int32) (f_tape : Nat → Int32) (fm : Nat) (tt : Nat) (hv_a : v_a < 256) (hv_x : v_x < 256) (hv_y : v_y < 256) (hv_s : v_s < 256) (hv_p : v_p < 4096) (hv_n : v_n < 2) (hv_v : v_v < 2) (hv_i : v_i < 2) (hv_z : v_z < 2) (hv_c : v_c < 2) (hv_load : v_load < 65536) (hv_count : v_count < 65536) (hv_runs : v_runs < 2) (hv_row : v_row < 64) (hv_came : v_came < 256) (hv_mask : v_mask < 256) (hv_keyMany : v_keyMany < 17) (hv_rings : v_rings < 301) (hv_strips : v_strips < 201) (hv_ended : v_ended < 4) (hv_endedSteps : v_endedSteps < 2001) (hv_keptAt : v_keptAt < 256) (hv_keptMany : v_keptMany < 257) (hv_at : v_at < 15301) (hv_writes : v_writes < 5) (hv_taped : v_taped < 6001) (hv_nameMany : v_nameMany < 61) (hv_outs : v_outs < 65) (hv_go : v_go < 6003) (hv_end : v_end < 6001) (hv_textFrom : v_textFrom < 6003) (hv_tellMany : v_tellMany < 61) (hf_words : ∀ j, j < 84 → ∃ k : Nat, k < 33554432 ∧ f_words j = nI k) (hf_tape : ∀ j, j < 6020 → ∃ k : Nat, k < 256 ∧ f_tape j = nI k) (hfm : fm < 6003) (htt : tt < 6012) (hft : fm ≤ tt) (hte : tt ≤ v_end) (hwl : ∀ j, j < 84 → f_words j = nI (wordsL.getD j 0)) : CI l yX9_wordOf cX9_wordOf 5 (some .int) 2 42 0 0 D cA cB [.ref h0, .int (nI fm), .int (nI tt)] [(h0, .inr (9, [.ref mwords, .ref mstore, .int (nI v_a), .int (nI v_x), .int (nI v_y), .int (nI v_s), .int (nI v_p), .int (nI v_n), .int (nI v_v), .int (nI v_i), .int (nI v_z), .int (nI v_c), .int v_cycles, .int v_isHalted, .int (nI v_load), .int (nI v_count), .int (nI v_runs), .int v_turns, .int v_speed, .int v_part, .int (nI v_row), .int (nI v_came), .int (nI v_mask), .int v_watch, .int v_seed, .int (nI v_keyMany), .ref mkeys, .ref mrests, .int v_muffled, .int v_lost, .int v_resets, .int (nI v_rings), .int (nI v_strips), .ref mring, .ref mstrip, .ref mpins, .ref mstops, .int v_stopMany, .int (nI v_ended), .int (nI v_endedSteps), .ref mdone, .ref mkept, .int (nI v_keptAt), .int (nI v_keptMany), .int (nI v_at), .int (nI v_writes), .ref mtape, .int (nI v_taped), .int v_faultKind, .int v_faultPlace, .ref mnameValue, .ref mnamePlace, .ref mnameEquals, .int (nI v_nameMany), .ref mout, .int (nI v_outs), .int (nI v_go), .int (nI v_end), .int v_wrong, .int v_lineName, .int v_lineNameEnd, .int v_word, .int v_wordPlace, .int v_way, .int v_ePlace, .int v_eMany, .int (nI v_textFrom), .int v_here, .int v_unknown, .int (nI v_tellMany), .ref mtellFrom, .ref mtellEnd, .ref mtellValue, .ref mtellEquals, .ref mlaid, .int v_isSecond, .int v_laidMany, .int v_rangeFault, .int v_told])), (mwords, .inl (cA, 84, .inl f_words)), (mtape, .inl (cA, 6020, .inl f_tape))] (fun r W1 => ∃ (rv : Int32), r = rv ∧ ((rv = nI (wd (sgn v_end f_tape) fm tt) ∧ wd (sgn v_end f_tape) fm tt < 84) ∨ (rv = -1 ∧ ¬ wd (sgn v_end f_tape) fm tt < 84)) ∧ W1 = [(h0, .inr (9, [.ref mwords, .ref mstore, .int (nI v_a), .int (nI v_x), .int (nI v_y), .int (nI v_s), .int (nI v_p), .int (nI v_n), .int (nI v_v), .int (nI v_i), .int (nI v_z), .int (nI v_c), .int v_cycles, .int v_isHalted, .int (nI v_load), .int (nI v_count), .int (nI v_runs), .int v_turns, .int v_speed, .int v_part, .int (nI v_row), .int (nI v_came), .int (nI v_mask), .int v_watch, .int v_seed, .int (nI v_keyMany), .ref mkeys, .ref mrests, .int v_muffled, .int v_lost, .int v_resets, .int (nI v_rings), .int (nI v_strips), .ref mring, .ref mstrip, .ref mpins, .ref mstops, .int v_stopMany, .int (nI v_ended), .int (nI v_endedSteps), .ref mdone, .ref mkept, .int (nI v_keptAt), .int (nI v_keptMany), .int (nI v_at), .int (nI v_writes), .ref mtape, .int (nI v_taped), .int v_faultKind, .int v_faultPlace, .ref mnameValue, .ref mnamePlace, .ref mnameEquals, .int (nI v_nameMany), .ref mout, .int (nI v_outs), .int (nI v_go), .int (nI v_end), .int v_wrong, .int v_lineName, .int v_lineNameEnd, .int v_word, .int v_wordPlace, .int v_way, .int v_ePlace, .int v_eMany, .int (nI v_textFrom), .int v_here, .int v_unknown, .int (nI v_tellMany), .ref mtellFrom, .ref mtellEnd, .ref mtellValue, .ref mtellEquals, .ref mlaid, .int v_isSecond, .int v_laidMany, .int v_rangeFault, .int v_told])), (mwords, .inl (cA, 84, .inl f_words)), (mtape, .inl (cA, 6020, .inl f_tape))]) := by
  refine mkI (lv0 := [(0, .ref h0), (1, .int (nI fm)), (2, .int (nI tt))]) (by decide) (Nat.le_of_ble_eq_true rfl) rfl ?_
  intro p e s m below meth c A ls X hr hlocks hnm hE hA hP hD hS hl
  have hx := X.1
  have hb := X.2.1
  refine qW (fun Q9 hQ9 => ?_)
  refine lv_iconst (v := 0) hx hb dX9_wordOf_0 (by decide) ?_
  refine lv_istore_n (lv' := [(3, .int 0), (0, .ref h0), (1, .int (nI fm)), (2, .int (nI tt))]) hx hb dX9_wordOf_1 rfl hl (by decide) rfl (fun ls hl => ?_)
  refine lv_iload_n hx hb dX9_wordOf_2 rfl (lv_at hl 2 rfl) ?_
  refine lv_istore (lv' := [(4, .int (nI fm)), (3, .int 0), (0, .ref h0), (1, .int (nI fm)), (2, .int (nI tt))]) hx hb dX9_wordOf_3 hl (by decide) rfl (fun ls hl => ?_)
  have loop_5 : ∀ (n : Nat) (p3 : Nat) (k4 : Nat), (p3 < 33554432) → (k4 < 6013) → (fm ≤ k4) → (k4 ≤ tt ∧ k4 ≤ fm + 5) → (p3 = pck (sgn v_end f_tape) fm (k4 - fm)) → (∀ j, j < k4 - fm → ∃ k : Nat, 97 ≤ k ∧ k ≤ 122 ∧ sgn v_end f_tape (fm + j) = nI k) → 6013 - k4 < n → ∀ (H : Heap) (locs : List Loc), va_P D classes [(h0, .inr (9, [.ref mwords, .ref mstore, .int (nI v_a), .int (nI v_x), .int (nI v_y), .int (nI v_s), .int (nI v_p), .int (nI v_n), .int (nI v_v), .int (nI v_i), .int (nI v_z), .int (nI v_c), .int v_cycles, .int v_isHalted, .int (nI v_load), .int (nI v_count), .int (nI v_runs), .int v_turns, .int v_speed, .int v_part, .int (nI v_row), .int (nI v_came), .int (nI v_mask), .int v_watch, .int v_seed, .int (nI v_keyMany), .ref mkeys, .ref mrests, .int v_muffled, .int v_lost, .int v_resets, .int (nI v_rings), .int (nI v_strips), .ref mring, .ref mstrip, .ref mpins, .ref mstops, .int v_stopMany, .int (nI v_ended), .int (nI v_endedSteps), .ref mdone, .ref mkept, .int (nI v_keptAt), .int (nI v_keptMany), .int (nI v_at), .int (nI v_writes), .ref mtape, .int (nI v_taped), .int v_faultKind, .int v_faultPlace, .ref mnameValue, .ref mnamePlace, .ref mnameEquals, .int (nI v_nameMany), .ref mout, .int (nI v_outs), .int (nI v_go), .int (nI v_end), .int v_wrong, .int v_lineName, .int v_lineNameEnd, .int v_word, .int v_wordPlace, .int v_way, .int v_ePlace, .int v_eMany, .int (nI v_textFrom), .int v_here, .int v_unknown, .int (nI v_tellMany), .ref mtellFrom, .ref mtellEnd, .ref mtellValue, .ref mtellEquals, .ref mlaid, .int v_isSecond, .int v_laidMany, .int v_rangeFault, .int v_told])), (mwords, .inl (cA, 84, .inl f_words)), (mtape, .inl (cA, 6020, .inl f_tape))] H → va_D A [(h0, .inr (9, [.ref mwords, .ref mstore, .int (nI v_a), .int (nI v_x), .int (nI v_y), .int (nI v_s), .int (nI v_p), .int (nI v_n), .int (nI v_v), .int (nI v_i), .int (nI v_z), .int (nI v_c), .int v_cycles, .int v_isHalted, .int (nI v_load), .int (nI v_count), .int (nI v_runs), .int v_turns, .int v_speed, .int v_part, .int (nI v_row), .int (nI v_came), .int (nI v_mask), .int v_watch, .int v_seed, .int (nI v_keyMany), .ref mkeys, .ref mrests, .int v_muffled, .int v_lost, .int v_resets, .int (nI v_rings), .int (nI v_strips), .ref mring, .ref mstrip, .ref mpins, .ref mstops, .int v_stopMany, .int (nI v_ended), .int (nI v_endedSteps), .ref mdone, .ref mkept, .int (nI v_keptAt), .int (nI v_keptMany), .int (nI v_at), .int (nI v_writes), .ref mtape, .int (nI v_taped), .int v_faultKind, .int v_faultPlace, .ref mnameValue, .ref mnamePlace, .ref mnameEquals, .int (nI v_nameMany), .ref mout, .int (nI v_outs), .int (nI v_go), .int (nI v_end), .int v_wrong, .int v_lineName, .int v_lineNameEnd, .int v_word, .int v_wordPlace, .int v_way, .int v_ePlace, .int v_eMany, .int (nI v_textFrom), .int v_here, .int v_unknown, .int (nI v_tellMany), .ref mtellFrom, .ref mtellEnd, .ref mtellValue, .ref mtellEquals, .ref mlaid, .int v_isSecond, .int v_laidMany, .int v_rangeFault, .int v_told])), (mwords, .inl (cA, 84, .inl f_words)), (mtape, .inl (cA, 6020, .inl f_tape))] → va_S A s.heap H locs → ∀ ls : Array Slot, lv_has ls 5 [(0, .ref h0), (1, .int (nI fm)), (2, .int (nI tt)), (3, .int (nI p3)), (4, .int (nI k4))] → W p l e { frames := 2, cells := 0, slots := 0, locals := 42 } s m (List.toArray [.ref h0, .int (nI fm), .int (nI tt)]) below meth c H locs 0 0 Q9 (F0 m 5 ls []) := by
    intro n
    induction n with
    | zero => intro p3 k4 hp3 hk4 hk5 hk6 hp3e hlt hfuel; exact absurd hfuel (by omega)
    | succ n ih_5 =>
      intro p3 k4 hp3 hk4 hk5 hk6 hp3e hlt hfuel H locs hP hD hS ls hl
      refine lv_iload hx hb dX9_wordOf_5 (lv_at hl 4 rfl) ?_
      refine lv_iload_n hx hb dX9_wordOf_7 rfl (lv_at hl 2 rfl) ?_
      refine lv_icmp_ge (tgt := 60) hx hb dX9_wordOf_8 (by decide) (fun c_8_1 => ?_) (fun c_8_1 => ?_)
      · have nc_8_1 : tt ≤ k4 := (nI_leI (a := tt) (b := k4) (by omega) (by omega)).mp c_8_1
        refine lv_iconst (v := 0) hx hb dX9_wordOf_60 (by decide) ?_
        refine lv_istore (lv' := [(4, .int 0), (0, .ref h0), (1, .int (nI fm)), (2, .int (nI tt)), (3, .int (nI p3))]) hx hb dX9_wordOf_61 hl (by decide) rfl (fun ls hl => ?_)
        have loop_63 : ∀ (n : Nat) (w4 : Nat), (w4 < 85) → (w4 ≤ 84) → (∀ i, i < w4 → ¬ wordsL.getD i 0 = p3) → 84 - w4 < n → ∀ (H : Heap) (locs : List Loc), va_P D classes [(h0, .inr (9, [.ref mwords, .ref mstore, .int (nI v_a), .int (nI v_x), .int (nI v_y), .int (nI v_s), .int (nI v_p), .int (nI v_n), .int (nI v_v), .int (nI v_i), .int (nI v_z), .int (nI v_c), .int v_cycles, .int v_isHalted, .int (nI v_load), .int (nI v_count), .int (nI v_runs), .int v_turns, .int v_speed, .int v_part, .int (nI v_row), .int (nI v_came), .int (nI v_mask), .int v_watch, .int v_seed, .int (nI v_keyMany), .ref mkeys, .ref mrests, .int v_muffled, .int v_lost, .int v_resets, .int (nI v_rings), .int (nI v_strips), .ref mring, .ref mstrip, .ref mpins, .ref mstops, .int v_stopMany, .int (nI v_ended), .int (nI v_endedSteps), .ref mdone, .ref mkept, .int (nI v_keptAt), .int (nI v_keptMany), .int (nI v_at), .int (nI v_writes), .ref mtape, .int (nI v_taped), .int v_faultKind, .int v_faultPlace, .ref mnameValue, .ref mnamePlace, .ref mnameEquals, .int (nI v_nameMany), .ref mout, .int (nI v_outs), .int (nI v_go), .int (nI v_end), .int v_wrong, .int v_lineName, .int v_lineNameEnd, .int v_word, .int v_wordPlace, .int v_way, .int v_ePlace, .int v_eMany, .int (nI v_textFrom), .int v_here, .int v_unknown, .int (nI v_tellMany), .ref mtellFrom, .ref mtellEnd, .ref mtellValue, .ref mtellEquals, .ref mlaid, .int v_isSecond, .int v_laidMany, .int v_rangeFault, .int v_told])), (mwords, .inl (cA, 84, .inl f_words)), (mtape, .inl (cA, 6020, .inl f_tape))] H → va_D A [(h0, .inr (9, [.ref mwords, .ref mstore, .int (nI v_a), .int (nI v_x), .int (nI v_y), .int (nI v_s), .int (nI v_p), .int (nI v_n), .int (nI v_v), .int (nI v_i), .int (nI v_z), .int (nI v_c), .int v_cycles, .int v_isHalted, .int (nI v_load), .int (nI v_count), .int (nI v_runs), .int v_turns, .int v_speed, .int v_part, .int (nI v_row), .int (nI v_came), .int (nI v_mask), .int v_watch, .int v_seed, .int (nI v_keyMany), .ref mkeys, .ref mrests, .int v_muffled, .int v_lost, .int v_resets, .int (nI v_rings), .int (nI v_strips), .ref mring, .ref mstrip, .ref mpins, .ref mstops, .int v_stopMany, .int (nI v_ended), .int (nI v_endedSteps), .ref mdone, .ref mkept, .int (nI v_keptAt), .int (nI v_keptMany), .int (nI v_at), .int (nI v_writes), .ref mtape, .int (nI v_taped), .int v_faultKind, .int v_faultPlace, .ref mnameValue, .ref mnamePlace, .ref mnameEquals, .int (nI v_nameMany), .ref mout, .int (nI v_outs), .int (nI v_go), .int (nI v_end), .int v_wrong, .int v_lineName, .int v_lineNameEnd, .int v_word, .int v_wordPlace, .int v_way, .int v_ePlace, .int v_eMany, .int (nI v_textFrom), .int v_here, .int v_unknown, .int (nI v_tellMany), .ref mtellFrom, .ref mtellEnd, .ref mtellValue, .ref mtellEquals, .ref mlaid, .int v_isSecond, .int v_laidMany, .int v_rangeFault, .int v_told])), (mwords, .inl (cA, 84, .inl f_words)), (mtape, .inl (cA, 6020, .inl f_tape))] → va_S A s.heap H locs → ∀ ls : Array Slot, lv_has ls 5 [(0, .ref h0), (1, .int (nI fm)), (2, .int (nI tt)), (3, .int (nI p3)), (4, .int (nI w4))] → W p l e { frames := 2, cells := 0, slots := 0, locals := 42 } s m (List.toArray [.ref h0, .int (nI fm), .int (nI tt)]) below meth c H locs 0 0 Q9 (F0 m 63 ls []) := by
          intro n
          induction n with
          | zero => intro w4 hw4 hw5 hnw hfuel; exact absurd hfuel (by omega)
          | succ n ih_63 =>
            intro w4 hw4 hw5 hnw hfuel H locs hP hD hS ls hl
            refine lv_iload hx hb dX9_wordOf_63 (lv_at hl 4 rfl) ?_
            refine lv_aload_n hx hb dX9_wordOf_65 rfl (lv_at hl 0 rfl) ?_
            refine k_get (C := RX9) (T := TX9) (N := 79) (ci := 9) (v := .ref mwords) X hE hP 0 rfl rfl iX9 0 (by decide) w_718 rfl dX9_wordOf_66 ?_
            refine k_len (v := 84) X hE hP 1 rfl rfl dX9_wordOf_69 ?_
            refine lv_icmp_ge (tgt := 93) hx hb dX9_wordOf_70 (by decide) (fun c_70_2 => ?_) (fun c_70_2 => ?_)
            · have nc_70_2 : 84 ≤ w4 := (nI_leI (a := 84) (b := w4) (by omega) (by omega)).mp c_70_2
              refine lv_iconst (v := (-1)) hx hb dX9_wordOf_93 (by decide) ?_
              rw [hQ9]
              exact endI X hr hlocks hP hD hS dX9_wordOf_94 ⟨(-1), rfl, (Or.inr ⟨rfl, by rw [wd_no (fun w hw => by have hz := (pck_word (by omega) hw.1 hlt).mpr (by rw [show fm + (k4 - fm) = tt by omega]; exact hw); exact hnw w (by have := hw.1; omega) (hz.trans hp3e.symm))]; decide⟩), rfl⟩
            · have nc_70_2 : w4 < 84 := Nat.not_le.mp (fun q => c_70_2 ((nI_leI (a := 84) (b := w4) (by omega) (by omega)).mpr q))
              refine lv_aload_n hx hb dX9_wordOf_73 rfl (lv_at hl 0 rfl) ?_
              refine k_get (C := RX9) (T := TX9) (N := 79) (ci := 9) (v := .ref mwords) X hE hP 0 rfl rfl iX9 0 (by decide) w_718 rfl dX9_wordOf_74 ?_
              refine lv_iload hx hb dX9_wordOf_77 (lv_at hl 4 rfl) ?_
              obtain ⟨z9, hz9, ez9⟩ := hf_words w4 (by omega)
              have hz8 : wordsL.getD w4 0 < 33554432 := (wordsL_lt w4 (by omega))
              refine k_ald (v := nI (wordsL.getD w4 0)) X hE hP 1 rfl w4 rfl (by omega) (by decide) (hwl w4 (by omega)) dX9_wordOf_79 ?_
              refine lv_iload_n hx hb dX9_wordOf_80 rfl (lv_at hl 3 rfl) ?_
              refine lv_icmp_ne (tgt := 87) hx hb dX9_wordOf_81 (by decide) (fun c_81_3 => ?_) (fun c_81_3 => ?_)
              · have nc_81_3 : ¬ (wordsL.getD w4 0) = p3 := fun q => c_81_3 ((nI_eq (a := wordsL.getD w4 0) (b := p3) (by omega) (by omega)).mpr q)
                refine lv_iinc (v := nI (w4 + 1)) (lv' := [(4, .int (nI (w4 + 1))), (0, .ref h0), (1, .int (nI fm)), (2, .int (nI tt)), (3, .int (nI p3))]) hx hb dX9_wordOf_87 hl (k := 4) rfl (nI_1 w4) (by decide) rfl (fun ls hl => ?_)
                refine lv_goto (tgt := 63) hx hb dX9_wordOf_90 (by decide) ?_
                exact ih_63 (w4 + 1) (by omega) (by omega) (fun i hi => by rcases Nat.lt_or_eq_of_le (Nat.le_of_lt_succ hi) with z | z; exact hnw i z; subst z; assumption) (by omega) _ _ hP hD hS ls (lv_sub hl [1, 2, 3, 4, 0] rfl)
              · have nc_81_3 : (wordsL.getD w4 0) = p3 := (nI_eq (a := wordsL.getD w4 0) (b := p3) (by omega) (by omega)).mp c_81_3
                refine lv_iload hx hb dX9_wordOf_84 (lv_at hl 4 rfl) ?_
                rw [hQ9]
                exact endI X hr hlocks hP hD hS dX9_wordOf_86 ⟨(nI w4), rfl, (Or.inl (by have hz := wd_of ((pck_word (by omega) (by omega) hlt).mp (nc_81_3.trans hp3e)); rw [show fm + (k4 - fm) = tt by omega] at hz; rw [hz]; exact ⟨rfl, by omega⟩)), rfl⟩
        exact loop_63 86 0 (by omega) (by omega) (fun i hi => absurd hi (by omega)) (by omega) _ _ hP hD hS ls (lv_sub hl [1, 2, 3, 4, 0] rfl)
      · have nc_8_1 : k4 < tt := Nat.not_le.mp (fun q => c_8_1 ((nI_leI (a := tt) (b := k4) (by omega) (by omega)).mpr q))
        refine lv_iload hx hb dX9_wordOf_11 (lv_at hl 4 rfl) ?_
        refine lv_iload_n hx hb dX9_wordOf_13 rfl (lv_at hl 1 rfl) ?_
        refine lv_iconst (v := 5) hx hb dX9_wordOf_14 (by decide) ?_
        refine lv_iadd hx hb dX9_wordOf_15 ?_
        refine tk (y := nI (fm + 5)) (nI_add fm 5) ?_
        refine lv_icmp_eq (tgt := 32) hx hb dX9_wordOf_16 (by decide) (fun c_16_4 => ?_) (fun c_16_4 => ?_)
        · have nc_16_4 : k4 = (fm + 5) := (nI_eq (a := k4) (b := fm + 5) (by omega) (by omega)).mp c_16_4
          refine lv_iconst (v := (-1)) hx hb dX9_wordOf_32 (by decide) ?_
          rw [hQ9]
          exact endI X hr hlocks hP hD hS dX9_wordOf_33 ⟨(-1), rfl, (Or.inr ⟨rfl, wd_long (by omega)⟩), rfl⟩
        · have nc_16_4 : ¬ k4 = (fm + 5) := fun q => c_16_4 ((nI_eq (a := k4) (b := fm + 5) (by omega) (by omega)).mpr q)
          refine lv_aload_n hx hb dX9_wordOf_19 rfl (lv_at hl 0 rfl) ?_
          refine k_get (C := RX9) (T := TX9) (N := 79) (ci := 9) (v := .ref mtape) X hE hP 0 rfl rfl iX9 46 (by decide) w_705 rfl dX9_wordOf_20 ?_
          refine lv_iload hx hb dX9_wordOf_23 (lv_at hl 4 rfl) ?_
          obtain ⟨k_5, hk_5, ek_5⟩ := hf_tape k4 (by omega)
          refine k_ald (v := nI k_5) X hE hP 2 rfl k4 rfl (by omega) (by decide) ek_5 dX9_wordOf_25 ?_
          refine kSi (n3 := 1) (As := [.int (nI k_5)]) (rest := []) X hl.1 hE hP hD hS hA [] [(h0, .inr (9, [.ref mwords, .ref mstore, .int (nI v_a), .int (nI v_x), .int (nI v_y), .int (nI v_s), .int (nI v_p), .int (nI v_n), .int (nI v_v), .int (nI v_i), .int (nI v_z), .int (nI v_c), .int v_cycles, .int v_isHalted, .int (nI v_load), .int (nI v_count), .int (nI v_runs), .int v_turns, .int v_speed, .int v_part, .int (nI v_row), .int (nI v_came), .int (nI v_mask), .int v_watch, .int v_seed, .int (nI v_keyMany), .ref mkeys, .ref mrests, .int v_muffled, .int v_lost, .int v_resets, .int (nI v_rings), .int (nI v_strips), .ref mring, .ref mstrip, .ref mpins, .ref mstops, .int v_stopMany, .int (nI v_ended), .int (nI v_endedSteps), .ref mdone, .ref mkept, .int (nI v_keptAt), .int (nI v_keptMany), .int (nI v_at), .int (nI v_writes), .ref mtape, .int (nI v_taped), .int v_faultKind, .int v_faultPlace, .ref mnameValue, .ref mnamePlace, .ref mnameEquals, .int (nI v_nameMany), .ref mout, .int (nI v_outs), .int (nI v_go), .int (nI v_end), .int v_wrong, .int v_lineName, .int v_lineNameEnd, .int v_word, .int v_wordPlace, .int v_way, .int v_ePlace, .int v_eMany, .int (nI v_textFrom), .int v_here, .int v_unknown, .int (nI v_tellMany), .ref mtellFrom, .ref mtellEnd, .ref mtellValue, .ref mtellEquals, .ref mlaid, .int v_isSecond, .int v_laidMany, .int v_rangeFault, .int v_told])), (mwords, .inl (cA, 84, .inl f_words)), (mtape, .inl (cA, 6020, .inl f_tape))] [] [0, 1, 2] rfl rfl rfl (by decide +kernel) (by decide +kernel) (by decide +kernel) (c_m_isLetter l D cA cB (nI k_5) ) w_747 w_503 w_746 w_748 (by decide +kernel) rfl rfl (Nat.le_of_ble_eq_true rfl) ⟨(Nat.le_of_ble_eq_true rfl), (Nat.le_of_ble_eq_true rfl)⟩ ⟨(Nat.le_of_ble_eq_true rfl), (Nat.le_of_ble_eq_true rfl)⟩ dX9_wordOf_26 (fun r W1 H locs hw hP hD hS => ?_)
          obtain ⟨rfl, rfl⟩ := hw
          have hP : va_P D classes [(h0, .inr (9, [.ref mwords, .ref mstore, .int (nI v_a), .int (nI v_x), .int (nI v_y), .int (nI v_s), .int (nI v_p), .int (nI v_n), .int (nI v_v), .int (nI v_i), .int (nI v_z), .int (nI v_c), .int v_cycles, .int v_isHalted, .int (nI v_load), .int (nI v_count), .int (nI v_runs), .int v_turns, .int v_speed, .int v_part, .int (nI v_row), .int (nI v_came), .int (nI v_mask), .int v_watch, .int v_seed, .int (nI v_keyMany), .ref mkeys, .ref mrests, .int v_muffled, .int v_lost, .int v_resets, .int (nI v_rings), .int (nI v_strips), .ref mring, .ref mstrip, .ref mpins, .ref mstops, .int v_stopMany, .int (nI v_ended), .int (nI v_endedSteps), .ref mdone, .ref mkept, .int (nI v_keptAt), .int (nI v_keptMany), .int (nI v_at), .int (nI v_writes), .ref mtape, .int (nI v_taped), .int v_faultKind, .int v_faultPlace, .ref mnameValue, .ref mnamePlace, .ref mnameEquals, .int (nI v_nameMany), .ref mout, .int (nI v_outs), .int (nI v_go), .int (nI v_end), .int v_wrong, .int v_lineName, .int v_lineNameEnd, .int v_word, .int v_wordPlace, .int v_way, .int v_ePlace, .int v_eMany, .int (nI v_textFrom), .int v_here, .int v_unknown, .int (nI v_tellMany), .ref mtellFrom, .ref mtellEnd, .ref mtellValue, .ref mtellEquals, .ref mlaid, .int v_isSecond, .int v_laidMany, .int v_rangeFault, .int v_told])), (mwords, .inl (cA, 84, .inl f_words)), (mtape, .inl (cA, 6020, .inl f_tape))] H := hP
          have hD : va_D A [(h0, .inr (9, [.ref mwords, .ref mstore, .int (nI v_a), .int (nI v_x), .int (nI v_y), .int (nI v_s), .int (nI v_p), .int (nI v_n), .int (nI v_v), .int (nI v_i), .int (nI v_z), .int (nI v_c), .int v_cycles, .int v_isHalted, .int (nI v_load), .int (nI v_count), .int (nI v_runs), .int v_turns, .int v_speed, .int v_part, .int (nI v_row), .int (nI v_came), .int (nI v_mask), .int v_watch, .int v_seed, .int (nI v_keyMany), .ref mkeys, .ref mrests, .int v_muffled, .int v_lost, .int v_resets, .int (nI v_rings), .int (nI v_strips), .ref mring, .ref mstrip, .ref mpins, .ref mstops, .int v_stopMany, .int (nI v_ended), .int (nI v_endedSteps), .ref mdone, .ref mkept, .int (nI v_keptAt), .int (nI v_keptMany), .int (nI v_at), .int (nI v_writes), .ref mtape, .int (nI v_taped), .int v_faultKind, .int v_faultPlace, .ref mnameValue, .ref mnamePlace, .ref mnameEquals, .int (nI v_nameMany), .ref mout, .int (nI v_outs), .int (nI v_go), .int (nI v_end), .int v_wrong, .int v_lineName, .int v_lineNameEnd, .int v_word, .int v_wordPlace, .int v_way, .int v_ePlace, .int v_eMany, .int (nI v_textFrom), .int v_here, .int v_unknown, .int (nI v_tellMany), .ref mtellFrom, .ref mtellEnd, .ref mtellValue, .ref mtellEquals, .ref mlaid, .int v_isSecond, .int v_laidMany, .int v_rangeFault, .int v_told])), (mwords, .inl (cA, 84, .inl f_words)), (mtape, .inl (cA, 6020, .inl f_tape))] := hD
          refine lv_if_ne (tgt := 34) hx hb dX9_wordOf_29 (by decide) (fun c_29 => ?_) (fun c_29 => ?_)
          · skip
            have lr_6 := let_rng (k := k_5) (by omega) c_29
            have es9 : sgn v_end f_tape (fm + (k4 - fm)) = nI k_5 := by rw [show fm + (k4 - fm) = k4 by omega, sgn_in (by omega)]; exact ek_5
            have hn9 : p3 + (k_5 - 96) * 2 ^ (5 * (k4 - fm)) = pck (sgn v_end f_tape) fm (k4 + 1 - fm) := by rw [show k4 + 1 - fm = k4 - fm + 1 by omega]; exact pck_next hp3e es9 lr_6.2
            have hll : ∀ j, j < k4 + 1 - fm → ∃ k : Nat, 97 ≤ k ∧ k ≤ 122 ∧ sgn v_end f_tape (fm + j) = nI k := fun j hj => by rcases Nat.lt_or_ge j (k4 - fm) with z | z; exact hlt j z; have z2 : j = k4 - fm := (by omega); subst z2; exact ⟨k_5, lr_6.1, lr_6.2, es9⟩
            have hb9 := pck_le (by omega) hn9 hll
            refine lv_iload_n hx hb dX9_wordOf_34 rfl (lv_at hl 3 rfl) ?_
            refine lv_aload_n hx hb dX9_wordOf_35 rfl (lv_at hl 0 rfl) ?_
            refine k_get (C := RX9) (T := TX9) (N := 79) (ci := 9) (v := .ref mtape) X hE hP 0 rfl rfl iX9 46 (by decide) w_705 rfl dX9_wordOf_36 ?_
            refine lv_iload hx hb dX9_wordOf_39 (lv_at hl 4 rfl) ?_
            refine k_ald (v := nI k_5) X hE hP 2 rfl k4 rfl (by omega) (by decide) ek_5 dX9_wordOf_41 ?_
            refine lv_bipush (v := 96) hx hb dX9_wordOf_42 (by decide) ?_
            refine lv_isub hx hb dX9_wordOf_44 ?_
            refine tk (y := nI (k_5 - 96)) (pk_sub (a := k_5) (b := 96) (by omega)) ?_
            refine lv_iconst (v := 5) hx hb dX9_wordOf_45 (by decide) ?_
            refine lv_iload hx hb dX9_wordOf_46 (lv_at hl 4 rfl) ?_
            refine lv_iload_n hx hb dX9_wordOf_48 rfl (lv_at hl 1 rfl) ?_
            refine lv_isub hx hb dX9_wordOf_49 ?_
            refine tk (y := nI (k4 - fm)) (pk_sub (a := k4) (b := fm) (by omega)) ?_
            refine lv_imul hx hb dX9_wordOf_50 ?_
            refine tk (y := nI (5 * (k4 - fm))) (pk_mul 5 (k4 - fm)) ?_
            refine lv_ishl hx hb dX9_wordOf_51 ?_
            refine tk (y := nI ((k_5 - 96) * 2 ^ (5 * (k4 - fm)))) (shl5 (a := k_5 - 96) (d := k4 - fm) (by omega) (by omega)) ?_
            refine lv_iadd hx hb dX9_wordOf_52 ?_
            refine tk (y := nI (p3 + (k_5 - 96) * 2 ^ (5 * (k4 - fm)))) (nI_add p3 ((k_5 - 96) * 2 ^ (5 * (k4 - fm)))) ?_
            refine lv_istore_n (lv' := [(3, .int (nI (p3 + (k_5 - 96) * 2 ^ (5 * (k4 - fm))))), (0, .ref h0), (1, .int (nI fm)), (2, .int (nI tt)), (4, .int (nI k4))]) hx hb dX9_wordOf_53 rfl hl (by decide) rfl (fun ls hl => ?_)
            refine lv_iinc (v := nI (k4 + 1)) (lv' := [(4, .int (nI (k4 + 1))), (3, .int (nI (p3 + (k_5 - 96) * 2 ^ (5 * (k4 - fm))))), (0, .ref h0), (1, .int (nI fm)), (2, .int (nI tt))]) hx hb dX9_wordOf_54 hl (k := 4) rfl (nI_1 k4) (by decide) rfl (fun ls hl => ?_)
            refine lv_goto (tgt := 5) hx hb dX9_wordOf_57 (by decide) ?_
            exact ih_5 (p3 + (k_5 - 96) * 2 ^ (5 * (k4 - fm))) (k4 + 1) (by omega) (by omega) (by omega) (by omega) hn9 hll (by omega) _ _ hP hD hS ls (lv_sub hl [2, 3, 4, 1, 0] rfl)
          · skip
            refine lv_iconst (v := (-1)) hx hb dX9_wordOf_32 (by decide) ?_
            rw [hQ9]
            exact endI X hr hlocks hP hD hS dX9_wordOf_33 ⟨(-1), rfl, (Or.inr ⟨rfl, wd_noL (j := k4) (by omega) (by omega) (by rw [sgn_in (by omega), ek_5]; exact c_29)⟩), rfl⟩
  exact loop_5 6014 0 fm (by omega) (by omega) (by omega) (by omega) (by rw [Nat.sub_self]; rfl) (fun j hj => absurd hj (by omega)) (by omega) _ _ hP hD hS ls (lv_sub hl [2, 3, 4, 1, 0] rfl)
