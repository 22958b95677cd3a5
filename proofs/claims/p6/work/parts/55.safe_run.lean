abbrev cX3_takeBack : ByteArray := prog_5_method_6_code
def yX3_takeBack : MethodName := ⟨RX3, "takeBack", "([I[I[I)V"⟩
def RJ7 : String := "java/util/Arrays"
abbrev cJ7_fill_53178 : ByteArray := prog_18_method_103_code
def yJ7_fill_53178 : MethodName := ⟨RJ7, "fill", "([II)V"⟩
abbrev cX4_beginAnew : ByteArray := prog_6_method_2_code
def yX4_beginAnew : MethodName := ⟨RX4, "beginAnew", "()V"⟩
set_option maxRecDepth 100000 in
theorem w_285 : (Cond.methodLink "BelfryBox$Processor" 29 yJ7_fill_53178 : Cond) ∈ gw := List.mem_filter.mpr ⟨List.mem_append_right _ (tb2 (List.mem_of_getElem? (i := 27) rfl)), rfl⟩
set_option maxRecDepth 100000 in
theorem w_286 : (Cond.code yJ7_fill_53178 prog_18_method_103_code 4 (Option.none : Option Jvm.ClassFile.FieldType) : Cond) ∈ gw := List.mem_filter.mpr ⟨List.mem_append_right _ (tb2 (List.mem_of_getElem? (i := 29) rfl)), rfl⟩
set_option maxRecDepth 100000 in
theorem w_287 : (Cond.initialized "java/util/Arrays" : Cond) ∈ gw := List.mem_filter.mpr ⟨List.mem_append_right _ (tb1 (List.mem_of_getElem? (i := 10) rfl)), rfl⟩
set_option maxRecDepth 100000 in
theorem w_288 : (Cond.static yJ7_fill_53178 : Cond) ∈ gw := List.mem_filter.mpr ⟨List.mem_append_right _ (tb2 (List.mem_of_getElem? (i := 28) rfl)), rfl⟩
set_option maxRecDepth 100000 in
theorem w_289 : (Cond.methodLink "BelfryBox$Processor" 38 yX3_forget : Cond) ∈ gw := List.mem_filter.mpr ⟨List.mem_append_right _ (tb2 (List.mem_of_getElem? (i := 42) rfl)), rfl⟩
set_option maxRecDepth 100000 in
theorem w_290 : (Cond.code yX3_forget prog_5_method_2_code 1 (Option.none : Option Jvm.ClassFile.FieldType) : Cond) ∈ gw := List.mem_filter.mpr ⟨List.mem_append_right _ (tb2 (List.mem_of_getElem? (i := 45) rfl)), rfl⟩
set_option maxRecDepth 100000 in
theorem w_291 : (Cond.instanceMethod yX3_forget : Cond) ∈ gw := List.mem_filter.mpr ⟨List.mem_append_right _ (tb2 (List.mem_of_getElem? (i := 43) rfl)), rfl⟩
set_option maxRecDepth 100000 in
theorem w_292 : (Cond.selects "BelfryBox$Past" yX3_forget yX3_forget : Cond) ∈ gw := List.mem_filter.mpr ⟨List.mem_append_right _ (tb2 (List.mem_of_getElem? (i := 44) rfl)), rfl⟩
theorem dX3_takeBack_0 : decode cX3_takeBack 0 = .ok (.aload_n 0, 1) := by decide +kernel
theorem dX3_takeBack_1 : decode cX3_takeBack 1 = .ok (.getfield 19, 3) := by decide +kernel
theorem dX3_takeBack_4 : decode cX3_takeBack 4 = .ok (.bipush 42, 2) := by decide +kernel
theorem dX3_takeBack_6 : decode cX3_takeBack 6 = .ok (.imul, 1) := by decide +kernel
theorem dX3_takeBack_7 : decode cX3_takeBack 7 = .ok (.istore 4, 2) := by decide +kernel
theorem dX3_takeBack_9 : decode cX3_takeBack 9 = .ok (.aload_n 0, 1) := by decide +kernel
theorem dX3_takeBack_10 : decode cX3_takeBack 10 = .ok (.getfield 11, 3) := by decide +kernel
theorem dX3_takeBack_13 : decode cX3_takeBack 13 = .ok (.iload 4, 2) := by decide +kernel
theorem dX3_takeBack_15 : decode cX3_takeBack 15 = .ok (.aload_n 1, 1) := by decide +kernel
theorem dX3_takeBack_16 : decode cX3_takeBack 16 = .ok (.iconst 0, 1) := by decide +kernel
theorem dX3_takeBack_17 : decode cX3_takeBack 17 = .ok (.bipush 34, 2) := by decide +kernel
theorem dX3_takeBack_19 : decode cX3_takeBack 19 = .ok (.invokestatic 28, 3) := by decide +kernel
theorem dX3_takeBack_22 : decode cX3_takeBack 22 = .ok (.aload_n 3, 1) := by decide +kernel
theorem dX3_takeBack_23 : decode cX3_takeBack 23 = .ok (.aload_n 0, 1) := by decide +kernel
theorem dX3_takeBack_24 : decode cX3_takeBack 24 = .ok (.getfield 11, 3) := by decide +kernel
theorem dX3_takeBack_27 : decode cX3_takeBack 27 = .ok (.iload 4, 2) := by decide +kernel
theorem dX3_takeBack_29 : decode cX3_takeBack 29 = .ok (.bipush 34, 2) := by decide +kernel
theorem dX3_takeBack_31 : decode cX3_takeBack 31 = .ok (.iadd, 1) := by decide +kernel
theorem dX3_takeBack_32 : decode cX3_takeBack 32 = .ok (.iaload, 1) := by decide +kernel
theorem dX3_takeBack_33 : decode cX3_takeBack 33 = .ok (.dup2, 1) := by decide +kernel
theorem dX3_takeBack_34 : decode cX3_takeBack 34 = .ok (.iaload, 1) := by decide +kernel
theorem dX3_takeBack_35 : decode cX3_takeBack 35 = .ok (.iconst 1, 1) := by decide +kernel
theorem dX3_takeBack_36 : decode cX3_takeBack 36 = .ok (.isub, 1) := by decide +kernel
theorem dX3_takeBack_37 : decode cX3_takeBack 37 = .ok (.iastore, 1) := by decide +kernel
theorem dX3_takeBack_38 : decode cX3_takeBack 38 = .ok (.aload_n 0, 1) := by decide +kernel
theorem dX3_takeBack_39 : decode cX3_takeBack 39 = .ok (.getfield 11, 3) := by decide +kernel
theorem dX3_takeBack_42 : decode cX3_takeBack 42 = .ok (.iload 4, 2) := by decide +kernel
theorem dX3_takeBack_44 : decode cX3_takeBack 44 = .ok (.bipush 35, 2) := by decide +kernel
theorem dX3_takeBack_46 : decode cX3_takeBack 46 = .ok (.iadd, 1) := by decide +kernel
theorem dX3_takeBack_47 : decode cX3_takeBack 47 = .ok (.iaload, 1) := by decide +kernel
theorem dX3_takeBack_48 : decode cX3_takeBack 48 = .ok (.iconst 1, 1) := by decide +kernel
theorem dX3_takeBack_49 : decode cX3_takeBack 49 = .ok (.isub, 1) := by decide +kernel
theorem dX3_takeBack_50 : decode cX3_takeBack 50 = .ok (.istore 5, 2) := by decide +kernel
theorem dX3_takeBack_52 : decode cX3_takeBack 52 = .ok (.iload 5, 2) := by decide +kernel
theorem dX3_takeBack_54 : decode cX3_takeBack 54 = .ok (.ifCond .lt 43, 3) := by decide +kernel
theorem dX3_takeBack_97 : decode cX3_takeBack 97 = .ok (.aload_n 0, 1) := by decide +kernel
theorem dX3_takeBack_98 : decode cX3_takeBack 98 = .ok (.aload_n 0, 1) := by decide +kernel
theorem dX3_takeBack_99 : decode cX3_takeBack 99 = .ok (.getfield 19, 3) := by decide +kernel
theorem dX3_takeBack_102 : decode cX3_takeBack 102 = .ok (.sipush 256, 3) := by decide +kernel
theorem dX3_takeBack_105 : decode cX3_takeBack 105 = .ok (.iadd, 1) := by decide +kernel
theorem dX3_takeBack_106 : decode cX3_takeBack 106 = .ok (.iconst 1, 1) := by decide +kernel
theorem dX3_takeBack_107 : decode cX3_takeBack 107 = .ok (.isub, 1) := by decide +kernel
theorem dX3_takeBack_108 : decode cX3_takeBack 108 = .ok (.sipush 256, 3) := by decide +kernel
theorem dX3_takeBack_111 : decode cX3_takeBack 111 = .ok (.irem, 1) := by decide +kernel
theorem dX3_takeBack_112 : decode cX3_takeBack 112 = .ok (.putfield 19, 3) := by decide +kernel
theorem dX3_takeBack_115 : decode cX3_takeBack 115 = .ok (.aload_n 0, 1) := by decide +kernel
theorem dX3_takeBack_116 : decode cX3_takeBack 116 = .ok (.dup, 1) := by decide +kernel
theorem dX3_takeBack_117 : decode cX3_takeBack 117 = .ok (.getfield 15, 3) := by decide +kernel
theorem dX3_takeBack_120 : decode cX3_takeBack 120 = .ok (.iconst 1, 1) := by decide +kernel
theorem dX3_takeBack_121 : decode cX3_takeBack 121 = .ok (.isub, 1) := by decide +kernel
theorem dX3_takeBack_122 : decode cX3_takeBack 122 = .ok (.putfield 15, 3) := by decide +kernel
theorem dX3_takeBack_125 : decode cX3_takeBack 125 = .ok (.return_, 1) := by decide +kernel
theorem dX3_takeBack_57 : decode cX3_takeBack 57 = .ok (.aload_n 2, 1) := by decide +kernel
theorem dX3_takeBack_58 : decode cX3_takeBack 58 = .ok (.aload_n 0, 1) := by decide +kernel
theorem dX3_takeBack_59 : decode cX3_takeBack 59 = .ok (.getfield 11, 3) := by decide +kernel
theorem dX3_takeBack_62 : decode cX3_takeBack 62 = .ok (.iload 4, 2) := by decide +kernel
theorem dX3_takeBack_64 : decode cX3_takeBack 64 = .ok (.bipush 36, 2) := by decide +kernel
theorem dX3_takeBack_66 : decode cX3_takeBack 66 = .ok (.iadd, 1) := by decide +kernel
theorem dX3_takeBack_67 : decode cX3_takeBack 67 = .ok (.iconst 2, 1) := by decide +kernel
theorem dX3_takeBack_68 : decode cX3_takeBack 68 = .ok (.iload 5, 2) := by decide +kernel
theorem dX3_takeBack_70 : decode cX3_takeBack 70 = .ok (.imul, 1) := by decide +kernel
theorem dX3_takeBack_71 : decode cX3_takeBack 71 = .ok (.iadd, 1) := by decide +kernel
theorem dX3_takeBack_72 : decode cX3_takeBack 72 = .ok (.iaload, 1) := by decide +kernel
theorem dX3_takeBack_73 : decode cX3_takeBack 73 = .ok (.aload_n 0, 1) := by decide +kernel
theorem dX3_takeBack_74 : decode cX3_takeBack 74 = .ok (.getfield 11, 3) := by decide +kernel
theorem dX3_takeBack_77 : decode cX3_takeBack 77 = .ok (.iload 4, 2) := by decide +kernel
theorem dX3_takeBack_79 : decode cX3_takeBack 79 = .ok (.bipush 36, 2) := by decide +kernel
theorem dX3_takeBack_81 : decode cX3_takeBack 81 = .ok (.iadd, 1) := by decide +kernel
theorem dX3_takeBack_82 : decode cX3_takeBack 82 = .ok (.iconst 2, 1) := by decide +kernel
theorem dX3_takeBack_83 : decode cX3_takeBack 83 = .ok (.iload 5, 2) := by decide +kernel
theorem dX3_takeBack_85 : decode cX3_takeBack 85 = .ok (.imul, 1) := by decide +kernel
theorem dX3_takeBack_86 : decode cX3_takeBack 86 = .ok (.iadd, 1) := by decide +kernel
theorem dX3_takeBack_87 : decode cX3_takeBack 87 = .ok (.iconst 1, 1) := by decide +kernel
theorem dX3_takeBack_88 : decode cX3_takeBack 88 = .ok (.iadd, 1) := by decide +kernel
theorem dX3_takeBack_89 : decode cX3_takeBack 89 = .ok (.iaload, 1) := by decide +kernel
theorem dX3_takeBack_90 : decode cX3_takeBack 90 = .ok (.iastore, 1) := by decide +kernel
theorem dX3_takeBack_91 : decode cX3_takeBack 91 = .ok (.iinc 5 (-1), 3) := by decide +kernel
theorem dX3_takeBack_94 : decode cX3_takeBack 94 = .ok (.goto (-42), 3) := by decide +kernel
theorem dJ7_fill_53178_0 : decode cJ7_fill_53178 0 = .ok (.iconst 0, 1) := by decide +kernel
theorem dJ7_fill_53178_1 : decode cJ7_fill_53178 1 = .ok (.istore_n 2, 1) := by decide +kernel
theorem dJ7_fill_53178_2 : decode cJ7_fill_53178 2 = .ok (.aload_n 0, 1) := by decide +kernel
theorem dJ7_fill_53178_3 : decode cJ7_fill_53178 3 = .ok (.arraylength, 1) := by decide +kernel
theorem dJ7_fill_53178_4 : decode cJ7_fill_53178 4 = .ok (.istore_n 3, 1) := by decide +kernel
theorem dJ7_fill_53178_5 : decode cJ7_fill_53178 5 = .ok (.iload_n 2, 1) := by decide +kernel
theorem dJ7_fill_53178_6 : decode cJ7_fill_53178 6 = .ok (.iload_n 3, 1) := by decide +kernel
theorem dJ7_fill_53178_7 : decode cJ7_fill_53178 7 = .ok (.if_icmp .ge 13, 3) := by decide +kernel
theorem dJ7_fill_53178_20 : decode cJ7_fill_53178 20 = .ok (.return_, 1) := by decide +kernel
theorem dJ7_fill_53178_10 : decode cJ7_fill_53178 10 = .ok (.aload_n 0, 1) := by decide +kernel
theorem dJ7_fill_53178_11 : decode cJ7_fill_53178 11 = .ok (.iload_n 2, 1) := by decide +kernel
theorem dJ7_fill_53178_12 : decode cJ7_fill_53178 12 = .ok (.iload_n 1, 1) := by decide +kernel
theorem dJ7_fill_53178_13 : decode cJ7_fill_53178 13 = .ok (.iastore, 1) := by decide +kernel
theorem dJ7_fill_53178_14 : decode cJ7_fill_53178 14 = .ok (.iinc 2 1, 3) := by decide +kernel
theorem dJ7_fill_53178_17 : decode cJ7_fill_53178 17 = .ok (.goto (-12), 3) := by decide +kernel
theorem dX4_beginAnew_0 : decode cX4_beginAnew 0 = .ok (.aload_n 0, 1) := by decide +kernel
theorem dX4_beginAnew_1 : decode cX4_beginAnew 1 = .ok (.getfield 15, 3) := by decide +kernel
theorem dX4_beginAnew_4 : decode cX4_beginAnew 4 = .ok (.iconst 0, 1) := by decide +kernel
theorem dX4_beginAnew_5 : decode cX4_beginAnew 5 = .ok (.invokestatic 29, 3) := by decide +kernel
theorem dX4_beginAnew_8 : decode cX4_beginAnew 8 = .ok (.aload_n 0, 1) := by decide +kernel
theorem dX4_beginAnew_9 : decode cX4_beginAnew 9 = .ok (.getfield 15, 3) := by decide +kernel
theorem dX4_beginAnew_12 : decode cX4_beginAnew 12 = .ok (.bipush 18, 2) := by decide +kernel
theorem dX4_beginAnew_14 : decode cX4_beginAnew 14 = .ok (.iconst 1, 1) := by decide +kernel
theorem dX4_beginAnew_15 : decode cX4_beginAnew 15 = .ok (.iastore, 1) := by decide +kernel
theorem dX4_beginAnew_16 : decode cX4_beginAnew 16 = .ok (.aload_n 0, 1) := by decide +kernel
theorem dX4_beginAnew_17 : decode cX4_beginAnew 17 = .ok (.invokevirtual 35, 3) := by decide +kernel
theorem dX4_beginAnew_20 : decode cX4_beginAnew 20 = .ok (.aload_n 0, 1) := by decide +kernel
theorem dX4_beginAnew_21 : decode cX4_beginAnew 21 = .ok (.getfield 9, 3) := by decide +kernel
theorem dX4_beginAnew_24 : decode cX4_beginAnew 24 = .ok (.iconst 0, 1) := by decide +kernel
theorem dX4_beginAnew_25 : decode cX4_beginAnew 25 = .ok (.invokestatic 29, 3) := by decide +kernel
theorem dX4_beginAnew_28 : decode cX4_beginAnew 28 = .ok (.aload_n 0, 1) := by decide +kernel
theorem dX4_beginAnew_29 : decode cX4_beginAnew 29 = .ok (.getfield 25, 3) := by decide +kernel
theorem dX4_beginAnew_32 : decode cX4_beginAnew 32 = .ok (.invokevirtual 38, 3) := by decide +kernel
theorem dX4_beginAnew_35 : decode cX4_beginAnew 35 = .ok (.return_, 1) := by decide +kernel
set_option maxHeartbeats 4000000 in
set_option maxRecDepth 100000 in
theorem c_s_takeBack (l : Launch) (D : va_G) (cA cB : ClassId) (h0 : Nat) (he : Nat) (hn : Nat) (hs : Nat) (hc : Nat) (la : Nat) (ke : Nat) (en : Nat → Int32) (f : Nat → Int32) (st : Nat → Int32) (ct : Nat → Int32) (hla : la < 256) (hke : ke < 257) (hen : okE en) (hf : okN f) (hst : ∀ j, j < 4096 → ∃ k : Nat, k < 256 ∧ st j = nI k) (hke1 : 1 ≤ ke) : CV l yX3_takeBack cX3_takeBack 6 none 1 40 0 0 D cA cB [.ref h0, .ref hn, .ref hs, .ref hc] [(h0, .inr (3, [.ref he, .int (nI la), .int (nI ke)])), (he, .inl (cA, 10752, .inl en)), (hn, .inl (cA, 34, .inl f)), (hs, .inl (cA, 4096, .inl st)), (hc, .inl (cA, 257, .inl ct))] (fun W1 => ∃ (la2 : Nat) (ke2 : Nat) (en2 : Nat → Int32) (f2 : Nat → Int32) (st2 : Nat → Int32) (ct2 : Nat → Int32), (la2 < 256) ∧ (ke2 < 257) ∧ (okE en2) ∧ (okN f2) ∧ (∀ j, j < 4096 → ∃ k : Nat, k < 256 ∧ st2 j = nI k) ∧ (ke2 + 1 = ke) ∧ W1 = [(h0, .inr (3, [.ref he, .int (nI la2), .int (nI ke2)])), (he, .inl (cA, 10752, .inl en2)), (hn, .inl (cA, 34, .inl f2)), (hs, .inl (cA, 4096, .inl st2)), (hc, .inl (cA, 257, .inl ct2))]) := by
  refine mkV (lv0 := [(0, .ref h0), (1, .ref hn), (2, .ref hs), (3, .ref hc)]) (by decide) (Nat.le_of_ble_eq_true rfl) rfl ?_
  intro p e s m below meth c A ls X hr hlocks hnm hE hA hP hD hS hl
  have hx := X.1
  have hb := X.2.1
  refine lv_aload_n hx hb dX3_takeBack_0 rfl (lv_at hl 0 rfl) ?_
  refine k_get (C := RX3) (T := TX3) (N := 3) (ci := 3) (v := .int (nI la)) X hE hP 0 rfl rfl iX3 1 (by decide) w_55 rfl dX3_takeBack_1 ?_
  refine lv_bipush (v := 42) hx hb dX3_takeBack_4 (by decide) ?_
  refine lv_imul hx hb dX3_takeBack_6 ?_
  refine tk (y := nI (la * 42)) (pk_mul la 42) ?_
  refine lv_istore (lv' := [(4, .int (nI (la * 42))), (0, .ref h0), (1, .ref hn), (2, .ref hs), (3, .ref hc)]) hx hb dX3_takeBack_7 hl (by decide) rfl (fun ls hl => ?_)
  refine lv_aload_n hx hb dX3_takeBack_9 rfl (lv_at hl 1 rfl) ?_
  refine k_get (C := RX3) (T := TX3) (N := 3) (ci := 3) (v := .ref he) X hE hP 0 rfl rfl iX3 0 (by decide) w_54 rfl dX3_takeBack_10 ?_
  refine lv_iload hx hb dX3_takeBack_13 (lv_at hl 0 rfl) ?_
  refine lv_aload_n hx hb dX3_takeBack_15 rfl (lv_at hl 2 rfl) ?_
  refine lv_iconst (v := 0) hx hb dX3_takeBack_16 (by decide) ?_
  refine lv_bipush (v := 34) hx hb dX3_takeBack_17 (by decide) ?_
  refine va_copyi (ty := .int) hx hb (X.2.2.1.trans hl.1.symm) X.2.2.2.1 (X.2.2.2.2 _ w_59) (X.2.2.2.2 _ w_60) (X.2.2.2.2 _ w_61) (X.2.2.2.2 _ w_62) hE.1 hP hD hS 1 2 0 0 rfl rfl rfl rfl rfl (nI_pos (by omega)) (by decide) (by decide) (by rw [nI_clamp (by omega)]; show _ + 34 ≤ 10752; omega) (by decide) (fun _ _ => rfl) (Nat.le_of_ble_eq_true rfl) (Nat.le_of_ble_eq_true rfl) dX3_takeBack_19 (fun H locs hP hD hS => ?_)
  obtain ⟨g_1, eg_1⟩ : ∃ z, z = va_cpy en f (nI (la * 42) : Int32).toNatClampNeg (0 : Int32).toNatClampNeg (34 : Int32).toNatClampNeg := ⟨_, rfl⟩
  rw [← eg_1] at hP hD
  have hP : va_P D classes [(h0, .inr (3, [.ref he, .int (nI la), .int (nI ke)])), (he, .inl (cA, 10752, .inl en)), (hn, .inl (cA, 34, .inl g_1)), (hs, .inl (cA, 4096, .inl st)), (hc, .inl (cA, 257, .inl ct))] H := hP
  have hD : va_D A [(h0, .inr (3, [.ref he, .int (nI la), .int (nI ke)])), (he, .inl (cA, 10752, .inl en)), (hn, .inl (cA, 34, .inl g_1)), (hs, .inl (cA, 4096, .inl st)), (hc, .inl (cA, 257, .inl ct))] := hD
  have hg_1 : okN g_1 := by rw [eg_1]; exact okN_cpy hen la (by omega) (nI_clamp (by omega)) rfl rfl
  refine lv_aload_n hx hb dX3_takeBack_22 rfl (lv_at hl 4 rfl) ?_
  refine lv_aload_n hx hb dX3_takeBack_23 rfl (lv_at hl 1 rfl) ?_
  refine k_get (C := RX3) (T := TX3) (N := 3) (ci := 3) (v := .ref he) X hE hP 0 rfl rfl iX3 0 (by decide) w_54 rfl dX3_takeBack_24 ?_
  refine lv_iload hx hb dX3_takeBack_27 (lv_at hl 0 rfl) ?_
  refine lv_bipush (v := 34) hx hb dX3_takeBack_29 (by decide) ?_
  refine lv_iadd hx hb dX3_takeBack_31 ?_
  refine tk (y := nI (la * 42 + 34)) (nI_add (la * 42) 34) ?_
  obtain ⟨k_2, hk_2, ek_2⟩ := hen.at (la * 42 + 34) la 34 257 (by omega) (by decide) (by omega) rfl
  refine k_ald (v := nI k_2) X hE hP 1 rfl (la * 42 + 34) rfl (by omega) (by decide) ek_2 dX3_takeBack_32 ?_
  refine lv_dup2_11 hx hb dX3_takeBack_33 rfl rfl ?_
  refine k_ald (v := ct k_2) X hE hP 4 rfl k_2 rfl (by omega) (by decide) rfl dX3_takeBack_34 ?_
  refine lv_iconst (v := 1) hx hb dX3_takeBack_35 (by decide) ?_
  refine lv_isub hx hb dX3_takeBack_36 ?_
  refine k_ast X hE hP hD hS 4 rfl k_2 rfl (by omega) (by decide) [(h0, .inr (3, [.ref he, .int (nI la), .int (nI ke)])), (he, .inl (cA, 10752, .inl en)), (hn, .inl (cA, 34, .inl g_1)), (hs, .inl (cA, 4096, .inl st)), (hc, .inl (cA, 257, .inl (upd ct k_2 ((ct k_2) - 1))))] rfl dX3_takeBack_37 (fun H locs hP hD hS => ?_)
  obtain ⟨g_3, eg_3⟩ : ∃ z, z = upd ct k_2 ((ct k_2) - 1) := ⟨_, rfl⟩
  rw [← eg_3] at hP hD
  have hP : va_P D classes [(h0, .inr (3, [.ref he, .int (nI la), .int (nI ke)])), (he, .inl (cA, 10752, .inl en)), (hn, .inl (cA, 34, .inl g_1)), (hs, .inl (cA, 4096, .inl st)), (hc, .inl (cA, 257, .inl g_3))] H := hP
  have hD : va_D A [(h0, .inr (3, [.ref he, .int (nI la), .int (nI ke)])), (he, .inl (cA, 10752, .inl en)), (hn, .inl (cA, 34, .inl g_1)), (hs, .inl (cA, 4096, .inl st)), (hc, .inl (cA, 257, .inl g_3))] := hD
  refine lv_aload_n hx hb dX3_takeBack_38 rfl (lv_at hl 1 rfl) ?_
  refine k_get (C := RX3) (T := TX3) (N := 3) (ci := 3) (v := .ref he) X hE hP 0 rfl rfl iX3 0 (by decide) w_54 rfl dX3_takeBack_39 ?_
  refine lv_iload hx hb dX3_takeBack_42 (lv_at hl 0 rfl) ?_
  refine lv_bipush (v := 35) hx hb dX3_takeBack_44 (by decide) ?_
  refine lv_iadd hx hb dX3_takeBack_46 ?_
  refine tk (y := nI (la * 42 + 35)) (nI_add (la * 42) 35) ?_
  obtain ⟨k_4, hk_4, ek_4⟩ := hen.at (la * 42 + 35) la 35 4 (by omega) (by decide) (by omega) rfl
  refine k_ald (v := nI k_4) X hE hP 1 rfl (la * 42 + 35) rfl (by omega) (by decide) ek_4 dX3_takeBack_47 ?_
  refine lv_iconst (v := 1) hx hb dX3_takeBack_48 (by decide) ?_
  refine lv_isub hx hb dX3_takeBack_49 ?_
  refine lv_istore (lv' := [(5, .int ((nI k_4) - 1)), (4, .int (nI (la * 42))), (0, .ref h0), (1, .ref hn), (2, .ref hs), (3, .ref hc)]) hx hb dX3_takeBack_50 hl (by decide) rfl (fun ls hl => ?_)
  have loop_52 : ∀ (n : Nat) (c9 : Nat) (stv : Nat → Int32), (c9 ≤ 3) → (∀ j, j < 4096 → ∃ k : Nat, k < 256 ∧ stv j = nI k) → c9 < n → ∀ (H : Heap) (locs : List Loc), va_P D classes [(h0, .inr (3, [.ref he, .int (nI la), .int (nI ke)])), (he, .inl (cA, 10752, .inl en)), (hn, .inl (cA, 34, .inl g_1)), (hs, .inl (cA, 4096, .inl stv)), (hc, .inl (cA, 257, .inl g_3))] H → va_D A [(h0, .inr (3, [.ref he, .int (nI la), .int (nI ke)])), (he, .inl (cA, 10752, .inl en)), (hn, .inl (cA, 34, .inl g_1)), (hs, .inl (cA, 4096, .inl stv)), (hc, .inl (cA, 257, .inl g_3))] → va_S A s.heap H locs → ∀ ls : Array Slot, lv_has ls 6 [(0, .ref h0), (1, .ref hn), (2, .ref hs), (3, .ref hc), (4, .int (nI (la * 42))), (5, .int (nI c9 - 1))] → W p l e { frames := 1, cells := 0, slots := 0, locals := 40 } s m (List.toArray [.ref h0, .ref hn, .ref hs, .ref hc]) below meth c H locs 0 0 (MQ below (QV D (fun W1 => ∃ (la2 : Nat) (ke2 : Nat) (en2 : Nat → Int32) (f2 : Nat → Int32) (st2 : Nat → Int32) (ct2 : Nat → Int32), (la2 < 256) ∧ (ke2 < 257) ∧ (okE en2) ∧ (okN f2) ∧ (∀ j, j < 4096 → ∃ k : Nat, k < 256 ∧ st2 j = nI k) ∧ (ke2 + 1 = ke) ∧ W1 = [(h0, .inr (3, [.ref he, .int (nI la2), .int (nI ke2)])), (he, .inl (cA, 10752, .inl en2)), (hn, .inl (cA, 34, .inl f2)), (hs, .inl (cA, 4096, .inl st2)), (hc, .inl (cA, 257, .inl ct2))]) A) (List.toArray [.ref h0, .ref hn, .ref hs, .ref hc]) s 0 0 A) (F0 m 52 ls []) := by
    intro n
    induction n with
    | zero => intro c9 stv hc3 hstv hfuel; exact absurd hfuel (by omega)
    | succ n ih =>
      intro c9 stv hc3 hstv hfuel H locs hP hD hS ls hl
      refine lv_iload hx hb dX3_takeBack_52 (lv_at hl 5 rfl) ?_
      refine lv_if_lt (tgt := 97) hx hb dX3_takeBack_54 (by decide) (fun c_54 => ?_) (fun c_54 => ?_)
      · skip
        refine lv_aload_n hx hb dX3_takeBack_97 rfl (lv_at hl 0 rfl) ?_
        refine lv_aload_n hx hb dX3_takeBack_98 rfl (lv_at hl 0 rfl) ?_
        refine k_get (C := RX3) (T := TX3) (N := 3) (ci := 3) (v := .int (nI la)) X hE hP 0 rfl rfl iX3 1 (by decide) w_55 rfl dX3_takeBack_99 ?_
        refine lv_sipush (v := 256) hx hb dX3_takeBack_102 (by decide) ?_
        refine lv_iadd hx hb dX3_takeBack_105 ?_
        refine tk (y := nI (la + 256)) (nI_add la 256) ?_
        refine lv_iconst (v := 1) hx hb dX3_takeBack_106 (by decide) ?_
        refine lv_isub hx hb dX3_takeBack_107 ?_
        refine tk (y := nI (la + 256 - 1)) (pk_sub (a := la + 256) (b := 1) (by omega)) ?_
        refine lv_sipush (v := 256) hx hb dX3_takeBack_108 (by decide) ?_
        refine lv_irem hx hb dX3_takeBack_111 (by decide) ?_
        refine tk (y := nI ((la + 256 - 1) % 256)) (pk_rem (a := la + 256 - 1) (d := 256) (by omega) (by decide) (by decide)) ?_
        refine k_put (C := RX3) (T := TX3) (N := 3) (ci := 3) (v := .int (nI ((la + 256 - 1) % 256))) (ty := .int) X hE hP hD hS 0 rfl rfl iX3 tyX3 tyX3_ok nmX3 1 (by decide) w_55 rfl (by decide +kernel) rfl rfl (Nat.le_of_ble_eq_true rfl) [(h0, .inr (3, [.ref he, .int (nI ((la + 256 - 1) % 256)), .int (nI ke)])), (he, .inl (cA, 10752, .inl en)), (hn, .inl (cA, 34, .inl g_1)), (hs, .inl (cA, 4096, .inl stv)), (hc, .inl (cA, 257, .inl g_3))] rfl dX3_takeBack_112 (fun H locs hP hD hS => ?_)
        refine lv_aload_n hx hb dX3_takeBack_115 rfl (lv_at hl 0 rfl) ?_
        refine lv_dup hx hb dX3_takeBack_116 rfl ?_
        refine k_get (C := RX3) (T := TX3) (N := 3) (ci := 3) (v := .int (nI ke)) X hE hP 0 rfl rfl iX3 2 (by decide) w_53 rfl dX3_takeBack_117 ?_
        refine lv_iconst (v := 1) hx hb dX3_takeBack_120 (by decide) ?_
        refine lv_isub hx hb dX3_takeBack_121 ?_
        refine tk (y := nI (ke - 1)) (pk_sub (a := ke) (b := 1) (by omega)) ?_
        refine k_put (C := RX3) (T := TX3) (N := 3) (ci := 3) (v := .int (nI (ke - 1))) (ty := .int) X hE hP hD hS 0 rfl rfl iX3 tyX3 tyX3_ok nmX3 2 (by decide) w_53 rfl (by decide +kernel) rfl rfl (Nat.le_of_ble_eq_true rfl) [(h0, .inr (3, [.ref he, .int (nI ((la + 256 - 1) % 256)), .int (nI (ke - 1))])), (he, .inl (cA, 10752, .inl en)), (hn, .inl (cA, 34, .inl g_1)), (hs, .inl (cA, 4096, .inl stv)), (hc, .inl (cA, 257, .inl g_3))] rfl dX3_takeBack_122 (fun H locs hP hD hS => ?_)
        exact endV X hr hlocks hP hD hS dX3_takeBack_125 ⟨((la + 256 - 1) % 256), (ke - 1), en, g_1, stv, g_3, (by omega), (by omega), hen, hg_1, hstv, (by omega), rfl⟩
      · skip
        obtain ⟨j, rfl⟩ : ∃ j, c9 = j + 1 := ⟨c9 - 1, by rcases Nat.eq_zero_or_pos c9 with q | q; exact absurd (by rw [q]; decide) c_54; omega⟩
        rw [nI_pred] at hl
        refine lv_aload_n hx hb dX3_takeBack_57 rfl (lv_at hl 2 rfl) ?_
        refine lv_aload_n hx hb dX3_takeBack_58 rfl (lv_at hl 0 rfl) ?_
        refine k_get (C := RX3) (T := TX3) (N := 3) (ci := 3) (v := .ref he) X hE hP 0 rfl rfl iX3 0 (by decide) w_54 rfl dX3_takeBack_59 ?_
        refine lv_iload hx hb dX3_takeBack_62 (lv_at hl 4 rfl) ?_
        refine lv_bipush (v := 36) hx hb dX3_takeBack_64 (by decide) ?_
        refine lv_iadd hx hb dX3_takeBack_66 ?_
        refine tk (y := nI (la * 42 + 36)) (nI_add (la * 42) 36) ?_
        refine lv_iconst (v := 2) hx hb dX3_takeBack_67 (by decide) ?_
        refine lv_iload hx hb dX3_takeBack_68 (lv_at hl 5 rfl) ?_
        refine lv_imul hx hb dX3_takeBack_70 ?_
        refine tk (y := nI (2 * j)) (pk_mul 2 j) ?_
        refine lv_iadd hx hb dX3_takeBack_71 ?_
        refine tk (y := nI (la * 42 + 36 + 2 * j)) (nI_add (la * 42 + 36) (2 * j)) ?_
        obtain ⟨k_5, hk_5, ek_5⟩ := hen.at (la * 42 + 36 + 2 * j) la (36 + 2 * j) 4096 (by omega) (by omega) (by omega) (bdE_a (by omega))
        refine k_ald (v := nI k_5) X hE hP 1 rfl (la * 42 + 36 + 2 * j) rfl (by omega) (by decide) ek_5 dX3_takeBack_72 ?_
        refine lv_aload_n hx hb dX3_takeBack_73 rfl (lv_at hl 0 rfl) ?_
        refine k_get (C := RX3) (T := TX3) (N := 3) (ci := 3) (v := .ref he) X hE hP 0 rfl rfl iX3 0 (by decide) w_54 rfl dX3_takeBack_74 ?_
        refine lv_iload hx hb dX3_takeBack_77 (lv_at hl 4 rfl) ?_
        refine lv_bipush (v := 36) hx hb dX3_takeBack_79 (by decide) ?_
        refine lv_iadd hx hb dX3_takeBack_81 ?_
        refine tk (y := nI (la * 42 + 36)) (nI_add (la * 42) 36) ?_
        refine lv_iconst (v := 2) hx hb dX3_takeBack_82 (by decide) ?_
        refine lv_iload hx hb dX3_takeBack_83 (lv_at hl 5 rfl) ?_
        refine lv_imul hx hb dX3_takeBack_85 ?_
        refine tk (y := nI (2 * j)) (pk_mul 2 j) ?_
        refine lv_iadd hx hb dX3_takeBack_86 ?_
        refine tk (y := nI (la * 42 + 36 + 2 * j)) (nI_add (la * 42 + 36) (2 * j)) ?_
        refine lv_iconst (v := 1) hx hb dX3_takeBack_87 (by decide) ?_
        refine lv_iadd hx hb dX3_takeBack_88 ?_
        refine tk (y := nI (la * 42 + 36 + 2 * j + 1)) (nI_add (la * 42 + 36 + 2 * j) 1) ?_
        obtain ⟨k_6, hk_6, ek_6⟩ := hen.at (la * 42 + 36 + 2 * j + 1) la (37 + 2 * j) 256 (by omega) (by omega) (by omega) (bdE_b (by omega))
        refine k_ald (v := nI k_6) X hE hP 1 rfl (la * 42 + 36 + 2 * j + 1) rfl (by omega) (by decide) ek_6 dX3_takeBack_89 ?_
        refine k_ast X hE hP hD hS 3 rfl k_5 rfl (by omega) (by decide) [(h0, .inr (3, [.ref he, .int (nI la), .int (nI ke)])), (he, .inl (cA, 10752, .inl en)), (hn, .inl (cA, 34, .inl g_1)), (hs, .inl (cA, 4096, .inl (upd stv k_5 (nI k_6)))), (hc, .inl (cA, 257, .inl g_3))] rfl dX3_takeBack_90 (fun H locs hP hD hS => ?_)
        obtain ⟨g_7, eg_7⟩ : ∃ z, z = upd stv k_5 (nI k_6) := ⟨_, rfl⟩
        rw [← eg_7] at hP hD
        have hg_7 := okB_upd hstv k_5 (nI k_6) ⟨k_6, by omega, rfl⟩
        rw [← eg_7] at hg_7
        have hP : va_P D classes [(h0, .inr (3, [.ref he, .int (nI la), .int (nI ke)])), (he, .inl (cA, 10752, .inl en)), (hn, .inl (cA, 34, .inl g_1)), (hs, .inl (cA, 4096, .inl g_7)), (hc, .inl (cA, 257, .inl g_3))] H := hP
        have hD : va_D A [(h0, .inr (3, [.ref he, .int (nI la), .int (nI ke)])), (he, .inl (cA, 10752, .inl en)), (hn, .inl (cA, 34, .inl g_1)), (hs, .inl (cA, 4096, .inl g_7)), (hc, .inl (cA, 257, .inl g_3))] := hD
        refine lv_iinc (v := nI j - 1) (lv' := [(5, .int (nI j - 1)), (0, .ref h0), (1, .ref hn), (2, .ref hs), (3, .ref hc), (4, .int (nI (la * 42)))]) hx hb dX3_takeBack_91 hl (k := 5) rfl (sub1 _) (by decide) rfl (fun ls hl => ?_)
        refine lv_goto (tgt := 52) hx hb dX3_takeBack_94 (by decide) ?_
        exact ih j g_7 (by omega) hg_7 (by omega) _ _ (hP.sub [0, 1, 2, 3, 4] rfl) (hD.sub [0, 1, 2, 3, 4] (by decide) rfl) hS ls (lv_sub hl [1, 2, 3, 4, 5, 0] rfl)
  exact loop_52 5 k_4 st (by omega) hst (by omega) _ _ hP hD hS ls (lv_sub hl [2, 3, 4, 5, 1, 0] rfl)
set_option maxHeartbeats 4000000 in
set_option maxRecDepth 100000 in
theorem c_fill (l : Launch) (D : va_G) (cA cB : ClassId) (h0 : Nat) (nn : Nat) (v : Int32) (f : Nat → Int32) (hn : nn < 2 ^ 31) : CV l yJ7_fill_53178 cJ7_fill_53178 4 none 0 0 0 0 D cA cB [.ref h0, .int v] [(h0, .inl (cA, nn, .inl f))] (fun W1 => ∃ (g : Nat → Int32), (∀ j, j < nn → g j = v) ∧ W1 = [(h0, .inl (cA, nn, .inl g))]) := by
  refine mkV (lv0 := [(0, .ref h0), (1, .int v)]) (by decide) (Nat.le_of_ble_eq_true rfl) rfl ?_
  intro p e s m below meth c A ls X hr hlocks hnm hE hA hP hD hS hl
  have hx := X.1
  have hb := X.2.1
  refine lv_iconst (v := 0) hx hb dJ7_fill_53178_0 (by decide) ?_
  refine lv_istore_n (lv' := [(2, .int 0), (0, .ref h0), (1, .int v)]) hx hb dJ7_fill_53178_1 rfl hl (by decide) rfl (fun ls hl => ?_)
  refine lv_aload_n hx hb dJ7_fill_53178_2 rfl (lv_at hl 1 rfl) ?_
  refine k_len (v := nI nn) X hE hP 0 rfl rfl dJ7_fill_53178_3 ?_
  refine lv_istore_n (lv' := [(3, .int (nI nn)), (2, .int 0), (0, .ref h0), (1, .int v)]) hx hb dJ7_fill_53178_4 rfl hl (by decide) rfl (fun ls hl => ?_)
  have loop_5 : ∀ (n : Nat) (k : Nat) (g : Nat → Int32), (k ≤ nn) → (∀ j, j < k → g j = v) → nn < k + n → ∀ (H : Heap) (locs : List Loc), va_P D classes [(h0, .inl (cA, nn, .inl g))] H → va_D A [(h0, .inl (cA, nn, .inl g))] → va_S A s.heap H locs → ∀ ls : Array Slot, lv_has ls 4 [(0, .ref h0), (1, .int v), (2, .int (nI k)), (3, .int (nI nn))] → W p l e { frames := 0, cells := 0, slots := 0, locals := 0 } s m (List.toArray [.ref h0, .int v]) below meth c H locs 0 0 (MQ below (QV D (fun W1 => ∃ (g : Nat → Int32), (∀ j, j < nn → g j = v) ∧ W1 = [(h0, .inl (cA, nn, .inl g))]) A) (List.toArray [.ref h0, .int v]) s 0 0 A) (F0 m 5 ls []) := by
    intro n
    induction n with
    | zero => intro k g hk hg hfuel; exact absurd hfuel (by omega)
    | succ n ih =>
      intro k g hk hg hfuel H locs hP hD hS ls hl
      refine lv_iload_n hx hb dJ7_fill_53178_5 rfl (lv_at hl 2 rfl) ?_
      refine lv_iload_n hx hb dJ7_fill_53178_6 rfl (lv_at hl 3 rfl) ?_
      refine lv_icmp_ge (tgt := 20) hx hb dJ7_fill_53178_7 (by decide) (fun c_7 => ?_) (fun c_7 => ?_)
      · skip
        exact endV X hr hlocks hP hD hS dJ7_fill_53178_20 ⟨g, (fun j hj => hg j (by have := (nI_leI hn (by omega)).mp c_7; omega)), rfl⟩
      · skip
        have hlt : k < nn := by rcases Nat.lt_or_ge k nn with q | q; exact q; exact absurd (nI_le q (by omega)) c_7
        refine lv_aload_n hx hb dJ7_fill_53178_10 rfl (lv_at hl 0 rfl) ?_
        refine lv_iload_n hx hb dJ7_fill_53178_11 rfl (lv_at hl 2 rfl) ?_
        refine lv_iload_n hx hb dJ7_fill_53178_12 rfl (lv_at hl 1 rfl) ?_
        refine k_ast X hE hP hD hS 0 rfl k rfl hlt hn [(h0, .inl (cA, nn, .inl (upd g k v)))] rfl dJ7_fill_53178_13 (fun H locs hP hD hS => ?_)
        refine lv_iinc (v := nI (k + 1)) (lv' := [(2, .int (nI (k + 1))), (0, .ref h0), (1, .int v), (3, .int (nI nn))]) hx hb dJ7_fill_53178_14 hl (k := 2) rfl (nI_1 k) (by decide) rfl (fun ls hl => ?_)
        refine lv_goto (tgt := 5) hx hb dJ7_fill_53178_17 (by decide) ?_
        exact ih (k + 1) (upd g k v) (by omega) (fun j hj => by rcases Nat.lt_or_eq_of_le (Nat.le_of_lt_succ hj) with q | q; exact (pk_un (by omega)).trans (hg j q); exact (by subst q; exact pk_us)) (by omega) _ _ (hP.sub [0] rfl) (hD.sub [0] (by decide) rfl) hS ls (lv_sub hl [1, 2, 0, 3] rfl)
  exact loop_5 (nn + 1) 0 f (Nat.zero_le _) (fun j h => absurd h (by omega)) (by omega) _ _ hP hD hS ls (lv_sub hl [2, 3, 1, 0] rfl)
set_option maxHeartbeats 4000000 in
set_option maxRecDepth 100000 in
theorem c_s_beginAnew (l : Launch) (D : va_G) (cA cB : ClassId) (h0 : Nat) (hn : Nat) (hs : Nat) (hd : Nat) (hp : Nat) (hc : Nat) (he : Nat) (wy : Int32) (dn : Int32) (la : Nat) (ke : Nat) (f : Nat → Int32) (st : Nat → Int32) (en : Nat → Int32) (ct : Nat → Int32) (hla : la < 256) (hke : ke < 257) (hf : okN f) (hst : ∀ j, j < 4096 → ∃ k : Nat, k < 256 ∧ st j = nI k) (hen : okE en) : CV l yX4_beginAnew cX4_beginAnew 1 none 3 62 0 0 D cA cB [.ref h0] [(h0, .inr (4, [.ref hn, .ref hs, .ref hd, .ref hp, .ref hc, .int wy, .int dn])), (hp, .inr (3, [.ref he, .int (nI la), .int (nI ke)])), (hn, .inl (cA, 34, .inl f)), (hs, .inl (cA, 4096, .inl st)), (he, .inl (cA, 10752, .inl en)), (hc, .inl (cA, 257, .inl ct))] (fun W1 => ∃ (wy2 : Int32) (dn2 : Int32) (la2 : Nat) (ke2 : Nat) (f2 : Nat → Int32) (st2 : Nat → Int32) (en2 : Nat → Int32) (ct2 : Nat → Int32), (la2 < 256) ∧ (ke2 < 257) ∧ (okN f2) ∧ (∀ j, j < 4096 → ∃ k : Nat, k < 256 ∧ st2 j = nI k) ∧ (okE en2) ∧ W1 = [(h0, .inr (4, [.ref hn, .ref hs, .ref hd, .ref hp, .ref hc, .int wy2, .int dn2])), (hp, .inr (3, [.ref he, .int (nI la2), .int (nI ke2)])), (hn, .inl (cA, 34, .inl f2)), (hs, .inl (cA, 4096, .inl st2)), (he, .inl (cA, 10752, .inl en2)), (hc, .inl (cA, 257, .inl ct2))]) := by
  refine mkV (lv0 := [(0, .ref h0)]) (by decide) (Nat.le_of_ble_eq_true rfl) rfl ?_
  intro p e s m below meth c A ls X hr hlocks hnm hE hA hP hD hS hl
  have hx := X.1
  have hb := X.2.1
  refine lv_aload_n hx hb dX4_beginAnew_0 rfl (lv_at hl 0 rfl) ?_
  refine k_get (C := RX4) (T := TX4) (N := 7) (ci := 4) (v := .ref hn) X hE hP 0 rfl rfl iX4 0 (by decide) w_69 rfl dX4_beginAnew_1 ?_
  refine lv_iconst (v := 0) hx hb dX4_beginAnew_4 (by decide) ?_
  refine kSv (n3 := 2) (As := [.ref hn, .int 0]) (rest := []) X hl.1 hE hP hD hS hA [(hn, .inl (cA, 34, .inl f))] [(h0, .inr (4, [.ref hn, .ref hs, .ref hd, .ref hp, .ref hc, .int wy, .int dn])), (hp, .inr (3, [.ref he, .int (nI la), .int (nI ke)])), (hs, .inl (cA, 4096, .inl st)), (he, .inl (cA, 10752, .inl en)), (hc, .inl (cA, 257, .inl ct))] [2] [0, 1, 3, 4, 5] rfl rfl rfl (by decide +kernel) (by decide +kernel) (by decide +kernel) (c_fill l D cA cB hn 34 0 f (by first | assumption | decide | rfl | omega)) w_286 w_287 w_285 w_288 (by decide +kernel) rfl rfl (Nat.le_of_ble_eq_true rfl) ⟨(Nat.le_of_ble_eq_true rfl), (Nat.le_of_ble_eq_true rfl)⟩ ⟨(Nat.le_of_ble_eq_true rfl), (Nat.le_of_ble_eq_true rfl)⟩ dX4_beginAnew_5 (fun W1 H locs hw hP hD hS => ?_)
  obtain ⟨g_1, hf_2, rfl⟩ := hw
  have hP : va_P D classes [(h0, .inr (4, [.ref hn, .ref hs, .ref hd, .ref hp, .ref hc, .int wy, .int dn])), (hp, .inr (3, [.ref he, .int (nI la), .int (nI ke)])), (hs, .inl (cA, 4096, .inl st)), (he, .inl (cA, 10752, .inl en)), (hc, .inl (cA, 257, .inl ct)), (hn, .inl (cA, 34, .inl g_1))] H := hP
  have hD : va_D A [(h0, .inr (4, [.ref hn, .ref hs, .ref hd, .ref hp, .ref hc, .int wy, .int dn])), (hp, .inr (3, [.ref he, .int (nI la), .int (nI ke)])), (hs, .inl (cA, 4096, .inl st)), (he, .inl (cA, 10752, .inl en)), (hc, .inl (cA, 257, .inl ct)), (hn, .inl (cA, 34, .inl g_1))] := hD
  have hzg_1 := okN_zero hf_2
  refine lv_aload_n hx hb dX4_beginAnew_8 rfl (lv_at hl 0 rfl) ?_
  refine k_get (C := RX4) (T := TX4) (N := 7) (ci := 4) (v := .ref hn) X hE hP 0 rfl rfl iX4 0 (by decide) w_69 rfl dX4_beginAnew_9 ?_
  refine lv_bipush (v := 18) hx hb dX4_beginAnew_12 (by decide) ?_
  refine lv_iconst (v := 1) hx hb dX4_beginAnew_14 (by decide) ?_
  refine k_ast X hE hP hD hS 5 rfl 18 rfl (by decide) (by decide) [(h0, .inr (4, [.ref hn, .ref hs, .ref hd, .ref hp, .ref hc, .int wy, .int dn])), (hp, .inr (3, [.ref he, .int (nI la), .int (nI ke)])), (hs, .inl (cA, 4096, .inl st)), (he, .inl (cA, 10752, .inl en)), (hc, .inl (cA, 257, .inl ct)), (hn, .inl (cA, 34, .inl (upd g_1 18 1)))] rfl dX4_beginAnew_15 (fun H locs hP hD hS => ?_)
  obtain ⟨g_3, eg_3⟩ : ∃ z, z = upd g_1 18 1 := ⟨_, rfl⟩
  rw [← eg_3] at hP hD
  have hg_3 := okN_upd hzg_1 18 1 (inR_any rfl)
  rw [← eg_3] at hg_3
  have hP : va_P D classes [(h0, .inr (4, [.ref hn, .ref hs, .ref hd, .ref hp, .ref hc, .int wy, .int dn])), (hp, .inr (3, [.ref he, .int (nI la), .int (nI ke)])), (hs, .inl (cA, 4096, .inl st)), (he, .inl (cA, 10752, .inl en)), (hc, .inl (cA, 257, .inl ct)), (hn, .inl (cA, 34, .inl g_3))] H := hP
  have hD : va_D A [(h0, .inr (4, [.ref hn, .ref hs, .ref hd, .ref hp, .ref hc, .int wy, .int dn])), (hp, .inr (3, [.ref he, .int (nI la), .int (nI ke)])), (hs, .inl (cA, 4096, .inl st)), (he, .inl (cA, 10752, .inl en)), (hc, .inl (cA, 257, .inl ct)), (hn, .inl (cA, 34, .inl g_3))] := hD
  refine lv_aload_n hx hb dX4_beginAnew_16 rfl (lv_at hl 0 rfl) ?_
  refine kVv (n3 := 0) (As := []) (rest := []) X hl.1 hE hP hD hS hA [(h0, .inr (4, [.ref hn, .ref hs, .ref hd, .ref hp, .ref hc, .int wy, .int dn])), (hn, .inl (cA, 34, .inl g_3)), (hs, .inl (cA, 4096, .inl st))] [(hp, .inr (3, [.ref he, .int (nI la), .int (nI ke)])), (he, .inl (cA, 10752, .inl en)), (hc, .inl (cA, 257, .inl ct))] [0, 5, 2] [1, 3, 4] rfl rfl rfl (by decide +kernel) (by decide +kernel) (by decide +kernel) (c_s_start l D cA cB h0 hn hs hd hp hc wy dn g_3 st hg_3 hst) w_229 w_66 w_228 w_230 w_231 0 (ci := 4) (T := TX4) (N := 7) rfl rfl (by decide +kernel) rfl rfl (Nat.le_of_ble_eq_true rfl) ⟨(Nat.le_of_ble_eq_true rfl), (Nat.le_of_ble_eq_true rfl)⟩ ⟨(Nat.le_of_ble_eq_true rfl), (Nat.le_of_ble_eq_true rfl)⟩ dX4_beginAnew_17 (fun W1 H locs hw hP hD hS => ?_)
  obtain ⟨wy2_4, dn2_5, f2_6, st2_7, hf_8, hf_9, rfl⟩ := hw
  have hP : va_P D classes [(hp, .inr (3, [.ref he, .int (nI la), .int (nI ke)])), (he, .inl (cA, 10752, .inl en)), (hc, .inl (cA, 257, .inl ct)), (h0, .inr (4, [.ref hn, .ref hs, .ref hd, .ref hp, .ref hc, .int wy2_4, .int dn2_5])), (hn, .inl (cA, 34, .inl f2_6)), (hs, .inl (cA, 4096, .inl st2_7))] H := hP
  have hD : va_D A [(hp, .inr (3, [.ref he, .int (nI la), .int (nI ke)])), (he, .inl (cA, 10752, .inl en)), (hc, .inl (cA, 257, .inl ct)), (h0, .inr (4, [.ref hn, .ref hs, .ref hd, .ref hp, .ref hc, .int wy2_4, .int dn2_5])), (hn, .inl (cA, 34, .inl f2_6)), (hs, .inl (cA, 4096, .inl st2_7))] := hD
  refine lv_aload_n hx hb dX4_beginAnew_20 rfl (lv_at hl 0 rfl) ?_
  refine k_get (C := RX4) (T := TX4) (N := 7) (ci := 4) (v := .ref hc) X hE hP 3 rfl rfl iX4 4 (by decide) w_268 rfl dX4_beginAnew_21 ?_
  refine lv_iconst (v := 0) hx hb dX4_beginAnew_24 (by decide) ?_
  refine kSv (n3 := 2) (As := [.ref hc, .int 0]) (rest := []) X hl.1 hE hP hD hS hA [(hc, .inl (cA, 257, .inl ct))] [(hp, .inr (3, [.ref he, .int (nI la), .int (nI ke)])), (he, .inl (cA, 10752, .inl en)), (h0, .inr (4, [.ref hn, .ref hs, .ref hd, .ref hp, .ref hc, .int wy2_4, .int dn2_5])), (hn, .inl (cA, 34, .inl f2_6)), (hs, .inl (cA, 4096, .inl st2_7))] [2] [0, 1, 3, 4, 5] rfl rfl rfl (by decide +kernel) (by decide +kernel) (by decide +kernel) (c_fill l D cA cB hc 257 0 ct (by first | assumption | decide | rfl | omega)) w_286 w_287 w_285 w_288 (by decide +kernel) rfl rfl (Nat.le_of_ble_eq_true rfl) ⟨(Nat.le_of_ble_eq_true rfl), (Nat.le_of_ble_eq_true rfl)⟩ ⟨(Nat.le_of_ble_eq_true rfl), (Nat.le_of_ble_eq_true rfl)⟩ dX4_beginAnew_25 (fun W1 H locs hw hP hD hS => ?_)
  obtain ⟨g_10, hf_11, rfl⟩ := hw
  have hP : va_P D classes [(hp, .inr (3, [.ref he, .int (nI la), .int (nI ke)])), (he, .inl (cA, 10752, .inl en)), (h0, .inr (4, [.ref hn, .ref hs, .ref hd, .ref hp, .ref hc, .int wy2_4, .int dn2_5])), (hn, .inl (cA, 34, .inl f2_6)), (hs, .inl (cA, 4096, .inl st2_7)), (hc, .inl (cA, 257, .inl g_10))] H := hP
  have hD : va_D A [(hp, .inr (3, [.ref he, .int (nI la), .int (nI ke)])), (he, .inl (cA, 10752, .inl en)), (h0, .inr (4, [.ref hn, .ref hs, .ref hd, .ref hp, .ref hc, .int wy2_4, .int dn2_5])), (hn, .inl (cA, 34, .inl f2_6)), (hs, .inl (cA, 4096, .inl st2_7)), (hc, .inl (cA, 257, .inl g_10))] := hD
  refine lv_aload_n hx hb dX4_beginAnew_28 rfl (lv_at hl 0 rfl) ?_
  refine k_get (C := RX4) (T := TX4) (N := 7) (ci := 4) (v := .ref hp) X hE hP 2 rfl rfl iX4 3 (by decide) w_161 rfl dX4_beginAnew_29 ?_
  refine kVv (n3 := 0) (As := []) (rest := []) X hl.1 hE hP hD hS hA [(hp, .inr (3, [.ref he, .int (nI la), .int (nI ke)])), (he, .inl (cA, 10752, .inl en))] [(h0, .inr (4, [.ref hn, .ref hs, .ref hd, .ref hp, .ref hc, .int wy2_4, .int dn2_5])), (hn, .inl (cA, 34, .inl f2_6)), (hs, .inl (cA, 4096, .inl st2_7)), (hc, .inl (cA, 257, .inl g_10))] [0, 1] [2, 3, 4, 5] rfl rfl rfl (by decide +kernel) (by decide +kernel) (by decide +kernel) (c_s_forget l D cA cB hp he la ke en (by first | assumption | decide | rfl | omega) (by first | assumption | decide | rfl | omega) hen) w_290 w_164 w_289 w_291 w_292 0 (ci := 3) (T := TX3) (N := 3) rfl rfl (by decide +kernel) rfl rfl (Nat.le_of_ble_eq_true rfl) ⟨(Nat.le_of_ble_eq_true rfl), (Nat.le_of_ble_eq_true rfl)⟩ ⟨(Nat.le_of_ble_eq_true rfl), (Nat.le_of_ble_eq_true rfl)⟩ dX4_beginAnew_32 (fun W1 H locs hw hP hD hS => ?_)
  obtain ⟨la2_12, ke2_13, en2_14, hf_15, hf_16, hf_17, rfl⟩ := hw
  have hP : va_P D classes [(h0, .inr (4, [.ref hn, .ref hs, .ref hd, .ref hp, .ref hc, .int wy2_4, .int dn2_5])), (hn, .inl (cA, 34, .inl f2_6)), (hs, .inl (cA, 4096, .inl st2_7)), (hc, .inl (cA, 257, .inl g_10)), (hp, .inr (3, [.ref he, .int (nI la2_12), .int (nI ke2_13)])), (he, .inl (cA, 10752, .inl en2_14))] H := hP
  have hD : va_D A [(h0, .inr (4, [.ref hn, .ref hs, .ref hd, .ref hp, .ref hc, .int wy2_4, .int dn2_5])), (hn, .inl (cA, 34, .inl f2_6)), (hs, .inl (cA, 4096, .inl st2_7)), (hc, .inl (cA, 257, .inl g_10)), (hp, .inr (3, [.ref he, .int (nI la2_12), .int (nI ke2_13)])), (he, .inl (cA, 10752, .inl en2_14))] := hD
  have hP : va_P D classes [(h0, .inr (4, [.ref hn, .ref hs, .ref hd, .ref hp, .ref hc, .int wy2_4, .int dn2_5])), (hp, .inr (3, [.ref he, .int (nI la2_12), .int (nI ke2_13)])), (hn, .inl (cA, 34, .inl f2_6)), (hs, .inl (cA, 4096, .inl st2_7)), (he, .inl (cA, 10752, .inl en2_14)), (hc, .inl (cA, 257, .inl g_10))] _ := hP.sub [0, 4, 1, 2, 5, 3] rfl
  have hD : va_D A [(h0, .inr (4, [.ref hn, .ref hs, .ref hd, .ref hp, .ref hc, .int wy2_4, .int dn2_5])), (hp, .inr (3, [.ref he, .int (nI la2_12), .int (nI ke2_13)])), (hn, .inl (cA, 34, .inl f2_6)), (hs, .inl (cA, 4096, .inl st2_7)), (he, .inl (cA, 10752, .inl en2_14)), (hc, .inl (cA, 257, .inl g_10))] := hD.sub [0, 4, 1, 2, 5, 3] (by decide) rfl
  exact endV X hr hlocks hP hD hS dX4_beginAnew_35 ⟨wy2_4, dn2_5, la2_12, ke2_13, f2_6, st2_7, en2_14, g_10, (by omega), (by omega), hf_8, hf_9, hf_17, rfl⟩
