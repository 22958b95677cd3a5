abbrev cX9_feed : ByteArray := prog_11_method_45_code
def yX9_feed : MethodName := ⟨RX9, "feed", "(IIIII)I"⟩
theorem dX9_feed_0 : decode cX9_feed 0 = .ok (.aload_n 0, 1) := by decide +kernel
theorem dX9_feed_1 : decode cX9_feed 1 = .ok (.getfield 316, 3) := by decide +kernel
theorem dX9_feed_4 : decode cX9_feed 4 = .ok (.bipush 20, 2) := by decide +kernel
theorem dX9_feed_6 : decode cX9_feed 6 = .ok (.iadd, 1) := by decide +kernel
theorem dX9_feed_7 : decode cX9_feed 7 = .ok (.sipush 6000, 3) := by decide +kernel
theorem dX9_feed_10 : decode cX9_feed 10 = .ok (.if_icmp .le 5, 3) := by decide +kernel
theorem dX9_feed_15 : decode cX9_feed 15 = .ok (.iconst 0, 1) := by decide +kernel
theorem dX9_feed_16 : decode cX9_feed 16 = .ok (.istore 6, 2) := by decide +kernel
theorem dX9_feed_18 : decode cX9_feed 18 = .ok (.iload 6, 2) := by decide +kernel
theorem dX9_feed_20 : decode cX9_feed 20 = .ok (.bipush 20, 2) := by decide +kernel
theorem dX9_feed_22 : decode cX9_feed 22 = .ok (.if_icmp .ge 88, 3) := by decide +kernel
theorem dX9_feed_25 : decode cX9_feed 25 = .ok (.iload 6, 2) := by decide +kernel
theorem dX9_feed_27 : decode cX9_feed 27 = .ok (.iconst 2, 1) := by decide +kernel
theorem dX9_feed_28 : decode cX9_feed 28 = .ok (.ishr, 1) := by decide +kernel
theorem dX9_feed_29 : decode cX9_feed 29 = .ok (.istore 7, 2) := by decide +kernel
theorem dX9_feed_31 : decode cX9_feed 31 = .ok (.iload 7, 2) := by decide +kernel
theorem dX9_feed_33 : decode cX9_feed 33 = .ok (.ifCond .ne 7, 3) := by decide +kernel
theorem dX9_feed_36 : decode cX9_feed 36 = .ok (.iload_n 1, 1) := by decide +kernel
theorem dX9_feed_37 : decode cX9_feed 37 = .ok (.goto 36, 3) := by decide +kernel
theorem dX9_feed_73 : decode cX9_feed 73 = .ok (.istore 8, 2) := by decide +kernel
theorem dX9_feed_75 : decode cX9_feed 75 = .ok (.aload_n 0, 1) := by decide +kernel
theorem dX9_feed_76 : decode cX9_feed 76 = .ok (.getfield 45, 3) := by decide +kernel
theorem dX9_feed_79 : decode cX9_feed 79 = .ok (.aload_n 0, 1) := by decide +kernel
theorem dX9_feed_80 : decode cX9_feed 80 = .ok (.getfield 316, 3) := by decide +kernel
theorem dX9_feed_83 : decode cX9_feed 83 = .ok (.iload 6, 2) := by decide +kernel
theorem dX9_feed_85 : decode cX9_feed 85 = .ok (.iadd, 1) := by decide +kernel
theorem dX9_feed_86 : decode cX9_feed 86 = .ok (.iload 8, 2) := by decide +kernel
theorem dX9_feed_88 : decode cX9_feed 88 = .ok (.bipush 24, 2) := by decide +kernel
theorem dX9_feed_90 : decode cX9_feed 90 = .ok (.bipush 8, 2) := by decide +kernel
theorem dX9_feed_92 : decode cX9_feed 92 = .ok (.iload 6, 2) := by decide +kernel
theorem dX9_feed_94 : decode cX9_feed 94 = .ok (.iconst 3, 1) := by decide +kernel
theorem dX9_feed_95 : decode cX9_feed 95 = .ok (.iand, 1) := by decide +kernel
theorem dX9_feed_96 : decode cX9_feed 96 = .ok (.imul, 1) := by decide +kernel
theorem dX9_feed_97 : decode cX9_feed 97 = .ok (.isub, 1) := by decide +kernel
theorem dX9_feed_98 : decode cX9_feed 98 = .ok (.ishr, 1) := by decide +kernel
theorem dX9_feed_99 : decode cX9_feed 99 = .ok (.sipush 255, 3) := by decide +kernel
theorem dX9_feed_102 : decode cX9_feed 102 = .ok (.iand, 1) := by decide +kernel
theorem dX9_feed_103 : decode cX9_feed 103 = .ok (.iastore, 1) := by decide +kernel
theorem dX9_feed_104 : decode cX9_feed 104 = .ok (.iinc 6 1, 3) := by decide +kernel
theorem dX9_feed_107 : decode cX9_feed 107 = .ok (.goto (-89), 3) := by decide +kernel
theorem dX9_feed_40 : decode cX9_feed 40 = .ok (.iload 7, 2) := by decide +kernel
theorem dX9_feed_42 : decode cX9_feed 42 = .ok (.iconst 1, 1) := by decide +kernel
theorem dX9_feed_43 : decode cX9_feed 43 = .ok (.if_icmp .ne 7, 3) := by decide +kernel
theorem dX9_feed_46 : decode cX9_feed 46 = .ok (.iload_n 2, 1) := by decide +kernel
theorem dX9_feed_47 : decode cX9_feed 47 = .ok (.goto 26, 3) := by decide +kernel
theorem dX9_feed_50 : decode cX9_feed 50 = .ok (.iload 7, 2) := by decide +kernel
theorem dX9_feed_52 : decode cX9_feed 52 = .ok (.iconst 2, 1) := by decide +kernel
theorem dX9_feed_53 : decode cX9_feed 53 = .ok (.if_icmp .ne 7, 3) := by decide +kernel
theorem dX9_feed_56 : decode cX9_feed 56 = .ok (.iload_n 3, 1) := by decide +kernel
theorem dX9_feed_57 : decode cX9_feed 57 = .ok (.goto 16, 3) := by decide +kernel
theorem dX9_feed_60 : decode cX9_feed 60 = .ok (.iload 7, 2) := by decide +kernel
theorem dX9_feed_62 : decode cX9_feed 62 = .ok (.iconst 3, 1) := by decide +kernel
theorem dX9_feed_63 : decode cX9_feed 63 = .ok (.if_icmp .ne 8, 3) := by decide +kernel
theorem dX9_feed_66 : decode cX9_feed 66 = .ok (.iload 4, 2) := by decide +kernel
theorem dX9_feed_68 : decode cX9_feed 68 = .ok (.goto 5, 3) := by decide +kernel
theorem dX9_feed_71 : decode cX9_feed 71 = .ok (.iload 5, 2) := by decide +kernel
theorem dX9_feed_110 : decode cX9_feed 110 = .ok (.aload_n 0, 1) := by decide +kernel
theorem dX9_feed_111 : decode cX9_feed 111 = .ok (.dup, 1) := by decide +kernel
theorem dX9_feed_112 : decode cX9_feed 112 = .ok (.getfield 316, 3) := by decide +kernel
theorem dX9_feed_115 : decode cX9_feed 115 = .ok (.bipush 20, 2) := by decide +kernel
theorem dX9_feed_117 : decode cX9_feed 117 = .ok (.iadd, 1) := by decide +kernel
theorem dX9_feed_118 : decode cX9_feed 118 = .ok (.putfield 316, 3) := by decide +kernel
theorem dX9_feed_121 : decode cX9_feed 121 = .ok (.aload_n 0, 1) := by decide +kernel
theorem dX9_feed_122 : decode cX9_feed 122 = .ok (.getfield 316, 3) := by decide +kernel
theorem dX9_feed_125 : decode cX9_feed 125 = .ok (.ireturn, 1) := by decide +kernel
set_option maxHeartbeats 4000000 in
set_option maxRecDepth 100000 in
theorem c_m_feed (l : Launch) (D : va_G) (cA cB : ClassId) (h0 : Nat) (mwords : Nat) (mstore : Nat) (mkeys : Nat) (mrests : Nat) (mring : Nat) (mstrip : Nat) (mpins : Nat) (mstops : Nat) (mdone : Nat) (mkept : Nat) (mtape : Nat) (mnameValue : Nat) (mnamePlace : Nat) (mnameEquals : Nat) (mout : Nat) (mtellFrom : Nat) (mtellEnd : Nat) (mtellValue : Nat) (mtellEquals : Nat) (mlaid : Nat) (v1 : Int32) (v2 : Int32) (v3 : Int32) (v4 : Int32) (v5 : Int32)  : CI l yX9_feed cX9_feed 9 (some .int) 0 0 0 0 D cA cB [.ref h0, .int v1, .int v2, .int v3, .int v4, .int v5] [(h0, .inr (9, [.ref mwords, .ref mstore, .int 0, .int 0, .int 0, .int 255, .int 0, .int 0, .int 0, .int 1, .int 0, .int 0, .int 0, .int 0, .int 0, .int 0, .int 0, .int 0, .int 0, .int 0, .int 0, .int 0, .int 0, .int 0, .int 1, .int 0, .ref mkeys, .ref mrests, .int 0, .int 0, .int 0, .int 0, .int 0, .ref mring, .ref mstrip, .ref mpins, .ref mstops, .int 0, .int 0, .int 0, .ref mdone, .ref mkept, .int 0, .int 0, .int 0, .int 0, .ref mtape, .int 0, .int (-1), .int (-1), .ref mnameValue, .ref mnamePlace, .ref mnameEquals, .int 0, .ref mout, .int 0, .int 0, .int 0, .int 0, .int 0, .int 0, .int 0, .int 0, .int 0, .int 0, .int 0, .int 0, .int 0, .int 0, .int 0, .ref mtellFrom, .ref mtellEnd, .ref mtellValue, .ref mtellEquals, .ref mlaid, .int 0, .int 0, .int 0, .int 0])), (mtape, .inl (cA, 6020, .inl (fun _ => 0)))] (fun r W1 => r = 20) := by
  refine mkI (lv0 := [(0, .ref h0), (1, .int v1), (2, .int v2), (3, .int v3), (4, .int v4), (5, .int v5)]) (by decide) (Nat.le_of_ble_eq_true rfl) rfl ?_
  intro p e s m below meth c A ls X hr hlocks hnm hE hA hP hD hS hl
  have hx := X.1
  have hb := X.2.1
  refine lv_aload_n hx hb dX9_feed_0 rfl (lv_at hl 0 rfl) ?_
  refine k_get (C := RX9) (T := TX9) (N := 79) (ci := 9) (v := .int 0) X hE hP 0 rfl rfl iX9 47 (by decide) w_425 rfl dX9_feed_1 ?_
  refine lv_bipush (v := 20) hx hb dX9_feed_4 (by decide) ?_
  refine lv_iadd hx hb dX9_feed_6 ?_
  refine tk (y := 20) (by decide) ?_
  refine lv_sipush (v := 6000) hx hb dX9_feed_7 (by decide) ?_
  refine lv_icmp_le (tgt := 15) hx hb dX9_feed_10 (by decide) (fun c_10 => ?_) (fun c_10 => absurd (by decide) c_10)
  refine lv_iconst (v := 0) hx hb dX9_feed_15 (by decide) ?_
  refine lv_istore (lv' := [(6, .int 0), (0, .ref h0), (1, .int v1), (2, .int v2), (3, .int v3), (4, .int v4), (5, .int v5)]) hx hb dX9_feed_16 hl (by decide) rfl (fun ls hl => ?_)
  refine lv_iload hx hb dX9_feed_18 (lv_at hl 0 rfl) ?_
  refine lv_bipush (v := 20) hx hb dX9_feed_20 (by decide) ?_
  refine lv_icmp_ge (tgt := 110) hx hb dX9_feed_22 (by decide) (fun c_22 => absurd c_22 (by decide)) (fun c_22 => ?_)
  refine lv_iload hx hb dX9_feed_25 (lv_at hl 0 rfl) ?_
  refine lv_iconst (v := 2) hx hb dX9_feed_27 (by decide) ?_
  refine lv_ishr hx hb dX9_feed_28 ?_
  refine tk (y := 0) (by decide) ?_
  refine lv_istore (lv' := [(7, .int 0), (6, .int 0), (0, .ref h0), (1, .int v1), (2, .int v2), (3, .int v3), (4, .int v4), (5, .int v5)]) hx hb dX9_feed_29 hl (by decide) rfl (fun ls hl => ?_)
  refine lv_iload hx hb dX9_feed_31 (lv_at hl 0 rfl) ?_
  refine lv_if_ne (tgt := 40) hx hb dX9_feed_33 (by decide) (fun c_33 => absurd (by decide) c_33) (fun c_33 => ?_)
  refine lv_iload_n hx hb dX9_feed_36 rfl (lv_at hl 3 rfl) ?_
  refine lv_goto (tgt := 73) hx hb dX9_feed_37 (by decide) ?_
  refine lv_istore (lv' := [(8, .int v1), (7, .int 0), (6, .int 0), (0, .ref h0), (1, .int v1), (2, .int v2), (3, .int v3), (4, .int v4), (5, .int v5)]) hx hb dX9_feed_73 hl (by decide) rfl (fun ls hl => ?_)
  refine lv_aload_n hx hb dX9_feed_75 rfl (lv_at hl 3 rfl) ?_
  refine k_get (C := RX9) (T := TX9) (N := 79) (ci := 9) (v := .ref mtape) X hE hP 0 rfl rfl iX9 46 (by decide) w_364 rfl dX9_feed_76 ?_
  refine lv_aload_n hx hb dX9_feed_79 rfl (lv_at hl 3 rfl) ?_
  refine k_get (C := RX9) (T := TX9) (N := 79) (ci := 9) (v := .int 0) X hE hP 0 rfl rfl iX9 47 (by decide) w_425 rfl dX9_feed_80 ?_
  refine lv_iload hx hb dX9_feed_83 (lv_at hl 2 rfl) ?_
  refine lv_iadd hx hb dX9_feed_85 ?_
  refine tk (y := 0) (by decide) ?_
  refine lv_iload hx hb dX9_feed_86 (lv_at hl 0 rfl) ?_
  refine lv_bipush (v := 24) hx hb dX9_feed_88 (by decide) ?_
  refine lv_bipush (v := 8) hx hb dX9_feed_90 (by decide) ?_
  refine lv_iload hx hb dX9_feed_92 (lv_at hl 2 rfl) ?_
  refine lv_iconst (v := 3) hx hb dX9_feed_94 (by decide) ?_
  refine lv_iand hx hb dX9_feed_95 ?_
  refine tk (y := 0) (by decide) ?_
  refine lv_imul hx hb dX9_feed_96 ?_
  refine tk (y := 0) (by decide) ?_
  refine lv_isub hx hb dX9_feed_97 ?_
  refine tk (y := 24) (by decide) ?_
  refine lv_ishr hx hb dX9_feed_98 ?_
  refine lv_sipush (v := 255) hx hb dX9_feed_99 (by decide) ?_
  refine lv_iand hx hb dX9_feed_102 ?_
  refine k_ast X hE hP hD hS 1 rfl 0 rfl (by decide) (by decide) [(h0, .inr (9, [.ref mwords, .ref mstore, .int 0, .int 0, .int 0, .int 255, .int 0, .int 0, .int 0, .int 1, .int 0, .int 0, .int 0, .int 0, .int 0, .int 0, .int 0, .int 0, .int 0, .int 0, .int 0, .int 0, .int 0, .int 0, .int 1, .int 0, .ref mkeys, .ref mrests, .int 0, .int 0, .int 0, .int 0, .int 0, .ref mring, .ref mstrip, .ref mpins, .ref mstops, .int 0, .int 0, .int 0, .ref mdone, .ref mkept, .int 0, .int 0, .int 0, .int 0, .ref mtape, .int 0, .int (-1), .int (-1), .ref mnameValue, .ref mnamePlace, .ref mnameEquals, .int 0, .ref mout, .int 0, .int 0, .int 0, .int 0, .int 0, .int 0, .int 0, .int 0, .int 0, .int 0, .int 0, .int 0, .int 0, .int 0, .int 0, .ref mtellFrom, .ref mtellEnd, .ref mtellValue, .ref mtellEquals, .ref mlaid, .int 0, .int 0, .int 0, .int 0])), (mtape, .inl (cA, 6020, .inl (upd (fun _ => 0) 0 ((v1 >>> (24 &&& 31)) &&& 255))))] rfl dX9_feed_103 (fun H locs hP hD hS => ?_)
  refine lv_iinc (v := 1) (lv' := [(6, .int 1), (8, .int v1), (7, .int 0), (0, .ref h0), (1, .int v1), (2, .int v2), (3, .int v3), (4, .int v4), (5, .int v5)]) hx hb dX9_feed_104 hl (k := 2) rfl (by decide) (by decide) rfl (fun ls hl => ?_)
  refine lv_goto (tgt := 18) hx hb dX9_feed_107 (by decide) ?_
  refine lv_iload hx hb dX9_feed_18 (lv_at hl 0 rfl) ?_
  refine lv_bipush (v := 20) hx hb dX9_feed_20 (by decide) ?_
  refine lv_icmp_ge (tgt := 110) hx hb dX9_feed_22 (by decide) (fun c_22_1 => absurd c_22_1 (by decide)) (fun c_22_1 => ?_)
  refine lv_iload hx hb dX9_feed_25 (lv_at hl 0 rfl) ?_
  refine lv_iconst (v := 2) hx hb dX9_feed_27 (by decide) ?_
  refine lv_ishr hx hb dX9_feed_28 ?_
  refine tk (y := 0) (by decide) ?_
  refine lv_istore (lv' := [(7, .int 0), (6, .int 1), (8, .int v1), (0, .ref h0), (1, .int v1), (2, .int v2), (3, .int v3), (4, .int v4), (5, .int v5)]) hx hb dX9_feed_29 hl (by decide) rfl (fun ls hl => ?_)
  refine lv_iload hx hb dX9_feed_31 (lv_at hl 0 rfl) ?_
  refine lv_if_ne (tgt := 40) hx hb dX9_feed_33 (by decide) (fun c_33_2 => absurd (by decide) c_33_2) (fun c_33_2 => ?_)
  refine lv_iload_n hx hb dX9_feed_36 rfl (lv_at hl 4 rfl) ?_
  refine lv_goto (tgt := 73) hx hb dX9_feed_37 (by decide) ?_
  refine lv_istore (lv' := [(8, .int v1), (7, .int 0), (6, .int 1), (0, .ref h0), (1, .int v1), (2, .int v2), (3, .int v3), (4, .int v4), (5, .int v5)]) hx hb dX9_feed_73 hl (by decide) rfl (fun ls hl => ?_)
  refine lv_aload_n hx hb dX9_feed_75 rfl (lv_at hl 3 rfl) ?_
  refine k_get (C := RX9) (T := TX9) (N := 79) (ci := 9) (v := .ref mtape) X hE hP 0 rfl rfl iX9 46 (by decide) w_364 rfl dX9_feed_76 ?_
  refine lv_aload_n hx hb dX9_feed_79 rfl (lv_at hl 3 rfl) ?_
  refine k_get (C := RX9) (T := TX9) (N := 79) (ci := 9) (v := .int 0) X hE hP 0 rfl rfl iX9 47 (by decide) w_425 rfl dX9_feed_80 ?_
  refine lv_iload hx hb dX9_feed_83 (lv_at hl 2 rfl) ?_
  refine lv_iadd hx hb dX9_feed_85 ?_
  refine tk (y := 1) (by decide) ?_
  refine lv_iload hx hb dX9_feed_86 (lv_at hl 0 rfl) ?_
  refine lv_bipush (v := 24) hx hb dX9_feed_88 (by decide) ?_
  refine lv_bipush (v := 8) hx hb dX9_feed_90 (by decide) ?_
  refine lv_iload hx hb dX9_feed_92 (lv_at hl 2 rfl) ?_
  refine lv_iconst (v := 3) hx hb dX9_feed_94 (by decide) ?_
  refine lv_iand hx hb dX9_feed_95 ?_
  refine tk (y := 1) (by decide) ?_
  refine lv_imul hx hb dX9_feed_96 ?_
  refine tk (y := 8) (by decide) ?_
  refine lv_isub hx hb dX9_feed_97 ?_
  refine tk (y := 16) (by decide) ?_
  refine lv_ishr hx hb dX9_feed_98 ?_
  refine lv_sipush (v := 255) hx hb dX9_feed_99 (by decide) ?_
  refine lv_iand hx hb dX9_feed_102 ?_
  refine k_ast X hE hP hD hS 1 rfl 1 rfl (by decide) (by decide) [(h0, .inr (9, [.ref mwords, .ref mstore, .int 0, .int 0, .int 0, .int 255, .int 0, .int 0, .int 0, .int 1, .int 0, .int 0, .int 0, .int 0, .int 0, .int 0, .int 0, .int 0, .int 0, .int 0, .int 0, .int 0, .int 0, .int 0, .int 1, .int 0, .ref mkeys, .ref mrests, .int 0, .int 0, .int 0, .int 0, .int 0, .ref mring, .ref mstrip, .ref mpins, .ref mstops, .int 0, .int 0, .int 0, .ref mdone, .ref mkept, .int 0, .int 0, .int 0, .int 0, .ref mtape, .int 0, .int (-1), .int (-1), .ref mnameValue, .ref mnamePlace, .ref mnameEquals, .int 0, .ref mout, .int 0, .int 0, .int 0, .int 0, .int 0, .int 0, .int 0, .int 0, .int 0, .int 0, .int 0, .int 0, .int 0, .int 0, .int 0, .ref mtellFrom, .ref mtellEnd, .ref mtellValue, .ref mtellEquals, .ref mlaid, .int 0, .int 0, .int 0, .int 0])), (mtape, .inl (cA, 6020, .inl (upd (upd (fun _ => 0) 0 ((v1 >>> (24 &&& 31)) &&& 255)) 1 ((v1 >>> (16 &&& 31)) &&& 255))))] rfl dX9_feed_103 (fun H locs hP hD hS => ?_)
  refine lv_iinc (v := 2) (lv' := [(6, .int 2), (8, .int v1), (7, .int 0), (0, .ref h0), (1, .int v1), (2, .int v2), (3, .int v3), (4, .int v4), (5, .int v5)]) hx hb dX9_feed_104 hl (k := 2) rfl (by decide) (by decide) rfl (fun ls hl => ?_)
  refine lv_goto (tgt := 18) hx hb dX9_feed_107 (by decide) ?_
  refine lv_iload hx hb dX9_feed_18 (lv_at hl 0 rfl) ?_
  refine lv_bipush (v := 20) hx hb dX9_feed_20 (by decide) ?_
  refine lv_icmp_ge (tgt := 110) hx hb dX9_feed_22 (by decide) (fun c_22_3 => absurd c_22_3 (by decide)) (fun c_22_3 => ?_)
  refine lv_iload hx hb dX9_feed_25 (lv_at hl 0 rfl) ?_
  refine lv_iconst (v := 2) hx hb dX9_feed_27 (by decide) ?_
  refine lv_ishr hx hb dX9_feed_28 ?_
  refine tk (y := 0) (by decide) ?_
  refine lv_istore (lv' := [(7, .int 0), (6, .int 2), (8, .int v1), (0, .ref h0), (1, .int v1), (2, .int v2), (3, .int v3), (4, .int v4), (5, .int v5)]) hx hb dX9_feed_29 hl (by decide) rfl (fun ls hl => ?_)
  refine lv_iload hx hb dX9_feed_31 (lv_at hl 0 rfl) ?_
  refine lv_if_ne (tgt := 40) hx hb dX9_feed_33 (by decide) (fun c_33_4 => absurd (by decide) c_33_4) (fun c_33_4 => ?_)
  refine lv_iload_n hx hb dX9_feed_36 rfl (lv_at hl 4 rfl) ?_
  refine lv_goto (tgt := 73) hx hb dX9_feed_37 (by decide) ?_
  refine lv_istore (lv' := [(8, .int v1), (7, .int 0), (6, .int 2), (0, .ref h0), (1, .int v1), (2, .int v2), (3, .int v3), (4, .int v4), (5, .int v5)]) hx hb dX9_feed_73 hl (by decide) rfl (fun ls hl => ?_)
  refine lv_aload_n hx hb dX9_feed_75 rfl (lv_at hl 3 rfl) ?_
  refine k_get (C := RX9) (T := TX9) (N := 79) (ci := 9) (v := .ref mtape) X hE hP 0 rfl rfl iX9 46 (by decide) w_364 rfl dX9_feed_76 ?_
  refine lv_aload_n hx hb dX9_feed_79 rfl (lv_at hl 3 rfl) ?_
  refine k_get (C := RX9) (T := TX9) (N := 79) (ci := 9) (v := .int 0) X hE hP 0 rfl rfl iX9 47 (by decide) w_425 rfl dX9_feed_80 ?_
  refine lv_iload hx hb dX9_feed_83 (lv_at hl 2 rfl) ?_
  refine lv_iadd hx hb dX9_feed_85 ?_
  refine tk (y := 2) (by decide) ?_
  refine lv_iload hx hb dX9_feed_86 (lv_at hl 0 rfl) ?_
  refine lv_bipush (v := 24) hx hb dX9_feed_88 (by decide) ?_
  refine lv_bipush (v := 8) hx hb dX9_feed_90 (by decide) ?_
  refine lv_iload hx hb dX9_feed_92 (lv_at hl 2 rfl) ?_
  refine lv_iconst (v := 3) hx hb dX9_feed_94 (by decide) ?_
  refine lv_iand hx hb dX9_feed_95 ?_
  refine tk (y := 2) (by decide) ?_
  refine lv_imul hx hb dX9_feed_96 ?_
  refine tk (y := 16) (by decide) ?_
  refine lv_isub hx hb dX9_feed_97 ?_
  refine tk (y := 8) (by decide) ?_
  refine lv_ishr hx hb dX9_feed_98 ?_
  refine lv_sipush (v := 255) hx hb dX9_feed_99 (by decide) ?_
  refine lv_iand hx hb dX9_feed_102 ?_
  refine k_ast X hE hP hD hS 1 rfl 2 rfl (by decide) (by decide) [(h0, .inr (9, [.ref mwords, .ref mstore, .int 0, .int 0, .int 0, .int 255, .int 0, .int 0, .int 0, .int 1, .int 0, .int 0, .int 0, .int 0, .int 0, .int 0, .int 0, .int 0, .int 0, .int 0, .int 0, .int 0, .int 0, .int 0, .int 1, .int 0, .ref mkeys, .ref mrests, .int 0, .int 0, .int 0, .int 0, .int 0, .ref mring, .ref mstrip, .ref mpins, .ref mstops, .int 0, .int 0, .int 0, .ref mdone, .ref mkept, .int 0, .int 0, .int 0, .int 0, .ref mtape, .int 0, .int (-1), .int (-1), .ref mnameValue, .ref mnamePlace, .ref mnameEquals, .int 0, .ref mout, .int 0, .int 0, .int 0, .int 0, .int 0, .int 0, .int 0, .int 0, .int 0, .int 0, .int 0, .int 0, .int 0, .int 0, .int 0, .ref mtellFrom, .ref mtellEnd, .ref mtellValue, .ref mtellEquals, .ref mlaid, .int 0, .int 0, .int 0, .int 0])), (mtape, .inl (cA, 6020, .inl (upd (upd (upd (fun _ => 0) 0 ((v1 >>> (24 &&& 31)) &&& 255)) 1 ((v1 >>> (16 &&& 31)) &&& 255)) 2 ((v1 >>> (8 &&& 31)) &&& 255))))] rfl dX9_feed_103 (fun H locs hP hD hS => ?_)
  refine lv_iinc (v := 3) (lv' := [(6, .int 3), (8, .int v1), (7, .int 0), (0, .ref h0), (1, .int v1), (2, .int v2), (3, .int v3), (4, .int v4), (5, .int v5)]) hx hb dX9_feed_104 hl (k := 2) rfl (by decide) (by decide) rfl (fun ls hl => ?_)
  refine lv_goto (tgt := 18) hx hb dX9_feed_107 (by decide) ?_
  refine lv_iload hx hb dX9_feed_18 (lv_at hl 0 rfl) ?_
  refine lv_bipush (v := 20) hx hb dX9_feed_20 (by decide) ?_
  refine lv_icmp_ge (tgt := 110) hx hb dX9_feed_22 (by decide) (fun c_22_5 => absurd c_22_5 (by decide)) (fun c_22_5 => ?_)
  refine lv_iload hx hb dX9_feed_25 (lv_at hl 0 rfl) ?_
  refine lv_iconst (v := 2) hx hb dX9_feed_27 (by decide) ?_
  refine lv_ishr hx hb dX9_feed_28 ?_
  refine tk (y := 0) (by decide) ?_
  refine lv_istore (lv' := [(7, .int 0), (6, .int 3), (8, .int v1), (0, .ref h0), (1, .int v1), (2, .int v2), (3, .int v3), (4, .int v4), (5, .int v5)]) hx hb dX9_feed_29 hl (by decide) rfl (fun ls hl => ?_)
  refine lv_iload hx hb dX9_feed_31 (lv_at hl 0 rfl) ?_
  refine lv_if_ne (tgt := 40) hx hb dX9_feed_33 (by decide) (fun c_33_6 => absurd (by decide) c_33_6) (fun c_33_6 => ?_)
  refine lv_iload_n hx hb dX9_feed_36 rfl (lv_at hl 4 rfl) ?_
  refine lv_goto (tgt := 73) hx hb dX9_feed_37 (by decide) ?_
  refine lv_istore (lv' := [(8, .int v1), (7, .int 0), (6, .int 3), (0, .ref h0), (1, .int v1), (2, .int v2), (3, .int v3), (4, .int v4), (5, .int v5)]) hx hb dX9_feed_73 hl (by decide) rfl (fun ls hl => ?_)
  refine lv_aload_n hx hb dX9_feed_75 rfl (lv_at hl 3 rfl) ?_
  refine k_get (C := RX9) (T := TX9) (N := 79) (ci := 9) (v := .ref mtape) X hE hP 0 rfl rfl iX9 46 (by decide) w_364 rfl dX9_feed_76 ?_
  refine lv_aload_n hx hb dX9_feed_79 rfl (lv_at hl 3 rfl) ?_
  refine k_get (C := RX9) (T := TX9) (N := 79) (ci := 9) (v := .int 0) X hE hP 0 rfl rfl iX9 47 (by decide) w_425 rfl dX9_feed_80 ?_
  refine lv_iload hx hb dX9_feed_83 (lv_at hl 2 rfl) ?_
  refine lv_iadd hx hb dX9_feed_85 ?_
  refine tk (y := 3) (by decide) ?_
  refine lv_iload hx hb dX9_feed_86 (lv_at hl 0 rfl) ?_
  refine lv_bipush (v := 24) hx hb dX9_feed_88 (by decide) ?_
  refine lv_bipush (v := 8) hx hb dX9_feed_90 (by decide) ?_
  refine lv_iload hx hb dX9_feed_92 (lv_at hl 2 rfl) ?_
  refine lv_iconst (v := 3) hx hb dX9_feed_94 (by decide) ?_
  refine lv_iand hx hb dX9_feed_95 ?_
  refine tk (y := 3) (by decide) ?_
  refine lv_imul hx hb dX9_feed_96 ?_
  refine tk (y := 24) (by decide) ?_
  refine lv_isub hx hb dX9_feed_97 ?_
  refine tk (y := 0) (by decide) ?_
  refine lv_ishr hx hb dX9_feed_98 ?_
  refine lv_sipush (v := 255) hx hb dX9_feed_99 (by decide) ?_
  refine lv_iand hx hb dX9_feed_102 ?_
  refine k_ast X hE hP hD hS 1 rfl 3 rfl (by decide) (by decide) [(h0, .inr (9, [.ref mwords, .ref mstore, .int 0, .int 0, .int 0, .int 255, .int 0, .int 0, .int 0, .int 1, .int 0, .int 0, .int 0, .int 0, .int 0, .int 0, .int 0, .int 0, .int 0, .int 0, .int 0, .int 0, .int 0, .int 0, .int 1, .int 0, .ref mkeys, .ref mrests, .int 0, .int 0, .int 0, .int 0, .int 0, .ref mring, .ref mstrip, .ref mpins, .ref mstops, .int 0, .int 0, .int 0, .ref mdone, .ref mkept, .int 0, .int 0, .int 0, .int 0, .ref mtape, .int 0, .int (-1), .int (-1), .ref mnameValue, .ref mnamePlace, .ref mnameEquals, .int 0, .ref mout, .int 0, .int 0, .int 0, .int 0, .int 0, .int 0, .int 0, .int 0, .int 0, .int 0, .int 0, .int 0, .int 0, .int 0, .int 0, .ref mtellFrom, .ref mtellEnd, .ref mtellValue, .ref mtellEquals, .ref mlaid, .int 0, .int 0, .int 0, .int 0])), (mtape, .inl (cA, 6020, .inl (upd (upd (upd (upd (fun _ => 0) 0 ((v1 >>> (24 &&& 31)) &&& 255)) 1 ((v1 >>> (16 &&& 31)) &&& 255)) 2 ((v1 >>> (8 &&& 31)) &&& 255)) 3 ((v1 >>> (0 &&& 31)) &&& 255))))] rfl dX9_feed_103 (fun H locs hP hD hS => ?_)
  refine lv_iinc (v := 4) (lv' := [(6, .int 4), (8, .int v1), (7, .int 0), (0, .ref h0), (1, .int v1), (2, .int v2), (3, .int v3), (4, .int v4), (5, .int v5)]) hx hb dX9_feed_104 hl (k := 2) rfl (by decide) (by decide) rfl (fun ls hl => ?_)
  refine lv_goto (tgt := 18) hx hb dX9_feed_107 (by decide) ?_
  refine lv_iload hx hb dX9_feed_18 (lv_at hl 0 rfl) ?_
  refine lv_bipush (v := 20) hx hb dX9_feed_20 (by decide) ?_
  refine lv_icmp_ge (tgt := 110) hx hb dX9_feed_22 (by decide) (fun c_22_7 => absurd c_22_7 (by decide)) (fun c_22_7 => ?_)
  refine lv_iload hx hb dX9_feed_25 (lv_at hl 0 rfl) ?_
  refine lv_iconst (v := 2) hx hb dX9_feed_27 (by decide) ?_
  refine lv_ishr hx hb dX9_feed_28 ?_
  refine tk (y := 1) (by decide) ?_
  refine lv_istore (lv' := [(7, .int 1), (6, .int 4), (8, .int v1), (0, .ref h0), (1, .int v1), (2, .int v2), (3, .int v3), (4, .int v4), (5, .int v5)]) hx hb dX9_feed_29 hl (by decide) rfl (fun ls hl => ?_)
  refine lv_iload hx hb dX9_feed_31 (lv_at hl 0 rfl) ?_
  refine lv_if_ne (tgt := 40) hx hb dX9_feed_33 (by decide) (fun c_33_8 => ?_) (fun c_33_8 => absurd c_33_8 (by decide))
  refine lv_iload hx hb dX9_feed_40 (lv_at hl 0 rfl) ?_
  refine lv_iconst (v := 1) hx hb dX9_feed_42 (by decide) ?_
  refine lv_icmp_ne (tgt := 50) hx hb dX9_feed_43 (by decide) (fun c_43 => absurd (by decide) c_43) (fun c_43 => ?_)
  refine lv_iload_n hx hb dX9_feed_46 rfl (lv_at hl 5 rfl) ?_
  refine lv_goto (tgt := 73) hx hb dX9_feed_47 (by decide) ?_
  refine lv_istore (lv' := [(8, .int v2), (7, .int 1), (6, .int 4), (0, .ref h0), (1, .int v1), (2, .int v2), (3, .int v3), (4, .int v4), (5, .int v5)]) hx hb dX9_feed_73 hl (by decide) rfl (fun ls hl => ?_)
  refine lv_aload_n hx hb dX9_feed_75 rfl (lv_at hl 3 rfl) ?_
  refine k_get (C := RX9) (T := TX9) (N := 79) (ci := 9) (v := .ref mtape) X hE hP 0 rfl rfl iX9 46 (by decide) w_364 rfl dX9_feed_76 ?_
  refine lv_aload_n hx hb dX9_feed_79 rfl (lv_at hl 3 rfl) ?_
  refine k_get (C := RX9) (T := TX9) (N := 79) (ci := 9) (v := .int 0) X hE hP 0 rfl rfl iX9 47 (by decide) w_425 rfl dX9_feed_80 ?_
  refine lv_iload hx hb dX9_feed_83 (lv_at hl 2 rfl) ?_
  refine lv_iadd hx hb dX9_feed_85 ?_
  refine tk (y := 4) (by decide) ?_
  refine lv_iload hx hb dX9_feed_86 (lv_at hl 0 rfl) ?_
  refine lv_bipush (v := 24) hx hb dX9_feed_88 (by decide) ?_
  refine lv_bipush (v := 8) hx hb dX9_feed_90 (by decide) ?_
  refine lv_iload hx hb dX9_feed_92 (lv_at hl 2 rfl) ?_
  refine lv_iconst (v := 3) hx hb dX9_feed_94 (by decide) ?_
  refine lv_iand hx hb dX9_feed_95 ?_
  refine tk (y := 0) (by decide) ?_
  refine lv_imul hx hb dX9_feed_96 ?_
  refine tk (y := 0) (by decide) ?_
  refine lv_isub hx hb dX9_feed_97 ?_
  refine tk (y := 24) (by decide) ?_
  refine lv_ishr hx hb dX9_feed_98 ?_
  refine lv_sipush (v := 255) hx hb dX9_feed_99 (by decide) ?_
  refine lv_iand hx hb dX9_feed_102 ?_
  refine k_ast X hE hP hD hS 1 rfl 4 rfl (by decide) (by decide) [(h0, .inr (9, [.ref mwords, .ref mstore, .int 0, .int 0, .int 0, .int 255, .int 0, .int 0, .int 0, .int 1, .int 0, .int 0, .int 0, .int 0, .int 0, .int 0, .int 0, .int 0, .int 0, .int 0, .int 0, .int 0, .int 0, .int 0, .int 1, .int 0, .ref mkeys, .ref mrests, .int 0, .int 0, .int 0, .int 0, .int 0, .ref mring, .ref mstrip, .ref mpins, .ref mstops, .int 0, .int 0, .int 0, .ref mdone, .ref mkept, .int 0, .int 0, .int 0, .int 0, .ref mtape, .int 0, .int (-1), .int (-1), .ref mnameValue, .ref mnamePlace, .ref mnameEquals, .int 0, .ref mout, .int 0, .int 0, .int 0, .int 0, .int 0, .int 0, .int 0, .int 0, .int 0, .int 0, .int 0, .int 0, .int 0, .int 0, .int 0, .ref mtellFrom, .ref mtellEnd, .ref mtellValue, .ref mtellEquals, .ref mlaid, .int 0, .int 0, .int 0, .int 0])), (mtape, .inl (cA, 6020, .inl (upd (upd (upd (upd (upd (fun _ => 0) 0 ((v1 >>> (24 &&& 31)) &&& 255)) 1 ((v1 >>> (16 &&& 31)) &&& 255)) 2 ((v1 >>> (8 &&& 31)) &&& 255)) 3 ((v1 >>> (0 &&& 31)) &&& 255)) 4 ((v2 >>> (24 &&& 31)) &&& 255))))] rfl dX9_feed_103 (fun H locs hP hD hS => ?_)
  refine lv_iinc (v := 5) (lv' := [(6, .int 5), (8, .int v2), (7, .int 1), (0, .ref h0), (1, .int v1), (2, .int v2), (3, .int v3), (4, .int v4), (5, .int v5)]) hx hb dX9_feed_104 hl (k := 2) rfl (by decide) (by decide) rfl (fun ls hl => ?_)
  refine lv_goto (tgt := 18) hx hb dX9_feed_107 (by decide) ?_
  refine lv_iload hx hb dX9_feed_18 (lv_at hl 0 rfl) ?_
  refine lv_bipush (v := 20) hx hb dX9_feed_20 (by decide) ?_
  refine lv_icmp_ge (tgt := 110) hx hb dX9_feed_22 (by decide) (fun c_22_9 => absurd c_22_9 (by decide)) (fun c_22_9 => ?_)
  refine lv_iload hx hb dX9_feed_25 (lv_at hl 0 rfl) ?_
  refine lv_iconst (v := 2) hx hb dX9_feed_27 (by decide) ?_
  refine lv_ishr hx hb dX9_feed_28 ?_
  refine tk (y := 1) (by decide) ?_
  refine lv_istore (lv' := [(7, .int 1), (6, .int 5), (8, .int v2), (0, .ref h0), (1, .int v1), (2, .int v2), (3, .int v3), (4, .int v4), (5, .int v5)]) hx hb dX9_feed_29 hl (by decide) rfl (fun ls hl => ?_)
  refine lv_iload hx hb dX9_feed_31 (lv_at hl 0 rfl) ?_
  refine lv_if_ne (tgt := 40) hx hb dX9_feed_33 (by decide) (fun c_33_10 => ?_) (fun c_33_10 => absurd c_33_10 (by decide))
  refine lv_iload hx hb dX9_feed_40 (lv_at hl 0 rfl) ?_
  refine lv_iconst (v := 1) hx hb dX9_feed_42 (by decide) ?_
  refine lv_icmp_ne (tgt := 50) hx hb dX9_feed_43 (by decide) (fun c_43_11 => absurd (by decide) c_43_11) (fun c_43_11 => ?_)
  refine lv_iload_n hx hb dX9_feed_46 rfl (lv_at hl 5 rfl) ?_
  refine lv_goto (tgt := 73) hx hb dX9_feed_47 (by decide) ?_
  refine lv_istore (lv' := [(8, .int v2), (7, .int 1), (6, .int 5), (0, .ref h0), (1, .int v1), (2, .int v2), (3, .int v3), (4, .int v4), (5, .int v5)]) hx hb dX9_feed_73 hl (by decide) rfl (fun ls hl => ?_)
  refine lv_aload_n hx hb dX9_feed_75 rfl (lv_at hl 3 rfl) ?_
  refine k_get (C := RX9) (T := TX9) (N := 79) (ci := 9) (v := .ref mtape) X hE hP 0 rfl rfl iX9 46 (by decide) w_364 rfl dX9_feed_76 ?_
  refine lv_aload_n hx hb dX9_feed_79 rfl (lv_at hl 3 rfl) ?_
  refine k_get (C := RX9) (T := TX9) (N := 79) (ci := 9) (v := .int 0) X hE hP 0 rfl rfl iX9 47 (by decide) w_425 rfl dX9_feed_80 ?_
  refine lv_iload hx hb dX9_feed_83 (lv_at hl 2 rfl) ?_
  refine lv_iadd hx hb dX9_feed_85 ?_
  refine tk (y := 5) (by decide) ?_
  refine lv_iload hx hb dX9_feed_86 (lv_at hl 0 rfl) ?_
  refine lv_bipush (v := 24) hx hb dX9_feed_88 (by decide) ?_
  refine lv_bipush (v := 8) hx hb dX9_feed_90 (by decide) ?_
  refine lv_iload hx hb dX9_feed_92 (lv_at hl 2 rfl) ?_
  refine lv_iconst (v := 3) hx hb dX9_feed_94 (by decide) ?_
  refine lv_iand hx hb dX9_feed_95 ?_
  refine tk (y := 1) (by decide) ?_
  refine lv_imul hx hb dX9_feed_96 ?_
  refine tk (y := 8) (by decide) ?_
  refine lv_isub hx hb dX9_feed_97 ?_
  refine tk (y := 16) (by decide) ?_
  refine lv_ishr hx hb dX9_feed_98 ?_
  refine lv_sipush (v := 255) hx hb dX9_feed_99 (by decide) ?_
  refine lv_iand hx hb dX9_feed_102 ?_
  refine k_ast X hE hP hD hS 1 rfl 5 rfl (by decide) (by decide) [(h0, .inr (9, [.ref mwords, .ref mstore, .int 0, .int 0, .int 0, .int 255, .int 0, .int 0, .int 0, .int 1, .int 0, .int 0, .int 0, .int 0, .int 0, .int 0, .int 0, .int 0, .int 0, .int 0, .int 0, .int 0, .int 0, .int 0, .int 1, .int 0, .ref mkeys, .ref mrests, .int 0, .int 0, .int 0, .int 0, .int 0, .ref mring, .ref mstrip, .ref mpins, .ref mstops, .int 0, .int 0, .int 0, .ref mdone, .ref mkept, .int 0, .int 0, .int 0, .int 0, .ref mtape, .int 0, .int (-1), .int (-1), .ref mnameValue, .ref mnamePlace, .ref mnameEquals, .int 0, .ref mout, .int 0, .int 0, .int 0, .int 0, .int 0, .int 0, .int 0, .int 0, .int 0, .int 0, .int 0, .int 0, .int 0, .int 0, .int 0, .ref mtellFrom, .ref mtellEnd, .ref mtellValue, .ref mtellEquals, .ref mlaid, .int 0, .int 0, .int 0, .int 0])), (mtape, .inl (cA, 6020, .inl (upd (upd (upd (upd (upd (upd (fun _ => 0) 0 ((v1 >>> (24 &&& 31)) &&& 255)) 1 ((v1 >>> (16 &&& 31)) &&& 255)) 2 ((v1 >>> (8 &&& 31)) &&& 255)) 3 ((v1 >>> (0 &&& 31)) &&& 255)) 4 ((v2 >>> (24 &&& 31)) &&& 255)) 5 ((v2 >>> (16 &&& 31)) &&& 255))))] rfl dX9_feed_103 (fun H locs hP hD hS => ?_)
  refine lv_iinc (v := 6) (lv' := [(6, .int 6), (8, .int v2), (7, .int 1), (0, .ref h0), (1, .int v1), (2, .int v2), (3, .int v3), (4, .int v4), (5, .int v5)]) hx hb dX9_feed_104 hl (k := 2) rfl (by decide) (by decide) rfl (fun ls hl => ?_)
  refine lv_goto (tgt := 18) hx hb dX9_feed_107 (by decide) ?_
  refine lv_iload hx hb dX9_feed_18 (lv_at hl 0 rfl) ?_
  refine lv_bipush (v := 20) hx hb dX9_feed_20 (by decide) ?_
  refine lv_icmp_ge (tgt := 110) hx hb dX9_feed_22 (by decide) (fun c_22_12 => absurd c_22_12 (by decide)) (fun c_22_12 => ?_)
  refine lv_iload hx hb dX9_feed_25 (lv_at hl 0 rfl) ?_
  refine lv_iconst (v := 2) hx hb dX9_feed_27 (by decide) ?_
  refine lv_ishr hx hb dX9_feed_28 ?_
  refine tk (y := 1) (by decide) ?_
  refine lv_istore (lv' := [(7, .int 1), (6, .int 6), (8, .int v2), (0, .ref h0), (1, .int v1), (2, .int v2), (3, .int v3), (4, .int v4), (5, .int v5)]) hx hb dX9_feed_29 hl (by decide) rfl (fun ls hl => ?_)
  refine lv_iload hx hb dX9_feed_31 (lv_at hl 0 rfl) ?_
  refine lv_if_ne (tgt := 40) hx hb dX9_feed_33 (by decide) (fun c_33_13 => ?_) (fun c_33_13 => absurd c_33_13 (by decide))
  refine lv_iload hx hb dX9_feed_40 (lv_at hl 0 rfl) ?_
  refine lv_iconst (v := 1) hx hb dX9_feed_42 (by decide) ?_
  refine lv_icmp_ne (tgt := 50) hx hb dX9_feed_43 (by decide) (fun c_43_14 => absurd (by decide) c_43_14) (fun c_43_14 => ?_)
  refine lv_iload_n hx hb dX9_feed_46 rfl (lv_at hl 5 rfl) ?_
  refine lv_goto (tgt := 73) hx hb dX9_feed_47 (by decide) ?_
  refine lv_istore (lv' := [(8, .int v2), (7, .int 1), (6, .int 6), (0, .ref h0), (1, .int v1), (2, .int v2), (3, .int v3), (4, .int v4), (5, .int v5)]) hx hb dX9_feed_73 hl (by decide) rfl (fun ls hl => ?_)
  refine lv_aload_n hx hb dX9_feed_75 rfl (lv_at hl 3 rfl) ?_
  refine k_get (C := RX9) (T := TX9) (N := 79) (ci := 9) (v := .ref mtape) X hE hP 0 rfl rfl iX9 46 (by decide) w_364 rfl dX9_feed_76 ?_
  refine lv_aload_n hx hb dX9_feed_79 rfl (lv_at hl 3 rfl) ?_
  refine k_get (C := RX9) (T := TX9) (N := 79) (ci := 9) (v := .int 0) X hE hP 0 rfl rfl iX9 47 (by decide) w_425 rfl dX9_feed_80 ?_
  refine lv_iload hx hb dX9_feed_83 (lv_at hl 2 rfl) ?_
  refine lv_iadd hx hb dX9_feed_85 ?_
  refine tk (y := 6) (by decide) ?_
  refine lv_iload hx hb dX9_feed_86 (lv_at hl 0 rfl) ?_
  refine lv_bipush (v := 24) hx hb dX9_feed_88 (by decide) ?_
  refine lv_bipush (v := 8) hx hb dX9_feed_90 (by decide) ?_
  refine lv_iload hx hb dX9_feed_92 (lv_at hl 2 rfl) ?_
  refine lv_iconst (v := 3) hx hb dX9_feed_94 (by decide) ?_
  refine lv_iand hx hb dX9_feed_95 ?_
  refine tk (y := 2) (by decide) ?_
  refine lv_imul hx hb dX9_feed_96 ?_
  refine tk (y := 16) (by decide) ?_
  refine lv_isub hx hb dX9_feed_97 ?_
  refine tk (y := 8) (by decide) ?_
  refine lv_ishr hx hb dX9_feed_98 ?_
  refine lv_sipush (v := 255) hx hb dX9_feed_99 (by decide) ?_
  refine lv_iand hx hb dX9_feed_102 ?_
  refine k_ast X hE hP hD hS 1 rfl 6 rfl (by decide) (by decide) [(h0, .inr (9, [.ref mwords, .ref mstore, .int 0, .int 0, .int 0, .int 255, .int 0, .int 0, .int 0, .int 1, .int 0, .int 0, .int 0, .int 0, .int 0, .int 0, .int 0, .int 0, .int 0, .int 0, .int 0, .int 0, .int 0, .int 0, .int 1, .int 0, .ref mkeys, .ref mrests, .int 0, .int 0, .int 0, .int 0, .int 0, .ref mring, .ref mstrip, .ref mpins, .ref mstops, .int 0, .int 0, .int 0, .ref mdone, .ref mkept, .int 0, .int 0, .int 0, .int 0, .ref mtape, .int 0, .int (-1), .int (-1), .ref mnameValue, .ref mnamePlace, .ref mnameEquals, .int 0, .ref mout, .int 0, .int 0, .int 0, .int 0, .int 0, .int 0, .int 0, .int 0, .int 0, .int 0, .int 0, .int 0, .int 0, .int 0, .int 0, .ref mtellFrom, .ref mtellEnd, .ref mtellValue, .ref mtellEquals, .ref mlaid, .int 0, .int 0, .int 0, .int 0])), (mtape, .inl (cA, 6020, .inl (upd (upd (upd (upd (upd (upd (upd (fun _ => 0) 0 ((v1 >>> (24 &&& 31)) &&& 255)) 1 ((v1 >>> (16 &&& 31)) &&& 255)) 2 ((v1 >>> (8 &&& 31)) &&& 255)) 3 ((v1 >>> (0 &&& 31)) &&& 255)) 4 ((v2 >>> (24 &&& 31)) &&& 255)) 5 ((v2 >>> (16 &&& 31)) &&& 255)) 6 ((v2 >>> (8 &&& 31)) &&& 255))))] rfl dX9_feed_103 (fun H locs hP hD hS => ?_)
  refine lv_iinc (v := 7) (lv' := [(6, .int 7), (8, .int v2), (7, .int 1), (0, .ref h0), (1, .int v1), (2, .int v2), (3, .int v3), (4, .int v4), (5, .int v5)]) hx hb dX9_feed_104 hl (k := 2) rfl (by decide) (by decide) rfl (fun ls hl => ?_)
  refine lv_goto (tgt := 18) hx hb dX9_feed_107 (by decide) ?_
  refine lv_iload hx hb dX9_feed_18 (lv_at hl 0 rfl) ?_
  refine lv_bipush (v := 20) hx hb dX9_feed_20 (by decide) ?_
  refine lv_icmp_ge (tgt := 110) hx hb dX9_feed_22 (by decide) (fun c_22_15 => absurd c_22_15 (by decide)) (fun c_22_15 => ?_)
  refine lv_iload hx hb dX9_feed_25 (lv_at hl 0 rfl) ?_
  refine lv_iconst (v := 2) hx hb dX9_feed_27 (by decide) ?_
  refine lv_ishr hx hb dX9_feed_28 ?_
  refine tk (y := 1) (by decide) ?_
  refine lv_istore (lv' := [(7, .int 1), (6, .int 7), (8, .int v2), (0, .ref h0), (1, .int v1), (2, .int v2), (3, .int v3), (4, .int v4), (5, .int v5)]) hx hb dX9_feed_29 hl (by decide) rfl (fun ls hl => ?_)
  refine lv_iload hx hb dX9_feed_31 (lv_at hl 0 rfl) ?_
  refine lv_if_ne (tgt := 40) hx hb dX9_feed_33 (by decide) (fun c_33_16 => ?_) (fun c_33_16 => absurd c_33_16 (by decide))
  refine lv_iload hx hb dX9_feed_40 (lv_at hl 0 rfl) ?_
  refine lv_iconst (v := 1) hx hb dX9_feed_42 (by decide) ?_
  refine lv_icmp_ne (tgt := 50) hx hb dX9_feed_43 (by decide) (fun c_43_17 => absurd (by decide) c_43_17) (fun c_43_17 => ?_)
  refine lv_iload_n hx hb dX9_feed_46 rfl (lv_at hl 5 rfl) ?_
  refine lv_goto (tgt := 73) hx hb dX9_feed_47 (by decide) ?_
  refine lv_istore (lv' := [(8, .int v2), (7, .int 1), (6, .int 7), (0, .ref h0), (1, .int v1), (2, .int v2), (3, .int v3), (4, .int v4), (5, .int v5)]) hx hb dX9_feed_73 hl (by decide) rfl (fun ls hl => ?_)
  refine lv_aload_n hx hb dX9_feed_75 rfl (lv_at hl 3 rfl) ?_
  refine k_get (C := RX9) (T := TX9) (N := 79) (ci := 9) (v := .ref mtape) X hE hP 0 rfl rfl iX9 46 (by decide) w_364 rfl dX9_feed_76 ?_
  refine lv_aload_n hx hb dX9_feed_79 rfl (lv_at hl 3 rfl) ?_
  refine k_get (C := RX9) (T := TX9) (N := 79) (ci := 9) (v := .int 0) X hE hP 0 rfl rfl iX9 47 (by decide) w_425 rfl dX9_feed_80 ?_
  refine lv_iload hx hb dX9_feed_83 (lv_at hl 2 rfl) ?_
  refine lv_iadd hx hb dX9_feed_85 ?_
  refine tk (y := 7) (by decide) ?_
  refine lv_iload hx hb dX9_feed_86 (lv_at hl 0 rfl) ?_
  refine lv_bipush (v := 24) hx hb dX9_feed_88 (by decide) ?_
  refine lv_bipush (v := 8) hx hb dX9_feed_90 (by decide) ?_
  refine lv_iload hx hb dX9_feed_92 (lv_at hl 2 rfl) ?_
  refine lv_iconst (v := 3) hx hb dX9_feed_94 (by decide) ?_
  refine lv_iand hx hb dX9_feed_95 ?_
  refine tk (y := 3) (by decide) ?_
  refine lv_imul hx hb dX9_feed_96 ?_
  refine tk (y := 24) (by decide) ?_
  refine lv_isub hx hb dX9_feed_97 ?_
  refine tk (y := 0) (by decide) ?_
  refine lv_ishr hx hb dX9_feed_98 ?_
  refine lv_sipush (v := 255) hx hb dX9_feed_99 (by decide) ?_
  refine lv_iand hx hb dX9_feed_102 ?_
  refine k_ast X hE hP hD hS 1 rfl 7 rfl (by decide) (by decide) [(h0, .inr (9, [.ref mwords, .ref mstore, .int 0, .int 0, .int 0, .int 255, .int 0, .int 0, .int 0, .int 1, .int 0, .int 0, .int 0, .int 0, .int 0, .int 0, .int 0, .int 0, .int 0, .int 0, .int 0, .int 0, .int 0, .int 0, .int 1, .int 0, .ref mkeys, .ref mrests, .int 0, .int 0, .int 0, .int 0, .int 0, .ref mring, .ref mstrip, .ref mpins, .ref mstops, .int 0, .int 0, .int 0, .ref mdone, .ref mkept, .int 0, .int 0, .int 0, .int 0, .ref mtape, .int 0, .int (-1), .int (-1), .ref mnameValue, .ref mnamePlace, .ref mnameEquals, .int 0, .ref mout, .int 0, .int 0, .int 0, .int 0, .int 0, .int 0, .int 0, .int 0, .int 0, .int 0, .int 0, .int 0, .int 0, .int 0, .int 0, .ref mtellFrom, .ref mtellEnd, .ref mtellValue, .ref mtellEquals, .ref mlaid, .int 0, .int 0, .int 0, .int 0])), (mtape, .inl (cA, 6020, .inl (upd (upd (upd (upd (upd (upd (upd (upd (fun _ => 0) 0 ((v1 >>> (24 &&& 31)) &&& 255)) 1 ((v1 >>> (16 &&& 31)) &&& 255)) 2 ((v1 >>> (8 &&& 31)) &&& 255)) 3 ((v1 >>> (0 &&& 31)) &&& 255)) 4 ((v2 >>> (24 &&& 31)) &&& 255)) 5 ((v2 >>> (16 &&& 31)) &&& 255)) 6 ((v2 >>> (8 &&& 31)) &&& 255)) 7 ((v2 >>> (0 &&& 31)) &&& 255))))] rfl dX9_feed_103 (fun H locs hP hD hS => ?_)
  refine lv_iinc (v := 8) (lv' := [(6, .int 8), (8, .int v2), (7, .int 1), (0, .ref h0), (1, .int v1), (2, .int v2), (3, .int v3), (4, .int v4), (5, .int v5)]) hx hb dX9_feed_104 hl (k := 2) rfl (by decide) (by decide) rfl (fun ls hl => ?_)
  refine lv_goto (tgt := 18) hx hb dX9_feed_107 (by decide) ?_
  refine lv_iload hx hb dX9_feed_18 (lv_at hl 0 rfl) ?_
  refine lv_bipush (v := 20) hx hb dX9_feed_20 (by decide) ?_
  refine lv_icmp_ge (tgt := 110) hx hb dX9_feed_22 (by decide) (fun c_22_18 => absurd c_22_18 (by decide)) (fun c_22_18 => ?_)
  refine lv_iload hx hb dX9_feed_25 (lv_at hl 0 rfl) ?_
  refine lv_iconst (v := 2) hx hb dX9_feed_27 (by decide) ?_
  refine lv_ishr hx hb dX9_feed_28 ?_
  refine tk (y := 2) (by decide) ?_
  refine lv_istore (lv' := [(7, .int 2), (6, .int 8), (8, .int v2), (0, .ref h0), (1, .int v1), (2, .int v2), (3, .int v3), (4, .int v4), (5, .int v5)]) hx hb dX9_feed_29 hl (by decide) rfl (fun ls hl => ?_)
  refine lv_iload hx hb dX9_feed_31 (lv_at hl 0 rfl) ?_
  refine lv_if_ne (tgt := 40) hx hb dX9_feed_33 (by decide) (fun c_33_19 => ?_) (fun c_33_19 => absurd c_33_19 (by decide))
  refine lv_iload hx hb dX9_feed_40 (lv_at hl 0 rfl) ?_
  refine lv_iconst (v := 1) hx hb dX9_feed_42 (by decide) ?_
  refine lv_icmp_ne (tgt := 50) hx hb dX9_feed_43 (by decide) (fun c_43_20 => ?_) (fun c_43_20 => absurd c_43_20 (by decide))
  refine lv_iload hx hb dX9_feed_50 (lv_at hl 0 rfl) ?_
  refine lv_iconst (v := 2) hx hb dX9_feed_52 (by decide) ?_
  refine lv_icmp_ne (tgt := 60) hx hb dX9_feed_53 (by decide) (fun c_53 => absurd (by decide) c_53) (fun c_53 => ?_)
  refine lv_iload_n hx hb dX9_feed_56 rfl (lv_at hl 6 rfl) ?_
  refine lv_goto (tgt := 73) hx hb dX9_feed_57 (by decide) ?_
  refine lv_istore (lv' := [(8, .int v3), (7, .int 2), (6, .int 8), (0, .ref h0), (1, .int v1), (2, .int v2), (3, .int v3), (4, .int v4), (5, .int v5)]) hx hb dX9_feed_73 hl (by decide) rfl (fun ls hl => ?_)
  refine lv_aload_n hx hb dX9_feed_75 rfl (lv_at hl 3 rfl) ?_
  refine k_get (C := RX9) (T := TX9) (N := 79) (ci := 9) (v := .ref mtape) X hE hP 0 rfl rfl iX9 46 (by decide) w_364 rfl dX9_feed_76 ?_
  refine lv_aload_n hx hb dX9_feed_79 rfl (lv_at hl 3 rfl) ?_
  refine k_get (C := RX9) (T := TX9) (N := 79) (ci := 9) (v := .int 0) X hE hP 0 rfl rfl iX9 47 (by decide) w_425 rfl dX9_feed_80 ?_
  refine lv_iload hx hb dX9_feed_83 (lv_at hl 2 rfl) ?_
  refine lv_iadd hx hb dX9_feed_85 ?_
  refine tk (y := 8) (by decide) ?_
  refine lv_iload hx hb dX9_feed_86 (lv_at hl 0 rfl) ?_
  refine lv_bipush (v := 24) hx hb dX9_feed_88 (by decide) ?_
  refine lv_bipush (v := 8) hx hb dX9_feed_90 (by decide) ?_
  refine lv_iload hx hb dX9_feed_92 (lv_at hl 2 rfl) ?_
  refine lv_iconst (v := 3) hx hb dX9_feed_94 (by decide) ?_
  refine lv_iand hx hb dX9_feed_95 ?_
  refine tk (y := 0) (by decide) ?_
  refine lv_imul hx hb dX9_feed_96 ?_
  refine tk (y := 0) (by decide) ?_
  refine lv_isub hx hb dX9_feed_97 ?_
  refine tk (y := 24) (by decide) ?_
  refine lv_ishr hx hb dX9_feed_98 ?_
  refine lv_sipush (v := 255) hx hb dX9_feed_99 (by decide) ?_
  refine lv_iand hx hb dX9_feed_102 ?_
  refine k_ast X hE hP hD hS 1 rfl 8 rfl (by decide) (by decide) [(h0, .inr (9, [.ref mwords, .ref mstore, .int 0, .int 0, .int 0, .int 255, .int 0, .int 0, .int 0, .int 1, .int 0, .int 0, .int 0, .int 0, .int 0, .int 0, .int 0, .int 0, .int 0, .int 0, .int 0, .int 0, .int 0, .int 0, .int 1, .int 0, .ref mkeys, .ref mrests, .int 0, .int 0, .int 0, .int 0, .int 0, .ref mring, .ref mstrip, .ref mpins, .ref mstops, .int 0, .int 0, .int 0, .ref mdone, .ref mkept, .int 0, .int 0, .int 0, .int 0, .ref mtape, .int 0, .int (-1), .int (-1), .ref mnameValue, .ref mnamePlace, .ref mnameEquals, .int 0, .ref mout, .int 0, .int 0, .int 0, .int 0, .int 0, .int 0, .int 0, .int 0, .int 0, .int 0, .int 0, .int 0, .int 0, .int 0, .int 0, .ref mtellFrom, .ref mtellEnd, .ref mtellValue, .ref mtellEquals, .ref mlaid, .int 0, .int 0, .int 0, .int 0])), (mtape, .inl (cA, 6020, .inl (upd (upd (upd (upd (upd (upd (upd (upd (upd (fun _ => 0) 0 ((v1 >>> (24 &&& 31)) &&& 255)) 1 ((v1 >>> (16 &&& 31)) &&& 255)) 2 ((v1 >>> (8 &&& 31)) &&& 255)) 3 ((v1 >>> (0 &&& 31)) &&& 255)) 4 ((v2 >>> (24 &&& 31)) &&& 255)) 5 ((v2 >>> (16 &&& 31)) &&& 255)) 6 ((v2 >>> (8 &&& 31)) &&& 255)) 7 ((v2 >>> (0 &&& 31)) &&& 255)) 8 ((v3 >>> (24 &&& 31)) &&& 255))))] rfl dX9_feed_103 (fun H locs hP hD hS => ?_)
  refine lv_iinc (v := 9) (lv' := [(6, .int 9), (8, .int v3), (7, .int 2), (0, .ref h0), (1, .int v1), (2, .int v2), (3, .int v3), (4, .int v4), (5, .int v5)]) hx hb dX9_feed_104 hl (k := 2) rfl (by decide) (by decide) rfl (fun ls hl => ?_)
  refine lv_goto (tgt := 18) hx hb dX9_feed_107 (by decide) ?_
  refine lv_iload hx hb dX9_feed_18 (lv_at hl 0 rfl) ?_
  refine lv_bipush (v := 20) hx hb dX9_feed_20 (by decide) ?_
  refine lv_icmp_ge (tgt := 110) hx hb dX9_feed_22 (by decide) (fun c_22_21 => absurd c_22_21 (by decide)) (fun c_22_21 => ?_)
  refine lv_iload hx hb dX9_feed_25 (lv_at hl 0 rfl) ?_
  refine lv_iconst (v := 2) hx hb dX9_feed_27 (by decide) ?_
  refine lv_ishr hx hb dX9_feed_28 ?_
  refine tk (y := 2) (by decide) ?_
  refine lv_istore (lv' := [(7, .int 2), (6, .int 9), (8, .int v3), (0, .ref h0), (1, .int v1), (2, .int v2), (3, .int v3), (4, .int v4), (5, .int v5)]) hx hb dX9_feed_29 hl (by decide) rfl (fun ls hl => ?_)
  refine lv_iload hx hb dX9_feed_31 (lv_at hl 0 rfl) ?_
  refine lv_if_ne (tgt := 40) hx hb dX9_feed_33 (by decide) (fun c_33_22 => ?_) (fun c_33_22 => absurd c_33_22 (by decide))
  refine lv_iload hx hb dX9_feed_40 (lv_at hl 0 rfl) ?_
  refine lv_iconst (v := 1) hx hb dX9_feed_42 (by decide) ?_
  refine lv_icmp_ne (tgt := 50) hx hb dX9_feed_43 (by decide) (fun c_43_23 => ?_) (fun c_43_23 => absurd c_43_23 (by decide))
  refine lv_iload hx hb dX9_feed_50 (lv_at hl 0 rfl) ?_
  refine lv_iconst (v := 2) hx hb dX9_feed_52 (by decide) ?_
  refine lv_icmp_ne (tgt := 60) hx hb dX9_feed_53 (by decide) (fun c_53_24 => absurd (by decide) c_53_24) (fun c_53_24 => ?_)
  refine lv_iload_n hx hb dX9_feed_56 rfl (lv_at hl 6 rfl) ?_
  refine lv_goto (tgt := 73) hx hb dX9_feed_57 (by decide) ?_
  refine lv_istore (lv' := [(8, .int v3), (7, .int 2), (6, .int 9), (0, .ref h0), (1, .int v1), (2, .int v2), (3, .int v3), (4, .int v4), (5, .int v5)]) hx hb dX9_feed_73 hl (by decide) rfl (fun ls hl => ?_)
  refine lv_aload_n hx hb dX9_feed_75 rfl (lv_at hl 3 rfl) ?_
  refine k_get (C := RX9) (T := TX9) (N := 79) (ci := 9) (v := .ref mtape) X hE hP 0 rfl rfl iX9 46 (by decide) w_364 rfl dX9_feed_76 ?_
  refine lv_aload_n hx hb dX9_feed_79 rfl (lv_at hl 3 rfl) ?_
  refine k_get (C := RX9) (T := TX9) (N := 79) (ci := 9) (v := .int 0) X hE hP 0 rfl rfl iX9 47 (by decide) w_425 rfl dX9_feed_80 ?_
  refine lv_iload hx hb dX9_feed_83 (lv_at hl 2 rfl) ?_
  refine lv_iadd hx hb dX9_feed_85 ?_
  refine tk (y := 9) (by decide) ?_
  refine lv_iload hx hb dX9_feed_86 (lv_at hl 0 rfl) ?_
  refine lv_bipush (v := 24) hx hb dX9_feed_88 (by decide) ?_
  refine lv_bipush (v := 8) hx hb dX9_feed_90 (by decide) ?_
  refine lv_iload hx hb dX9_feed_92 (lv_at hl 2 rfl) ?_
  refine lv_iconst (v := 3) hx hb dX9_feed_94 (by decide) ?_
  refine lv_iand hx hb dX9_feed_95 ?_
  refine tk (y := 1) (by decide) ?_
  refine lv_imul hx hb dX9_feed_96 ?_
  refine tk (y := 8) (by decide) ?_
  refine lv_isub hx hb dX9_feed_97 ?_
  refine tk (y := 16) (by decide) ?_
  refine lv_ishr hx hb dX9_feed_98 ?_
  refine lv_sipush (v := 255) hx hb dX9_feed_99 (by decide) ?_
  refine lv_iand hx hb dX9_feed_102 ?_
  refine k_ast X hE hP hD hS 1 rfl 9 rfl (by decide) (by decide) [(h0, .inr (9, [.ref mwords, .ref mstore, .int 0, .int 0, .int 0, .int 255, .int 0, .int 0, .int 0, .int 1, .int 0, .int 0, .int 0, .int 0, .int 0, .int 0, .int 0, .int 0, .int 0, .int 0, .int 0, .int 0, .int 0, .int 0, .int 1, .int 0, .ref mkeys, .ref mrests, .int 0, .int 0, .int 0, .int 0, .int 0, .ref mring, .ref mstrip, .ref mpins, .ref mstops, .int 0, .int 0, .int 0, .ref mdone, .ref mkept, .int 0, .int 0, .int 0, .int 0, .ref mtape, .int 0, .int (-1), .int (-1), .ref mnameValue, .ref mnamePlace, .ref mnameEquals, .int 0, .ref mout, .int 0, .int 0, .int 0, .int 0, .int 0, .int 0, .int 0, .int 0, .int 0, .int 0, .int 0, .int 0, .int 0, .int 0, .int 0, .ref mtellFrom, .ref mtellEnd, .ref mtellValue, .ref mtellEquals, .ref mlaid, .int 0, .int 0, .int 0, .int 0])), (mtape, .inl (cA, 6020, .inl (upd (upd (upd (upd (upd (upd (upd (upd (upd (upd (fun _ => 0) 0 ((v1 >>> (24 &&& 31)) &&& 255)) 1 ((v1 >>> (16 &&& 31)) &&& 255)) 2 ((v1 >>> (8 &&& 31)) &&& 255)) 3 ((v1 >>> (0 &&& 31)) &&& 255)) 4 ((v2 >>> (24 &&& 31)) &&& 255)) 5 ((v2 >>> (16 &&& 31)) &&& 255)) 6 ((v2 >>> (8 &&& 31)) &&& 255)) 7 ((v2 >>> (0 &&& 31)) &&& 255)) 8 ((v3 >>> (24 &&& 31)) &&& 255)) 9 ((v3 >>> (16 &&& 31)) &&& 255))))] rfl dX9_feed_103 (fun H locs hP hD hS => ?_)
  refine lv_iinc (v := 10) (lv' := [(6, .int 10), (8, .int v3), (7, .int 2), (0, .ref h0), (1, .int v1), (2, .int v2), (3, .int v3), (4, .int v4), (5, .int v5)]) hx hb dX9_feed_104 hl (k := 2) rfl (by decide) (by decide) rfl (fun ls hl => ?_)
  refine lv_goto (tgt := 18) hx hb dX9_feed_107 (by decide) ?_
  refine lv_iload hx hb dX9_feed_18 (lv_at hl 0 rfl) ?_
  refine lv_bipush (v := 20) hx hb dX9_feed_20 (by decide) ?_
  refine lv_icmp_ge (tgt := 110) hx hb dX9_feed_22 (by decide) (fun c_22_25 => absurd c_22_25 (by decide)) (fun c_22_25 => ?_)
  refine lv_iload hx hb dX9_feed_25 (lv_at hl 0 rfl) ?_
  refine lv_iconst (v := 2) hx hb dX9_feed_27 (by decide) ?_
  refine lv_ishr hx hb dX9_feed_28 ?_
  refine tk (y := 2) (by decide) ?_
  refine lv_istore (lv' := [(7, .int 2), (6, .int 10), (8, .int v3), (0, .ref h0), (1, .int v1), (2, .int v2), (3, .int v3), (4, .int v4), (5, .int v5)]) hx hb dX9_feed_29 hl (by decide) rfl (fun ls hl => ?_)
  refine lv_iload hx hb dX9_feed_31 (lv_at hl 0 rfl) ?_
  refine lv_if_ne (tgt := 40) hx hb dX9_feed_33 (by decide) (fun c_33_26 => ?_) (fun c_33_26 => absurd c_33_26 (by decide))
  refine lv_iload hx hb dX9_feed_40 (lv_at hl 0 rfl) ?_
  refine lv_iconst (v := 1) hx hb dX9_feed_42 (by decide) ?_
  refine lv_icmp_ne (tgt := 50) hx hb dX9_feed_43 (by decide) (fun c_43_27 => ?_) (fun c_43_27 => absurd c_43_27 (by decide))
  refine lv_iload hx hb dX9_feed_50 (lv_at hl 0 rfl) ?_
  refine lv_iconst (v := 2) hx hb dX9_feed_52 (by decide) ?_
  refine lv_icmp_ne (tgt := 60) hx hb dX9_feed_53 (by decide) (fun c_53_28 => absurd (by decide) c_53_28) (fun c_53_28 => ?_)
  refine lv_iload_n hx hb dX9_feed_56 rfl (lv_at hl 6 rfl) ?_
  refine lv_goto (tgt := 73) hx hb dX9_feed_57 (by decide) ?_
  refine lv_istore (lv' := [(8, .int v3), (7, .int 2), (6, .int 10), (0, .ref h0), (1, .int v1), (2, .int v2), (3, .int v3), (4, .int v4), (5, .int v5)]) hx hb dX9_feed_73 hl (by decide) rfl (fun ls hl => ?_)
  refine lv_aload_n hx hb dX9_feed_75 rfl (lv_at hl 3 rfl) ?_
  refine k_get (C := RX9) (T := TX9) (N := 79) (ci := 9) (v := .ref mtape) X hE hP 0 rfl rfl iX9 46 (by decide) w_364 rfl dX9_feed_76 ?_
  refine lv_aload_n hx hb dX9_feed_79 rfl (lv_at hl 3 rfl) ?_
  refine k_get (C := RX9) (T := TX9) (N := 79) (ci := 9) (v := .int 0) X hE hP 0 rfl rfl iX9 47 (by decide) w_425 rfl dX9_feed_80 ?_
  refine lv_iload hx hb dX9_feed_83 (lv_at hl 2 rfl) ?_
  refine lv_iadd hx hb dX9_feed_85 ?_
  refine tk (y := 10) (by decide) ?_
  refine lv_iload hx hb dX9_feed_86 (lv_at hl 0 rfl) ?_
  refine lv_bipush (v := 24) hx hb dX9_feed_88 (by decide) ?_
  refine lv_bipush (v := 8) hx hb dX9_feed_90 (by decide) ?_
  refine lv_iload hx hb dX9_feed_92 (lv_at hl 2 rfl) ?_
  refine lv_iconst (v := 3) hx hb dX9_feed_94 (by decide) ?_
  refine lv_iand hx hb dX9_feed_95 ?_
  refine tk (y := 2) (by decide) ?_
  refine lv_imul hx hb dX9_feed_96 ?_
  refine tk (y := 16) (by decide) ?_
  refine lv_isub hx hb dX9_feed_97 ?_
  refine tk (y := 8) (by decide) ?_
  refine lv_ishr hx hb dX9_feed_98 ?_
  refine lv_sipush (v := 255) hx hb dX9_feed_99 (by decide) ?_
  refine lv_iand hx hb dX9_feed_102 ?_
  refine k_ast X hE hP hD hS 1 rfl 10 rfl (by decide) (by decide) [(h0, .inr (9, [.ref mwords, .ref mstore, .int 0, .int 0, .int 0, .int 255, .int 0, .int 0, .int 0, .int 1, .int 0, .int 0, .int 0, .int 0, .int 0, .int 0, .int 0, .int 0, .int 0, .int 0, .int 0, .int 0, .int 0, .int 0, .int 1, .int 0, .ref mkeys, .ref mrests, .int 0, .int 0, .int 0, .int 0, .int 0, .ref mring, .ref mstrip, .ref mpins, .ref mstops, .int 0, .int 0, .int 0, .ref mdone, .ref mkept, .int 0, .int 0, .int 0, .int 0, .ref mtape, .int 0, .int (-1), .int (-1), .ref mnameValue, .ref mnamePlace, .ref mnameEquals, .int 0, .ref mout, .int 0, .int 0, .int 0, .int 0, .int 0, .int 0, .int 0, .int 0, .int 0, .int 0, .int 0, .int 0, .int 0, .int 0, .int 0, .ref mtellFrom, .ref mtellEnd, .ref mtellValue, .ref mtellEquals, .ref mlaid, .int 0, .int 0, .int 0, .int 0])), (mtape, .inl (cA, 6020, .inl (upd (upd (upd (upd (upd (upd (upd (upd (upd (upd (upd (fun _ => 0) 0 ((v1 >>> (24 &&& 31)) &&& 255)) 1 ((v1 >>> (16 &&& 31)) &&& 255)) 2 ((v1 >>> (8 &&& 31)) &&& 255)) 3 ((v1 >>> (0 &&& 31)) &&& 255)) 4 ((v2 >>> (24 &&& 31)) &&& 255)) 5 ((v2 >>> (16 &&& 31)) &&& 255)) 6 ((v2 >>> (8 &&& 31)) &&& 255)) 7 ((v2 >>> (0 &&& 31)) &&& 255)) 8 ((v3 >>> (24 &&& 31)) &&& 255)) 9 ((v3 >>> (16 &&& 31)) &&& 255)) 10 ((v3 >>> (8 &&& 31)) &&& 255))))] rfl dX9_feed_103 (fun H locs hP hD hS => ?_)
  refine lv_iinc (v := 11) (lv' := [(6, .int 11), (8, .int v3), (7, .int 2), (0, .ref h0), (1, .int v1), (2, .int v2), (3, .int v3), (4, .int v4), (5, .int v5)]) hx hb dX9_feed_104 hl (k := 2) rfl (by decide) (by decide) rfl (fun ls hl => ?_)
  refine lv_goto (tgt := 18) hx hb dX9_feed_107 (by decide) ?_
  refine lv_iload hx hb dX9_feed_18 (lv_at hl 0 rfl) ?_
  refine lv_bipush (v := 20) hx hb dX9_feed_20 (by decide) ?_
  refine lv_icmp_ge (tgt := 110) hx hb dX9_feed_22 (by decide) (fun c_22_29 => absurd c_22_29 (by decide)) (fun c_22_29 => ?_)
  refine lv_iload hx hb dX9_feed_25 (lv_at hl 0 rfl) ?_
  refine lv_iconst (v := 2) hx hb dX9_feed_27 (by decide) ?_
  refine lv_ishr hx hb dX9_feed_28 ?_
  refine tk (y := 2) (by decide) ?_
  refine lv_istore (lv' := [(7, .int 2), (6, .int 11), (8, .int v3), (0, .ref h0), (1, .int v1), (2, .int v2), (3, .int v3), (4, .int v4), (5, .int v5)]) hx hb dX9_feed_29 hl (by decide) rfl (fun ls hl => ?_)
  refine lv_iload hx hb dX9_feed_31 (lv_at hl 0 rfl) ?_
  refine lv_if_ne (tgt := 40) hx hb dX9_feed_33 (by decide) (fun c_33_30 => ?_) (fun c_33_30 => absurd c_33_30 (by decide))
  refine lv_iload hx hb dX9_feed_40 (lv_at hl 0 rfl) ?_
  refine lv_iconst (v := 1) hx hb dX9_feed_42 (by decide) ?_
  refine lv_icmp_ne (tgt := 50) hx hb dX9_feed_43 (by decide) (fun c_43_31 => ?_) (fun c_43_31 => absurd c_43_31 (by decide))
  refine lv_iload hx hb dX9_feed_50 (lv_at hl 0 rfl) ?_
  refine lv_iconst (v := 2) hx hb dX9_feed_52 (by decide) ?_
  refine lv_icmp_ne (tgt := 60) hx hb dX9_feed_53 (by decide) (fun c_53_32 => absurd (by decide) c_53_32) (fun c_53_32 => ?_)
  refine lv_iload_n hx hb dX9_feed_56 rfl (lv_at hl 6 rfl) ?_
  refine lv_goto (tgt := 73) hx hb dX9_feed_57 (by decide) ?_
  refine lv_istore (lv' := [(8, .int v3), (7, .int 2), (6, .int 11), (0, .ref h0), (1, .int v1), (2, .int v2), (3, .int v3), (4, .int v4), (5, .int v5)]) hx hb dX9_feed_73 hl (by decide) rfl (fun ls hl => ?_)
  refine lv_aload_n hx hb dX9_feed_75 rfl (lv_at hl 3 rfl) ?_
  refine k_get (C := RX9) (T := TX9) (N := 79) (ci := 9) (v := .ref mtape) X hE hP 0 rfl rfl iX9 46 (by decide) w_364 rfl dX9_feed_76 ?_
  refine lv_aload_n hx hb dX9_feed_79 rfl (lv_at hl 3 rfl) ?_
  refine k_get (C := RX9) (T := TX9) (N := 79) (ci := 9) (v := .int 0) X hE hP 0 rfl rfl iX9 47 (by decide) w_425 rfl dX9_feed_80 ?_
  refine lv_iload hx hb dX9_feed_83 (lv_at hl 2 rfl) ?_
  refine lv_iadd hx hb dX9_feed_85 ?_
  refine tk (y := 11) (by decide) ?_
  refine lv_iload hx hb dX9_feed_86 (lv_at hl 0 rfl) ?_
  refine lv_bipush (v := 24) hx hb dX9_feed_88 (by decide) ?_
  refine lv_bipush (v := 8) hx hb dX9_feed_90 (by decide) ?_
  refine lv_iload hx hb dX9_feed_92 (lv_at hl 2 rfl) ?_
  refine lv_iconst (v := 3) hx hb dX9_feed_94 (by decide) ?_
  refine lv_iand hx hb dX9_feed_95 ?_
  refine tk (y := 3) (by decide) ?_
  refine lv_imul hx hb dX9_feed_96 ?_
  refine tk (y := 24) (by decide) ?_
  refine lv_isub hx hb dX9_feed_97 ?_
  refine tk (y := 0) (by decide) ?_
  refine lv_ishr hx hb dX9_feed_98 ?_
  refine lv_sipush (v := 255) hx hb dX9_feed_99 (by decide) ?_
  refine lv_iand hx hb dX9_feed_102 ?_
  refine k_ast X hE hP hD hS 1 rfl 11 rfl (by decide) (by decide) [(h0, .inr (9, [.ref mwords, .ref mstore, .int 0, .int 0, .int 0, .int 255, .int 0, .int 0, .int 0, .int 1, .int 0, .int 0, .int 0, .int 0, .int 0, .int 0, .int 0, .int 0, .int 0, .int 0, .int 0, .int 0, .int 0, .int 0, .int 1, .int 0, .ref mkeys, .ref mrests, .int 0, .int 0, .int 0, .int 0, .int 0, .ref mring, .ref mstrip, .ref mpins, .ref mstops, .int 0, .int 0, .int 0, .ref mdone, .ref mkept, .int 0, .int 0, .int 0, .int 0, .ref mtape, .int 0, .int (-1), .int (-1), .ref mnameValue, .ref mnamePlace, .ref mnameEquals, .int 0, .ref mout, .int 0, .int 0, .int 0, .int 0, .int 0, .int 0, .int 0, .int 0, .int 0, .int 0, .int 0, .int 0, .int 0, .int 0, .int 0, .ref mtellFrom, .ref mtellEnd, .ref mtellValue, .ref mtellEquals, .ref mlaid, .int 0, .int 0, .int 0, .int 0])), (mtape, .inl (cA, 6020, .inl (upd (upd (upd (upd (upd (upd (upd (upd (upd (upd (upd (upd (fun _ => 0) 0 ((v1 >>> (24 &&& 31)) &&& 255)) 1 ((v1 >>> (16 &&& 31)) &&& 255)) 2 ((v1 >>> (8 &&& 31)) &&& 255)) 3 ((v1 >>> (0 &&& 31)) &&& 255)) 4 ((v2 >>> (24 &&& 31)) &&& 255)) 5 ((v2 >>> (16 &&& 31)) &&& 255)) 6 ((v2 >>> (8 &&& 31)) &&& 255)) 7 ((v2 >>> (0 &&& 31)) &&& 255)) 8 ((v3 >>> (24 &&& 31)) &&& 255)) 9 ((v3 >>> (16 &&& 31)) &&& 255)) 10 ((v3 >>> (8 &&& 31)) &&& 255)) 11 ((v3 >>> (0 &&& 31)) &&& 255))))] rfl dX9_feed_103 (fun H locs hP hD hS => ?_)
  refine lv_iinc (v := 12) (lv' := [(6, .int 12), (8, .int v3), (7, .int 2), (0, .ref h0), (1, .int v1), (2, .int v2), (3, .int v3), (4, .int v4), (5, .int v5)]) hx hb dX9_feed_104 hl (k := 2) rfl (by decide) (by decide) rfl (fun ls hl => ?_)
  refine lv_goto (tgt := 18) hx hb dX9_feed_107 (by decide) ?_
  refine lv_iload hx hb dX9_feed_18 (lv_at hl 0 rfl) ?_
  refine lv_bipush (v := 20) hx hb dX9_feed_20 (by decide) ?_
  refine lv_icmp_ge (tgt := 110) hx hb dX9_feed_22 (by decide) (fun c_22_33 => absurd c_22_33 (by decide)) (fun c_22_33 => ?_)
  refine lv_iload hx hb dX9_feed_25 (lv_at hl 0 rfl) ?_
  refine lv_iconst (v := 2) hx hb dX9_feed_27 (by decide) ?_
  refine lv_ishr hx hb dX9_feed_28 ?_
  refine tk (y := 3) (by decide) ?_
  refine lv_istore (lv' := [(7, .int 3), (6, .int 12), (8, .int v3), (0, .ref h0), (1, .int v1), (2, .int v2), (3, .int v3), (4, .int v4), (5, .int v5)]) hx hb dX9_feed_29 hl (by decide) rfl (fun ls hl => ?_)
  refine lv_iload hx hb dX9_feed_31 (lv_at hl 0 rfl) ?_
  refine lv_if_ne (tgt := 40) hx hb dX9_feed_33 (by decide) (fun c_33_34 => ?_) (fun c_33_34 => absurd c_33_34 (by decide))
  refine lv_iload hx hb dX9_feed_40 (lv_at hl 0 rfl) ?_
  refine lv_iconst (v := 1) hx hb dX9_feed_42 (by decide) ?_
  refine lv_icmp_ne (tgt := 50) hx hb dX9_feed_43 (by decide) (fun c_43_35 => ?_) (fun c_43_35 => absurd c_43_35 (by decide))
  refine lv_iload hx hb dX9_feed_50 (lv_at hl 0 rfl) ?_
  refine lv_iconst (v := 2) hx hb dX9_feed_52 (by decide) ?_
  refine lv_icmp_ne (tgt := 60) hx hb dX9_feed_53 (by decide) (fun c_53_36 => ?_) (fun c_53_36 => absurd c_53_36 (by decide))
  refine lv_iload hx hb dX9_feed_60 (lv_at hl 0 rfl) ?_
  refine lv_iconst (v := 3) hx hb dX9_feed_62 (by decide) ?_
  refine lv_icmp_ne (tgt := 71) hx hb dX9_feed_63 (by decide) (fun c_63 => absurd (by decide) c_63) (fun c_63 => ?_)
  refine lv_iload hx hb dX9_feed_66 (lv_at hl 7 rfl) ?_
  refine lv_goto (tgt := 73) hx hb dX9_feed_68 (by decide) ?_
  refine lv_istore (lv' := [(8, .int v4), (7, .int 3), (6, .int 12), (0, .ref h0), (1, .int v1), (2, .int v2), (3, .int v3), (4, .int v4), (5, .int v5)]) hx hb dX9_feed_73 hl (by decide) rfl (fun ls hl => ?_)
  refine lv_aload_n hx hb dX9_feed_75 rfl (lv_at hl 3 rfl) ?_
  refine k_get (C := RX9) (T := TX9) (N := 79) (ci := 9) (v := .ref mtape) X hE hP 0 rfl rfl iX9 46 (by decide) w_364 rfl dX9_feed_76 ?_
  refine lv_aload_n hx hb dX9_feed_79 rfl (lv_at hl 3 rfl) ?_
  refine k_get (C := RX9) (T := TX9) (N := 79) (ci := 9) (v := .int 0) X hE hP 0 rfl rfl iX9 47 (by decide) w_425 rfl dX9_feed_80 ?_
  refine lv_iload hx hb dX9_feed_83 (lv_at hl 2 rfl) ?_
  refine lv_iadd hx hb dX9_feed_85 ?_
  refine tk (y := 12) (by decide) ?_
  refine lv_iload hx hb dX9_feed_86 (lv_at hl 0 rfl) ?_
  refine lv_bipush (v := 24) hx hb dX9_feed_88 (by decide) ?_
  refine lv_bipush (v := 8) hx hb dX9_feed_90 (by decide) ?_
  refine lv_iload hx hb dX9_feed_92 (lv_at hl 2 rfl) ?_
  refine lv_iconst (v := 3) hx hb dX9_feed_94 (by decide) ?_
  refine lv_iand hx hb dX9_feed_95 ?_
  refine tk (y := 0) (by decide) ?_
  refine lv_imul hx hb dX9_feed_96 ?_
  refine tk (y := 0) (by decide) ?_
  refine lv_isub hx hb dX9_feed_97 ?_
  refine tk (y := 24) (by decide) ?_
  refine lv_ishr hx hb dX9_feed_98 ?_
  refine lv_sipush (v := 255) hx hb dX9_feed_99 (by decide) ?_
  refine lv_iand hx hb dX9_feed_102 ?_
  refine k_ast X hE hP hD hS 1 rfl 12 rfl (by decide) (by decide) [(h0, .inr (9, [.ref mwords, .ref mstore, .int 0, .int 0, .int 0, .int 255, .int 0, .int 0, .int 0, .int 1, .int 0, .int 0, .int 0, .int 0, .int 0, .int 0, .int 0, .int 0, .int 0, .int 0, .int 0, .int 0, .int 0, .int 0, .int 1, .int 0, .ref mkeys, .ref mrests, .int 0, .int 0, .int 0, .int 0, .int 0, .ref mring, .ref mstrip, .ref mpins, .ref mstops, .int 0, .int 0, .int 0, .ref mdone, .ref mkept, .int 0, .int 0, .int 0, .int 0, .ref mtape, .int 0, .int (-1), .int (-1), .ref mnameValue, .ref mnamePlace, .ref mnameEquals, .int 0, .ref mout, .int 0, .int 0, .int 0, .int 0, .int 0, .int 0, .int 0, .int 0, .int 0, .int 0, .int 0, .int 0, .int 0, .int 0, .int 0, .ref mtellFrom, .ref mtellEnd, .ref mtellValue, .ref mtellEquals, .ref mlaid, .int 0, .int 0, .int 0, .int 0])), (mtape, .inl (cA, 6020, .inl (upd (upd (upd (upd (upd (upd (upd (upd (upd (upd (upd (upd (upd (fun _ => 0) 0 ((v1 >>> (24 &&& 31)) &&& 255)) 1 ((v1 >>> (16 &&& 31)) &&& 255)) 2 ((v1 >>> (8 &&& 31)) &&& 255)) 3 ((v1 >>> (0 &&& 31)) &&& 255)) 4 ((v2 >>> (24 &&& 31)) &&& 255)) 5 ((v2 >>> (16 &&& 31)) &&& 255)) 6 ((v2 >>> (8 &&& 31)) &&& 255)) 7 ((v2 >>> (0 &&& 31)) &&& 255)) 8 ((v3 >>> (24 &&& 31)) &&& 255)) 9 ((v3 >>> (16 &&& 31)) &&& 255)) 10 ((v3 >>> (8 &&& 31)) &&& 255)) 11 ((v3 >>> (0 &&& 31)) &&& 255)) 12 ((v4 >>> (24 &&& 31)) &&& 255))))] rfl dX9_feed_103 (fun H locs hP hD hS => ?_)
  refine lv_iinc (v := 13) (lv' := [(6, .int 13), (8, .int v4), (7, .int 3), (0, .ref h0), (1, .int v1), (2, .int v2), (3, .int v3), (4, .int v4), (5, .int v5)]) hx hb dX9_feed_104 hl (k := 2) rfl (by decide) (by decide) rfl (fun ls hl => ?_)
  refine lv_goto (tgt := 18) hx hb dX9_feed_107 (by decide) ?_
  refine lv_iload hx hb dX9_feed_18 (lv_at hl 0 rfl) ?_
  refine lv_bipush (v := 20) hx hb dX9_feed_20 (by decide) ?_
  refine lv_icmp_ge (tgt := 110) hx hb dX9_feed_22 (by decide) (fun c_22_37 => absurd c_22_37 (by decide)) (fun c_22_37 => ?_)
  refine lv_iload hx hb dX9_feed_25 (lv_at hl 0 rfl) ?_
  refine lv_iconst (v := 2) hx hb dX9_feed_27 (by decide) ?_
  refine lv_ishr hx hb dX9_feed_28 ?_
  refine tk (y := 3) (by decide) ?_
  refine lv_istore (lv' := [(7, .int 3), (6, .int 13), (8, .int v4), (0, .ref h0), (1, .int v1), (2, .int v2), (3, .int v3), (4, .int v4), (5, .int v5)]) hx hb dX9_feed_29 hl (by decide) rfl (fun ls hl => ?_)
  refine lv_iload hx hb dX9_feed_31 (lv_at hl 0 rfl) ?_
  refine lv_if_ne (tgt := 40) hx hb dX9_feed_33 (by decide) (fun c_33_38 => ?_) (fun c_33_38 => absurd c_33_38 (by decide))
  refine lv_iload hx hb dX9_feed_40 (lv_at hl 0 rfl) ?_
  refine lv_iconst (v := 1) hx hb dX9_feed_42 (by decide) ?_
  refine lv_icmp_ne (tgt := 50) hx hb dX9_feed_43 (by decide) (fun c_43_39 => ?_) (fun c_43_39 => absurd c_43_39 (by decide))
  refine lv_iload hx hb dX9_feed_50 (lv_at hl 0 rfl) ?_
  refine lv_iconst (v := 2) hx hb dX9_feed_52 (by decide) ?_
  refine lv_icmp_ne (tgt := 60) hx hb dX9_feed_53 (by decide) (fun c_53_40 => ?_) (fun c_53_40 => absurd c_53_40 (by decide))
  refine lv_iload hx hb dX9_feed_60 (lv_at hl 0 rfl) ?_
  refine lv_iconst (v := 3) hx hb dX9_feed_62 (by decide) ?_
  refine lv_icmp_ne (tgt := 71) hx hb dX9_feed_63 (by decide) (fun c_63_41 => absurd (by decide) c_63_41) (fun c_63_41 => ?_)
  refine lv_iload hx hb dX9_feed_66 (lv_at hl 7 rfl) ?_
  refine lv_goto (tgt := 73) hx hb dX9_feed_68 (by decide) ?_
  refine lv_istore (lv' := [(8, .int v4), (7, .int 3), (6, .int 13), (0, .ref h0), (1, .int v1), (2, .int v2), (3, .int v3), (4, .int v4), (5, .int v5)]) hx hb dX9_feed_73 hl (by decide) rfl (fun ls hl => ?_)
  refine lv_aload_n hx hb dX9_feed_75 rfl (lv_at hl 3 rfl) ?_
  refine k_get (C := RX9) (T := TX9) (N := 79) (ci := 9) (v := .ref mtape) X hE hP 0 rfl rfl iX9 46 (by decide) w_364 rfl dX9_feed_76 ?_
  refine lv_aload_n hx hb dX9_feed_79 rfl (lv_at hl 3 rfl) ?_
  refine k_get (C := RX9) (T := TX9) (N := 79) (ci := 9) (v := .int 0) X hE hP 0 rfl rfl iX9 47 (by decide) w_425 rfl dX9_feed_80 ?_
  refine lv_iload hx hb dX9_feed_83 (lv_at hl 2 rfl) ?_
  refine lv_iadd hx hb dX9_feed_85 ?_
  refine tk (y := 13) (by decide) ?_
  refine lv_iload hx hb dX9_feed_86 (lv_at hl 0 rfl) ?_
  refine lv_bipush (v := 24) hx hb dX9_feed_88 (by decide) ?_
  refine lv_bipush (v := 8) hx hb dX9_feed_90 (by decide) ?_
  refine lv_iload hx hb dX9_feed_92 (lv_at hl 2 rfl) ?_
  refine lv_iconst (v := 3) hx hb dX9_feed_94 (by decide) ?_
  refine lv_iand hx hb dX9_feed_95 ?_
  refine tk (y := 1) (by decide) ?_
  refine lv_imul hx hb dX9_feed_96 ?_
  refine tk (y := 8) (by decide) ?_
  refine lv_isub hx hb dX9_feed_97 ?_
  refine tk (y := 16) (by decide) ?_
  refine lv_ishr hx hb dX9_feed_98 ?_
  refine lv_sipush (v := 255) hx hb dX9_feed_99 (by decide) ?_
  refine lv_iand hx hb dX9_feed_102 ?_
  refine k_ast X hE hP hD hS 1 rfl 13 rfl (by decide) (by decide) [(h0, .inr (9, [.ref mwords, .ref mstore, .int 0, .int 0, .int 0, .int 255, .int 0, .int 0, .int 0, .int 1, .int 0, .int 0, .int 0, .int 0, .int 0, .int 0, .int 0, .int 0, .int 0, .int 0, .int 0, .int 0, .int 0, .int 0, .int 1, .int 0, .ref mkeys, .ref mrests, .int 0, .int 0, .int 0, .int 0, .int 0, .ref mring, .ref mstrip, .ref mpins, .ref mstops, .int 0, .int 0, .int 0, .ref mdone, .ref mkept, .int 0, .int 0, .int 0, .int 0, .ref mtape, .int 0, .int (-1), .int (-1), .ref mnameValue, .ref mnamePlace, .ref mnameEquals, .int 0, .ref mout, .int 0, .int 0, .int 0, .int 0, .int 0, .int 0, .int 0, .int 0, .int 0, .int 0, .int 0, .int 0, .int 0, .int 0, .int 0, .ref mtellFrom, .ref mtellEnd, .ref mtellValue, .ref mtellEquals, .ref mlaid, .int 0, .int 0, .int 0, .int 0])), (mtape, .inl (cA, 6020, .inl (upd (upd (upd (upd (upd (upd (upd (upd (upd (upd (upd (upd (upd (upd (fun _ => 0) 0 ((v1 >>> (24 &&& 31)) &&& 255)) 1 ((v1 >>> (16 &&& 31)) &&& 255)) 2 ((v1 >>> (8 &&& 31)) &&& 255)) 3 ((v1 >>> (0 &&& 31)) &&& 255)) 4 ((v2 >>> (24 &&& 31)) &&& 255)) 5 ((v2 >>> (16 &&& 31)) &&& 255)) 6 ((v2 >>> (8 &&& 31)) &&& 255)) 7 ((v2 >>> (0 &&& 31)) &&& 255)) 8 ((v3 >>> (24 &&& 31)) &&& 255)) 9 ((v3 >>> (16 &&& 31)) &&& 255)) 10 ((v3 >>> (8 &&& 31)) &&& 255)) 11 ((v3 >>> (0 &&& 31)) &&& 255)) 12 ((v4 >>> (24 &&& 31)) &&& 255)) 13 ((v4 >>> (16 &&& 31)) &&& 255))))] rfl dX9_feed_103 (fun H locs hP hD hS => ?_)
  refine lv_iinc (v := 14) (lv' := [(6, .int 14), (8, .int v4), (7, .int 3), (0, .ref h0), (1, .int v1), (2, .int v2), (3, .int v3), (4, .int v4), (5, .int v5)]) hx hb dX9_feed_104 hl (k := 2) rfl (by decide) (by decide) rfl (fun ls hl => ?_)
  refine lv_goto (tgt := 18) hx hb dX9_feed_107 (by decide) ?_
  refine lv_iload hx hb dX9_feed_18 (lv_at hl 0 rfl) ?_
  refine lv_bipush (v := 20) hx hb dX9_feed_20 (by decide) ?_
  refine lv_icmp_ge (tgt := 110) hx hb dX9_feed_22 (by decide) (fun c_22_42 => absurd c_22_42 (by decide)) (fun c_22_42 => ?_)
  refine lv_iload hx hb dX9_feed_25 (lv_at hl 0 rfl) ?_
  refine lv_iconst (v := 2) hx hb dX9_feed_27 (by decide) ?_
  refine lv_ishr hx hb dX9_feed_28 ?_
  refine tk (y := 3) (by decide) ?_
  refine lv_istore (lv' := [(7, .int 3), (6, .int 14), (8, .int v4), (0, .ref h0), (1, .int v1), (2, .int v2), (3, .int v3), (4, .int v4), (5, .int v5)]) hx hb dX9_feed_29 hl (by decide) rfl (fun ls hl => ?_)
  refine lv_iload hx hb dX9_feed_31 (lv_at hl 0 rfl) ?_
  refine lv_if_ne (tgt := 40) hx hb dX9_feed_33 (by decide) (fun c_33_43 => ?_) (fun c_33_43 => absurd c_33_43 (by decide))
  refine lv_iload hx hb dX9_feed_40 (lv_at hl 0 rfl) ?_
  refine lv_iconst (v := 1) hx hb dX9_feed_42 (by decide) ?_
  refine lv_icmp_ne (tgt := 50) hx hb dX9_feed_43 (by decide) (fun c_43_44 => ?_) (fun c_43_44 => absurd c_43_44 (by decide))
  refine lv_iload hx hb dX9_feed_50 (lv_at hl 0 rfl) ?_
  refine lv_iconst (v := 2) hx hb dX9_feed_52 (by decide) ?_
  refine lv_icmp_ne (tgt := 60) hx hb dX9_feed_53 (by decide) (fun c_53_45 => ?_) (fun c_53_45 => absurd c_53_45 (by decide))
  refine lv_iload hx hb dX9_feed_60 (lv_at hl 0 rfl) ?_
  refine lv_iconst (v := 3) hx hb dX9_feed_62 (by decide) ?_
  refine lv_icmp_ne (tgt := 71) hx hb dX9_feed_63 (by decide) (fun c_63_46 => absurd (by decide) c_63_46) (fun c_63_46 => ?_)
  refine lv_iload hx hb dX9_feed_66 (lv_at hl 7 rfl) ?_
  refine lv_goto (tgt := 73) hx hb dX9_feed_68 (by decide) ?_
  refine lv_istore (lv' := [(8, .int v4), (7, .int 3), (6, .int 14), (0, .ref h0), (1, .int v1), (2, .int v2), (3, .int v3), (4, .int v4), (5, .int v5)]) hx hb dX9_feed_73 hl (by decide) rfl (fun ls hl => ?_)
  refine lv_aload_n hx hb dX9_feed_75 rfl (lv_at hl 3 rfl) ?_
  refine k_get (C := RX9) (T := TX9) (N := 79) (ci := 9) (v := .ref mtape) X hE hP 0 rfl rfl iX9 46 (by decide) w_364 rfl dX9_feed_76 ?_
  refine lv_aload_n hx hb dX9_feed_79 rfl (lv_at hl 3 rfl) ?_
  refine k_get (C := RX9) (T := TX9) (N := 79) (ci := 9) (v := .int 0) X hE hP 0 rfl rfl iX9 47 (by decide) w_425 rfl dX9_feed_80 ?_
  refine lv_iload hx hb dX9_feed_83 (lv_at hl 2 rfl) ?_
  refine lv_iadd hx hb dX9_feed_85 ?_
  refine tk (y := 14) (by decide) ?_
  refine lv_iload hx hb dX9_feed_86 (lv_at hl 0 rfl) ?_
  refine lv_bipush (v := 24) hx hb dX9_feed_88 (by decide) ?_
  refine lv_bipush (v := 8) hx hb dX9_feed_90 (by decide) ?_
  refine lv_iload hx hb dX9_feed_92 (lv_at hl 2 rfl) ?_
  refine lv_iconst (v := 3) hx hb dX9_feed_94 (by decide) ?_
  refine lv_iand hx hb dX9_feed_95 ?_
  refine tk (y := 2) (by decide) ?_
  refine lv_imul hx hb dX9_feed_96 ?_
  refine tk (y := 16) (by decide) ?_
  refine lv_isub hx hb dX9_feed_97 ?_
  refine tk (y := 8) (by decide) ?_
  refine lv_ishr hx hb dX9_feed_98 ?_
  refine lv_sipush (v := 255) hx hb dX9_feed_99 (by decide) ?_
  refine lv_iand hx hb dX9_feed_102 ?_
  refine k_ast X hE hP hD hS 1 rfl 14 rfl (by decide) (by decide) [(h0, .inr (9, [.ref mwords, .ref mstore, .int 0, .int 0, .int 0, .int 255, .int 0, .int 0, .int 0, .int 1, .int 0, .int 0, .int 0, .int 0, .int 0, .int 0, .int 0, .int 0, .int 0, .int 0, .int 0, .int 0, .int 0, .int 0, .int 1, .int 0, .ref mkeys, .ref mrests, .int 0, .int 0, .int 0, .int 0, .int 0, .ref mring, .ref mstrip, .ref mpins, .ref mstops, .int 0, .int 0, .int 0, .ref mdone, .ref mkept, .int 0, .int 0, .int 0, .int 0, .ref mtape, .int 0, .int (-1), .int (-1), .ref mnameValue, .ref mnamePlace, .ref mnameEquals, .int 0, .ref mout, .int 0, .int 0, .int 0, .int 0, .int 0, .int 0, .int 0, .int 0, .int 0, .int 0, .int 0, .int 0, .int 0, .int 0, .int 0, .ref mtellFrom, .ref mtellEnd, .ref mtellValue, .ref mtellEquals, .ref mlaid, .int 0, .int 0, .int 0, .int 0])), (mtape, .inl (cA, 6020, .inl (upd (upd (upd (upd (upd (upd (upd (upd (upd (upd (upd (upd (upd (upd (upd (fun _ => 0) 0 ((v1 >>> (24 &&& 31)) &&& 255)) 1 ((v1 >>> (16 &&& 31)) &&& 255)) 2 ((v1 >>> (8 &&& 31)) &&& 255)) 3 ((v1 >>> (0 &&& 31)) &&& 255)) 4 ((v2 >>> (24 &&& 31)) &&& 255)) 5 ((v2 >>> (16 &&& 31)) &&& 255)) 6 ((v2 >>> (8 &&& 31)) &&& 255)) 7 ((v2 >>> (0 &&& 31)) &&& 255)) 8 ((v3 >>> (24 &&& 31)) &&& 255)) 9 ((v3 >>> (16 &&& 31)) &&& 255)) 10 ((v3 >>> (8 &&& 31)) &&& 255)) 11 ((v3 >>> (0 &&& 31)) &&& 255)) 12 ((v4 >>> (24 &&& 31)) &&& 255)) 13 ((v4 >>> (16 &&& 31)) &&& 255)) 14 ((v4 >>> (8 &&& 31)) &&& 255))))] rfl dX9_feed_103 (fun H locs hP hD hS => ?_)
  refine lv_iinc (v := 15) (lv' := [(6, .int 15), (8, .int v4), (7, .int 3), (0, .ref h0), (1, .int v1), (2, .int v2), (3, .int v3), (4, .int v4), (5, .int v5)]) hx hb dX9_feed_104 hl (k := 2) rfl (by decide) (by decide) rfl (fun ls hl => ?_)
  refine lv_goto (tgt := 18) hx hb dX9_feed_107 (by decide) ?_
  refine lv_iload hx hb dX9_feed_18 (lv_at hl 0 rfl) ?_
  refine lv_bipush (v := 20) hx hb dX9_feed_20 (by decide) ?_
  refine lv_icmp_ge (tgt := 110) hx hb dX9_feed_22 (by decide) (fun c_22_47 => absurd c_22_47 (by decide)) (fun c_22_47 => ?_)
  refine lv_iload hx hb dX9_feed_25 (lv_at hl 0 rfl) ?_
  refine lv_iconst (v := 2) hx hb dX9_feed_27 (by decide) ?_
  refine lv_ishr hx hb dX9_feed_28 ?_
  refine tk (y := 3) (by decide) ?_
  refine lv_istore (lv' := [(7, .int 3), (6, .int 15), (8, .int v4), (0, .ref h0), (1, .int v1), (2, .int v2), (3, .int v3), (4, .int v4), (5, .int v5)]) hx hb dX9_feed_29 hl (by decide) rfl (fun ls hl => ?_)
  refine lv_iload hx hb dX9_feed_31 (lv_at hl 0 rfl) ?_
  refine lv_if_ne (tgt := 40) hx hb dX9_feed_33 (by decide) (fun c_33_48 => ?_) (fun c_33_48 => absurd c_33_48 (by decide))
  refine lv_iload hx hb dX9_feed_40 (lv_at hl 0 rfl) ?_
  refine lv_iconst (v := 1) hx hb dX9_feed_42 (by decide) ?_
  refine lv_icmp_ne (tgt := 50) hx hb dX9_feed_43 (by decide) (fun c_43_49 => ?_) (fun c_43_49 => absurd c_43_49 (by decide))
  refine lv_iload hx hb dX9_feed_50 (lv_at hl 0 rfl) ?_
  refine lv_iconst (v := 2) hx hb dX9_feed_52 (by decide) ?_
  refine lv_icmp_ne (tgt := 60) hx hb dX9_feed_53 (by decide) (fun c_53_50 => ?_) (fun c_53_50 => absurd c_53_50 (by decide))
  refine lv_iload hx hb dX9_feed_60 (lv_at hl 0 rfl) ?_
  refine lv_iconst (v := 3) hx hb dX9_feed_62 (by decide) ?_
  refine lv_icmp_ne (tgt := 71) hx hb dX9_feed_63 (by decide) (fun c_63_51 => absurd (by decide) c_63_51) (fun c_63_51 => ?_)
  refine lv_iload hx hb dX9_feed_66 (lv_at hl 7 rfl) ?_
  refine lv_goto (tgt := 73) hx hb dX9_feed_68 (by decide) ?_
  refine lv_istore (lv' := [(8, .int v4), (7, .int 3), (6, .int 15), (0, .ref h0), (1, .int v1), (2, .int v2), (3, .int v3), (4, .int v4), (5, .int v5)]) hx hb dX9_feed_73 hl (by decide) rfl (fun ls hl => ?_)
  refine lv_aload_n hx hb dX9_feed_75 rfl (lv_at hl 3 rfl) ?_
  refine k_get (C := RX9) (T := TX9) (N := 79) (ci := 9) (v := .ref mtape) X hE hP 0 rfl rfl iX9 46 (by decide) w_364 rfl dX9_feed_76 ?_
  refine lv_aload_n hx hb dX9_feed_79 rfl (lv_at hl 3 rfl) ?_
  refine k_get (C := RX9) (T := TX9) (N := 79) (ci := 9) (v := .int 0) X hE hP 0 rfl rfl iX9 47 (by decide) w_425 rfl dX9_feed_80 ?_
  refine lv_iload hx hb dX9_feed_83 (lv_at hl 2 rfl) ?_
  refine lv_iadd hx hb dX9_feed_85 ?_
  refine tk (y := 15) (by decide) ?_
  refine lv_iload hx hb dX9_feed_86 (lv_at hl 0 rfl) ?_
  refine lv_bipush (v := 24) hx hb dX9_feed_88 (by decide) ?_
  refine lv_bipush (v := 8) hx hb dX9_feed_90 (by decide) ?_
  refine lv_iload hx hb dX9_feed_92 (lv_at hl 2 rfl) ?_
  refine lv_iconst (v := 3) hx hb dX9_feed_94 (by decide) ?_
  refine lv_iand hx hb dX9_feed_95 ?_
  refine tk (y := 3) (by decide) ?_
  refine lv_imul hx hb dX9_feed_96 ?_
  refine tk (y := 24) (by decide) ?_
  refine lv_isub hx hb dX9_feed_97 ?_
  refine tk (y := 0) (by decide) ?_
  refine lv_ishr hx hb dX9_feed_98 ?_
  refine lv_sipush (v := 255) hx hb dX9_feed_99 (by decide) ?_
  refine lv_iand hx hb dX9_feed_102 ?_
  refine k_ast X hE hP hD hS 1 rfl 15 rfl (by decide) (by decide) [(h0, .inr (9, [.ref mwords, .ref mstore, .int 0, .int 0, .int 0, .int 255, .int 0, .int 0, .int 0, .int 1, .int 0, .int 0, .int 0, .int 0, .int 0, .int 0, .int 0, .int 0, .int 0, .int 0, .int 0, .int 0, .int 0, .int 0, .int 1, .int 0, .ref mkeys, .ref mrests, .int 0, .int 0, .int 0, .int 0, .int 0, .ref mring, .ref mstrip, .ref mpins, .ref mstops, .int 0, .int 0, .int 0, .ref mdone, .ref mkept, .int 0, .int 0, .int 0, .int 0, .ref mtape, .int 0, .int (-1), .int (-1), .ref mnameValue, .ref mnamePlace, .ref mnameEquals, .int 0, .ref mout, .int 0, .int 0, .int 0, .int 0, .int 0, .int 0, .int 0, .int 0, .int 0, .int 0, .int 0, .int 0, .int 0, .int 0, .int 0, .ref mtellFrom, .ref mtellEnd, .ref mtellValue, .ref mtellEquals, .ref mlaid, .int 0, .int 0, .int 0, .int 0])), (mtape, .inl (cA, 6020, .inl (upd (upd (upd (upd (upd (upd (upd (upd (upd (upd (upd (upd (upd (upd (upd (upd (fun _ => 0) 0 ((v1 >>> (24 &&& 31)) &&& 255)) 1 ((v1 >>> (16 &&& 31)) &&& 255)) 2 ((v1 >>> (8 &&& 31)) &&& 255)) 3 ((v1 >>> (0 &&& 31)) &&& 255)) 4 ((v2 >>> (24 &&& 31)) &&& 255)) 5 ((v2 >>> (16 &&& 31)) &&& 255)) 6 ((v2 >>> (8 &&& 31)) &&& 255)) 7 ((v2 >>> (0 &&& 31)) &&& 255)) 8 ((v3 >>> (24 &&& 31)) &&& 255)) 9 ((v3 >>> (16 &&& 31)) &&& 255)) 10 ((v3 >>> (8 &&& 31)) &&& 255)) 11 ((v3 >>> (0 &&& 31)) &&& 255)) 12 ((v4 >>> (24 &&& 31)) &&& 255)) 13 ((v4 >>> (16 &&& 31)) &&& 255)) 14 ((v4 >>> (8 &&& 31)) &&& 255)) 15 ((v4 >>> (0 &&& 31)) &&& 255))))] rfl dX9_feed_103 (fun H locs hP hD hS => ?_)
  refine lv_iinc (v := 16) (lv' := [(6, .int 16), (8, .int v4), (7, .int 3), (0, .ref h0), (1, .int v1), (2, .int v2), (3, .int v3), (4, .int v4), (5, .int v5)]) hx hb dX9_feed_104 hl (k := 2) rfl (by decide) (by decide) rfl (fun ls hl => ?_)
  refine lv_goto (tgt := 18) hx hb dX9_feed_107 (by decide) ?_
  refine lv_iload hx hb dX9_feed_18 (lv_at hl 0 rfl) ?_
  refine lv_bipush (v := 20) hx hb dX9_feed_20 (by decide) ?_
  refine lv_icmp_ge (tgt := 110) hx hb dX9_feed_22 (by decide) (fun c_22_52 => absurd c_22_52 (by decide)) (fun c_22_52 => ?_)
  refine lv_iload hx hb dX9_feed_25 (lv_at hl 0 rfl) ?_
  refine lv_iconst (v := 2) hx hb dX9_feed_27 (by decide) ?_
  refine lv_ishr hx hb dX9_feed_28 ?_
  refine tk (y := 4) (by decide) ?_
  refine lv_istore (lv' := [(7, .int 4), (6, .int 16), (8, .int v4), (0, .ref h0), (1, .int v1), (2, .int v2), (3, .int v3), (4, .int v4), (5, .int v5)]) hx hb dX9_feed_29 hl (by decide) rfl (fun ls hl => ?_)
  refine lv_iload hx hb dX9_feed_31 (lv_at hl 0 rfl) ?_
  refine lv_if_ne (tgt := 40) hx hb dX9_feed_33 (by decide) (fun c_33_53 => ?_) (fun c_33_53 => absurd c_33_53 (by decide))
  refine lv_iload hx hb dX9_feed_40 (lv_at hl 0 rfl) ?_
  refine lv_iconst (v := 1) hx hb dX9_feed_42 (by decide) ?_
  refine lv_icmp_ne (tgt := 50) hx hb dX9_feed_43 (by decide) (fun c_43_54 => ?_) (fun c_43_54 => absurd c_43_54 (by decide))
  refine lv_iload hx hb dX9_feed_50 (lv_at hl 0 rfl) ?_
  refine lv_iconst (v := 2) hx hb dX9_feed_52 (by decide) ?_
  refine lv_icmp_ne (tgt := 60) hx hb dX9_feed_53 (by decide) (fun c_53_55 => ?_) (fun c_53_55 => absurd c_53_55 (by decide))
  refine lv_iload hx hb dX9_feed_60 (lv_at hl 0 rfl) ?_
  refine lv_iconst (v := 3) hx hb dX9_feed_62 (by decide) ?_
  refine lv_icmp_ne (tgt := 71) hx hb dX9_feed_63 (by decide) (fun c_63_56 => ?_) (fun c_63_56 => absurd c_63_56 (by decide))
  refine lv_iload hx hb dX9_feed_71 (lv_at hl 8 rfl) ?_
  refine lv_istore (lv' := [(8, .int v5), (7, .int 4), (6, .int 16), (0, .ref h0), (1, .int v1), (2, .int v2), (3, .int v3), (4, .int v4), (5, .int v5)]) hx hb dX9_feed_73 hl (by decide) rfl (fun ls hl => ?_)
  refine lv_aload_n hx hb dX9_feed_75 rfl (lv_at hl 3 rfl) ?_
  refine k_get (C := RX9) (T := TX9) (N := 79) (ci := 9) (v := .ref mtape) X hE hP 0 rfl rfl iX9 46 (by decide) w_364 rfl dX9_feed_76 ?_
  refine lv_aload_n hx hb dX9_feed_79 rfl (lv_at hl 3 rfl) ?_
  refine k_get (C := RX9) (T := TX9) (N := 79) (ci := 9) (v := .int 0) X hE hP 0 rfl rfl iX9 47 (by decide) w_425 rfl dX9_feed_80 ?_
  refine lv_iload hx hb dX9_feed_83 (lv_at hl 2 rfl) ?_
  refine lv_iadd hx hb dX9_feed_85 ?_
  refine tk (y := 16) (by decide) ?_
  refine lv_iload hx hb dX9_feed_86 (lv_at hl 0 rfl) ?_
  refine lv_bipush (v := 24) hx hb dX9_feed_88 (by decide) ?_
  refine lv_bipush (v := 8) hx hb dX9_feed_90 (by decide) ?_
  refine lv_iload hx hb dX9_feed_92 (lv_at hl 2 rfl) ?_
  refine lv_iconst (v := 3) hx hb dX9_feed_94 (by decide) ?_
  refine lv_iand hx hb dX9_feed_95 ?_
  refine tk (y := 0) (by decide) ?_
  refine lv_imul hx hb dX9_feed_96 ?_
  refine tk (y := 0) (by decide) ?_
  refine lv_isub hx hb dX9_feed_97 ?_
  refine tk (y := 24) (by decide) ?_
  refine lv_ishr hx hb dX9_feed_98 ?_
  refine lv_sipush (v := 255) hx hb dX9_feed_99 (by decide) ?_
  refine lv_iand hx hb dX9_feed_102 ?_
  refine k_ast X hE hP hD hS 1 rfl 16 rfl (by decide) (by decide) [(h0, .inr (9, [.ref mwords, .ref mstore, .int 0, .int 0, .int 0, .int 255, .int 0, .int 0, .int 0, .int 1, .int 0, .int 0, .int 0, .int 0, .int 0, .int 0, .int 0, .int 0, .int 0, .int 0, .int 0, .int 0, .int 0, .int 0, .int 1, .int 0, .ref mkeys, .ref mrests, .int 0, .int 0, .int 0, .int 0, .int 0, .ref mring, .ref mstrip, .ref mpins, .ref mstops, .int 0, .int 0, .int 0, .ref mdone, .ref mkept, .int 0, .int 0, .int 0, .int 0, .ref mtape, .int 0, .int (-1), .int (-1), .ref mnameValue, .ref mnamePlace, .ref mnameEquals, .int 0, .ref mout, .int 0, .int 0, .int 0, .int 0, .int 0, .int 0, .int 0, .int 0, .int 0, .int 0, .int 0, .int 0, .int 0, .int 0, .int 0, .ref mtellFrom, .ref mtellEnd, .ref mtellValue, .ref mtellEquals, .ref mlaid, .int 0, .int 0, .int 0, .int 0])), (mtape, .inl (cA, 6020, .inl (upd (upd (upd (upd (upd (upd (upd (upd (upd (upd (upd (upd (upd (upd (upd (upd (upd (fun _ => 0) 0 ((v1 >>> (24 &&& 31)) &&& 255)) 1 ((v1 >>> (16 &&& 31)) &&& 255)) 2 ((v1 >>> (8 &&& 31)) &&& 255)) 3 ((v1 >>> (0 &&& 31)) &&& 255)) 4 ((v2 >>> (24 &&& 31)) &&& 255)) 5 ((v2 >>> (16 &&& 31)) &&& 255)) 6 ((v2 >>> (8 &&& 31)) &&& 255)) 7 ((v2 >>> (0 &&& 31)) &&& 255)) 8 ((v3 >>> (24 &&& 31)) &&& 255)) 9 ((v3 >>> (16 &&& 31)) &&& 255)) 10 ((v3 >>> (8 &&& 31)) &&& 255)) 11 ((v3 >>> (0 &&& 31)) &&& 255)) 12 ((v4 >>> (24 &&& 31)) &&& 255)) 13 ((v4 >>> (16 &&& 31)) &&& 255)) 14 ((v4 >>> (8 &&& 31)) &&& 255)) 15 ((v4 >>> (0 &&& 31)) &&& 255)) 16 ((v5 >>> (24 &&& 31)) &&& 255))))] rfl dX9_feed_103 (fun H locs hP hD hS => ?_)
  refine lv_iinc (v := 17) (lv' := [(6, .int 17), (8, .int v5), (7, .int 4), (0, .ref h0), (1, .int v1), (2, .int v2), (3, .int v3), (4, .int v4), (5, .int v5)]) hx hb dX9_feed_104 hl (k := 2) rfl (by decide) (by decide) rfl (fun ls hl => ?_)
  refine lv_goto (tgt := 18) hx hb dX9_feed_107 (by decide) ?_
  refine lv_iload hx hb dX9_feed_18 (lv_at hl 0 rfl) ?_
  refine lv_bipush (v := 20) hx hb dX9_feed_20 (by decide) ?_
  refine lv_icmp_ge (tgt := 110) hx hb dX9_feed_22 (by decide) (fun c_22_57 => absurd c_22_57 (by decide)) (fun c_22_57 => ?_)
  refine lv_iload hx hb dX9_feed_25 (lv_at hl 0 rfl) ?_
  refine lv_iconst (v := 2) hx hb dX9_feed_27 (by decide) ?_
  refine lv_ishr hx hb dX9_feed_28 ?_
  refine tk (y := 4) (by decide) ?_
  refine lv_istore (lv' := [(7, .int 4), (6, .int 17), (8, .int v5), (0, .ref h0), (1, .int v1), (2, .int v2), (3, .int v3), (4, .int v4), (5, .int v5)]) hx hb dX9_feed_29 hl (by decide) rfl (fun ls hl => ?_)
  refine lv_iload hx hb dX9_feed_31 (lv_at hl 0 rfl) ?_
  refine lv_if_ne (tgt := 40) hx hb dX9_feed_33 (by decide) (fun c_33_58 => ?_) (fun c_33_58 => absurd c_33_58 (by decide))
  refine lv_iload hx hb dX9_feed_40 (lv_at hl 0 rfl) ?_
  refine lv_iconst (v := 1) hx hb dX9_feed_42 (by decide) ?_
  refine lv_icmp_ne (tgt := 50) hx hb dX9_feed_43 (by decide) (fun c_43_59 => ?_) (fun c_43_59 => absurd c_43_59 (by decide))
  refine lv_iload hx hb dX9_feed_50 (lv_at hl 0 rfl) ?_
  refine lv_iconst (v := 2) hx hb dX9_feed_52 (by decide) ?_
  refine lv_icmp_ne (tgt := 60) hx hb dX9_feed_53 (by decide) (fun c_53_60 => ?_) (fun c_53_60 => absurd c_53_60 (by decide))
  refine lv_iload hx hb dX9_feed_60 (lv_at hl 0 rfl) ?_
  refine lv_iconst (v := 3) hx hb dX9_feed_62 (by decide) ?_
  refine lv_icmp_ne (tgt := 71) hx hb dX9_feed_63 (by decide) (fun c_63_61 => ?_) (fun c_63_61 => absurd c_63_61 (by decide))
  refine lv_iload hx hb dX9_feed_71 (lv_at hl 8 rfl) ?_
  refine lv_istore (lv' := [(8, .int v5), (7, .int 4), (6, .int 17), (0, .ref h0), (1, .int v1), (2, .int v2), (3, .int v3), (4, .int v4), (5, .int v5)]) hx hb dX9_feed_73 hl (by decide) rfl (fun ls hl => ?_)
  refine lv_aload_n hx hb dX9_feed_75 rfl (lv_at hl 3 rfl) ?_
  refine k_get (C := RX9) (T := TX9) (N := 79) (ci := 9) (v := .ref mtape) X hE hP 0 rfl rfl iX9 46 (by decide) w_364 rfl dX9_feed_76 ?_
  refine lv_aload_n hx hb dX9_feed_79 rfl (lv_at hl 3 rfl) ?_
  refine k_get (C := RX9) (T := TX9) (N := 79) (ci := 9) (v := .int 0) X hE hP 0 rfl rfl iX9 47 (by decide) w_425 rfl dX9_feed_80 ?_
  refine lv_iload hx hb dX9_feed_83 (lv_at hl 2 rfl) ?_
  refine lv_iadd hx hb dX9_feed_85 ?_
  refine tk (y := 17) (by decide) ?_
  refine lv_iload hx hb dX9_feed_86 (lv_at hl 0 rfl) ?_
  refine lv_bipush (v := 24) hx hb dX9_feed_88 (by decide) ?_
  refine lv_bipush (v := 8) hx hb dX9_feed_90 (by decide) ?_
  refine lv_iload hx hb dX9_feed_92 (lv_at hl 2 rfl) ?_
  refine lv_iconst (v := 3) hx hb dX9_feed_94 (by decide) ?_
  refine lv_iand hx hb dX9_feed_95 ?_
  refine tk (y := 1) (by decide) ?_
  refine lv_imul hx hb dX9_feed_96 ?_
  refine tk (y := 8) (by decide) ?_
  refine lv_isub hx hb dX9_feed_97 ?_
  refine tk (y := 16) (by decide) ?_
  refine lv_ishr hx hb dX9_feed_98 ?_
  refine lv_sipush (v := 255) hx hb dX9_feed_99 (by decide) ?_
  refine lv_iand hx hb dX9_feed_102 ?_
  refine k_ast X hE hP hD hS 1 rfl 17 rfl (by decide) (by decide) [(h0, .inr (9, [.ref mwords, .ref mstore, .int 0, .int 0, .int 0, .int 255, .int 0, .int 0, .int 0, .int 1, .int 0, .int 0, .int 0, .int 0, .int 0, .int 0, .int 0, .int 0, .int 0, .int 0, .int 0, .int 0, .int 0, .int 0, .int 1, .int 0, .ref mkeys, .ref mrests, .int 0, .int 0, .int 0, .int 0, .int 0, .ref mring, .ref mstrip, .ref mpins, .ref mstops, .int 0, .int 0, .int 0, .ref mdone, .ref mkept, .int 0, .int 0, .int 0, .int 0, .ref mtape, .int 0, .int (-1), .int (-1), .ref mnameValue, .ref mnamePlace, .ref mnameEquals, .int 0, .ref mout, .int 0, .int 0, .int 0, .int 0, .int 0, .int 0, .int 0, .int 0, .int 0, .int 0, .int 0, .int 0, .int 0, .int 0, .int 0, .ref mtellFrom, .ref mtellEnd, .ref mtellValue, .ref mtellEquals, .ref mlaid, .int 0, .int 0, .int 0, .int 0])), (mtape, .inl (cA, 6020, .inl (upd (upd (upd (upd (upd (upd (upd (upd (upd (upd (upd (upd (upd (upd (upd (upd (upd (upd (fun _ => 0) 0 ((v1 >>> (24 &&& 31)) &&& 255)) 1 ((v1 >>> (16 &&& 31)) &&& 255)) 2 ((v1 >>> (8 &&& 31)) &&& 255)) 3 ((v1 >>> (0 &&& 31)) &&& 255)) 4 ((v2 >>> (24 &&& 31)) &&& 255)) 5 ((v2 >>> (16 &&& 31)) &&& 255)) 6 ((v2 >>> (8 &&& 31)) &&& 255)) 7 ((v2 >>> (0 &&& 31)) &&& 255)) 8 ((v3 >>> (24 &&& 31)) &&& 255)) 9 ((v3 >>> (16 &&& 31)) &&& 255)) 10 ((v3 >>> (8 &&& 31)) &&& 255)) 11 ((v3 >>> (0 &&& 31)) &&& 255)) 12 ((v4 >>> (24 &&& 31)) &&& 255)) 13 ((v4 >>> (16 &&& 31)) &&& 255)) 14 ((v4 >>> (8 &&& 31)) &&& 255)) 15 ((v4 >>> (0 &&& 31)) &&& 255)) 16 ((v5 >>> (24 &&& 31)) &&& 255)) 17 ((v5 >>> (16 &&& 31)) &&& 255))))] rfl dX9_feed_103 (fun H locs hP hD hS => ?_)
  refine lv_iinc (v := 18) (lv' := [(6, .int 18), (8, .int v5), (7, .int 4), (0, .ref h0), (1, .int v1), (2, .int v2), (3, .int v3), (4, .int v4), (5, .int v5)]) hx hb dX9_feed_104 hl (k := 2) rfl (by decide) (by decide) rfl (fun ls hl => ?_)
  refine lv_goto (tgt := 18) hx hb dX9_feed_107 (by decide) ?_
  refine lv_iload hx hb dX9_feed_18 (lv_at hl 0 rfl) ?_
  refine lv_bipush (v := 20) hx hb dX9_feed_20 (by decide) ?_
  refine lv_icmp_ge (tgt := 110) hx hb dX9_feed_22 (by decide) (fun c_22_62 => absurd c_22_62 (by decide)) (fun c_22_62 => ?_)
  refine lv_iload hx hb dX9_feed_25 (lv_at hl 0 rfl) ?_
  refine lv_iconst (v := 2) hx hb dX9_feed_27 (by decide) ?_
  refine lv_ishr hx hb dX9_feed_28 ?_
  refine tk (y := 4) (by decide) ?_
  refine lv_istore (lv' := [(7, .int 4), (6, .int 18), (8, .int v5), (0, .ref h0), (1, .int v1), (2, .int v2), (3, .int v3), (4, .int v4), (5, .int v5)]) hx hb dX9_feed_29 hl (by decide) rfl (fun ls hl => ?_)
  refine lv_iload hx hb dX9_feed_31 (lv_at hl 0 rfl) ?_
  refine lv_if_ne (tgt := 40) hx hb dX9_feed_33 (by decide) (fun c_33_63 => ?_) (fun c_33_63 => absurd c_33_63 (by decide))
  refine lv_iload hx hb dX9_feed_40 (lv_at hl 0 rfl) ?_
  refine lv_iconst (v := 1) hx hb dX9_feed_42 (by decide) ?_
  refine lv_icmp_ne (tgt := 50) hx hb dX9_feed_43 (by decide) (fun c_43_64 => ?_) (fun c_43_64 => absurd c_43_64 (by decide))
  refine lv_iload hx hb dX9_feed_50 (lv_at hl 0 rfl) ?_
  refine lv_iconst (v := 2) hx hb dX9_feed_52 (by decide) ?_
  refine lv_icmp_ne (tgt := 60) hx hb dX9_feed_53 (by decide) (fun c_53_65 => ?_) (fun c_53_65 => absurd c_53_65 (by decide))
  refine lv_iload hx hb dX9_feed_60 (lv_at hl 0 rfl) ?_
  refine lv_iconst (v := 3) hx hb dX9_feed_62 (by decide) ?_
  refine lv_icmp_ne (tgt := 71) hx hb dX9_feed_63 (by decide) (fun c_63_66 => ?_) (fun c_63_66 => absurd c_63_66 (by decide))
  refine lv_iload hx hb dX9_feed_71 (lv_at hl 8 rfl) ?_
  refine lv_istore (lv' := [(8, .int v5), (7, .int 4), (6, .int 18), (0, .ref h0), (1, .int v1), (2, .int v2), (3, .int v3), (4, .int v4), (5, .int v5)]) hx hb dX9_feed_73 hl (by decide) rfl (fun ls hl => ?_)
  refine lv_aload_n hx hb dX9_feed_75 rfl (lv_at hl 3 rfl) ?_
  refine k_get (C := RX9) (T := TX9) (N := 79) (ci := 9) (v := .ref mtape) X hE hP 0 rfl rfl iX9 46 (by decide) w_364 rfl dX9_feed_76 ?_
  refine lv_aload_n hx hb dX9_feed_79 rfl (lv_at hl 3 rfl) ?_
  refine k_get (C := RX9) (T := TX9) (N := 79) (ci := 9) (v := .int 0) X hE hP 0 rfl rfl iX9 47 (by decide) w_425 rfl dX9_feed_80 ?_
  refine lv_iload hx hb dX9_feed_83 (lv_at hl 2 rfl) ?_
  refine lv_iadd hx hb dX9_feed_85 ?_
  refine tk (y := 18) (by decide) ?_
  refine lv_iload hx hb dX9_feed_86 (lv_at hl 0 rfl) ?_
  refine lv_bipush (v := 24) hx hb dX9_feed_88 (by decide) ?_
  refine lv_bipush (v := 8) hx hb dX9_feed_90 (by decide) ?_
  refine lv_iload hx hb dX9_feed_92 (lv_at hl 2 rfl) ?_
  refine lv_iconst (v := 3) hx hb dX9_feed_94 (by decide) ?_
  refine lv_iand hx hb dX9_feed_95 ?_
  refine tk (y := 2) (by decide) ?_
  refine lv_imul hx hb dX9_feed_96 ?_
  refine tk (y := 16) (by decide) ?_
  refine lv_isub hx hb dX9_feed_97 ?_
  refine tk (y := 8) (by decide) ?_
  refine lv_ishr hx hb dX9_feed_98 ?_
  refine lv_sipush (v := 255) hx hb dX9_feed_99 (by decide) ?_
  refine lv_iand hx hb dX9_feed_102 ?_
  refine k_ast X hE hP hD hS 1 rfl 18 rfl (by decide) (by decide) [(h0, .inr (9, [.ref mwords, .ref mstore, .int 0, .int 0, .int 0, .int 255, .int 0, .int 0, .int 0, .int 1, .int 0, .int 0, .int 0, .int 0, .int 0, .int 0, .int 0, .int 0, .int 0, .int 0, .int 0, .int 0, .int 0, .int 0, .int 1, .int 0, .ref mkeys, .ref mrests, .int 0, .int 0, .int 0, .int 0, .int 0, .ref mring, .ref mstrip, .ref mpins, .ref mstops, .int 0, .int 0, .int 0, .ref mdone, .ref mkept, .int 0, .int 0, .int 0, .int 0, .ref mtape, .int 0, .int (-1), .int (-1), .ref mnameValue, .ref mnamePlace, .ref mnameEquals, .int 0, .ref mout, .int 0, .int 0, .int 0, .int 0, .int 0, .int 0, .int 0, .int 0, .int 0, .int 0, .int 0, .int 0, .int 0, .int 0, .int 0, .ref mtellFrom, .ref mtellEnd, .ref mtellValue, .ref mtellEquals, .ref mlaid, .int 0, .int 0, .int 0, .int 0])), (mtape, .inl (cA, 6020, .inl (upd (upd (upd (upd (upd (upd (upd (upd (upd (upd (upd (upd (upd (upd (upd (upd (upd (upd (upd (fun _ => 0) 0 ((v1 >>> (24 &&& 31)) &&& 255)) 1 ((v1 >>> (16 &&& 31)) &&& 255)) 2 ((v1 >>> (8 &&& 31)) &&& 255)) 3 ((v1 >>> (0 &&& 31)) &&& 255)) 4 ((v2 >>> (24 &&& 31)) &&& 255)) 5 ((v2 >>> (16 &&& 31)) &&& 255)) 6 ((v2 >>> (8 &&& 31)) &&& 255)) 7 ((v2 >>> (0 &&& 31)) &&& 255)) 8 ((v3 >>> (24 &&& 31)) &&& 255)) 9 ((v3 >>> (16 &&& 31)) &&& 255)) 10 ((v3 >>> (8 &&& 31)) &&& 255)) 11 ((v3 >>> (0 &&& 31)) &&& 255)) 12 ((v4 >>> (24 &&& 31)) &&& 255)) 13 ((v4 >>> (16 &&& 31)) &&& 255)) 14 ((v4 >>> (8 &&& 31)) &&& 255)) 15 ((v4 >>> (0 &&& 31)) &&& 255)) 16 ((v5 >>> (24 &&& 31)) &&& 255)) 17 ((v5 >>> (16 &&& 31)) &&& 255)) 18 ((v5 >>> (8 &&& 31)) &&& 255))))] rfl dX9_feed_103 (fun H locs hP hD hS => ?_)
  refine lv_iinc (v := 19) (lv' := [(6, .int 19), (8, .int v5), (7, .int 4), (0, .ref h0), (1, .int v1), (2, .int v2), (3, .int v3), (4, .int v4), (5, .int v5)]) hx hb dX9_feed_104 hl (k := 2) rfl (by decide) (by decide) rfl (fun ls hl => ?_)
  refine lv_goto (tgt := 18) hx hb dX9_feed_107 (by decide) ?_
  refine lv_iload hx hb dX9_feed_18 (lv_at hl 0 rfl) ?_
  refine lv_bipush (v := 20) hx hb dX9_feed_20 (by decide) ?_
  refine lv_icmp_ge (tgt := 110) hx hb dX9_feed_22 (by decide) (fun c_22_67 => absurd c_22_67 (by decide)) (fun c_22_67 => ?_)
  refine lv_iload hx hb dX9_feed_25 (lv_at hl 0 rfl) ?_
  refine lv_iconst (v := 2) hx hb dX9_feed_27 (by decide) ?_
  refine lv_ishr hx hb dX9_feed_28 ?_
  refine tk (y := 4) (by decide) ?_
  refine lv_istore (lv' := [(7, .int 4), (6, .int 19), (8, .int v5), (0, .ref h0), (1, .int v1), (2, .int v2), (3, .int v3), (4, .int v4), (5, .int v5)]) hx hb dX9_feed_29 hl (by decide) rfl (fun ls hl => ?_)
  refine lv_iload hx hb dX9_feed_31 (lv_at hl 0 rfl) ?_
  refine lv_if_ne (tgt := 40) hx hb dX9_feed_33 (by decide) (fun c_33_68 => ?_) (fun c_33_68 => absurd c_33_68 (by decide))
  refine lv_iload hx hb dX9_feed_40 (lv_at hl 0 rfl) ?_
  refine lv_iconst (v := 1) hx hb dX9_feed_42 (by decide) ?_
  refine lv_icmp_ne (tgt := 50) hx hb dX9_feed_43 (by decide) (fun c_43_69 => ?_) (fun c_43_69 => absurd c_43_69 (by decide))
  refine lv_iload hx hb dX9_feed_50 (lv_at hl 0 rfl) ?_
  refine lv_iconst (v := 2) hx hb dX9_feed_52 (by decide) ?_
  refine lv_icmp_ne (tgt := 60) hx hb dX9_feed_53 (by decide) (fun c_53_70 => ?_) (fun c_53_70 => absurd c_53_70 (by decide))
  refine lv_iload hx hb dX9_feed_60 (lv_at hl 0 rfl) ?_
  refine lv_iconst (v := 3) hx hb dX9_feed_62 (by decide) ?_
  refine lv_icmp_ne (tgt := 71) hx hb dX9_feed_63 (by decide) (fun c_63_71 => ?_) (fun c_63_71 => absurd c_63_71 (by decide))
  refine lv_iload hx hb dX9_feed_71 (lv_at hl 8 rfl) ?_
  refine lv_istore (lv' := [(8, .int v5), (7, .int 4), (6, .int 19), (0, .ref h0), (1, .int v1), (2, .int v2), (3, .int v3), (4, .int v4), (5, .int v5)]) hx hb dX9_feed_73 hl (by decide) rfl (fun ls hl => ?_)
  refine lv_aload_n hx hb dX9_feed_75 rfl (lv_at hl 3 rfl) ?_
  refine k_get (C := RX9) (T := TX9) (N := 79) (ci := 9) (v := .ref mtape) X hE hP 0 rfl rfl iX9 46 (by decide) w_364 rfl dX9_feed_76 ?_
  refine lv_aload_n hx hb dX9_feed_79 rfl (lv_at hl 3 rfl) ?_
  refine k_get (C := RX9) (T := TX9) (N := 79) (ci := 9) (v := .int 0) X hE hP 0 rfl rfl iX9 47 (by decide) w_425 rfl dX9_feed_80 ?_
  refine lv_iload hx hb dX9_feed_83 (lv_at hl 2 rfl) ?_
  refine lv_iadd hx hb dX9_feed_85 ?_
  refine tk (y := 19) (by decide) ?_
  refine lv_iload hx hb dX9_feed_86 (lv_at hl 0 rfl) ?_
  refine lv_bipush (v := 24) hx hb dX9_feed_88 (by decide) ?_
  refine lv_bipush (v := 8) hx hb dX9_feed_90 (by decide) ?_
  refine lv_iload hx hb dX9_feed_92 (lv_at hl 2 rfl) ?_
  refine lv_iconst (v := 3) hx hb dX9_feed_94 (by decide) ?_
  refine lv_iand hx hb dX9_feed_95 ?_
  refine tk (y := 3) (by decide) ?_
  refine lv_imul hx hb dX9_feed_96 ?_
  refine tk (y := 24) (by decide) ?_
  refine lv_isub hx hb dX9_feed_97 ?_
  refine tk (y := 0) (by decide) ?_
  refine lv_ishr hx hb dX9_feed_98 ?_
  refine lv_sipush (v := 255) hx hb dX9_feed_99 (by decide) ?_
  refine lv_iand hx hb dX9_feed_102 ?_
  refine k_ast X hE hP hD hS 1 rfl 19 rfl (by decide) (by decide) [(h0, .inr (9, [.ref mwords, .ref mstore, .int 0, .int 0, .int 0, .int 255, .int 0, .int 0, .int 0, .int 1, .int 0, .int 0, .int 0, .int 0, .int 0, .int 0, .int 0, .int 0, .int 0, .int 0, .int 0, .int 0, .int 0, .int 0, .int 1, .int 0, .ref mkeys, .ref mrests, .int 0, .int 0, .int 0, .int 0, .int 0, .ref mring, .ref mstrip, .ref mpins, .ref mstops, .int 0, .int 0, .int 0, .ref mdone, .ref mkept, .int 0, .int 0, .int 0, .int 0, .ref mtape, .int 0, .int (-1), .int (-1), .ref mnameValue, .ref mnamePlace, .ref mnameEquals, .int 0, .ref mout, .int 0, .int 0, .int 0, .int 0, .int 0, .int 0, .int 0, .int 0, .int 0, .int 0, .int 0, .int 0, .int 0, .int 0, .int 0, .ref mtellFrom, .ref mtellEnd, .ref mtellValue, .ref mtellEquals, .ref mlaid, .int 0, .int 0, .int 0, .int 0])), (mtape, .inl (cA, 6020, .inl (upd (upd (upd (upd (upd (upd (upd (upd (upd (upd (upd (upd (upd (upd (upd (upd (upd (upd (upd (upd (fun _ => 0) 0 ((v1 >>> (24 &&& 31)) &&& 255)) 1 ((v1 >>> (16 &&& 31)) &&& 255)) 2 ((v1 >>> (8 &&& 31)) &&& 255)) 3 ((v1 >>> (0 &&& 31)) &&& 255)) 4 ((v2 >>> (24 &&& 31)) &&& 255)) 5 ((v2 >>> (16 &&& 31)) &&& 255)) 6 ((v2 >>> (8 &&& 31)) &&& 255)) 7 ((v2 >>> (0 &&& 31)) &&& 255)) 8 ((v3 >>> (24 &&& 31)) &&& 255)) 9 ((v3 >>> (16 &&& 31)) &&& 255)) 10 ((v3 >>> (8 &&& 31)) &&& 255)) 11 ((v3 >>> (0 &&& 31)) &&& 255)) 12 ((v4 >>> (24 &&& 31)) &&& 255)) 13 ((v4 >>> (16 &&& 31)) &&& 255)) 14 ((v4 >>> (8 &&& 31)) &&& 255)) 15 ((v4 >>> (0 &&& 31)) &&& 255)) 16 ((v5 >>> (24 &&& 31)) &&& 255)) 17 ((v5 >>> (16 &&& 31)) &&& 255)) 18 ((v5 >>> (8 &&& 31)) &&& 255)) 19 ((v5 >>> (0 &&& 31)) &&& 255))))] rfl dX9_feed_103 (fun H locs hP hD hS => ?_)
  refine lv_iinc (v := 20) (lv' := [(6, .int 20), (8, .int v5), (7, .int 4), (0, .ref h0), (1, .int v1), (2, .int v2), (3, .int v3), (4, .int v4), (5, .int v5)]) hx hb dX9_feed_104 hl (k := 2) rfl (by decide) (by decide) rfl (fun ls hl => ?_)
  refine lv_goto (tgt := 18) hx hb dX9_feed_107 (by decide) ?_
  refine lv_iload hx hb dX9_feed_18 (lv_at hl 0 rfl) ?_
  refine lv_bipush (v := 20) hx hb dX9_feed_20 (by decide) ?_
  refine lv_icmp_ge (tgt := 110) hx hb dX9_feed_22 (by decide) (fun c_22_72 => ?_) (fun c_22_72 => absurd (by decide) c_22_72)
  refine lv_aload_n hx hb dX9_feed_110 rfl (lv_at hl 3 rfl) ?_
  refine lv_dup hx hb dX9_feed_111 rfl ?_
  refine k_get (C := RX9) (T := TX9) (N := 79) (ci := 9) (v := .int 0) X hE hP 0 rfl rfl iX9 47 (by decide) w_425 rfl dX9_feed_112 ?_
  refine lv_bipush (v := 20) hx hb dX9_feed_115 (by decide) ?_
  refine lv_iadd hx hb dX9_feed_117 ?_
  refine tk (y := 20) (by decide) ?_
  refine k_put (C := RX9) (T := TX9) (N := 79) (ci := 9) (v := .int 20) (ty := .int) X hE hP hD hS 0 rfl rfl iX9 tyX9 tyX9_ok nmX9 47 (by decide) w_425 rfl (by decide +kernel) rfl rfl (Nat.le_of_ble_eq_true rfl) [(h0, .inr (9, [.ref mwords, .ref mstore, .int 0, .int 0, .int 0, .int 255, .int 0, .int 0, .int 0, .int 1, .int 0, .int 0, .int 0, .int 0, .int 0, .int 0, .int 0, .int 0, .int 0, .int 0, .int 0, .int 0, .int 0, .int 0, .int 1, .int 0, .ref mkeys, .ref mrests, .int 0, .int 0, .int 0, .int 0, .int 0, .ref mring, .ref mstrip, .ref mpins, .ref mstops, .int 0, .int 0, .int 0, .ref mdone, .ref mkept, .int 0, .int 0, .int 0, .int 0, .ref mtape, .int 20, .int (-1), .int (-1), .ref mnameValue, .ref mnamePlace, .ref mnameEquals, .int 0, .ref mout, .int 0, .int 0, .int 0, .int 0, .int 0, .int 0, .int 0, .int 0, .int 0, .int 0, .int 0, .int 0, .int 0, .int 0, .int 0, .ref mtellFrom, .ref mtellEnd, .ref mtellValue, .ref mtellEquals, .ref mlaid, .int 0, .int 0, .int 0, .int 0])), (mtape, .inl (cA, 6020, .inl (upd (upd (upd (upd (upd (upd (upd (upd (upd (upd (upd (upd (upd (upd (upd (upd (upd (upd (upd (upd (fun _ => 0) 0 ((v1 >>> (24 &&& 31)) &&& 255)) 1 ((v1 >>> (16 &&& 31)) &&& 255)) 2 ((v1 >>> (8 &&& 31)) &&& 255)) 3 ((v1 >>> (0 &&& 31)) &&& 255)) 4 ((v2 >>> (24 &&& 31)) &&& 255)) 5 ((v2 >>> (16 &&& 31)) &&& 255)) 6 ((v2 >>> (8 &&& 31)) &&& 255)) 7 ((v2 >>> (0 &&& 31)) &&& 255)) 8 ((v3 >>> (24 &&& 31)) &&& 255)) 9 ((v3 >>> (16 &&& 31)) &&& 255)) 10 ((v3 >>> (8 &&& 31)) &&& 255)) 11 ((v3 >>> (0 &&& 31)) &&& 255)) 12 ((v4 >>> (24 &&& 31)) &&& 255)) 13 ((v4 >>> (16 &&& 31)) &&& 255)) 14 ((v4 >>> (8 &&& 31)) &&& 255)) 15 ((v4 >>> (0 &&& 31)) &&& 255)) 16 ((v5 >>> (24 &&& 31)) &&& 255)) 17 ((v5 >>> (16 &&& 31)) &&& 255)) 18 ((v5 >>> (8 &&& 31)) &&& 255)) 19 ((v5 >>> (0 &&& 31)) &&& 255))))] rfl dX9_feed_118 (fun H locs hP hD hS => ?_)
  refine lv_aload_n hx hb dX9_feed_121 rfl (lv_at hl 3 rfl) ?_
  refine k_get (C := RX9) (T := TX9) (N := 79) (ci := 9) (v := .int 20) X hE hP 0 rfl rfl iX9 47 (by decide) w_425 rfl dX9_feed_122 ?_
  exact endI X hr hlocks hP hD hS dX9_feed_125 rfl
