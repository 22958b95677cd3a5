abbrev cX4_doSteps : ByteArray := prog_6_method_5_code
def yX4_doSteps : MethodName := ⟨RX4, "doSteps", "(ILBelfryBox$Stops;)I"⟩
abbrev cX8_run : ByteArray := prog_1_method_13_code
def yX8_run : MethodName := ⟨RX8, "run", "(I)I"⟩
set_option maxRecDepth 100000 in
theorem w_217 : (Cond.fieldLink "BelfryBox$Processor" 47 "BelfryBox$Processor" "why" "I" : Cond) ∈ gw := List.mem_filter.mpr ⟨List.mem_append_right _ (tb1 (List.mem_of_getElem? (i := 82) rfl)), rfl⟩
set_option maxRecDepth 100000 in
theorem w_218 : (Cond.fieldLink "BelfryBox$Processor" 51 "BelfryBox$Processor" "done" "I" : Cond) ∈ gw := List.mem_filter.mpr ⟨List.mem_append_right _ (tb1 (List.mem_of_getElem? (i := 84) rfl)), rfl⟩
set_option maxRecDepth 100000 in
theorem w_219 : (Cond.methodLink "BelfryBox$Processor" 59 yX4_whyToEnd : Cond) ∈ gw := List.mem_filter.mpr ⟨List.mem_append_right _ (tb3 (List.mem_of_getElem? (i := 177) rfl)), rfl⟩
set_option maxRecDepth 100000 in
theorem w_220 : (Cond.code yX4_whyToEnd prog_6_method_6_code 3 (Option.some Jvm.ClassFile.FieldType.int) : Cond) ∈ gw := List.mem_filter.mpr ⟨List.mem_append_right _ (tb3 (List.mem_of_getElem? (i := 180) rfl)), rfl⟩
set_option maxRecDepth 100000 in
theorem w_221 : (Cond.instanceMethod yX4_whyToEnd : Cond) ∈ gw := List.mem_filter.mpr ⟨List.mem_append_right _ (tb3 (List.mem_of_getElem? (i := 179) rfl)), rfl⟩
set_option maxRecDepth 100000 in
theorem w_222 : (Cond.selects "BelfryBox$Processor" yX4_whyToEnd yX4_whyToEnd : Cond) ∈ gw := List.mem_filter.mpr ⟨List.mem_append_left _ (List.mem_map.mpr ⟨(⟨"BelfryBox$Processor", "whyToEnd", "(Z)I"⟩, 7), sl2 (List.mem_of_getElem? (i := 8) rfl), rfl⟩), rfl⟩
set_option maxRecDepth 100000 in
theorem w_223 : (Cond.methodLink "BelfryBox$Processor" 63 yX4_doStep : Cond) ∈ gw := List.mem_filter.mpr ⟨List.mem_append_right _ (tb3 (List.mem_of_getElem? (i := 189) rfl)), rfl⟩
set_option maxRecDepth 100000 in
theorem w_224 : (Cond.code yX4_doStep prog_6_method_8_code 3 (Option.none : Option Jvm.ClassFile.FieldType) : Cond) ∈ gw := List.mem_filter.mpr ⟨List.mem_append_right _ (tb3 (List.mem_of_getElem? (i := 192) rfl)), rfl⟩
set_option maxRecDepth 100000 in
theorem w_225 : (Cond.instanceMethod yX4_doStep : Cond) ∈ gw := List.mem_filter.mpr ⟨List.mem_append_right _ (tb3 (List.mem_of_getElem? (i := 191) rfl)), rfl⟩
set_option maxRecDepth 100000 in
theorem w_226 : (Cond.selects "BelfryBox$Processor" yX4_doStep yX4_doStep : Cond) ∈ gw := List.mem_filter.mpr ⟨List.mem_append_left _ (List.mem_map.mpr ⟨(⟨"BelfryBox$Processor", "doStep", "()V"⟩, 7), sl2 (List.mem_of_getElem? (i := 10) rfl), rfl⟩), rfl⟩
set_option maxRecDepth 100000 in
theorem w_227 : (Cond.methodLink "BelfryBox$Processor" 54 yX6_find : Cond) ∈ gw := List.mem_filter.mpr ⟨List.mem_append_right _ (tb3 (List.mem_of_getElem? (i := 176) rfl)), rfl⟩
set_option maxRecDepth 100000 in
theorem w_228 : (Cond.methodLink "BelfryBox" 137 yX4_doSteps : Cond) ∈ gw := List.mem_filter.mpr ⟨List.mem_append_right _ (tb3 (List.mem_of_getElem? (i := 172) rfl)), rfl⟩
set_option maxRecDepth 100000 in
theorem w_229 : (Cond.code yX4_doSteps prog_6_method_5_code 4 (Option.some Jvm.ClassFile.FieldType.int) : Cond) ∈ gw := List.mem_filter.mpr ⟨List.mem_append_right _ (tb3 (List.mem_of_getElem? (i := 175) rfl)), rfl⟩
set_option maxRecDepth 100000 in
theorem w_230 : (Cond.instanceMethod yX4_doSteps : Cond) ∈ gw := List.mem_filter.mpr ⟨List.mem_append_right _ (tb3 (List.mem_of_getElem? (i := 173) rfl)), rfl⟩
set_option maxRecDepth 100000 in
theorem w_231 : (Cond.selects "BelfryBox$Processor" yX4_doSteps yX4_doSteps : Cond) ∈ gw := List.mem_filter.mpr ⟨List.mem_append_right _ (tb3 (List.mem_of_getElem? (i := 174) rfl)), rfl⟩
theorem dX4_doSteps_0 : decode cX4_doSteps 0 = .ok (.aload_n 0, 1) := by decide +kernel
theorem dX4_doSteps_1 : decode cX4_doSteps 1 = .ok (.iconst 0, 1) := by decide +kernel
theorem dX4_doSteps_2 : decode cX4_doSteps 2 = .ok (.putfield 47, 3) := by decide +kernel
theorem dX4_doSteps_5 : decode cX4_doSteps 5 = .ok (.aload_n 0, 1) := by decide +kernel
theorem dX4_doSteps_6 : decode cX4_doSteps 6 = .ok (.iconst 0, 1) := by decide +kernel
theorem dX4_doSteps_7 : decode cX4_doSteps 7 = .ok (.putfield 51, 3) := by decide +kernel
theorem dX4_doSteps_10 : decode cX4_doSteps 10 = .ok (.iconst 0, 1) := by decide +kernel
theorem dX4_doSteps_11 : decode cX4_doSteps 11 = .ok (.istore_n 3, 1) := by decide +kernel
theorem dX4_doSteps_12 : decode cX4_doSteps 12 = .ok (.iload_n 3, 1) := by decide +kernel
theorem dX4_doSteps_13 : decode cX4_doSteps 13 = .ok (.iload_n 1, 1) := by decide +kernel
theorem dX4_doSteps_14 : decode cX4_doSteps 14 = .ok (.if_icmp .ge 64, 3) := by decide +kernel
theorem dX4_doSteps_78 : decode cX4_doSteps 78 = .ok (.aload_n 0, 1) := by decide +kernel
theorem dX4_doSteps_79 : decode cX4_doSteps 79 = .ok (.getfield 51, 3) := by decide +kernel
theorem dX4_doSteps_82 : decode cX4_doSteps 82 = .ok (.ireturn, 1) := by decide +kernel
theorem dX4_doSteps_17 : decode cX4_doSteps 17 = .ok (.aload_n 0, 1) := by decide +kernel
theorem dX4_doSteps_18 : decode cX4_doSteps 18 = .ok (.aload_n 0, 1) := by decide +kernel
theorem dX4_doSteps_19 : decode cX4_doSteps 19 = .ok (.iload_n 3, 1) := by decide +kernel
theorem dX4_doSteps_20 : decode cX4_doSteps 20 = .ok (.ifCond .le 21, 3) := by decide +kernel
theorem dX4_doSteps_41 : decode cX4_doSteps 41 = .ok (.iconst 0, 1) := by decide +kernel
theorem dX4_doSteps_42 : decode cX4_doSteps 42 = .ok (.invokevirtual 59, 3) := by decide +kernel
theorem dX4_doSteps_45 : decode cX4_doSteps 45 = .ok (.putfield 47, 3) := by decide +kernel
theorem dX4_doSteps_48 : decode cX4_doSteps 48 = .ok (.aload_n 0, 1) := by decide +kernel
theorem dX4_doSteps_49 : decode cX4_doSteps 49 = .ok (.getfield 47, 3) := by decide +kernel
theorem dX4_doSteps_52 : decode cX4_doSteps 52 = .ok (.ifCond .eq 6, 3) := by decide +kernel
theorem dX4_doSteps_58 : decode cX4_doSteps 58 = .ok (.aload_n 0, 1) := by decide +kernel
theorem dX4_doSteps_59 : decode cX4_doSteps 59 = .ok (.invokevirtual 63, 3) := by decide +kernel
theorem dX4_doSteps_62 : decode cX4_doSteps 62 = .ok (.aload_n 0, 1) := by decide +kernel
theorem dX4_doSteps_63 : decode cX4_doSteps 63 = .ok (.dup, 1) := by decide +kernel
theorem dX4_doSteps_64 : decode cX4_doSteps 64 = .ok (.getfield 51, 3) := by decide +kernel
theorem dX4_doSteps_67 : decode cX4_doSteps 67 = .ok (.iconst 1, 1) := by decide +kernel
theorem dX4_doSteps_68 : decode cX4_doSteps 68 = .ok (.iadd, 1) := by decide +kernel
theorem dX4_doSteps_69 : decode cX4_doSteps 69 = .ok (.putfield 51, 3) := by decide +kernel
theorem dX4_doSteps_72 : decode cX4_doSteps 72 = .ok (.iinc 3 1, 3) := by decide +kernel
theorem dX4_doSteps_75 : decode cX4_doSteps 75 = .ok (.goto (-63), 3) := by decide +kernel
theorem dX4_doSteps_23 : decode cX4_doSteps 23 = .ok (.aload_n 2, 1) := by decide +kernel
theorem dX4_doSteps_24 : decode cX4_doSteps 24 = .ok (.aload_n 0, 1) := by decide +kernel
theorem dX4_doSteps_25 : decode cX4_doSteps 25 = .ok (.getfield 15, 3) := by decide +kernel
theorem dX4_doSteps_28 : decode cX4_doSteps 28 = .ok (.iconst 4, 1) := by decide +kernel
theorem dX4_doSteps_29 : decode cX4_doSteps 29 = .ok (.iaload, 1) := by decide +kernel
theorem dX4_doSteps_30 : decode cX4_doSteps 30 = .ok (.invokevirtual 54, 3) := by decide +kernel
theorem dX4_doSteps_33 : decode cX4_doSteps 33 = .ok (.iconst (-1), 1) := by decide +kernel
theorem dX4_doSteps_34 : decode cX4_doSteps 34 = .ok (.if_icmp .eq 7, 3) := by decide +kernel
theorem dX8_run_0 : decode cX8_run 0 = .ok (.iload_n 1, 1) := by decide +kernel
theorem dX8_run_1 : decode cX8_run 1 = .ok (.iconst 1, 1) := by decide +kernel
theorem dX8_run_2 : decode cX8_run 2 = .ok (.if_icmp .lt 10, 3) := by decide +kernel
theorem dX8_run_12 : decode cX8_run 12 = .ok (.iconst (-1), 1) := by decide +kernel
theorem dX8_run_13 : decode cX8_run 13 = .ok (.ireturn, 1) := by decide +kernel
theorem dX8_run_5 : decode cX8_run 5 = .ok (.iload_n 1, 1) := by decide +kernel
theorem dX8_run_6 : decode cX8_run 6 = .ok (.sipush 2000, 3) := by decide +kernel
theorem dX8_run_9 : decode cX8_run 9 = .ok (.if_icmp .le 5, 3) := by decide +kernel
theorem dX8_run_14 : decode cX8_run 14 = .ok (.aload_n 0, 1) := by decide +kernel
theorem dX8_run_15 : decode cX8_run 15 = .ok (.getfield 37, 3) := by decide +kernel
theorem dX8_run_18 : decode cX8_run 18 = .ok (.iload_n 1, 1) := by decide +kernel
theorem dX8_run_19 : decode cX8_run 19 = .ok (.aload_n 0, 1) := by decide +kernel
theorem dX8_run_20 : decode cX8_run 20 = .ok (.getfield 44, 3) := by decide +kernel
theorem dX8_run_23 : decode cX8_run 23 = .ok (.invokevirtual 137, 3) := by decide +kernel
theorem dX8_run_26 : decode cX8_run 26 = .ok (.ireturn, 1) := by decide +kernel
set_option maxHeartbeats 4000000 in
set_option maxRecDepth 100000 in
theorem c_doSteps (l : Launch) (D : va_G) (cA cB : ClassId) (h0 : Nat) (hn : Nat) (hs : Nat) (hd : Nat) (hp : Nat) (hc : Nat) (wy : Int32) (dn : Int32) (he : Nat) (h1 : Nat) (h2 : Nat) (h3 : Nat) (h4 : Nat) (f : Nat → Int32) (st : Nat → Int32) (g : Nat → Int32) (ct : Nat → Int32) (la : Nat) (ke : Nat) (hst : Nat) (hsp : Nat) (sg : Nat → Int32) (N : Nat) (hI : InvN f) (hz : ∀ j, j < 4096 → st j = 0) (hla : la < 256) (hke : ke ≤ 256) (hN : N ≤ 2000) : CI l yX4_doSteps cX4_doSteps 4 (some .int) 5 111 0 0 D cA cB [.ref h0, .int (nI N), .ref hst] [(h0, .inr (4, [.ref hn, .ref hs, .ref hd, .ref hp, .ref hc, .int wy, .int dn])), (hn, .inl (cA, 34, .inl f)), (hs, .inl (cA, 4096, .inl st)), (hp, .inr (3, [.ref he, .int (nI la), .int (nI ke)])), (he, .inl (cA, 10752, .inl g)), (hc, .inl (cA, 257, .inl ct)), (hd, .inr (1, [.ref hn, .ref h1, .ref h2, .ref h3, .ref h4])), (hst, .inr (6, [.ref hsp, .int 0])), (hsp, .inl (cA, 16, .inl sg))] (fun r W1 => r = nI N) := by
  refine mkI (lv0 := [(0, .ref h0), (1, .int (nI N)), (2, .ref hst)]) (by decide) (Nat.le_of_ble_eq_true rfl) rfl ?_
  intro p e s m below meth c A ls X hr hlocks hnm hE hA hP hD hS hl
  have hx := X.1
  have hb := X.2.1
  refine lv_aload_n hx hb dX4_doSteps_0 rfl (lv_at hl 0 rfl) ?_
  refine lv_iconst (v := 0) hx hb dX4_doSteps_1 (by decide) ?_
  refine k_put (C := RX4) (T := TX4) (N := 7) (ci := 4) (v := .int 0) (ty := .int) X hE hP hD hS 0 rfl rfl iX4 tyX4 tyX4_ok nmX4 5 (by decide) w_217 rfl (by decide +kernel) rfl rfl (Nat.le_of_ble_eq_true rfl) [(h0, .inr (4, [.ref hn, .ref hs, .ref hd, .ref hp, .ref hc, .int 0, .int dn])), (hn, .inl (cA, 34, .inl f)), (hs, .inl (cA, 4096, .inl st)), (hp, .inr (3, [.ref he, .int (nI la), .int (nI ke)])), (he, .inl (cA, 10752, .inl g)), (hc, .inl (cA, 257, .inl ct)), (hd, .inr (1, [.ref hn, .ref h1, .ref h2, .ref h3, .ref h4])), (hst, .inr (6, [.ref hsp, .int 0])), (hsp, .inl (cA, 16, .inl sg))] rfl dX4_doSteps_2 (fun H locs hP hD hS => ?_)
  refine lv_aload_n hx hb dX4_doSteps_5 rfl (lv_at hl 0 rfl) ?_
  refine lv_iconst (v := 0) hx hb dX4_doSteps_6 (by decide) ?_
  refine k_put (C := RX4) (T := TX4) (N := 7) (ci := 4) (v := .int 0) (ty := .int) X hE hP hD hS 0 rfl rfl iX4 tyX4 tyX4_ok nmX4 6 (by decide) w_218 rfl (by decide +kernel) rfl rfl (Nat.le_of_ble_eq_true rfl) [(h0, .inr (4, [.ref hn, .ref hs, .ref hd, .ref hp, .ref hc, .int 0, .int 0])), (hn, .inl (cA, 34, .inl f)), (hs, .inl (cA, 4096, .inl st)), (hp, .inr (3, [.ref he, .int (nI la), .int (nI ke)])), (he, .inl (cA, 10752, .inl g)), (hc, .inl (cA, 257, .inl ct)), (hd, .inr (1, [.ref hn, .ref h1, .ref h2, .ref h3, .ref h4])), (hst, .inr (6, [.ref hsp, .int 0])), (hsp, .inl (cA, 16, .inl sg))] rfl dX4_doSteps_7 (fun H locs hP hD hS => ?_)
  refine lv_iconst (v := 0) hx hb dX4_doSteps_10 (by decide) ?_
  refine lv_istore_n (lv' := [(3, .int 0), (0, .ref h0), (1, .int (nI N)), (2, .ref hst)]) hx hb dX4_doSteps_11 rfl hl (by decide) rfl (fun ls hl => ?_)
  have loop_12 : ∀ (n : Nat) (k : Nat) (fv : Nat → Int32) (lav : Nat) (kev : Nat) (gv : Nat → Int32) (ctv : Nat → Int32), (k ≤ N) → (InvN fv) → (lav < 256) → (kev ≤ 256) → N < k + n → ∀ (H : Heap) (locs : List Loc), va_P D classes [(h0, .inr (4, [.ref hn, .ref hs, .ref hd, .ref hp, .ref hc, .int 0, .int (nI k)])), (hn, .inl (cA, 34, .inl fv)), (hs, .inl (cA, 4096, .inl st)), (hp, .inr (3, [.ref he, .int (nI lav), .int (nI kev)])), (he, .inl (cA, 10752, .inl gv)), (hc, .inl (cA, 257, .inl ctv)), (hd, .inr (1, [.ref hn, .ref h1, .ref h2, .ref h3, .ref h4])), (hst, .inr (6, [.ref hsp, .int 0])), (hsp, .inl (cA, 16, .inl sg))] H → va_D A [(h0, .inr (4, [.ref hn, .ref hs, .ref hd, .ref hp, .ref hc, .int 0, .int (nI k)])), (hn, .inl (cA, 34, .inl fv)), (hs, .inl (cA, 4096, .inl st)), (hp, .inr (3, [.ref he, .int (nI lav), .int (nI kev)])), (he, .inl (cA, 10752, .inl gv)), (hc, .inl (cA, 257, .inl ctv)), (hd, .inr (1, [.ref hn, .ref h1, .ref h2, .ref h3, .ref h4])), (hst, .inr (6, [.ref hsp, .int 0])), (hsp, .inl (cA, 16, .inl sg))] → va_S A s.heap H locs → ∀ ls : Array Slot, lv_has ls 4 [(0, .ref h0), (1, .int (nI N)), (2, .ref hst), (3, .int (nI k))] → W p l e { frames := 5, cells := 0, slots := 0, locals := 111 } s m (List.toArray [.ref h0, .int (nI N), .ref hst]) below meth c H locs 0 0 (MQ below (QI D (fun r W1 => r = nI N) A) (List.toArray [.ref h0, .int (nI N), .ref hst]) s 0 0 A) (F0 m 12 ls []) := by
    intro n
    induction n with
    | zero => intro k fv lav kev gv ctv hk hI2 hla2 hke2 hfuel; exact absurd hfuel (by omega)
    | succ n ih =>
      intro k fv lav kev gv ctv hk hI2 hla2 hke2 hfuel H locs hP hD hS ls hl
      refine lv_iload_n hx hb dX4_doSteps_12 rfl (lv_at hl 3 rfl) ?_
      refine lv_iload_n hx hb dX4_doSteps_13 rfl (lv_at hl 1 rfl) ?_
      refine lv_icmp_ge (tgt := 78) hx hb dX4_doSteps_14 (by decide) (fun c_14 => ?_) (fun c_14 => ?_)
      · skip
        refine lv_aload_n hx hb dX4_doSteps_78 rfl (lv_at hl 0 rfl) ?_
        refine k_get (C := RX4) (T := TX4) (N := 7) (ci := 4) (v := .int (nI k)) X hE hP 0 rfl rfl iX4 6 (by decide) w_218 rfl dX4_doSteps_79 ?_
        exact endI X hr hlocks hP hD hS dX4_doSteps_82 (congrArg nI (by have := (nI_leI (by omega) (by omega)).mp c_14; omega))
      · skip
        have hlt : k < N := by rcases Nat.lt_or_ge k N with q | q; exact q; exact absurd (nI_le q (by omega)) c_14
        refine lv_aload_n hx hb dX4_doSteps_17 rfl (lv_at hl 0 rfl) ?_
        refine lv_aload_n hx hb dX4_doSteps_18 rfl (lv_at hl 0 rfl) ?_
        refine lv_iload_n hx hb dX4_doSteps_19 rfl (lv_at hl 3 rfl) ?_
        refine lv_if_le (tgt := 41) hx hb dX4_doSteps_20 (by decide) (fun c_20 => ?_) (fun c_20 => ?_)
        · skip
          refine lv_iconst (v := 0) hx hb dX4_doSteps_41 (by decide) ?_
          refine kVi (n3 := 1) (As := [.int 0]) (rest := [.ref h0]) X hl.1 hE hP hD hS hA [(h0, .inr (4, [.ref hn, .ref hs, .ref hd, .ref hp, .ref hc, .int 0, .int (nI k)])), (hn, .inl (cA, 34, .inl fv)), (hs, .inl (cA, 4096, .inl st))] [(hp, .inr (3, [.ref he, .int (nI lav), .int (nI kev)])), (he, .inl (cA, 10752, .inl gv)), (hc, .inl (cA, 257, .inl ctv)), (hd, .inr (1, [.ref hn, .ref h1, .ref h2, .ref h3, .ref h4])), (hst, .inr (6, [.ref hsp, .int 0])), (hsp, .inl (cA, 16, .inl sg))] [0, 1, 2] [3, 4, 5, 6, 7, 8] rfl rfl rfl (by decide) (by decide) (by decide) (c_whyToEnd0 l D cA cB h0 hn hs hd hp hc 0 (nI k) fv st hI2 hz) w_220 w_44 w_219 w_221 w_222 0 (ci := 4) (T := TX4) (N := 7) rfl rfl (by decide +kernel) rfl rfl (Nat.le_of_ble_eq_true rfl) ⟨(Nat.le_of_ble_eq_true rfl), (Nat.le_of_ble_eq_true rfl)⟩ ⟨(Nat.le_of_ble_eq_true rfl), (Nat.le_of_ble_eq_true rfl)⟩ dX4_doSteps_42 (fun r W1 H locs hw hP hD hS => ?_)
          obtain ⟨rfl, rfl⟩ := hw
          have hP : va_P D classes [(hp, .inr (3, [.ref he, .int (nI lav), .int (nI kev)])), (he, .inl (cA, 10752, .inl gv)), (hc, .inl (cA, 257, .inl ctv)), (hd, .inr (1, [.ref hn, .ref h1, .ref h2, .ref h3, .ref h4])), (hst, .inr (6, [.ref hsp, .int 0])), (hsp, .inl (cA, 16, .inl sg)), (h0, .inr (4, [.ref hn, .ref hs, .ref hd, .ref hp, .ref hc, .int 0, .int ((nI k))])), (hn, .inl (cA, 34, .inl fv)), (hs, .inl (cA, 4096, .inl st))] H := hP
          have hD : va_D A [(hp, .inr (3, [.ref he, .int (nI lav), .int (nI kev)])), (he, .inl (cA, 10752, .inl gv)), (hc, .inl (cA, 257, .inl ctv)), (hd, .inr (1, [.ref hn, .ref h1, .ref h2, .ref h3, .ref h4])), (hst, .inr (6, [.ref hsp, .int 0])), (hsp, .inl (cA, 16, .inl sg)), (h0, .inr (4, [.ref hn, .ref hs, .ref hd, .ref hp, .ref hc, .int 0, .int ((nI k))])), (hn, .inl (cA, 34, .inl fv)), (hs, .inl (cA, 4096, .inl st))] := hD
          refine k_put (C := RX4) (T := TX4) (N := 7) (ci := 4) (v := .int 0) (ty := .int) X hE hP hD hS 6 rfl rfl iX4 tyX4 tyX4_ok nmX4 5 (by decide) w_217 rfl (by decide +kernel) rfl rfl (Nat.le_of_ble_eq_true rfl) [(hp, .inr (3, [.ref he, .int (nI lav), .int (nI kev)])), (he, .inl (cA, 10752, .inl gv)), (hc, .inl (cA, 257, .inl ctv)), (hd, .inr (1, [.ref hn, .ref h1, .ref h2, .ref h3, .ref h4])), (hst, .inr (6, [.ref hsp, .int 0])), (hsp, .inl (cA, 16, .inl sg)), (h0, .inr (4, [.ref hn, .ref hs, .ref hd, .ref hp, .ref hc, .int 0, .int ((nI k))])), (hn, .inl (cA, 34, .inl fv)), (hs, .inl (cA, 4096, .inl st))] rfl dX4_doSteps_45 (fun H locs hP hD hS => ?_)
          refine lv_aload_n hx hb dX4_doSteps_48 rfl (lv_at hl 0 rfl) ?_
          refine k_get (C := RX4) (T := TX4) (N := 7) (ci := 4) (v := .int 0) X hE hP 6 rfl rfl iX4 5 (by decide) w_217 rfl dX4_doSteps_49 ?_
          refine lv_if_eq (tgt := 58) hx hb dX4_doSteps_52 (by decide) (fun c_52 => ?_) (fun c_52 => absurd (by decide) c_52)
          refine lv_aload_n hx hb dX4_doSteps_58 rfl (lv_at hl 0 rfl) ?_
          refine kVv (n3 := 0) (As := []) (rest := []) X hl.1 hE hP hD hS hA [(h0, .inr (4, [.ref hn, .ref hs, .ref hd, .ref hp, .ref hc, .int 0, .int ((nI k))])), (hn, .inl (cA, 34, .inl fv)), (hs, .inl (cA, 4096, .inl st)), (hp, .inr (3, [.ref he, .int (nI lav), .int (nI kev)])), (he, .inl (cA, 10752, .inl gv)), (hc, .inl (cA, 257, .inl ctv)), (hd, .inr (1, [.ref hn, .ref h1, .ref h2, .ref h3, .ref h4]))] [(hst, .inr (6, [.ref hsp, .int 0])), (hsp, .inl (cA, 16, .inl sg))] [6, 7, 8, 0, 1, 2, 3] [4, 5] rfl rfl rfl (by decide) (by decide) (by decide) (c_doStep0 l D cA cB h0 hn hs hd hp hc 0 (nI k) he h1 h2 h3 h4 fv st gv ctv lav kev hI2 hz hla2 hke2) w_224 w_44 w_223 w_225 w_226 0 (ci := 4) (T := TX4) (N := 7) rfl rfl (by decide +kernel) rfl rfl (Nat.le_of_ble_eq_true rfl) ⟨(Nat.le_of_ble_eq_true rfl), (Nat.le_of_ble_eq_true rfl)⟩ ⟨(Nat.le_of_ble_eq_true rfl), (Nat.le_of_ble_eq_true rfl)⟩ dX4_doSteps_59 (fun W1 H locs hw hP hD hS => ?_)
          obtain ⟨f2_1, la2_2, ke2_3, g2_4, ct2_5, hf_6, hf_7, hf_8, rfl⟩ := hw
          have hP : va_P D classes [(hst, .inr (6, [.ref hsp, .int 0])), (hsp, .inl (cA, 16, .inl sg)), (h0, .inr (4, [.ref hn, .ref hs, .ref hd, .ref hp, .ref hc, .int 0, .int ((nI k))])), (hn, .inl (cA, 34, .inl f2_1)), (hs, .inl (cA, 4096, .inl st)), (hp, .inr (3, [.ref he, .int (nI la2_2), .int (nI ke2_3)])), (he, .inl (cA, 10752, .inl g2_4)), (hc, .inl (cA, 257, .inl ct2_5)), (hd, .inr (1, [.ref hn, .ref h1, .ref h2, .ref h3, .ref h4]))] H := hP
          have hD : va_D A [(hst, .inr (6, [.ref hsp, .int 0])), (hsp, .inl (cA, 16, .inl sg)), (h0, .inr (4, [.ref hn, .ref hs, .ref hd, .ref hp, .ref hc, .int 0, .int ((nI k))])), (hn, .inl (cA, 34, .inl f2_1)), (hs, .inl (cA, 4096, .inl st)), (hp, .inr (3, [.ref he, .int (nI la2_2), .int (nI ke2_3)])), (he, .inl (cA, 10752, .inl g2_4)), (hc, .inl (cA, 257, .inl ct2_5)), (hd, .inr (1, [.ref hn, .ref h1, .ref h2, .ref h3, .ref h4]))] := hD
          refine lv_aload_n hx hb dX4_doSteps_62 rfl (lv_at hl 0 rfl) ?_
          refine lv_dup hx hb dX4_doSteps_63 rfl ?_
          refine k_get (C := RX4) (T := TX4) (N := 7) (ci := 4) (v := .int ((nI k))) X hE hP 2 rfl rfl iX4 6 (by decide) w_218 rfl dX4_doSteps_64 ?_
          refine lv_iconst (v := 1) hx hb dX4_doSteps_67 (by decide) ?_
          refine lv_iadd hx hb dX4_doSteps_68 ?_
          refine tk (y := nI (k + 1)) (nI_1 k) ?_
          refine k_put (C := RX4) (T := TX4) (N := 7) (ci := 4) (v := .int (nI (k + 1))) (ty := .int) X hE hP hD hS 2 rfl rfl iX4 tyX4 tyX4_ok nmX4 6 (by decide) w_218 rfl (by decide +kernel) rfl rfl (Nat.le_of_ble_eq_true rfl) [(hst, .inr (6, [.ref hsp, .int 0])), (hsp, .inl (cA, 16, .inl sg)), (h0, .inr (4, [.ref hn, .ref hs, .ref hd, .ref hp, .ref hc, .int 0, .int (nI (k + 1))])), (hn, .inl (cA, 34, .inl f2_1)), (hs, .inl (cA, 4096, .inl st)), (hp, .inr (3, [.ref he, .int (nI la2_2), .int (nI ke2_3)])), (he, .inl (cA, 10752, .inl g2_4)), (hc, .inl (cA, 257, .inl ct2_5)), (hd, .inr (1, [.ref hn, .ref h1, .ref h2, .ref h3, .ref h4]))] rfl dX4_doSteps_69 (fun H locs hP hD hS => ?_)
          refine lv_iinc (v := nI (k + 1)) (lv' := [(3, .int (nI (k + 1))), (0, .ref h0), (1, .int (nI N)), (2, .ref hst)]) hx hb dX4_doSteps_72 hl (k := 3) rfl (nI_1 k) (by decide) rfl (fun ls hl => ?_)
          refine lv_goto (tgt := 12) hx hb dX4_doSteps_75 (by decide) ?_
          exact ih (k + 1) f2_1 la2_2 ke2_3 g2_4 ct2_5 (by omega) hf_6 hf_7 hf_8 (by omega) _ _ (hP.sub [2, 3, 4, 5, 6, 7, 8, 0, 1] rfl) (hD.sub [2, 3, 4, 5, 6, 7, 8, 0, 1] (by decide) rfl) hS ls (lv_sub hl [1, 2, 3, 0] rfl)
        · skip
          refine lv_aload_n hx hb dX4_doSteps_23 rfl (lv_at hl 2 rfl) ?_
          refine lv_aload_n hx hb dX4_doSteps_24 rfl (lv_at hl 0 rfl) ?_
          refine k_get (C := RX4) (T := TX4) (N := 7) (ci := 4) (v := .ref hn) X hE hP 0 rfl rfl iX4 0 (by decide) w_25 rfl dX4_doSteps_25 ?_
          refine lv_iconst (v := 4) hx hb dX4_doSteps_28 (by decide) ?_
          refine k_ald (v := fv 4) X hE hP 1 rfl 4 rfl (by decide) (by decide) rfl dX4_doSteps_29 ?_
          refine kVi (n3 := 1) (As := [.int (fv 4)]) (rest := [.ref h0, .ref h0]) X hl.1 hE hP hD hS hA [(hst, .inr (6, [.ref hsp, .int 0])), (hsp, .inl (cA, 16, .inl sg))] [(h0, .inr (4, [.ref hn, .ref hs, .ref hd, .ref hp, .ref hc, .int 0, .int (nI k)])), (hn, .inl (cA, 34, .inl fv)), (hs, .inl (cA, 4096, .inl st)), (hp, .inr (3, [.ref he, .int (nI lav), .int (nI kev)])), (he, .inl (cA, 10752, .inl gv)), (hc, .inl (cA, 257, .inl ctv)), (hd, .inr (1, [.ref hn, .ref h1, .ref h2, .ref h3, .ref h4]))] [7, 8] [0, 1, 2, 3, 4, 5, 6] rfl rfl rfl (by decide) (by decide) (by decide) (c_Stops_find0 l D cA cB hst hsp sg (fv 4) ) w_128 w_87 w_227 w_129 w_130 0 (ci := 6) (T := TX6) (N := 2) rfl rfl (by decide +kernel) rfl rfl (Nat.le_of_ble_eq_true rfl) ⟨(Nat.le_of_ble_eq_true rfl), (Nat.le_of_ble_eq_true rfl)⟩ ⟨(Nat.le_of_ble_eq_true rfl), (Nat.le_of_ble_eq_true rfl)⟩ dX4_doSteps_30 (fun r W1 H locs hw hP hD hS => ?_)
          obtain ⟨rfl, rfl⟩ := hw
          have hP : va_P D classes [(h0, .inr (4, [.ref hn, .ref hs, .ref hd, .ref hp, .ref hc, .int 0, .int (nI k)])), (hn, .inl (cA, 34, .inl fv)), (hs, .inl (cA, 4096, .inl st)), (hp, .inr (3, [.ref he, .int (nI lav), .int (nI kev)])), (he, .inl (cA, 10752, .inl gv)), (hc, .inl (cA, 257, .inl ctv)), (hd, .inr (1, [.ref hn, .ref h1, .ref h2, .ref h3, .ref h4])), (hst, .inr (6, [.ref hsp, .int 0])), (hsp, .inl (cA, 16, .inl sg))] H := hP
          have hD : va_D A [(h0, .inr (4, [.ref hn, .ref hs, .ref hd, .ref hp, .ref hc, .int 0, .int (nI k)])), (hn, .inl (cA, 34, .inl fv)), (hs, .inl (cA, 4096, .inl st)), (hp, .inr (3, [.ref he, .int (nI lav), .int (nI kev)])), (he, .inl (cA, 10752, .inl gv)), (hc, .inl (cA, 257, .inl ctv)), (hd, .inr (1, [.ref hn, .ref h1, .ref h2, .ref h3, .ref h4])), (hst, .inr (6, [.ref hsp, .int 0])), (hsp, .inl (cA, 16, .inl sg))] := hD
          refine lv_iconst (v := (-1)) hx hb dX4_doSteps_33 (by decide) ?_
          refine lv_icmp_eq (tgt := 41) hx hb dX4_doSteps_34 (by decide) (fun c_34 => ?_) (fun c_34 => absurd (by decide) c_34)
          refine lv_iconst (v := 0) hx hb dX4_doSteps_41 (by decide) ?_
          refine kVi (n3 := 1) (As := [.int 0]) (rest := [.ref h0]) X hl.1 hE hP hD hS hA [(h0, .inr (4, [.ref hn, .ref hs, .ref hd, .ref hp, .ref hc, .int 0, .int (nI k)])), (hn, .inl (cA, 34, .inl fv)), (hs, .inl (cA, 4096, .inl st))] [(hp, .inr (3, [.ref he, .int (nI lav), .int (nI kev)])), (he, .inl (cA, 10752, .inl gv)), (hc, .inl (cA, 257, .inl ctv)), (hd, .inr (1, [.ref hn, .ref h1, .ref h2, .ref h3, .ref h4])), (hst, .inr (6, [.ref hsp, .int 0])), (hsp, .inl (cA, 16, .inl sg))] [0, 1, 2] [3, 4, 5, 6, 7, 8] rfl rfl rfl (by decide) (by decide) (by decide) (c_whyToEnd0 l D cA cB h0 hn hs hd hp hc 0 (nI k) fv st hI2 hz) w_220 w_44 w_219 w_221 w_222 0 (ci := 4) (T := TX4) (N := 7) rfl rfl (by decide +kernel) rfl rfl (Nat.le_of_ble_eq_true rfl) ⟨(Nat.le_of_ble_eq_true rfl), (Nat.le_of_ble_eq_true rfl)⟩ ⟨(Nat.le_of_ble_eq_true rfl), (Nat.le_of_ble_eq_true rfl)⟩ dX4_doSteps_42 (fun r W1 H locs hw hP hD hS => ?_)
          obtain ⟨rfl, rfl⟩ := hw
          have hP : va_P D classes [(hp, .inr (3, [.ref he, .int (nI lav), .int (nI kev)])), (he, .inl (cA, 10752, .inl gv)), (hc, .inl (cA, 257, .inl ctv)), (hd, .inr (1, [.ref hn, .ref h1, .ref h2, .ref h3, .ref h4])), (hst, .inr (6, [.ref hsp, .int 0])), (hsp, .inl (cA, 16, .inl sg)), (h0, .inr (4, [.ref hn, .ref hs, .ref hd, .ref hp, .ref hc, .int 0, .int ((nI k))])), (hn, .inl (cA, 34, .inl fv)), (hs, .inl (cA, 4096, .inl st))] H := hP
          have hD : va_D A [(hp, .inr (3, [.ref he, .int (nI lav), .int (nI kev)])), (he, .inl (cA, 10752, .inl gv)), (hc, .inl (cA, 257, .inl ctv)), (hd, .inr (1, [.ref hn, .ref h1, .ref h2, .ref h3, .ref h4])), (hst, .inr (6, [.ref hsp, .int 0])), (hsp, .inl (cA, 16, .inl sg)), (h0, .inr (4, [.ref hn, .ref hs, .ref hd, .ref hp, .ref hc, .int 0, .int ((nI k))])), (hn, .inl (cA, 34, .inl fv)), (hs, .inl (cA, 4096, .inl st))] := hD
          refine k_put (C := RX4) (T := TX4) (N := 7) (ci := 4) (v := .int 0) (ty := .int) X hE hP hD hS 6 rfl rfl iX4 tyX4 tyX4_ok nmX4 5 (by decide) w_217 rfl (by decide +kernel) rfl rfl (Nat.le_of_ble_eq_true rfl) [(hp, .inr (3, [.ref he, .int (nI lav), .int (nI kev)])), (he, .inl (cA, 10752, .inl gv)), (hc, .inl (cA, 257, .inl ctv)), (hd, .inr (1, [.ref hn, .ref h1, .ref h2, .ref h3, .ref h4])), (hst, .inr (6, [.ref hsp, .int 0])), (hsp, .inl (cA, 16, .inl sg)), (h0, .inr (4, [.ref hn, .ref hs, .ref hd, .ref hp, .ref hc, .int 0, .int ((nI k))])), (hn, .inl (cA, 34, .inl fv)), (hs, .inl (cA, 4096, .inl st))] rfl dX4_doSteps_45 (fun H locs hP hD hS => ?_)
          refine lv_aload_n hx hb dX4_doSteps_48 rfl (lv_at hl 0 rfl) ?_
          refine k_get (C := RX4) (T := TX4) (N := 7) (ci := 4) (v := .int 0) X hE hP 6 rfl rfl iX4 5 (by decide) w_217 rfl dX4_doSteps_49 ?_
          refine lv_if_eq (tgt := 58) hx hb dX4_doSteps_52 (by decide) (fun c_52 => ?_) (fun c_52 => absurd (by decide) c_52)
          refine lv_aload_n hx hb dX4_doSteps_58 rfl (lv_at hl 0 rfl) ?_
          refine kVv (n3 := 0) (As := []) (rest := []) X hl.1 hE hP hD hS hA [(h0, .inr (4, [.ref hn, .ref hs, .ref hd, .ref hp, .ref hc, .int 0, .int ((nI k))])), (hn, .inl (cA, 34, .inl fv)), (hs, .inl (cA, 4096, .inl st)), (hp, .inr (3, [.ref he, .int (nI lav), .int (nI kev)])), (he, .inl (cA, 10752, .inl gv)), (hc, .inl (cA, 257, .inl ctv)), (hd, .inr (1, [.ref hn, .ref h1, .ref h2, .ref h3, .ref h4]))] [(hst, .inr (6, [.ref hsp, .int 0])), (hsp, .inl (cA, 16, .inl sg))] [6, 7, 8, 0, 1, 2, 3] [4, 5] rfl rfl rfl (by decide) (by decide) (by decide) (c_doStep0 l D cA cB h0 hn hs hd hp hc 0 (nI k) he h1 h2 h3 h4 fv st gv ctv lav kev hI2 hz hla2 hke2) w_224 w_44 w_223 w_225 w_226 0 (ci := 4) (T := TX4) (N := 7) rfl rfl (by decide +kernel) rfl rfl (Nat.le_of_ble_eq_true rfl) ⟨(Nat.le_of_ble_eq_true rfl), (Nat.le_of_ble_eq_true rfl)⟩ ⟨(Nat.le_of_ble_eq_true rfl), (Nat.le_of_ble_eq_true rfl)⟩ dX4_doSteps_59 (fun W1 H locs hw hP hD hS => ?_)
          obtain ⟨f2_9, la2_10, ke2_11, g2_12, ct2_13, hf_14, hf_15, hf_16, rfl⟩ := hw
          have hP : va_P D classes [(hst, .inr (6, [.ref hsp, .int 0])), (hsp, .inl (cA, 16, .inl sg)), (h0, .inr (4, [.ref hn, .ref hs, .ref hd, .ref hp, .ref hc, .int 0, .int ((nI k))])), (hn, .inl (cA, 34, .inl f2_9)), (hs, .inl (cA, 4096, .inl st)), (hp, .inr (3, [.ref he, .int (nI la2_10), .int (nI ke2_11)])), (he, .inl (cA, 10752, .inl g2_12)), (hc, .inl (cA, 257, .inl ct2_13)), (hd, .inr (1, [.ref hn, .ref h1, .ref h2, .ref h3, .ref h4]))] H := hP
          have hD : va_D A [(hst, .inr (6, [.ref hsp, .int 0])), (hsp, .inl (cA, 16, .inl sg)), (h0, .inr (4, [.ref hn, .ref hs, .ref hd, .ref hp, .ref hc, .int 0, .int ((nI k))])), (hn, .inl (cA, 34, .inl f2_9)), (hs, .inl (cA, 4096, .inl st)), (hp, .inr (3, [.ref he, .int (nI la2_10), .int (nI ke2_11)])), (he, .inl (cA, 10752, .inl g2_12)), (hc, .inl (cA, 257, .inl ct2_13)), (hd, .inr (1, [.ref hn, .ref h1, .ref h2, .ref h3, .ref h4]))] := hD
          refine lv_aload_n hx hb dX4_doSteps_62 rfl (lv_at hl 0 rfl) ?_
          refine lv_dup hx hb dX4_doSteps_63 rfl ?_
          refine k_get (C := RX4) (T := TX4) (N := 7) (ci := 4) (v := .int ((nI k))) X hE hP 2 rfl rfl iX4 6 (by decide) w_218 rfl dX4_doSteps_64 ?_
          refine lv_iconst (v := 1) hx hb dX4_doSteps_67 (by decide) ?_
          refine lv_iadd hx hb dX4_doSteps_68 ?_
          refine tk (y := nI (k + 1)) (nI_1 k) ?_
          refine k_put (C := RX4) (T := TX4) (N := 7) (ci := 4) (v := .int (nI (k + 1))) (ty := .int) X hE hP hD hS 2 rfl rfl iX4 tyX4 tyX4_ok nmX4 6 (by decide) w_218 rfl (by decide +kernel) rfl rfl (Nat.le_of_ble_eq_true rfl) [(hst, .inr (6, [.ref hsp, .int 0])), (hsp, .inl (cA, 16, .inl sg)), (h0, .inr (4, [.ref hn, .ref hs, .ref hd, .ref hp, .ref hc, .int 0, .int (nI (k + 1))])), (hn, .inl (cA, 34, .inl f2_9)), (hs, .inl (cA, 4096, .inl st)), (hp, .inr (3, [.ref he, .int (nI la2_10), .int (nI ke2_11)])), (he, .inl (cA, 10752, .inl g2_12)), (hc, .inl (cA, 257, .inl ct2_13)), (hd, .inr (1, [.ref hn, .ref h1, .ref h2, .ref h3, .ref h4]))] rfl dX4_doSteps_69 (fun H locs hP hD hS => ?_)
          refine lv_iinc (v := nI (k + 1)) (lv' := [(3, .int (nI (k + 1))), (0, .ref h0), (1, .int (nI N)), (2, .ref hst)]) hx hb dX4_doSteps_72 hl (k := 3) rfl (nI_1 k) (by decide) rfl (fun ls hl => ?_)
          refine lv_goto (tgt := 12) hx hb dX4_doSteps_75 (by decide) ?_
          exact ih (k + 1) f2_9 la2_10 ke2_11 g2_12 ct2_13 (by omega) hf_14 hf_15 hf_16 (by omega) _ _ (hP.sub [2, 3, 4, 5, 6, 7, 8, 0, 1] rfl) (hD.sub [2, 3, 4, 5, 6, 7, 8, 0, 1] (by decide) rfl) hS ls (lv_sub hl [1, 2, 3, 0] rfl)
  exact loop_12 (N + 1) 0 f la ke g ct (Nat.zero_le _) hI hla hke (by omega) _ _ hP hD hS ls (lv_sub hl [1, 2, 3, 0] rfl)
set_option maxHeartbeats 4000000 in
set_option maxRecDepth 100000 in
theorem c_run (l : Launch) (D : va_G) (cA cB : ClassId) (h0 : Nat) (qn : Nat) (qs : Nat) (qd : Nat) (qp : Nat) (qr : Nat) (qt : Nat) (qa : Nat) (qm : Nat) (qe : Nat) (f : Nat → Int32) (qd1 : Nat) (qd2 : Nat) (qd3 : Nat) (qd4 : Nat) (qpe : Nat) (qrc : Nat) (gc : Nat → Int32) (qtp : Nat) (a : Int32) (hfr : frn f) (hgc : ∀ j, j < 257 → gc j = 0) : CI l yX8_run cX8_run 2 (some .int) 6 134 0 0 D cA cB [.ref h0, .int a] [(h0, .inr (8, [.ref qn, .ref qs, .ref qd, .ref qp, .ref qr, .ref qt, .ref qa, .ref qm, .ref qe])), (qn, .inl (cA, 34, .inl f)), (qs, .inl (cA, 4096, .inl (fun _ => 0))), (qd, .inr (1, [.ref qn, .ref qd1, .ref qd2, .ref qd3, .ref qd4])), (qp, .inr (3, [.ref qpe, .int 0, .int 0])), (qpe, .inl (cA, 10752, .inl (fun _ => 0))), (qr, .inr (4, [.ref qn, .ref qs, .ref qd, .ref qp, .ref qrc, .int 0, .int 0])), (qrc, .inl (cA, 257, .inl gc)), (qt, .inr (6, [.ref qtp, .int 0])), (qtp, .inl (cA, 16, .inl (fun _ => 0)))] (fun r W1 => r = (sp_run a)) := by
  refine mkI (lv0 := [(0, .ref h0), (1, .int a)]) (by decide) (Nat.le_of_ble_eq_true rfl) rfl ?_
  intro p e s m below meth c A ls X hr hlocks hnm hE hA hP hD hS hl
  have hx := X.1
  have hb := X.2.1
  refine lv_iload_n hx hb dX8_run_0 rfl (lv_at hl 1 rfl) ?_
  refine lv_iconst (v := 1) hx hb dX8_run_1 (by decide) ?_
  refine lv_icmp_lt (tgt := 12) hx hb dX8_run_2 (by decide) (fun c_2 => ?_) (fun c_2 => ?_)
  · skip
    refine lv_iconst (v := (-1)) hx hb dX8_run_12 (by decide) ?_
    exact endI X hr hlocks hP hD hS dX8_run_13 (by unfold sp_run; rw [if_pos c_2])
  · skip
    refine lv_iload_n hx hb dX8_run_5 rfl (lv_at hl 1 rfl) ?_
    refine lv_sipush (v := 2000) hx hb dX8_run_6 (by decide) ?_
    refine lv_icmp_le (tgt := 14) hx hb dX8_run_9 (by decide) (fun c_9 => ?_) (fun c_9 => ?_)
    · skip
      obtain ⟨N, hN, eN⟩ := idx_le (n := 2000) (by decide) (fun q => c_2 (Int32.lt_trans q (by decide))) (Int32.not_lt.mpr c_9)
      subst eN
      refine lv_aload_n hx hb dX8_run_14 rfl (lv_at hl 0 rfl) ?_
      refine k_get (C := RX8) (T := TX8) (N := 9) (ci := 8) (v := .ref qr) X hE hP 0 rfl rfl iX8 4 (by decide) w_84 rfl dX8_run_15 ?_
      refine lv_iload_n hx hb dX8_run_18 rfl (lv_at hl 1 rfl) ?_
      refine lv_aload_n hx hb dX8_run_19 rfl (lv_at hl 0 rfl) ?_
      refine k_get (C := RX8) (T := TX8) (N := 9) (ci := 8) (v := .ref qt) X hE hP 0 rfl rfl iX8 5 (by decide) w_90 rfl dX8_run_20 ?_
      refine kVi (n3 := 2) (As := [.int (nI N), .ref qt]) (rest := []) X hl.1 hE hP hD hS hA [(qr, .inr (4, [.ref qn, .ref qs, .ref qd, .ref qp, .ref qrc, .int 0, .int 0])), (qn, .inl (cA, 34, .inl f)), (qs, .inl (cA, 4096, .inl (fun _ => 0))), (qp, .inr (3, [.ref qpe, .int 0, .int 0])), (qpe, .inl (cA, 10752, .inl (fun _ => 0))), (qrc, .inl (cA, 257, .inl gc)), (qd, .inr (1, [.ref qn, .ref qd1, .ref qd2, .ref qd3, .ref qd4])), (qt, .inr (6, [.ref qtp, .int 0])), (qtp, .inl (cA, 16, .inl (fun _ => 0)))] [(h0, .inr (8, [.ref qn, .ref qs, .ref qd, .ref qp, .ref qr, .ref qt, .ref qa, .ref qm, .ref qe]))] [6, 1, 2, 4, 5, 7, 3, 8, 9] [0] rfl rfl rfl (by decide) (by decide) (by decide) (c_doSteps l D cA cB qr qn qs qd qp qrc 0 0 qpe qd1 qd2 qd3 qd4 f (fun _ => 0) (fun _ => 0) gc 0 0 qt qtp (fun _ => 0) N (frn_inv hfr) (fun _ _ => rfl) (by decide) (by decide) hN) w_229 w_44 w_228 w_230 w_231 0 (ci := 4) (T := TX4) (N := 7) rfl rfl (by decide +kernel) rfl rfl (Nat.le_of_ble_eq_true rfl) ⟨(Nat.le_of_ble_eq_true rfl), (Nat.le_of_ble_eq_true rfl)⟩ ⟨(Nat.le_of_ble_eq_true rfl), (Nat.le_of_ble_eq_true rfl)⟩ dX8_run_23 (fun r W1 H locs hw hP hD hS => ?_)
      obtain rfl := hw
      have hP : va_P D classes [(h0, .inr (8, [.ref qn, .ref qs, .ref qd, .ref qp, .ref qr, .ref qt, .ref qa, .ref qm, .ref qe]))] H := hP.sub [0] rfl
      have hD : va_D A [(h0, .inr (8, [.ref qn, .ref qs, .ref qd, .ref qp, .ref qr, .ref qt, .ref qa, .ref qm, .ref qe]))] := hD.sub [0] (by decide) rfl
      exact endI X hr hlocks hP hD hS dX8_run_26 (by unfold sp_run; rw [if_neg c_2, if_pos c_9])
    · skip
      refine lv_iconst (v := (-1)) hx hb dX8_run_12 (by decide) ?_
      exact endI X hr hlocks hP hD hS dX8_run_13 (by unfold sp_run; rw [if_neg c_2, if_neg c_9])
