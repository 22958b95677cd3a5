abbrev cX8_about : ByteArray := prog_1_method_17_code
def yX8_about : MethodName := ⟨RX8, "about", "(I)I"⟩
theorem nw_6 : (Cond.fieldLinkNest "BelfryBox" 158 "BelfryBox$Processor" "why" "I" "BelfryBox" : Cond) ∈ nests := List.mem_of_getElem? (i := 6) rfl
theorem nw_7 : (Cond.fieldLinkNest "BelfryBox" 161 "BelfryBox$Processor" "done" "I" "BelfryBox" : Cond) ∈ nests := List.mem_of_getElem? (i := 7) rfl
theorem nw_23 : (Cond.fieldLinkNest "BelfryBox" 164 "BelfryBox$Names" "count" "I" "BelfryBox" : Cond) ∈ nests := List.mem_of_getElem? (i := 23) rfl
theorem nw_9 : (Cond.fieldLinkNest "BelfryBox" 167 "BelfryBox$Stops" "count" "I" "BelfryBox" : Cond) ∈ nests := List.mem_of_getElem? (i := 9) rfl
theorem dX8_about_0 : decode cX8_about 0 = .ok (.iload_n 1, 1) := by decide +kernel
theorem dX8_about_1 : decode cX8_about 1 = .ok (.iconst 3, 1) := by decide +kernel
theorem dX8_about_2 : decode cX8_about 2 = .ok (.if_icmp .lt 21, 3) := by decide +kernel
theorem dX8_about_23 : decode cX8_about 23 = .ok (.iload_n 1, 1) := by decide +kernel
theorem dX8_about_24 : decode cX8_about 24 = .ok (.tableswitch 111 0 10 #[60, 68, 76, 111, 111, 111, 111, 111, 84, 95, 103], 60) := by decide +kernel
theorem dX8_about_84 : decode cX8_about 84 = .ok (.aload_n 0, 1) := by decide +kernel
theorem dX8_about_85 : decode cX8_about 85 = .ok (.getfield 37, 3) := by decide +kernel
theorem dX8_about_88 : decode cX8_about 88 = .ok (.getfield 158, 3) := by decide +kernel
theorem dX8_about_91 : decode cX8_about 91 = .ok (.ireturn, 1) := by decide +kernel
theorem dX8_about_92 : decode cX8_about 92 = .ok (.aload_n 0, 1) := by decide +kernel
theorem dX8_about_93 : decode cX8_about 93 = .ok (.getfield 37, 3) := by decide +kernel
theorem dX8_about_96 : decode cX8_about 96 = .ok (.getfield 161, 3) := by decide +kernel
theorem dX8_about_99 : decode cX8_about 99 = .ok (.ireturn, 1) := by decide +kernel
theorem dX8_about_100 : decode cX8_about 100 = .ok (.aload_n 0, 1) := by decide +kernel
theorem dX8_about_101 : decode cX8_about 101 = .ok (.getfield 28, 3) := by decide +kernel
theorem dX8_about_104 : decode cX8_about 104 = .ok (.getfield 141, 3) := by decide +kernel
theorem dX8_about_107 : decode cX8_about 107 = .ok (.ireturn, 1) := by decide +kernel
theorem dX8_about_135 : decode cX8_about 135 = .ok (.iconst 0, 1) := by decide +kernel
theorem dX8_about_136 : decode cX8_about 136 = .ok (.ireturn, 1) := by decide +kernel
theorem dX8_about_108 : decode cX8_about 108 = .ok (.aload_n 0, 1) := by decide +kernel
theorem dX8_about_109 : decode cX8_about 109 = .ok (.getfield 60, 3) := by decide +kernel
theorem dX8_about_112 : decode cX8_about 112 = .ok (.getfield 105, 3) := by decide +kernel
theorem dX8_about_115 : decode cX8_about 115 = .ok (.getfield 164, 3) := by decide +kernel
theorem dX8_about_118 : decode cX8_about 118 = .ok (.ireturn, 1) := by decide +kernel
theorem dX8_about_119 : decode cX8_about 119 = .ok (.aload_n 0, 1) := by decide +kernel
theorem dX8_about_120 : decode cX8_about 120 = .ok (.getfield 44, 3) := by decide +kernel
theorem dX8_about_123 : decode cX8_about 123 = .ok (.getfield 167, 3) := by decide +kernel
theorem dX8_about_126 : decode cX8_about 126 = .ok (.ireturn, 1) := by decide +kernel
theorem dX8_about_127 : decode cX8_about 127 = .ok (.aload_n 0, 1) := by decide +kernel
theorem dX8_about_128 : decode cX8_about 128 = .ok (.getfield 51, 3) := by decide +kernel
theorem dX8_about_131 : decode cX8_about 131 = .ok (.getfield 82, 3) := by decide +kernel
theorem dX8_about_134 : decode cX8_about 134 = .ok (.ireturn, 1) := by decide +kernel
theorem dX8_about_5 : decode cX8_about 5 = .ok (.iload_n 1, 1) := by decide +kernel
theorem dX8_about_6 : decode cX8_about 6 = .ok (.bipush 7, 2) := by decide +kernel
theorem dX8_about_8 : decode cX8_about 8 = .ok (.if_icmp .gt 15, 3) := by decide +kernel
theorem dX8_about_11 : decode cX8_about 11 = .ok (.aload_n 0, 1) := by decide +kernel
theorem dX8_about_12 : decode cX8_about 12 = .ok (.getfield 9, 3) := by decide +kernel
theorem dX8_about_15 : decode cX8_about 15 = .ok (.bipush 28, 2) := by decide +kernel
theorem dX8_about_17 : decode cX8_about 17 = .ok (.iload_n 1, 1) := by decide +kernel
theorem dX8_about_18 : decode cX8_about 18 = .ok (.iadd, 1) := by decide +kernel
theorem dX8_about_19 : decode cX8_about 19 = .ok (.iconst 3, 1) := by decide +kernel
theorem dX8_about_20 : decode cX8_about 20 = .ok (.isub, 1) := by decide +kernel
theorem dX8_about_21 : decode cX8_about 21 = .ok (.iaload, 1) := by decide +kernel
theorem dX8_about_22 : decode cX8_about 22 = .ok (.ireturn, 1) := by decide +kernel
set_option maxHeartbeats 4000000 in
set_option maxRecDepth 100000 in
theorem c_s_about (l : Launch) (D : va_G) (cA cB : ClassId) (h0 : Nat) (hn : Nat) (hs : Nat) (hd : Nat) (hp : Nat) (qr : Nat) (qst : Nat) (qa : Nat) (qm : Nat) (qe : Nat) (hc : Nat) (he : Nat) (qsp : Nat) (htb : Nat) (qmi : Nat) (qmt : Nat) (qms : Nat) (ha : Nat) (hb9 : Nat) (hc9 : Nat) (hd9 : Nat) (wy : Int32) (dn : Int32) (la : Nat) (ke : Nat) (cn : Nat) (ln : Nat) (t0 : Int32) (t1 : Int32) (t2 : Int32) (t3 : Int32) (t4 : Int32) (t5 : Int32) (t6 : Int32) (ua : Int32) (ub : Int32) (uc : Int32) (ud : Int32) (ue : Int32) (uf : Int32) (ug : Int32) (uh : Int32) (ui : Int32) (uj : Int32) (uk : Int32) (ul : Int32) (um : Int32) (un : Int32) (cm : Nat) (f : Nat → Int32) (a : Int32) (hla : la < 256) (hke : ke < 257) (hcn : cn < 17) (hln : ln < 6001) (hcm : cm < 61) (hf : okN f) : CI l yX8_about cX8_about 2 (some .int) 0 0 0 0 D cA cB [.ref h0, .int a] [(h0, .inr (8, [.ref hn, .ref hs, .ref hd, .ref hp, .ref qr, .ref qst, .ref qa, .ref qm, .ref qe])), (qr, .inr (4, [.ref hn, .ref hs, .ref hd, .ref hp, .ref hc, .int wy, .int dn])), (hp, .inr (3, [.ref he, .int (nI la), .int (nI ke)])), (qst, .inr (6, [.ref qsp, .int (nI cn)])), (qa, .inr (7, [.ref htb, .int (nI ln), .int t0, .int t1, .int t2, .int t3, .int t4, .int t5, .int t6])), (qm, .inr (0, [.ref qa, .ref qmi, .ref qmt, .ref qms, .int ua, .int ub, .int uc, .int ud, .int ue, .int uf, .int ug, .int uh, .int ui, .int uj, .int uk, .int ul, .int um, .int un])), (qms, .inr (2, [.ref ha, .ref hb9, .ref hc9, .ref hd9, .int (nI cm)])), (hn, .inl (cA, 34, .inl f))] (fun r W1 => ∃ (wy2 : Int32) (dn2 : Int32) (la2 : Nat) (ke2 : Nat) (cn2 : Nat) (ln2 : Nat) (t02 : Int32) (t12 : Int32) (t22 : Int32) (t32 : Int32) (t42 : Int32) (t52 : Int32) (t62 : Int32) (ua2 : Int32) (ub2 : Int32) (uc2 : Int32) (ud2 : Int32) (ue2 : Int32) (uf2 : Int32) (ug2 : Int32) (uh2 : Int32) (ui2 : Int32) (uj2 : Int32) (uk2 : Int32) (ul2 : Int32) (um2 : Int32) (un2 : Int32) (cm2 : Nat) (f2 : Nat → Int32) (rv : Int32), r = rv ∧ (la2 < 256) ∧ (ke2 < 257) ∧ (cn2 < 17) ∧ (ln2 < 6001) ∧ (cm2 < 61) ∧ (okN f2) ∧ W1 = [(h0, .inr (8, [.ref hn, .ref hs, .ref hd, .ref hp, .ref qr, .ref qst, .ref qa, .ref qm, .ref qe])), (qr, .inr (4, [.ref hn, .ref hs, .ref hd, .ref hp, .ref hc, .int wy2, .int dn2])), (hp, .inr (3, [.ref he, .int (nI la2), .int (nI ke2)])), (qst, .inr (6, [.ref qsp, .int (nI cn2)])), (qa, .inr (7, [.ref htb, .int (nI ln2), .int t02, .int t12, .int t22, .int t32, .int t42, .int t52, .int t62])), (qm, .inr (0, [.ref qa, .ref qmi, .ref qmt, .ref qms, .int ua2, .int ub2, .int uc2, .int ud2, .int ue2, .int uf2, .int ug2, .int uh2, .int ui2, .int uj2, .int uk2, .int ul2, .int um2, .int un2])), (qms, .inr (2, [.ref ha, .ref hb9, .ref hc9, .ref hd9, .int (nI cm2)])), (hn, .inl (cA, 34, .inl f2))]) := by
  refine mkI (lv0 := [(0, .ref h0), (1, .int a)]) (by decide) (Nat.le_of_ble_eq_true rfl) rfl ?_
  intro p e s m below meth c A ls X hr hlocks hnm hE hA hP hD hS hl
  have hx := X.1
  have hb := X.2.1
  refine lv_iload_n hx hb dX8_about_0 rfl (lv_at hl 1 rfl) ?_
  refine lv_iconst (v := 3) hx hb dX8_about_1 (by decide) ?_
  refine lv_icmp_lt (tgt := 23) hx hb dX8_about_2 (by decide) (fun c_2 => ?_) (fun c_2 => ?_)
  · skip
    refine lv_iload_n hx hb dX8_about_23 rfl (lv_at hl 1 rfl) ?_
    by_cases c_24_1 : a = 0
    · refine lv_tableIn (tgt := 84) (off := 60) hx hb dX8_about_24 (by rw [c_24_1]; decide) (by rw [c_24_1]; decide) (by rw [c_24_1]; decide) (by decide) ?_
      refine lv_aload_n hx hb dX8_about_84 rfl (lv_at hl 0 rfl) ?_
      refine k_get (C := RX8) (T := TX8) (N := 9) (ci := 8) (v := .ref qr) X hE hP 0 rfl rfl iX8 4 (by decide) w_314 rfl dX8_about_85 ?_
      refine k_getN (C := RX4) (T := TX4) (N := 7) (ci := 4) (v := .int wy) X hE hP 1 rfl rfl iX4 5 (by decide) nw_6 rfl dX8_about_88 ?_
      exact endI X hr hlocks hP hD hS dX8_about_91 ⟨wy, dn, la, ke, cn, ln, t0, t1, t2, t3, t4, t5, t6, ua, ub, uc, ud, ue, uf, ug, uh, ui, uj, uk, ul, um, un, cm, f, wy, rfl, (by omega), (by omega), (by omega), (by omega), (by omega), hf, rfl⟩
    · skip
      by_cases c_24_2 : a = 1
      · refine lv_tableIn (tgt := 92) (off := 68) hx hb dX8_about_24 (by rw [c_24_2]; decide) (by rw [c_24_2]; decide) (by rw [c_24_2]; decide) (by decide) ?_
        refine lv_aload_n hx hb dX8_about_92 rfl (lv_at hl 0 rfl) ?_
        refine k_get (C := RX8) (T := TX8) (N := 9) (ci := 8) (v := .ref qr) X hE hP 0 rfl rfl iX8 4 (by decide) w_314 rfl dX8_about_93 ?_
        refine k_getN (C := RX4) (T := TX4) (N := 7) (ci := 4) (v := .int dn) X hE hP 1 rfl rfl iX4 6 (by decide) nw_7 rfl dX8_about_96 ?_
        exact endI X hr hlocks hP hD hS dX8_about_99 ⟨wy, dn, la, ke, cn, ln, t0, t1, t2, t3, t4, t5, t6, ua, ub, uc, ud, ue, uf, ug, uh, ui, uj, uk, ul, um, un, cm, f, dn, rfl, (by omega), (by omega), (by omega), (by omega), (by omega), hf, rfl⟩
      · skip
        by_cases c_24_3 : a = 2
        · refine lv_tableIn (tgt := 100) (off := 76) hx hb dX8_about_24 (by rw [c_24_3]; decide) (by rw [c_24_3]; decide) (by rw [c_24_3]; decide) (by decide) ?_
          refine lv_aload_n hx hb dX8_about_100 rfl (lv_at hl 0 rfl) ?_
          refine k_get (C := RX8) (T := TX8) (N := 9) (ci := 8) (v := .ref hp) X hE hP 0 rfl rfl iX8 3 (by decide) w_328 rfl dX8_about_101 ?_
          refine k_getN (C := RX3) (T := TX3) (N := 3) (ci := 3) (v := .int (nI ke)) X hE hP 2 rfl rfl iX3 2 (by decide) nw_4 rfl dX8_about_104 ?_
          exact endI X hr hlocks hP hD hS dX8_about_107 ⟨wy, dn, la, ke, cn, ln, t0, t1, t2, t3, t4, t5, t6, ua, ub, uc, ud, ue, uf, ug, uh, ui, uj, uk, ul, um, un, cm, f, (nI ke), rfl, (by omega), (by omega), (by omega), (by omega), (by omega), hf, rfl⟩
        · skip
          by_cases c_24_4 : a = 3
          · refine lv_tableIn (tgt := 135) (off := 111) hx hb dX8_about_24 (by rw [c_24_4]; decide) (by rw [c_24_4]; decide) (by rw [c_24_4]; decide) (by decide) ?_
            refine lv_iconst (v := 0) hx hb dX8_about_135 (by decide) ?_
            exact endI X hr hlocks hP hD hS dX8_about_136 ⟨wy, dn, la, ke, cn, ln, t0, t1, t2, t3, t4, t5, t6, ua, ub, uc, ud, ue, uf, ug, uh, ui, uj, uk, ul, um, un, cm, f, 0, rfl, (by omega), (by omega), (by omega), (by omega), (by omega), hf, rfl⟩
          · skip
            by_cases c_24_5 : a = 4
            · refine lv_tableIn (tgt := 135) (off := 111) hx hb dX8_about_24 (by rw [c_24_5]; decide) (by rw [c_24_5]; decide) (by rw [c_24_5]; decide) (by decide) ?_
              refine lv_iconst (v := 0) hx hb dX8_about_135 (by decide) ?_
              exact endI X hr hlocks hP hD hS dX8_about_136 ⟨wy, dn, la, ke, cn, ln, t0, t1, t2, t3, t4, t5, t6, ua, ub, uc, ud, ue, uf, ug, uh, ui, uj, uk, ul, um, un, cm, f, 0, rfl, (by omega), (by omega), (by omega), (by omega), (by omega), hf, rfl⟩
            · skip
              by_cases c_24_6 : a = 5
              · refine lv_tableIn (tgt := 135) (off := 111) hx hb dX8_about_24 (by rw [c_24_6]; decide) (by rw [c_24_6]; decide) (by rw [c_24_6]; decide) (by decide) ?_
                refine lv_iconst (v := 0) hx hb dX8_about_135 (by decide) ?_
                exact endI X hr hlocks hP hD hS dX8_about_136 ⟨wy, dn, la, ke, cn, ln, t0, t1, t2, t3, t4, t5, t6, ua, ub, uc, ud, ue, uf, ug, uh, ui, uj, uk, ul, um, un, cm, f, 0, rfl, (by omega), (by omega), (by omega), (by omega), (by omega), hf, rfl⟩
              · skip
                by_cases c_24_7 : a = 6
                · refine lv_tableIn (tgt := 135) (off := 111) hx hb dX8_about_24 (by rw [c_24_7]; decide) (by rw [c_24_7]; decide) (by rw [c_24_7]; decide) (by decide) ?_
                  refine lv_iconst (v := 0) hx hb dX8_about_135 (by decide) ?_
                  exact endI X hr hlocks hP hD hS dX8_about_136 ⟨wy, dn, la, ke, cn, ln, t0, t1, t2, t3, t4, t5, t6, ua, ub, uc, ud, ue, uf, ug, uh, ui, uj, uk, ul, um, un, cm, f, 0, rfl, (by omega), (by omega), (by omega), (by omega), (by omega), hf, rfl⟩
                · skip
                  by_cases c_24_8 : a = 7
                  · refine lv_tableIn (tgt := 135) (off := 111) hx hb dX8_about_24 (by rw [c_24_8]; decide) (by rw [c_24_8]; decide) (by rw [c_24_8]; decide) (by decide) ?_
                    refine lv_iconst (v := 0) hx hb dX8_about_135 (by decide) ?_
                    exact endI X hr hlocks hP hD hS dX8_about_136 ⟨wy, dn, la, ke, cn, ln, t0, t1, t2, t3, t4, t5, t6, ua, ub, uc, ud, ue, uf, ug, uh, ui, uj, uk, ul, um, un, cm, f, 0, rfl, (by omega), (by omega), (by omega), (by omega), (by omega), hf, rfl⟩
                  · skip
                    by_cases c_24_9 : a = 8
                    · refine lv_tableIn (tgt := 108) (off := 84) hx hb dX8_about_24 (by rw [c_24_9]; decide) (by rw [c_24_9]; decide) (by rw [c_24_9]; decide) (by decide) ?_
                      refine lv_aload_n hx hb dX8_about_108 rfl (lv_at hl 0 rfl) ?_
                      refine k_get (C := RX8) (T := TX8) (N := 9) (ci := 8) (v := .ref qm) X hE hP 0 rfl rfl iX8 7 (by decide) w_359 rfl dX8_about_109 ?_
                      refine k_getN (C := RX0) (T := TX0) (N := 18) (ci := 0) (v := .ref qms) X hE hP 5 rfl rfl iX0 3 (by decide) nw_24 rfl dX8_about_112 ?_
                      refine k_getN (C := RX2) (T := TX2) (N := 5) (ci := 2) (v := .int (nI cm)) X hE hP 6 rfl rfl iX2 4 (by decide) nw_23 rfl dX8_about_115 ?_
                      exact endI X hr hlocks hP hD hS dX8_about_118 ⟨wy, dn, la, ke, cn, ln, t0, t1, t2, t3, t4, t5, t6, ua, ub, uc, ud, ue, uf, ug, uh, ui, uj, uk, ul, um, un, cm, f, (nI cm), rfl, (by omega), (by omega), (by omega), (by omega), (by omega), hf, rfl⟩
                    · skip
                      by_cases c_24_10 : a = 9
                      · refine lv_tableIn (tgt := 119) (off := 95) hx hb dX8_about_24 (by rw [c_24_10]; decide) (by rw [c_24_10]; decide) (by rw [c_24_10]; decide) (by decide) ?_
                        refine lv_aload_n hx hb dX8_about_119 rfl (lv_at hl 0 rfl) ?_
                        refine k_get (C := RX8) (T := TX8) (N := 9) (ci := 8) (v := .ref qst) X hE hP 0 rfl rfl iX8 5 (by decide) w_319 rfl dX8_about_120 ?_
                        refine k_getN (C := RX6) (T := TX6) (N := 2) (ci := 6) (v := .int (nI cn)) X hE hP 3 rfl rfl iX6 1 (by decide) nw_9 rfl dX8_about_123 ?_
                        exact endI X hr hlocks hP hD hS dX8_about_126 ⟨wy, dn, la, ke, cn, ln, t0, t1, t2, t3, t4, t5, t6, ua, ub, uc, ud, ue, uf, ug, uh, ui, uj, uk, ul, um, un, cm, f, (nI cn), rfl, (by omega), (by omega), (by omega), (by omega), (by omega), hf, rfl⟩
                      · skip
                        by_cases c_24_11 : a = 10
                        · refine lv_tableIn (tgt := 127) (off := 103) hx hb dX8_about_24 (by rw [c_24_11]; decide) (by rw [c_24_11]; decide) (by rw [c_24_11]; decide) (by decide) ?_
                          refine lv_aload_n hx hb dX8_about_127 rfl (lv_at hl 0 rfl) ?_
                          refine k_get (C := RX8) (T := TX8) (N := 9) (ci := 8) (v := .ref qa) X hE hP 0 rfl rfl iX8 6 (by decide) w_354 rfl dX8_about_128 ?_
                          refine k_getN (C := RX7) (T := TX7) (N := 9) (ci := 7) (v := .int (nI ln)) X hE hP 4 rfl rfl iX7 1 (by decide) nw_12 rfl dX8_about_131 ?_
                          exact endI X hr hlocks hP hD hS dX8_about_134 ⟨wy, dn, la, ke, cn, ln, t0, t1, t2, t3, t4, t5, t6, ua, ub, uc, ud, ue, uf, ug, uh, ui, uj, uk, ul, um, un, cm, f, (nI ln), rfl, (by omega), (by omega), (by omega), (by omega), (by omega), hf, rfl⟩
                        · skip
                          refine lv_tableOut (tgt := 135) hx hb dX8_about_24 (by have n_0 := lv_neT (k := 0) (a := 0) c_24_1 (by decide); have n_1 := lv_neT (k := 1) (a := 1) c_24_2 (by decide); have n_2 := lv_neT (k := 2) (a := 2) c_24_3 (by decide); have n_3 := lv_neT (k := 3) (a := 3) c_24_4 (by decide); have n_4 := lv_neT (k := 4) (a := 4) c_24_5 (by decide); have n_5 := lv_neT (k := 5) (a := 5) c_24_6 (by decide); have n_6 := lv_neT (k := 6) (a := 6) c_24_7 (by decide); have n_7 := lv_neT (k := 7) (a := 7) c_24_8 (by decide); have n_8 := lv_neT (k := 8) (a := 8) c_24_9 (by decide); have n_9 := lv_neT (k := 9) (a := 9) c_24_10 (by decide); have n_10 := lv_neT (k := 10) (a := 10) c_24_11 (by decide); omega) (by decide) ?_
                          refine lv_iconst (v := 0) hx hb dX8_about_135 (by decide) ?_
                          exact endI X hr hlocks hP hD hS dX8_about_136 ⟨wy, dn, la, ke, cn, ln, t0, t1, t2, t3, t4, t5, t6, ua, ub, uc, ud, ue, uf, ug, uh, ui, uj, uk, ul, um, un, cm, f, 0, rfl, (by omega), (by omega), (by omega), (by omega), (by omega), hf, rfl⟩
  · skip
    refine lv_iload_n hx hb dX8_about_5 rfl (lv_at hl 1 rfl) ?_
    refine lv_bipush (v := 7) hx hb dX8_about_6 (by decide) ?_
    refine lv_icmp_gt (tgt := 23) hx hb dX8_about_8 (by decide) (fun c_8 => ?_) (fun c_8 => ?_)
    · skip
      refine lv_iload_n hx hb dX8_about_23 rfl (lv_at hl 1 rfl) ?_
      by_cases c_24_12 : a = 0
      · refine lv_tableIn (tgt := 84) (off := 60) hx hb dX8_about_24 (by rw [c_24_12]; decide) (by rw [c_24_12]; decide) (by rw [c_24_12]; decide) (by decide) ?_
        refine lv_aload_n hx hb dX8_about_84 rfl (lv_at hl 0 rfl) ?_
        refine k_get (C := RX8) (T := TX8) (N := 9) (ci := 8) (v := .ref qr) X hE hP 0 rfl rfl iX8 4 (by decide) w_314 rfl dX8_about_85 ?_
        refine k_getN (C := RX4) (T := TX4) (N := 7) (ci := 4) (v := .int wy) X hE hP 1 rfl rfl iX4 5 (by decide) nw_6 rfl dX8_about_88 ?_
        exact endI X hr hlocks hP hD hS dX8_about_91 ⟨wy, dn, la, ke, cn, ln, t0, t1, t2, t3, t4, t5, t6, ua, ub, uc, ud, ue, uf, ug, uh, ui, uj, uk, ul, um, un, cm, f, wy, rfl, (by omega), (by omega), (by omega), (by omega), (by omega), hf, rfl⟩
      · skip
        by_cases c_24_13 : a = 1
        · refine lv_tableIn (tgt := 92) (off := 68) hx hb dX8_about_24 (by rw [c_24_13]; decide) (by rw [c_24_13]; decide) (by rw [c_24_13]; decide) (by decide) ?_
          refine lv_aload_n hx hb dX8_about_92 rfl (lv_at hl 0 rfl) ?_
          refine k_get (C := RX8) (T := TX8) (N := 9) (ci := 8) (v := .ref qr) X hE hP 0 rfl rfl iX8 4 (by decide) w_314 rfl dX8_about_93 ?_
          refine k_getN (C := RX4) (T := TX4) (N := 7) (ci := 4) (v := .int dn) X hE hP 1 rfl rfl iX4 6 (by decide) nw_7 rfl dX8_about_96 ?_
          exact endI X hr hlocks hP hD hS dX8_about_99 ⟨wy, dn, la, ke, cn, ln, t0, t1, t2, t3, t4, t5, t6, ua, ub, uc, ud, ue, uf, ug, uh, ui, uj, uk, ul, um, un, cm, f, dn, rfl, (by omega), (by omega), (by omega), (by omega), (by omega), hf, rfl⟩
        · skip
          by_cases c_24_14 : a = 2
          · refine lv_tableIn (tgt := 100) (off := 76) hx hb dX8_about_24 (by rw [c_24_14]; decide) (by rw [c_24_14]; decide) (by rw [c_24_14]; decide) (by decide) ?_
            refine lv_aload_n hx hb dX8_about_100 rfl (lv_at hl 0 rfl) ?_
            refine k_get (C := RX8) (T := TX8) (N := 9) (ci := 8) (v := .ref hp) X hE hP 0 rfl rfl iX8 3 (by decide) w_328 rfl dX8_about_101 ?_
            refine k_getN (C := RX3) (T := TX3) (N := 3) (ci := 3) (v := .int (nI ke)) X hE hP 2 rfl rfl iX3 2 (by decide) nw_4 rfl dX8_about_104 ?_
            exact endI X hr hlocks hP hD hS dX8_about_107 ⟨wy, dn, la, ke, cn, ln, t0, t1, t2, t3, t4, t5, t6, ua, ub, uc, ud, ue, uf, ug, uh, ui, uj, uk, ul, um, un, cm, f, (nI ke), rfl, (by omega), (by omega), (by omega), (by omega), (by omega), hf, rfl⟩
          · skip
            by_cases c_24_15 : a = 3
            · refine lv_tableIn (tgt := 135) (off := 111) hx hb dX8_about_24 (by rw [c_24_15]; decide) (by rw [c_24_15]; decide) (by rw [c_24_15]; decide) (by decide) ?_
              refine lv_iconst (v := 0) hx hb dX8_about_135 (by decide) ?_
              exact endI X hr hlocks hP hD hS dX8_about_136 ⟨wy, dn, la, ke, cn, ln, t0, t1, t2, t3, t4, t5, t6, ua, ub, uc, ud, ue, uf, ug, uh, ui, uj, uk, ul, um, un, cm, f, 0, rfl, (by omega), (by omega), (by omega), (by omega), (by omega), hf, rfl⟩
            · skip
              by_cases c_24_16 : a = 4
              · refine lv_tableIn (tgt := 135) (off := 111) hx hb dX8_about_24 (by rw [c_24_16]; decide) (by rw [c_24_16]; decide) (by rw [c_24_16]; decide) (by decide) ?_
                refine lv_iconst (v := 0) hx hb dX8_about_135 (by decide) ?_
                exact endI X hr hlocks hP hD hS dX8_about_136 ⟨wy, dn, la, ke, cn, ln, t0, t1, t2, t3, t4, t5, t6, ua, ub, uc, ud, ue, uf, ug, uh, ui, uj, uk, ul, um, un, cm, f, 0, rfl, (by omega), (by omega), (by omega), (by omega), (by omega), hf, rfl⟩
              · skip
                by_cases c_24_17 : a = 5
                · refine lv_tableIn (tgt := 135) (off := 111) hx hb dX8_about_24 (by rw [c_24_17]; decide) (by rw [c_24_17]; decide) (by rw [c_24_17]; decide) (by decide) ?_
                  refine lv_iconst (v := 0) hx hb dX8_about_135 (by decide) ?_
                  exact endI X hr hlocks hP hD hS dX8_about_136 ⟨wy, dn, la, ke, cn, ln, t0, t1, t2, t3, t4, t5, t6, ua, ub, uc, ud, ue, uf, ug, uh, ui, uj, uk, ul, um, un, cm, f, 0, rfl, (by omega), (by omega), (by omega), (by omega), (by omega), hf, rfl⟩
                · skip
                  by_cases c_24_18 : a = 6
                  · refine lv_tableIn (tgt := 135) (off := 111) hx hb dX8_about_24 (by rw [c_24_18]; decide) (by rw [c_24_18]; decide) (by rw [c_24_18]; decide) (by decide) ?_
                    refine lv_iconst (v := 0) hx hb dX8_about_135 (by decide) ?_
                    exact endI X hr hlocks hP hD hS dX8_about_136 ⟨wy, dn, la, ke, cn, ln, t0, t1, t2, t3, t4, t5, t6, ua, ub, uc, ud, ue, uf, ug, uh, ui, uj, uk, ul, um, un, cm, f, 0, rfl, (by omega), (by omega), (by omega), (by omega), (by omega), hf, rfl⟩
                  · skip
                    by_cases c_24_19 : a = 7
                    · refine lv_tableIn (tgt := 135) (off := 111) hx hb dX8_about_24 (by rw [c_24_19]; decide) (by rw [c_24_19]; decide) (by rw [c_24_19]; decide) (by decide) ?_
                      refine lv_iconst (v := 0) hx hb dX8_about_135 (by decide) ?_
                      exact endI X hr hlocks hP hD hS dX8_about_136 ⟨wy, dn, la, ke, cn, ln, t0, t1, t2, t3, t4, t5, t6, ua, ub, uc, ud, ue, uf, ug, uh, ui, uj, uk, ul, um, un, cm, f, 0, rfl, (by omega), (by omega), (by omega), (by omega), (by omega), hf, rfl⟩
                    · skip
                      by_cases c_24_20 : a = 8
                      · refine lv_tableIn (tgt := 108) (off := 84) hx hb dX8_about_24 (by rw [c_24_20]; decide) (by rw [c_24_20]; decide) (by rw [c_24_20]; decide) (by decide) ?_
                        refine lv_aload_n hx hb dX8_about_108 rfl (lv_at hl 0 rfl) ?_
                        refine k_get (C := RX8) (T := TX8) (N := 9) (ci := 8) (v := .ref qm) X hE hP 0 rfl rfl iX8 7 (by decide) w_359 rfl dX8_about_109 ?_
                        refine k_getN (C := RX0) (T := TX0) (N := 18) (ci := 0) (v := .ref qms) X hE hP 5 rfl rfl iX0 3 (by decide) nw_24 rfl dX8_about_112 ?_
                        refine k_getN (C := RX2) (T := TX2) (N := 5) (ci := 2) (v := .int (nI cm)) X hE hP 6 rfl rfl iX2 4 (by decide) nw_23 rfl dX8_about_115 ?_
                        exact endI X hr hlocks hP hD hS dX8_about_118 ⟨wy, dn, la, ke, cn, ln, t0, t1, t2, t3, t4, t5, t6, ua, ub, uc, ud, ue, uf, ug, uh, ui, uj, uk, ul, um, un, cm, f, (nI cm), rfl, (by omega), (by omega), (by omega), (by omega), (by omega), hf, rfl⟩
                      · skip
                        by_cases c_24_21 : a = 9
                        · refine lv_tableIn (tgt := 119) (off := 95) hx hb dX8_about_24 (by rw [c_24_21]; decide) (by rw [c_24_21]; decide) (by rw [c_24_21]; decide) (by decide) ?_
                          refine lv_aload_n hx hb dX8_about_119 rfl (lv_at hl 0 rfl) ?_
                          refine k_get (C := RX8) (T := TX8) (N := 9) (ci := 8) (v := .ref qst) X hE hP 0 rfl rfl iX8 5 (by decide) w_319 rfl dX8_about_120 ?_
                          refine k_getN (C := RX6) (T := TX6) (N := 2) (ci := 6) (v := .int (nI cn)) X hE hP 3 rfl rfl iX6 1 (by decide) nw_9 rfl dX8_about_123 ?_
                          exact endI X hr hlocks hP hD hS dX8_about_126 ⟨wy, dn, la, ke, cn, ln, t0, t1, t2, t3, t4, t5, t6, ua, ub, uc, ud, ue, uf, ug, uh, ui, uj, uk, ul, um, un, cm, f, (nI cn), rfl, (by omega), (by omega), (by omega), (by omega), (by omega), hf, rfl⟩
                        · skip
                          by_cases c_24_22 : a = 10
                          · refine lv_tableIn (tgt := 127) (off := 103) hx hb dX8_about_24 (by rw [c_24_22]; decide) (by rw [c_24_22]; decide) (by rw [c_24_22]; decide) (by decide) ?_
                            refine lv_aload_n hx hb dX8_about_127 rfl (lv_at hl 0 rfl) ?_
                            refine k_get (C := RX8) (T := TX8) (N := 9) (ci := 8) (v := .ref qa) X hE hP 0 rfl rfl iX8 6 (by decide) w_354 rfl dX8_about_128 ?_
                            refine k_getN (C := RX7) (T := TX7) (N := 9) (ci := 7) (v := .int (nI ln)) X hE hP 4 rfl rfl iX7 1 (by decide) nw_12 rfl dX8_about_131 ?_
                            exact endI X hr hlocks hP hD hS dX8_about_134 ⟨wy, dn, la, ke, cn, ln, t0, t1, t2, t3, t4, t5, t6, ua, ub, uc, ud, ue, uf, ug, uh, ui, uj, uk, ul, um, un, cm, f, (nI ln), rfl, (by omega), (by omega), (by omega), (by omega), (by omega), hf, rfl⟩
                          · skip
                            refine lv_tableOut (tgt := 135) hx hb dX8_about_24 (by have n_0 := lv_neT (k := 0) (a := 0) c_24_12 (by decide); have n_1 := lv_neT (k := 1) (a := 1) c_24_13 (by decide); have n_2 := lv_neT (k := 2) (a := 2) c_24_14 (by decide); have n_3 := lv_neT (k := 3) (a := 3) c_24_15 (by decide); have n_4 := lv_neT (k := 4) (a := 4) c_24_16 (by decide); have n_5 := lv_neT (k := 5) (a := 5) c_24_17 (by decide); have n_6 := lv_neT (k := 6) (a := 6) c_24_18 (by decide); have n_7 := lv_neT (k := 7) (a := 7) c_24_19 (by decide); have n_8 := lv_neT (k := 8) (a := 8) c_24_20 (by decide); have n_9 := lv_neT (k := 9) (a := 9) c_24_21 (by decide); have n_10 := lv_neT (k := 10) (a := 10) c_24_22 (by decide); omega) (by decide) ?_
                            refine lv_iconst (v := 0) hx hb dX8_about_135 (by decide) ?_
                            exact endI X hr hlocks hP hD hS dX8_about_136 ⟨wy, dn, la, ke, cn, ln, t0, t1, t2, t3, t4, t5, t6, ua, ub, uc, ud, ue, uf, ug, uh, ui, uj, uk, ul, um, un, cm, f, 0, rfl, (by omega), (by omega), (by omega), (by omega), (by omega), hf, rfl⟩
    · skip
      obtain ⟨j, hj1, hj2, ej⟩ := idx_37 c_2 c_8
      rw [ej] at hl
      refine lv_aload_n hx hb dX8_about_11 rfl (lv_at hl 0 rfl) ?_
      refine k_get (C := RX8) (T := TX8) (N := 9) (ci := 8) (v := .ref hn) X hE hP 0 rfl rfl iX8 0 (by decide) w_324 rfl dX8_about_12 ?_
      refine lv_bipush (v := 28) hx hb dX8_about_15 (by decide) ?_
      refine lv_iload_n hx hb dX8_about_17 rfl (lv_at hl 1 rfl) ?_
      refine lv_iadd hx hb dX8_about_18 ?_
      refine tk (y := nI (28 + j)) (nI_add 28 j) ?_
      refine lv_iconst (v := 3) hx hb dX8_about_19 (by decide) ?_
      refine lv_isub hx hb dX8_about_20 ?_
      refine tk (y := nI (28 + j - 3)) (pk_sub (a := 28 + j) (b := 3) (by omega)) ?_
      refine k_ald (v := f (28 + j - 3)) X hE hP 7 rfl (28 + j - 3) rfl (by omega) (by decide) rfl dX8_about_21 ?_
      exact endI X hr hlocks hP hD hS dX8_about_22 ⟨wy, dn, la, ke, cn, ln, t0, t1, t2, t3, t4, t5, t6, ua, ub, uc, ud, ue, uf, ug, uh, ui, uj, uk, ul, um, un, cm, f, (f (28 + j - 3)), rfl, (by omega), (by omega), (by omega), (by omega), (by omega), hf, rfl⟩
