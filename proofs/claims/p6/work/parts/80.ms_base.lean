abbrev cX9_in : ByteArray := prog_11_method_3_code
def yX9_in : MethodName := ⟨RX9, "in", "(III)Z"⟩
abbrev cX9_isByte : ByteArray := prog_11_method_4_code
def yX9_isByte : MethodName := ⟨RX9, "isByte", "(I)Z"⟩
abbrev cX9_isLetter : ByteArray := prog_11_method_52_code
def yX9_isLetter : MethodName := ⟨RX9, "isLetter", "(I)Z"⟩
abbrev cX9_isDigit : ByteArray := prog_11_method_53_code
def yX9_isDigit : MethodName := ⟨RX9, "isDigit", "(I)Z"⟩
abbrev cX9_flag : ByteArray := prog_11_method_2_code
def yX9_flag : MethodName := ⟨RX9, "flag", "(Z)I"⟩
abbrev cX9_isHex : ByteArray := prog_11_method_54_code
def yX9_isHex : MethodName := ⟨RX9, "isHex", "(I)Z"⟩
abbrev cX9_cyclesOf : ByteArray := prog_11_method_24_code
def yX9_cyclesOf : MethodName := ⟨RX9, "cyclesOf", "(I)I"⟩
set_option maxRecDepth 100000 in
theorem w_501 : (Cond.methodLink "BelfryBoxModel" 85 yX9_in : Cond) ∈ gw := List.mem_filter.mpr ⟨List.mem_append_right _ (tb6 (List.mem_of_getElem? (i := 69) rfl)), rfl⟩
set_option maxRecDepth 100000 in
theorem w_502 : (Cond.code yX9_in prog_11_method_3_code 3 (Option.some Jvm.ClassFile.FieldType.boolean) : Cond) ∈ gw := List.mem_filter.mpr ⟨List.mem_append_right _ (tb6 (List.mem_of_getElem? (i := 71) rfl)), rfl⟩
set_option maxRecDepth 100000 in
theorem w_503 : (Cond.initialized "BelfryBoxModel" : Cond) ∈ gw := List.mem_filter.mpr ⟨List.mem_append_right _ (tb1 (List.mem_of_getElem? (i := 11) rfl)), rfl⟩
set_option maxRecDepth 100000 in
theorem w_504 : (Cond.static yX9_in : Cond) ∈ gw := List.mem_filter.mpr ⟨List.mem_append_right _ (tb6 (List.mem_of_getElem? (i := 70) rfl)), rfl⟩
set_option maxRecDepth 100000 in
theorem w_505 : (Cond.methodLink "BelfryBoxModel" 328 yX9_isDigit : Cond) ∈ gw := List.mem_filter.mpr ⟨List.mem_append_right _ (tb7 (List.mem_of_getElem? (i := 34) rfl)), rfl⟩
set_option maxRecDepth 100000 in
theorem w_506 : (Cond.code yX9_isDigit prog_11_method_53_code 1 (Option.some Jvm.ClassFile.FieldType.boolean) : Cond) ∈ gw := List.mem_filter.mpr ⟨List.mem_append_right _ (tb7 (List.mem_of_getElem? (i := 36) rfl)), rfl⟩
set_option maxRecDepth 100000 in
theorem w_507 : (Cond.static yX9_isDigit : Cond) ∈ gw := List.mem_filter.mpr ⟨List.mem_append_right _ (tb7 (List.mem_of_getElem? (i := 35) rfl)), rfl⟩
theorem dX9_in_0 : decode cX9_in 0 = .ok (.iload_n 0, 1) := by decide +kernel
theorem dX9_in_1 : decode cX9_in 1 = .ok (.iload_n 1, 1) := by decide +kernel
theorem dX9_in_2 : decode cX9_in 2 = .ok (.if_icmp .lt 12, 3) := by decide +kernel
theorem dX9_in_14 : decode cX9_in 14 = .ok (.iconst 0, 1) := by decide +kernel
theorem dX9_in_15 : decode cX9_in 15 = .ok (.ireturn, 1) := by decide +kernel
theorem dX9_in_5 : decode cX9_in 5 = .ok (.iload_n 0, 1) := by decide +kernel
theorem dX9_in_6 : decode cX9_in 6 = .ok (.iload_n 2, 1) := by decide +kernel
theorem dX9_in_7 : decode cX9_in 7 = .ok (.if_icmp .gt 7, 3) := by decide +kernel
theorem dX9_in_10 : decode cX9_in 10 = .ok (.iconst 1, 1) := by decide +kernel
theorem dX9_in_11 : decode cX9_in 11 = .ok (.goto 4, 3) := by decide +kernel
theorem dX9_isByte_0 : decode cX9_isByte 0 = .ok (.iload_n 0, 1) := by decide +kernel
theorem dX9_isByte_1 : decode cX9_isByte 1 = .ok (.iconst 0, 1) := by decide +kernel
theorem dX9_isByte_2 : decode cX9_isByte 2 = .ok (.sipush 255, 3) := by decide +kernel
theorem dX9_isByte_5 : decode cX9_isByte 5 = .ok (.invokestatic 85, 3) := by decide +kernel
theorem dX9_isByte_8 : decode cX9_isByte 8 = .ok (.ireturn, 1) := by decide +kernel
theorem dX9_isLetter_0 : decode cX9_isLetter 0 = .ok (.iload_n 0, 1) := by decide +kernel
theorem dX9_isLetter_1 : decode cX9_isLetter 1 = .ok (.bipush 97, 2) := by decide +kernel
theorem dX9_isLetter_3 : decode cX9_isLetter 3 = .ok (.bipush 122, 2) := by decide +kernel
theorem dX9_isLetter_5 : decode cX9_isLetter 5 = .ok (.invokestatic 85, 3) := by decide +kernel
theorem dX9_isLetter_8 : decode cX9_isLetter 8 = .ok (.ireturn, 1) := by decide +kernel
theorem dX9_isDigit_0 : decode cX9_isDigit 0 = .ok (.iload_n 0, 1) := by decide +kernel
theorem dX9_isDigit_1 : decode cX9_isDigit 1 = .ok (.bipush 48, 2) := by decide +kernel
theorem dX9_isDigit_3 : decode cX9_isDigit 3 = .ok (.bipush 57, 2) := by decide +kernel
theorem dX9_isDigit_5 : decode cX9_isDigit 5 = .ok (.invokestatic 85, 3) := by decide +kernel
theorem dX9_isDigit_8 : decode cX9_isDigit 8 = .ok (.ireturn, 1) := by decide +kernel
theorem dX9_flag_0 : decode cX9_flag 0 = .ok (.iload_n 0, 1) := by decide +kernel
theorem dX9_flag_1 : decode cX9_flag 1 = .ok (.ifCond .eq 7, 3) := by decide +kernel
theorem dX9_flag_8 : decode cX9_flag 8 = .ok (.iconst 0, 1) := by decide +kernel
theorem dX9_flag_9 : decode cX9_flag 9 = .ok (.ireturn, 1) := by decide +kernel
theorem dX9_flag_4 : decode cX9_flag 4 = .ok (.iconst 1, 1) := by decide +kernel
theorem dX9_flag_5 : decode cX9_flag 5 = .ok (.goto 4, 3) := by decide +kernel
theorem dX9_isHex_0 : decode cX9_isHex 0 = .ok (.iload_n 0, 1) := by decide +kernel
theorem dX9_isHex_1 : decode cX9_isHex 1 = .ok (.invokestatic 328, 3) := by decide +kernel
theorem dX9_isHex_4 : decode cX9_isHex 4 = .ok (.ifCond .ne 14, 3) := by decide +kernel
theorem dX9_isHex_18 : decode cX9_isHex 18 = .ok (.iconst 1, 1) := by decide +kernel
theorem dX9_isHex_19 : decode cX9_isHex 19 = .ok (.goto 4, 3) := by decide +kernel
theorem dX9_isHex_23 : decode cX9_isHex 23 = .ok (.ireturn, 1) := by decide +kernel
theorem dX9_isHex_7 : decode cX9_isHex 7 = .ok (.iload_n 0, 1) := by decide +kernel
theorem dX9_isHex_8 : decode cX9_isHex 8 = .ok (.bipush 97, 2) := by decide +kernel
theorem dX9_isHex_10 : decode cX9_isHex 10 = .ok (.bipush 102, 2) := by decide +kernel
theorem dX9_isHex_12 : decode cX9_isHex 12 = .ok (.invokestatic 85, 3) := by decide +kernel
theorem dX9_isHex_15 : decode cX9_isHex 15 = .ok (.ifCond .eq 7, 3) := by decide +kernel
theorem dX9_isHex_22 : decode cX9_isHex 22 = .ok (.iconst 0, 1) := by decide +kernel
theorem dX9_cyclesOf_0 : decode cX9_cyclesOf 0 = .ok (.iload_n 0, 1) := by decide +kernel
theorem dX9_cyclesOf_1 : decode cX9_cyclesOf 1 = .ok (.iconst 2, 1) := by decide +kernel
theorem dX9_cyclesOf_2 : decode cX9_cyclesOf 2 = .ok (.if_icmp .ge 9, 3) := by decide +kernel
theorem dX9_cyclesOf_11 : decode cX9_cyclesOf 11 = .ok (.iload_n 0, 1) := by decide +kernel
theorem dX9_cyclesOf_12 : decode cX9_cyclesOf 12 = .ok (.iconst 4, 1) := by decide +kernel
theorem dX9_cyclesOf_13 : decode cX9_cyclesOf 13 = .ok (.if_icmp .ge 7, 3) := by decide +kernel
theorem dX9_cyclesOf_20 : decode cX9_cyclesOf 20 = .ok (.iload_n 0, 1) := by decide +kernel
theorem dX9_cyclesOf_21 : decode cX9_cyclesOf 21 = .ok (.bipush 6, 2) := by decide +kernel
theorem dX9_cyclesOf_23 : decode cX9_cyclesOf 23 = .ok (.if_icmp .ge 7, 3) := by decide +kernel
theorem dX9_cyclesOf_30 : decode cX9_cyclesOf 30 = .ok (.iload_n 0, 1) := by decide +kernel
theorem dX9_cyclesOf_31 : decode cX9_cyclesOf 31 = .ok (.ireturn, 1) := by decide +kernel
theorem dX9_cyclesOf_26 : decode cX9_cyclesOf 26 = .ok (.iconst 5, 1) := by decide +kernel
theorem dX9_cyclesOf_27 : decode cX9_cyclesOf 27 = .ok (.goto 4, 3) := by decide +kernel
theorem dX9_cyclesOf_16 : decode cX9_cyclesOf 16 = .ok (.iconst 4, 1) := by decide +kernel
theorem dX9_cyclesOf_17 : decode cX9_cyclesOf 17 = .ok (.goto 14, 3) := by decide +kernel
theorem dX9_cyclesOf_5 : decode cX9_cyclesOf 5 = .ok (.iconst 2, 1) := by decide +kernel
theorem dX9_cyclesOf_6 : decode cX9_cyclesOf 6 = .ok (.iload_n 0, 1) := by decide +kernel
theorem dX9_cyclesOf_7 : decode cX9_cyclesOf 7 = .ok (.iadd, 1) := by decide +kernel
theorem dX9_cyclesOf_8 : decode cX9_cyclesOf 8 = .ok (.goto 23, 3) := by decide +kernel
/-! what the reference's calls answer on a fresh object, in its own cases -/
def inM (k lo hi : Int32) : Int32 := if k < lo then 0 else if hi < k then 0 else 1
def flg (o : Int32) : Int32 := if o = 0 then 0 else 1
theorem inM_nar (k lo hi : Int32) : narrow .boolean (.int (inM k lo hi)) = .int (inM k lo hi) := by
  unfold inM
  by_cases h : k < lo
  · rw [if_pos h]; rfl
  · rw [if_neg h]
    by_cases h2 : hi < k
    · rw [if_pos h2]; rfl
    · rw [if_neg h2]; rfl
theorem inM_spl {k lo hi : Int32} (h : ¬ inM k lo hi = 0) : ¬ k < lo ∧ ¬ hi < k := by
  unfold inM at h
  by_cases h1 : k < lo
  · rw [if_pos h1] at h; exact absurd rfl h
  · rw [if_neg h1] at h
    by_cases h2 : hi < k
    · rw [if_pos h2] at h; exact absurd rfl h
    · exact ⟨h1, h2⟩
theorem inM_idx {k : Int32} {n : Nat} (hn : n < 2 ^ 30) (h : ¬ inM k 0 (nI n) = 0) : ∃ j : Nat, j ≤ n ∧ k = nI j := idx_le hn (inM_spl h).1 (inM_spl h).2
theorem inM_rng {k : Int32} {lo hi : Nat} (hh : hi < 2 ^ 30) (hl : lo ≤ hi) (h : ¬ inM k (nI lo) (nI hi) = 0) : ∃ j : Nat, lo ≤ j ∧ j ≤ hi ∧ k = nI j := by
  obtain ⟨h1, h2⟩ := inM_spl h
  have h0 : ¬ k < 0 := fun q => h1 (Int32.lt_of_lt_of_le q (nI_pos' (by omega)))
  obtain ⟨j, hj, rfl⟩ := idx_le hh h0 h2
  refine ⟨j, ?_, hj, rfl⟩
  rcases Nat.lt_or_ge j lo with q | q
  · exact absurd (nI_lt q (by omega)) h1
  · exact q
theorem inM_none (k : Int32) : inM k 0 (-1) = 0 := by
  unfold inM
  by_cases h : k < 0
  · rw [if_pos h]
  · rw [if_neg h, if_pos (Int32.lt_of_lt_of_le (by decide) (Int32.not_lt.mp h))]
theorem inM_10 (k : Int32) : inM k 1 0 = 0 := by
  unfold inM
  by_cases h : k < 1
  · rw [if_pos h]
  · rw [if_neg h, if_pos (Int32.lt_of_lt_of_le (by decide) (Int32.not_lt.mp h))]
def m_peek (a : Int32) : Int32 := if inM a 0 4095 = 0 then -1 else 0
def m_poke (a v : Int32) : Int32 := if inM a 0 4079 = 0 then 0 else if inM v 0 255 = 0 then 0 else 1
def m_drum (a v : Int32) : Int32 := if inM a 0 63 = 0 then 0 else if inM v 0 255 = 0 then 0 else 1
def m_key (v : Int32) : Int32 := if inM v 0 255 = 0 then -1 else 1
def m_end (a : Int32) : Int32 := if inM a 0 0 = 0 then -1 else a
def m_stop (a o : Int32) : Int32 := if inM a 0 4095 = 0 then -1 else if o = 0 then 0 + (flg o - 0) else 0 + (flg o - 0)
def m_register (a : Int32) : Int32 := if a = 0 then 0 else if a = 1 then 0 else if a = 2 then 0 else if a = 3 then 255 else if a = 4 then 0 else if a = 5 then 4 else if a = 6 then 0 else if a = 7 then 0 else 0
def m_device (a : Int32) : Int32 := if inM a 12 19 = 0 then (if inM a 21 36 = 0 then (if a = 0 then 0 else if a = 1 then 0 else if a = 2 then 0 else if a = 3 then 0 else if a = 4 then 0 else if a = 5 then 0 else if a = 6 then 0 else if a = 7 then 0 else if a = 8 then 0 else if a = 9 then 0 else if a = 10 then 1 else if a = 11 then 0 else if a = 12 then 0 else if a = 13 then 0 else if a = 14 then 0 else if a = 15 then 0 else if a = 16 then 0 else if a = 17 then 0 else if a = 18 then 0 else if a = 19 then 0 else if a = 20 then 0 else 0) else 0) else 0
def m_text (a : Int32) : Int32 := if inM a 0 4095 = 0 then -1 else 2
def m_run (a : Int32) : Int32 := if inM a 1 2000 = 0 then -1 else a
theorem sub_nI {a : Int32} {j k : Nat} (h : a = nI j) (hk : k ≤ j) : a - nI k = nI (j - k) := by rw [h]; exact pk_sub hk
theorem up8 {f : Nat → Int32} : ∀ j, j < 8 → (upd (upd (upd (upd (upd (upd (upd (upd f 0 0) 1 0) 2 0) 3 0) 4 0) 5 0) 6 0) 7 0) j = 0 := by
  intro j hj
  rcases (show j = 0 ∨ j = 1 ∨ j = 2 ∨ j = 3 ∨ j = 4 ∨ j = 5 ∨ j = 6 ∨ j = 7 by omega) with rfl | rfl | rfl | rfl | rfl | rfl | rfl | rfl <;> rfl
def wordsL : List Nat := [7759, 5342739, 185122, 150007, 680116, 1164, 24716, 25740, 4225, 2739, 4545, 1615, 18936, 16803, 25091, 26115, 21108, 12973, 22820, 24705, 25729, 1683, 25235, 26259, 27283, 3529, 3236, 12563, 18707, 12786, 18930, 20659, 18819, 17139, 13441, 16810, 19050, 17570, 5570, 19554, 3170, 9634, 12802, 20162, 3778, 1602, 24900, 25924, 8816, 12323, 16980, 12425, 16878, 20114, 9874, 20872, 24628, 1812, 25652, 1844, 25204, 20244, 1296, 1424, 24848, 24976, 25872, 26000, 6416, 6544, 3251, 3459, 9395, 9603, 22915, 25033, 24740, 26057, 25764, 1481, 1188, 7342, 15091, 4194]
/-! the reference: its kept steps, 256 rows of 60 -/
def bdM (j : Nat) : Option Nat := if j < 4 then some 256 else if j = 4 then some 4096 else if j = 8 then some 65536 else if j = 9 then some 65536 else if j = 10 then some 2 else if j = 14 then some 64 else if j = 15 then some 256 else if j = 16 then some 256 else if j = 19 then some 17 else if j < 20 then none else if j < 36 then some 256 else if j < 47 then none else if j = 47 then some 301 else if j = 48 then some 201 else if j = 49 then some 257 else if j = 50 then some 5 else if j % 2 = 1 then some 4096 else some 256
def okM (f : Nat → Int32) : Prop := ∀ e j, e < 256 → j < 59 → inR (bdM j) (f (e * 60 + j))
theorem okM.at {f : Nat → Int32} (h : okM f) (i e j n : Nat) (he : e < 256) (hj : j < 59) (hi : i = e * 60 + j) (hb : bdM j = some n) : ∃ k : Nat, k < n ∧ f i = nI k := by
  have h1 := h e j he hj
  rw [hb] at h1
  rw [hi]
  exact h1
theorem okM_upd {f : Nat → Int32} (h : okM f) (i : Nat) (v : Int32) (e j : Nat) (hj : j < 59) (hi : i = e * 60 + j) (hv : inR (bdM j) v) : okM (upd f i v) := by
  intro e2 j2 he2 hj2
  by_cases q : e2 * 60 + j2 = i
  · have h1 : j2 = j := by omega
    rw [q, pk_us, h1]
    exact hv
  · rw [pk_un q]
    exact h e2 j2 he2 hj2
theorem okM_zero : okM (fun _ => 0) := by
  intro e j he hj
  have h2 : (List.range 60).all (fun j => (bdM j).all (fun n => decide (0 < n))) = true := by decide
  have h3 := List.all_eq_true.mp h2 j (List.mem_range.mpr (by omega))
  cases hb : bdM j with
  | none => trivial
  | some n => rw [hb] at h3; exact ⟨0, by simpa using h3, rfl⟩
theorem bdM_k {k : Nat} (h : k < 16) : bdM (20 + k) = some 256 := (by decide : ∀ k, k < 16 → bdM (20 + k) = some 256) k h
theorem bdM_r {k : Nat} (h : k < 8) : bdM (36 + k) = none := (by decide : ∀ k, k < 8 → bdM (36 + k) = none) k h
theorem bdM_a {k : Nat} (h : k < 4) : bdM (51 + 2 * k) = some 4096 := (by decide : ∀ k, k < 4 → bdM (51 + 2 * k) = some 4096) k h
theorem bdM_b {k : Nat} (h : k < 4) : bdM (52 + 2 * k) = some 256 := (by decide : ∀ k, k < 4 → bdM (52 + 2 * k) = some 256) k h
theorem sh1e {k : Nat} (h : k < 8) : (1 : Int32) <<< (nI k &&& 31) = nI (2 ^ k) := (by decide : ∀ j, j < 8 → (1 : Int32) <<< (nI j &&& 31) = nI (2 ^ j)) k h
theorem p2_le {k : Nat} (h : k < 8) : 2 ^ k ≤ 128 := (by decide : ∀ j, j < 8 → 2 ^ j ≤ 128) k h
theorem p2_8 {b k : Nat} (h : b < 2 ^ k) (hk : k ≤ 8) (h8 : 8 ≤ k) : b < 256 := by
  have e : k = 8 := by omega
  subst e
  exact h
theorem p2_s {b k : Nat} (h : b < 2 ^ k) : b + 2 ^ k < 2 ^ (k + 1) := by rw [Nat.pow_succ]; omega
theorem p2_t {b k : Nat} (h : b < 2 ^ k) : b < 2 ^ (k + 1) := by rw [Nat.pow_succ]; omega
/-- a line's name in the reference: none, or it lies in the tape -/
def okL (a b : Int32) : Prop := a < 0 ∨ ∃ i j : Nat, i ≤ j ∧ j < 6020 ∧ a = nI i ∧ b = nI j
theorem inM_lt {k : Int32} {n : Nat} (hn : n < 2 ^ 30) (h : ¬ inM k 0 (nI n - 1) = 0) : ∃ j : Nat, j < n ∧ k = nI j := by
  obtain ⟨h1, h2⟩ := inM_spl h
  obtain ⟨j, hj, rfl⟩ := nI_of h1
  rcases Nat.eq_zero_or_pos n with q | q
  · subst q
    exact absurd (Int32.lt_of_lt_of_le (by decide : nI 0 - 1 < 0) (nI_pos' hj)) h2
  · refine ⟨j, ?_, rfl⟩
    rw [show nI n - 1 = nI (n - 1) from pk_sub (b := 1) q] at h2
    rcases Nat.lt_or_ge j n with w | w
    · exact w
    · exact absurd (nI_lt (a := n - 1) (b := j) (by omega) hj) h2
theorem inM_rng2 {k : Int32} {n : Nat} (hn : n < 2 ^ 30) (h : ¬ inM k 1 (nI n) = 0) : ∃ j : Nat, 1 ≤ j ∧ j ≤ n ∧ k = nI j := by
  obtain ⟨h1, h2⟩ := inM_spl h
  have h0 : ¬ k < 0 := fun q => h1 (Int32.lt_trans q (by decide))
  obtain ⟨j, hj, rfl⟩ := idx_le hn h0 h2
  refine ⟨j, ?_, hj, rfl⟩
  rcases Nat.lt_or_ge j 1 with w | w
  · exact absurd (nI_lt (a := j) (b := 1) w (by decide)) h1
  · exact w
theorem sub_eq {a b c : Nat} (ha : a < 2 ^ 30) (hb : b < 2 ^ 30) (hc : c < 2 ^ 30) (h : nI a - nI b = nI c) : a = b + c := by
  have h1 : nI a = nI (b + c) := by rw [← nI_add, ← h]; exact (by rw [Int32.add_comm, Int32.sub_add_cancel])
  exact (nI_eq (by omega) (by omega)).mp h1
theorem lt_pred {k g : Nat} (hk : k < 2 ^ 30) (hg : g < 2 ^ 30) (h : ¬ nI g - 1 ≤ nI k) : k + 1 < g := by
  rcases Nat.eq_zero_or_pos g with q | q
  · subst q
    exact absurd (Int32.le_of_lt (Int32.lt_of_lt_of_le (by decide : nI 0 - 1 < 0) (nI_pos' (by omega)))) h
  · rw [show nI g - 1 = nI (g - 1) from pk_sub (b := 1) q] at h
    rcases Nat.lt_or_ge k (g - 1) with w | w
    · omega
    · exact absurd (nI_le (a := g - 1) (b := k) w (by omega)) h
theorem ts_neg {b : Nat} (h : b < 256) (h1 : 127 < b) (hc : nI b - 256 + 2 < 0) : -(nI b - 256 + 2) = nI (254 - b) ∧ b < 254 := (by decide +kernel : ∀ b, b < 256 → 127 < b → nI b - 256 + 2 < 0 → -(nI b - 256 + 2) = nI (254 - b) ∧ b < 254) b h h1 hc
theorem ts_pos {b : Nat} (h : b < 256) (h1 : 127 < b) (hc : ¬ nI b - 256 + 2 < 0) : nI b - 256 + 2 = nI (b - 254) ∧ 254 ≤ b := (by decide +kernel : ∀ b, b < 256 → 127 < b → ¬ nI b - 256 + 2 < 0 → nI b - 256 + 2 = nI (b - 254) ∧ 254 ≤ b) b h h1 hc
theorem inM_out {k lo hi : Int32} (h : inM k lo hi = 0) : k < lo ∨ hi < k := by
  unfold inM at h
  by_cases h1 : k < lo
  · exact Or.inl h1
  · rw [if_neg h1] at h
    by_cases h2 : hi < k
    · exact Or.inr h2
    · rw [if_neg h2] at h; exact absurd h (by decide)
set_option maxHeartbeats 4000000 in
set_option maxRecDepth 100000 in
theorem c_m_in (l : Launch) (D : va_G) (cA cB : ClassId) (a : Int32) (b : Int32) (d : Int32)  : CI l yX9_in cX9_in 3 (some .boolean) 0 0 0 0 D cA cB [.int a, .int b, .int d] [] (fun r W1 => r = (inM a b d) ∧ W1 = []) := by
  refine mkI (lv0 := [(0, .int a), (1, .int b), (2, .int d)]) (by decide) (Nat.le_of_ble_eq_true rfl) rfl ?_
  intro p e s m below meth c A ls X hr hlocks hnm hE hA hP hD hS hl
  have hx := X.1
  have hb := X.2.1
  refine qW (fun Q9 hQ9 => ?_)
  refine lv_iload_n hx hb dX9_in_0 rfl (lv_at hl 0 rfl) ?_
  refine lv_iload_n hx hb dX9_in_1 rfl (lv_at hl 1 rfl) ?_
  refine lv_icmp_lt (tgt := 14) hx hb dX9_in_2 (by decide) (fun c_2 => ?_) (fun c_2 => ?_)
  · skip
    refine lv_iconst (v := 0) hx hb dX9_in_14 (by decide) ?_
    rw [hQ9]
    exact endZ X hr rfl hlocks hP hD hS dX9_in_15 ⟨(by unfold inM; rw [if_pos c_2]), rfl⟩
  · skip
    refine lv_iload_n hx hb dX9_in_5 rfl (lv_at hl 0 rfl) ?_
    refine lv_iload_n hx hb dX9_in_6 rfl (lv_at hl 2 rfl) ?_
    refine lv_icmp_gt (tgt := 14) hx hb dX9_in_7 (by decide) (fun c_7 => ?_) (fun c_7 => ?_)
    · skip
      refine lv_iconst (v := 0) hx hb dX9_in_14 (by decide) ?_
      rw [hQ9]
      exact endZ X hr rfl hlocks hP hD hS dX9_in_15 ⟨(by unfold inM; rw [if_neg c_2, if_pos c_7]), rfl⟩
    · skip
      refine lv_iconst (v := 1) hx hb dX9_in_10 (by decide) ?_
      refine lv_goto (tgt := 15) hx hb dX9_in_11 (by decide) ?_
      rw [hQ9]
      exact endZ X hr rfl hlocks hP hD hS dX9_in_15 ⟨(by unfold inM; rw [if_neg c_2, if_neg c_7]), rfl⟩
set_option maxHeartbeats 4000000 in
set_option maxRecDepth 100000 in
theorem c_m_isByte (l : Launch) (D : va_G) (cA cB : ClassId) (a : Int32)  : CI l yX9_isByte cX9_isByte 1 (some .boolean) 1 22 0 0 D cA cB [.int a] [] (fun r W1 => r = (inM a 0 255) ∧ W1 = []) := by
  refine mkI (lv0 := [(0, .int a)]) (by decide) (Nat.le_of_ble_eq_true rfl) rfl ?_
  intro p e s m below meth c A ls X hr hlocks hnm hE hA hP hD hS hl
  have hx := X.1
  have hb := X.2.1
  refine qW (fun Q9 hQ9 => ?_)
  refine lv_iload_n hx hb dX9_isByte_0 rfl (lv_at hl 0 rfl) ?_
  refine lv_iconst (v := 0) hx hb dX9_isByte_1 (by decide) ?_
  refine lv_sipush (v := 255) hx hb dX9_isByte_2 (by decide) ?_
  refine kSi (n3 := 3) (As := [.int a, .int 0, .int 255]) (rest := []) X hl.1 hE hP hD hS hA [] [] [] [] rfl rfl rfl (by decide +kernel) (by decide +kernel) (by decide +kernel) (c_m_in l D cA cB a 0 255 ) w_502 w_503 w_501 w_504 (by decide +kernel) rfl rfl (Nat.le_of_ble_eq_true rfl) ⟨(Nat.le_of_ble_eq_true rfl), (Nat.le_of_ble_eq_true rfl)⟩ ⟨(Nat.le_of_ble_eq_true rfl), (Nat.le_of_ble_eq_true rfl)⟩ dX9_isByte_5 (fun r W1 H locs hw hP hD hS => ?_)
  obtain ⟨rfl, rfl⟩ := hw
  have hP : va_P D classes [] H := hP
  have hD : va_D A [] := hD
  rw [hQ9]
  exact endZ X hr (inM_nar _ _ _) hlocks hP hD hS dX9_isByte_8 ⟨rfl, rfl⟩
set_option maxHeartbeats 4000000 in
set_option maxRecDepth 100000 in
theorem c_m_isLetter (l : Launch) (D : va_G) (cA cB : ClassId) (a : Int32)  : CI l yX9_isLetter cX9_isLetter 1 (some .boolean) 1 22 0 0 D cA cB [.int a] [] (fun r W1 => r = (inM a 97 122) ∧ W1 = []) := by
  refine mkI (lv0 := [(0, .int a)]) (by decide) (Nat.le_of_ble_eq_true rfl) rfl ?_
  intro p e s m below meth c A ls X hr hlocks hnm hE hA hP hD hS hl
  have hx := X.1
  have hb := X.2.1
  refine qW (fun Q9 hQ9 => ?_)
  refine lv_iload_n hx hb dX9_isLetter_0 rfl (lv_at hl 0 rfl) ?_
  refine lv_bipush (v := 97) hx hb dX9_isLetter_1 (by decide) ?_
  refine lv_bipush (v := 122) hx hb dX9_isLetter_3 (by decide) ?_
  refine kSi (n3 := 3) (As := [.int a, .int 97, .int 122]) (rest := []) X hl.1 hE hP hD hS hA [] [] [] [] rfl rfl rfl (by decide +kernel) (by decide +kernel) (by decide +kernel) (c_m_in l D cA cB a 97 122 ) w_502 w_503 w_501 w_504 (by decide +kernel) rfl rfl (Nat.le_of_ble_eq_true rfl) ⟨(Nat.le_of_ble_eq_true rfl), (Nat.le_of_ble_eq_true rfl)⟩ ⟨(Nat.le_of_ble_eq_true rfl), (Nat.le_of_ble_eq_true rfl)⟩ dX9_isLetter_5 (fun r W1 H locs hw hP hD hS => ?_)
  obtain ⟨rfl, rfl⟩ := hw
  have hP : va_P D classes [] H := hP
  have hD : va_D A [] := hD
  rw [hQ9]
  exact endZ X hr (inM_nar _ _ _) hlocks hP hD hS dX9_isLetter_8 ⟨rfl, rfl⟩
set_option maxHeartbeats 4000000 in
set_option maxRecDepth 100000 in
theorem c_m_isDigit (l : Launch) (D : va_G) (cA cB : ClassId) (a : Int32)  : CI l yX9_isDigit cX9_isDigit 1 (some .boolean) 1 22 0 0 D cA cB [.int a] [] (fun r W1 => r = (inM a 48 57) ∧ W1 = []) := by
  refine mkI (lv0 := [(0, .int a)]) (by decide) (Nat.le_of_ble_eq_true rfl) rfl ?_
  intro p e s m below meth c A ls X hr hlocks hnm hE hA hP hD hS hl
  have hx := X.1
  have hb := X.2.1
  refine qW (fun Q9 hQ9 => ?_)
  refine lv_iload_n hx hb dX9_isDigit_0 rfl (lv_at hl 0 rfl) ?_
  refine lv_bipush (v := 48) hx hb dX9_isDigit_1 (by decide) ?_
  refine lv_bipush (v := 57) hx hb dX9_isDigit_3 (by decide) ?_
  refine kSi (n3 := 3) (As := [.int a, .int 48, .int 57]) (rest := []) X hl.1 hE hP hD hS hA [] [] [] [] rfl rfl rfl (by decide +kernel) (by decide +kernel) (by decide +kernel) (c_m_in l D cA cB a 48 57 ) w_502 w_503 w_501 w_504 (by decide +kernel) rfl rfl (Nat.le_of_ble_eq_true rfl) ⟨(Nat.le_of_ble_eq_true rfl), (Nat.le_of_ble_eq_true rfl)⟩ ⟨(Nat.le_of_ble_eq_true rfl), (Nat.le_of_ble_eq_true rfl)⟩ dX9_isDigit_5 (fun r W1 H locs hw hP hD hS => ?_)
  obtain ⟨rfl, rfl⟩ := hw
  have hP : va_P D classes [] H := hP
  have hD : va_D A [] := hD
  rw [hQ9]
  exact endZ X hr (inM_nar _ _ _) hlocks hP hD hS dX9_isDigit_8 ⟨rfl, rfl⟩
set_option maxHeartbeats 4000000 in
set_option maxRecDepth 100000 in
theorem c_m_flag (l : Launch) (D : va_G) (cA cB : ClassId) (v : Int32)  : CI l yX9_flag cX9_flag 1 (some .int) 0 0 0 0 D cA cB [.int v] [] (fun r W1 => ∃ (rk : Nat), r = nI rk ∧ (rk < 2) ∧ ((v = 0 ∧ rk = 0) ∨ (¬ v = 0 ∧ rk = 1)) ∧ W1 = []) := by
  refine mkI (lv0 := [(0, .int v)]) (by decide) (Nat.le_of_ble_eq_true rfl) rfl ?_
  intro p e s m below meth c A ls X hr hlocks hnm hE hA hP hD hS hl
  have hx := X.1
  have hb := X.2.1
  refine qW (fun Q9 hQ9 => ?_)
  refine lv_iload_n hx hb dX9_flag_0 rfl (lv_at hl 0 rfl) ?_
  refine lv_if_eq (tgt := 8) hx hb dX9_flag_1 (by decide) (fun c_1 => ?_) (fun c_1 => ?_)
  · skip
    refine lv_iconst (v := 0) hx hb dX9_flag_8 (by decide) ?_
    rw [hQ9]
    exact endI X hr hlocks hP hD hS dX9_flag_9 ⟨0, rfl, (by decide), (Or.inl ⟨c_1, rfl⟩), rfl⟩
  · skip
    refine lv_iconst (v := 1) hx hb dX9_flag_4 (by decide) ?_
    refine lv_goto (tgt := 9) hx hb dX9_flag_5 (by decide) ?_
    rw [hQ9]
    exact endI X hr hlocks hP hD hS dX9_flag_9 ⟨1, rfl, (by decide), (Or.inr ⟨c_1, rfl⟩), rfl⟩
set_option maxHeartbeats 4000000 in
set_option maxRecDepth 100000 in
theorem c_m_isHex (l : Launch) (D : va_G) (cA cB : ClassId) (v : Int32)  : CI l yX9_isHex cX9_isHex 1 (some .boolean) 2 42 0 0 D cA cB [.int v] [] (fun r W1 => ∃ (rk : Nat), r = nI rk ∧ (rk < 2) ∧ (rk = 0 ∨ ¬ v = -1) ∧ W1 = []) := by
  refine mkI (lv0 := [(0, .int v)]) (by decide) (Nat.le_of_ble_eq_true rfl) rfl ?_
  intro p e s m below meth c A ls X hr hlocks hnm hE hA hP hD hS hl
  have hx := X.1
  have hb := X.2.1
  refine qW (fun Q9 hQ9 => ?_)
  refine lv_iload_n hx hb dX9_isHex_0 rfl (lv_at hl 0 rfl) ?_
  refine kSi (n3 := 1) (As := [.int v]) (rest := []) X hl.1 hE hP hD hS hA [] [] [] [] rfl rfl rfl (by decide +kernel) (by decide +kernel) (by decide +kernel) (c_m_isDigit l D cA cB v ) w_506 w_503 w_505 w_507 (by decide +kernel) rfl rfl (Nat.le_of_ble_eq_true rfl) ⟨(Nat.le_of_ble_eq_true rfl), (Nat.le_of_ble_eq_true rfl)⟩ ⟨(Nat.le_of_ble_eq_true rfl), (Nat.le_of_ble_eq_true rfl)⟩ dX9_isHex_1 (fun r W1 H locs hw hP hD hS => ?_)
  obtain ⟨rfl, rfl⟩ := hw
  have hP : va_P D classes [] H := hP
  have hD : va_D A [] := hD
  refine lv_if_ne (tgt := 18) hx hb dX9_isHex_4 (by decide) (fun c_4 => ?_) (fun c_4 => ?_)
  · skip
    refine lv_iconst (v := 1) hx hb dX9_isHex_18 (by decide) ?_
    refine lv_goto (tgt := 23) hx hb dX9_isHex_19 (by decide) ?_
    rw [hQ9]
    exact endZ X hr rfl hlocks hP hD hS dX9_isHex_23 ⟨1, rfl, (by decide), (Or.inr (fun q => by first | exact c_4 (by rw [q]; decide) | exact c_15 (by rw [q]; decide))), rfl⟩
  · skip
    refine lv_iload_n hx hb dX9_isHex_7 rfl (lv_at hl 0 rfl) ?_
    refine lv_bipush (v := 97) hx hb dX9_isHex_8 (by decide) ?_
    refine lv_bipush (v := 102) hx hb dX9_isHex_10 (by decide) ?_
    refine kSi (n3 := 3) (As := [.int v, .int 97, .int 102]) (rest := []) X hl.1 hE hP hD hS hA [] [] [] [] rfl rfl rfl (by decide +kernel) (by decide +kernel) (by decide +kernel) (c_m_in l D cA cB v 97 102 ) w_502 w_503 w_501 w_504 (by decide +kernel) rfl rfl (Nat.le_of_ble_eq_true rfl) ⟨(Nat.le_of_ble_eq_true rfl), (Nat.le_of_ble_eq_true rfl)⟩ ⟨(Nat.le_of_ble_eq_true rfl), (Nat.le_of_ble_eq_true rfl)⟩ dX9_isHex_12 (fun r W1 H locs hw hP hD hS => ?_)
    obtain ⟨rfl, rfl⟩ := hw
    have hP : va_P D classes [] H := hP
    have hD : va_D A [] := hD
    refine lv_if_eq (tgt := 22) hx hb dX9_isHex_15 (by decide) (fun c_15 => ?_) (fun c_15 => ?_)
    · skip
      refine lv_iconst (v := 0) hx hb dX9_isHex_22 (by decide) ?_
      rw [hQ9]
      exact endZ X hr rfl hlocks hP hD hS dX9_isHex_23 ⟨0, rfl, (by decide), (Or.inl rfl), rfl⟩
    · skip
      refine lv_iconst (v := 1) hx hb dX9_isHex_18 (by decide) ?_
      refine lv_goto (tgt := 23) hx hb dX9_isHex_19 (by decide) ?_
      rw [hQ9]
      exact endZ X hr rfl hlocks hP hD hS dX9_isHex_23 ⟨1, rfl, (by decide), (Or.inr (fun q => by first | exact c_4 (by rw [q]; decide) | exact c_15 (by rw [q]; decide))), rfl⟩
set_option maxHeartbeats 4000000 in
set_option maxRecDepth 100000 in
theorem c_m_cyclesOf (l : Launch) (D : va_G) (cA cB : ClassId) (w : Nat) (hw : w < 8) : CI l yX9_cyclesOf cX9_cyclesOf 1 (some .int) 0 0 0 0 D cA cB [.int (nI w)] [] (fun r W1 => ∃ (rk : Nat), r = nI rk ∧ (rk < 8) ∧ W1 = []) := by
  refine mkI (lv0 := [(0, .int (nI w))]) (by decide) (Nat.le_of_ble_eq_true rfl) rfl ?_
  intro p e s m below meth c A ls X hr hlocks hnm hE hA hP hD hS hl
  have hx := X.1
  have hb := X.2.1
  refine qW (fun Q9 hQ9 => ?_)
  refine lv_iload_n hx hb dX9_cyclesOf_0 rfl (lv_at hl 0 rfl) ?_
  refine lv_iconst (v := 2) hx hb dX9_cyclesOf_1 (by decide) ?_
  refine lv_icmp_ge (tgt := 11) hx hb dX9_cyclesOf_2 (by decide) (fun c_2_1 => ?_) (fun c_2_1 => ?_)
  · have nc_2_1 : 2 ≤ w := (nI_leI (a := 2) (b := w) (by omega) (by omega)).mp c_2_1
    refine lv_iload_n hx hb dX9_cyclesOf_11 rfl (lv_at hl 0 rfl) ?_
    refine lv_iconst (v := 4) hx hb dX9_cyclesOf_12 (by decide) ?_
    refine lv_icmp_ge (tgt := 20) hx hb dX9_cyclesOf_13 (by decide) (fun c_13_2 => ?_) (fun c_13_2 => ?_)
    · have nc_13_2 : 4 ≤ w := (nI_leI (a := 4) (b := w) (by omega) (by omega)).mp c_13_2
      refine lv_iload_n hx hb dX9_cyclesOf_20 rfl (lv_at hl 0 rfl) ?_
      refine lv_bipush (v := 6) hx hb dX9_cyclesOf_21 (by decide) ?_
      refine lv_icmp_ge (tgt := 30) hx hb dX9_cyclesOf_23 (by decide) (fun c_23_3 => ?_) (fun c_23_3 => ?_)
      · have nc_23_3 : 6 ≤ w := (nI_leI (a := 6) (b := w) (by omega) (by omega)).mp c_23_3
        refine lv_iload_n hx hb dX9_cyclesOf_30 rfl (lv_at hl 0 rfl) ?_
        rw [hQ9]
        exact endI X hr hlocks hP hD hS dX9_cyclesOf_31 ⟨w, rfl, hw, rfl⟩
      · have nc_23_3 : w < 6 := Nat.not_le.mp (fun q => c_23_3 ((nI_leI (a := 6) (b := w) (by omega) (by omega)).mpr q))
        refine lv_iconst (v := 5) hx hb dX9_cyclesOf_26 (by decide) ?_
        refine lv_goto (tgt := 31) hx hb dX9_cyclesOf_27 (by decide) ?_
        rw [hQ9]
        exact endI X hr hlocks hP hD hS dX9_cyclesOf_31 ⟨5, rfl, (by decide), rfl⟩
    · have nc_13_2 : w < 4 := Nat.not_le.mp (fun q => c_13_2 ((nI_leI (a := 4) (b := w) (by omega) (by omega)).mpr q))
      refine lv_iconst (v := 4) hx hb dX9_cyclesOf_16 (by decide) ?_
      refine lv_goto (tgt := 31) hx hb dX9_cyclesOf_17 (by decide) ?_
      rw [hQ9]
      exact endI X hr hlocks hP hD hS dX9_cyclesOf_31 ⟨4, rfl, (by decide), rfl⟩
  · have nc_2_1 : w < 2 := Nat.not_le.mp (fun q => c_2_1 ((nI_leI (a := 2) (b := w) (by omega) (by omega)).mpr q))
    refine lv_iconst (v := 2) hx hb dX9_cyclesOf_5 (by decide) ?_
    refine lv_iload_n hx hb dX9_cyclesOf_6 rfl (lv_at hl 0 rfl) ?_
    refine lv_iadd hx hb dX9_cyclesOf_7 ?_
    refine tk (y := nI (2 + w)) (nI_add 2 w) ?_
    refine lv_goto (tgt := 31) hx hb dX9_cyclesOf_8 (by decide) ?_
    rw [hQ9]
    exact endI X hr hlocks hP hD hS dX9_cyclesOf_31 ⟨(2 + w), rfl, (by omega), rfl⟩
