/-! THE CLAIM OUT OF ONE WALK OF THE LAW'S BODY. Your part is whole_start (and what it stands on); all else here is the same for every law, but numbers. -/
def R_law : String := "BelfryBoxLaw"
def lw_P (b : Addr) (xs : List Int32) (args : Array Value) (s : State) : Prop := args = #[.ref b] ∧ s.IntsAt b xs ∧ xs.length ≤ 3072 ∧ (Jvm.Cond.and given_1 narrow_1).before args s = true
def lw_Q (_ : Array Value) (s : State) (o : Outcome) (t : State) : Prop := o = .returned (some (.int 1)) ∧ Framed s o t [] 51 62752
def lw_Z (below : List Frame) (a : Array Value) (s : State) : State → Prop := fun t => ∃ o, t.status = .running ∧ Ended t below o ∧ lw_Q a s o t
/-- the law's own end, with 1 on the stack, nothing written that was there before, its room as the claim has it -/
theorem lw_ret {p : Program} {l : Launch} {e : Env} {s : State} {m : MethodId} {below : List Frame} {meth : Method} {c : Code} {b : Nat} (hx : p.tables.exec = Jvm.exec) (hb : c.code = code) (hr : meth.sig.returnType = ret) (hlocks : meth.locks = false) {pc : Nat} {H : Heap} {ls : Array Slot} (hdg : decode code pc = .ok (.ireturn, 1)) : W p l e room_1 s m #[Value.ref b] below meth c H [] 51 62752 (lw_Z below #[Value.ref b] s) (F0 m pc ls [.int 1]) := by
  intro T hT X
  obtain ⟨fs, hret, hrun, hended, hW, hframe⟩ := X.leave (v := some (.int 1)) (hlocks := hlocks) (fun h => by rw [hr] at h; cases h)
  have hmeth' : T.vm.method? m = some meth := X.method'
  refine ⟨T.setFrames fs, ?_, .returned (some (.int 1)), hrun, hended, rfl, ⟨_, rfl⟩, hW, hframe⟩
  jvm_step X.here [X.here.top, hx, hb, hdg, hmeth', hr, ret, narrow_b1]
  (try refine ⟨rfl, ?_⟩); (try refine ⟨rfl, ?_⟩)
  first | (intro acts; rw [hret _ acts rfl rfl rfl]) | rw [hret _ _ rfl rfl rfl]
  exact Steps.refl _
/-- what holds at the law's entry: the machine, the code, the tables' words (any of lw_tbl by 'hts w (by decide +kernel)'), the script of L ints xs at the cell b, what the Statement gives of the start (any of its parts by flat_of_before) -/
def lw_At (p : Program) (s : State) (m : MethodId) (meth : Method) (c : Code) (b L : Nat) (xs : Nat → Int32) : Prop :=
  p.tables.exec = Jvm.exec ∧ c.code = code ∧ meth.sig.returnType = ret ∧ c.maxLocals = 4 ∧ s.vm.findClass R_law = some m.cls ∧ (∀ w ∈ lw_tbl, w.before #[Value.ref b] s = true) ∧ va_X b L xs s s.heap ∧ b < s.heap.size ∧ meth.locks = false ∧ (Jvm.Cond.and given_1 narrow_1).before #[Value.ref b] s = true
theorem k_sld {p : Program} {l : Launch} {e : Env} {R : Room} {s : State} {m : MethodId} {args : Array Value} {below : List Frame} {meth : Method} {c : Code} {H H0 : Heap} {locs : List Loc} {cells slots : Nat} {Q : State → Prop} {A : Nat → Prop} {cc : ByteArray} {pc nL : Nat} {ls : Array Slot} {rest : List Value} {own : String} {b n : Nat} {xs : Nat → Int32} {i : Int32} (X : CallFix p m c cc nL s args gw own) (hX : va_X b n xs s H0) (hbl : b < H0.size) (hbA : ¬ A b) (hS : va_S A H0 H locs) (j : Nat) (hj : i = nI j) (hjn : j < n) (hn : n < 2 ^ 31) (hdg : decode cc pc = .ok (.iaload, 1))
    (kk : W p l e R s m args below meth c H locs cells slots Q (F0 m (pc + 1) ls (.int (xs j) :: rest))) : W p l e R s m args below meth c H locs cells slots Q (F0 m pc ls (.int i :: .ref b :: rest)) := by
  subst hj
  refine va_sld X.1 X.2.1 hX hbl hbA hS (vp_in_nI hjn hn) hdg ?_
  rw [nI_clamp (Nat.lt_trans hjn hn)]
  exact kk
theorem le_lt {a x y : Int32} (h : x.toInt = y.toInt + 1) : (x ≤ a) = (y < a) := propext (by rw [Int32.le_iff_toInt_le, Int32.lt_iff_toInt_lt]; omega)
theorem if_le {a x y u v : Int32} (h : x.toInt = y.toInt + 1) : (if x ≤ a then u else v) = if y < a then u else v := by
  by_cases q : y < a
  · rw [if_pos q, if_pos (by rw [le_lt h]; exact q)]
  · rw [if_neg q, if_neg (by rw [le_lt h]; exact q)]
theorem inM_if {a lo hi x y : Int32} : (if inM a lo hi = 0 then x else y) = if a < lo then x else if hi < a then x else y := by
  unfold inM
  by_cases h1 : a < lo
  · rw [if_pos h1, if_pos h1, if_pos rfl]
  · rw [if_neg h1, if_neg h1]
    by_cases h2 : hi < a
    · rw [if_pos h2, if_pos h2, if_pos rfl]
    · rw [if_neg h2, if_neg h2, if_neg (by decide)]
theorem eq_poke (a v : Int32) : m_poke a v = sp_poke a v := by
  unfold sp_poke m_poke
  rw [inM_if, if_le (a := a) (x := 4080) (y := 4079) (by decide)]
  rfl
theorem eq_drum (a v : Int32) : m_drum a v = sp_drum a v := by
  unfold sp_drum m_drum
  rw [inM_if, if_le (a := a) (x := 64) (y := 63) (by decide)]
  rfl
theorem way_in : ∀ j, j < 8 → Cond.eq (.elem (.static "BelfryBox$Processor" "WAY_CYCLES" "[I") (.int (Int32.ofNat j))) (.int (way_c.getD j 0)) ∈ flatC (Jvm.Cond.and given_1 narrow_1) := by decide +kernel
theorem more_in : ∀ j, j < 32 → Cond.eq (.elem (.static "BelfryBox$Processor" "MORE_CYCLES" "[I") (.int (Int32.ofNat j))) (.int (more_c.getD j 0)) ∈ flatC (Jvm.Cond.and given_1 narrow_1) := by decide +kernel
theorem str_list0 : ((flatC (Jvm.Cond.and given_1 narrow_1)).drop 59).take 96 = (List.range 96).map (fun j => Cond.eq (.elem (.field (.string "BelfryBox$Tape" 41) "java/lang/String" "value" "[B") (.int (Int32.ofNat j))) (.int ((sbyt.getD 0 []).getD j 0))) := by decide +kernel
theorem str_in0 (j : Nat) (hj : j < 96) : Cond.eq (.elem (.field (.string "BelfryBox$Tape" 41) "java/lang/String" "value" "[B") (.int (Int32.ofNat j))) (.int ((sbyt.getD 0 []).getD j 0)) ∈ flatC (Jvm.Cond.and given_1 narrow_1) := by
  have h : Cond.eq (.elem (.field (.string "BelfryBox$Tape" 41) "java/lang/String" "value" "[B") (.int (Int32.ofNat j))) (.int ((sbyt.getD 0 []).getD j 0)) ∈ (List.range 96).map (fun j => Cond.eq (.elem (.field (.string "BelfryBox$Tape" 41) "java/lang/String" "value" "[B") (.int (Int32.ofNat j))) (.int ((sbyt.getD 0 []).getD j 0))) := List.mem_map.mpr ⟨j, List.mem_range.mpr hj, rfl⟩
  rw [← str_list0] at h
  exact List.mem_of_mem_drop (List.mem_of_mem_take h)
theorem str_list1 : ((flatC (Jvm.Cond.and given_1 narrow_1)).drop 159).take 48 = (List.range 48).map (fun j => Cond.eq (.elem (.field (.string "BelfryBox$Tape" 47) "java/lang/String" "value" "[B") (.int (Int32.ofNat j))) (.int ((sbyt.getD 1 []).getD j 0))) := by decide +kernel
theorem str_in1 (j : Nat) (hj : j < 48) : Cond.eq (.elem (.field (.string "BelfryBox$Tape" 47) "java/lang/String" "value" "[B") (.int (Int32.ofNat j))) (.int ((sbyt.getD 1 []).getD j 0)) ∈ flatC (Jvm.Cond.and given_1 narrow_1) := by
  have h : Cond.eq (.elem (.field (.string "BelfryBox$Tape" 47) "java/lang/String" "value" "[B") (.int (Int32.ofNat j))) (.int ((sbyt.getD 1 []).getD j 0)) ∈ (List.range 48).map (fun j => Cond.eq (.elem (.field (.string "BelfryBox$Tape" 47) "java/lang/String" "value" "[B") (.int (Int32.ofNat j))) (.int ((sbyt.getD 1 []).getD j 0))) := List.mem_map.mpr ⟨j, List.mem_range.mpr hj, rfl⟩
  rw [← str_list1] at h
  exact List.mem_of_mem_drop (List.mem_of_mem_take h)
theorem str_list2 : ((flatC (Jvm.Cond.and given_1 narrow_1)).drop 212).take 96 = (List.range 96).map (fun j => Cond.eq (.elem (.field (.string "BelfryBox$Tape" 58) "java/lang/String" "value" "[B") (.int (Int32.ofNat j))) (.int ((sbyt.getD 2 []).getD j 0))) := by decide +kernel
theorem str_in2 (j : Nat) (hj : j < 96) : Cond.eq (.elem (.field (.string "BelfryBox$Tape" 58) "java/lang/String" "value" "[B") (.int (Int32.ofNat j))) (.int ((sbyt.getD 2 []).getD j 0)) ∈ flatC (Jvm.Cond.and given_1 narrow_1) := by
  have h : Cond.eq (.elem (.field (.string "BelfryBox$Tape" 58) "java/lang/String" "value" "[B") (.int (Int32.ofNat j))) (.int ((sbyt.getD 2 []).getD j 0)) ∈ (List.range 96).map (fun j => Cond.eq (.elem (.field (.string "BelfryBox$Tape" 58) "java/lang/String" "value" "[B") (.int (Int32.ofNat j))) (.int ((sbyt.getD 2 []).getD j 0))) := List.mem_map.mpr ⟨j, List.mem_range.mpr hj, rfl⟩
  rw [← str_list2] at h
  exact List.mem_of_mem_drop (List.mem_of_mem_take h)
theorem str_list3 : ((flatC (Jvm.Cond.and given_1 narrow_1)).drop 314).take 25 = (List.range 25).map (fun j => Cond.eq (.elem (.field (.string "BelfryBox$Tape" 60) "java/lang/String" "value" "[B") (.int (Int32.ofNat j))) (.int ((sbyt.getD 3 []).getD j 0))) := by decide +kernel
theorem str_in3 (j : Nat) (hj : j < 25) : Cond.eq (.elem (.field (.string "BelfryBox$Tape" 60) "java/lang/String" "value" "[B") (.int (Int32.ofNat j))) (.int ((sbyt.getD 3 []).getD j 0)) ∈ flatC (Jvm.Cond.and given_1 narrow_1) := by
  have h : Cond.eq (.elem (.field (.string "BelfryBox$Tape" 60) "java/lang/String" "value" "[B") (.int (Int32.ofNat j))) (.int ((sbyt.getD 3 []).getD j 0)) ∈ (List.range 25).map (fun j => Cond.eq (.elem (.field (.string "BelfryBox$Tape" 60) "java/lang/String" "value" "[B") (.int (Int32.ofNat j))) (.int ((sbyt.getD 3 []).getD j 0))) := List.mem_map.mpr ⟨j, List.mem_range.mpr hj, rfl⟩
  rw [← str_list3] at h
  exact List.mem_of_mem_drop (List.mem_of_mem_take h)
theorem str_list4 : ((flatC (Jvm.Cond.and given_1 narrow_1)).drop 346).take 14 = (List.range 14).map (fun j => Cond.eq (.elem (.field (.string "BelfryBox$Tape" 73) "java/lang/String" "value" "[B") (.int (Int32.ofNat j))) (.int ((sbyt.getD 4 []).getD j 0))) := by decide +kernel
theorem str_in4 (j : Nat) (hj : j < 14) : Cond.eq (.elem (.field (.string "BelfryBox$Tape" 73) "java/lang/String" "value" "[B") (.int (Int32.ofNat j))) (.int ((sbyt.getD 4 []).getD j 0)) ∈ flatC (Jvm.Cond.and given_1 narrow_1) := by
  have h : Cond.eq (.elem (.field (.string "BelfryBox$Tape" 73) "java/lang/String" "value" "[B") (.int (Int32.ofNat j))) (.int ((sbyt.getD 4 []).getD j 0)) ∈ (List.range 14).map (fun j => Cond.eq (.elem (.field (.string "BelfryBox$Tape" 73) "java/lang/String" "value" "[B") (.int (Int32.ofNat j))) (.int ((sbyt.getD 4 []).getD j 0))) := List.mem_map.mpr ⟨j, List.mem_range.mpr hj, rfl⟩
  rw [← str_list4] at h
  exact List.mem_of_mem_drop (List.mem_of_mem_take h)
def str_t : List Term := [.string "BelfryBox$Tape" 41, .string "BelfryBox$Tape" 47, .string "BelfryBox$Tape" 58, .string "BelfryBox$Tape" 60, .string "BelfryBox$Tape" 73]
theorem str_ex0 : (Cond.exactly (.string "BelfryBox$Tape" 41) "java/lang/String" : Cond) ∈ flatC (Jvm.Cond.and given_1 narrow_1) := List.mem_of_getElem? (i := 55) (by decide +kernel)
theorem str_ex1 : (Cond.exactly (.string "BelfryBox$Tape" 47) "java/lang/String" : Cond) ∈ flatC (Jvm.Cond.and given_1 narrow_1) := List.mem_of_getElem? (i := 155) (by decide +kernel)
theorem str_ex2 : (Cond.exactly (.string "BelfryBox$Tape" 58) "java/lang/String" : Cond) ∈ flatC (Jvm.Cond.and given_1 narrow_1) := List.mem_of_getElem? (i := 208) (by decide +kernel)
theorem str_ex3 : (Cond.exactly (.string "BelfryBox$Tape" 60) "java/lang/String" : Cond) ∈ flatC (Jvm.Cond.and given_1 narrow_1) := List.mem_of_getElem? (i := 310) (by decide +kernel)
theorem str_ex4 : (Cond.exactly (.string "BelfryBox$Tape" 73) "java/lang/String" : Cond) ∈ flatC (Jvm.Cond.and given_1 narrow_1) := List.mem_of_getElem? (i := 342) (by decide +kernel)
theorem str_ex (i : Nat) (hi : i < 5) : (Cond.exactly (str_t.getD i (.int 0)) "java/lang/String" : Cond) ∈ flatC (Jvm.Cond.and given_1 narrow_1) := by
  rcases (show i = 0 ∨ i = 1 ∨ i = 2 ∨ i = 3 ∨ i = 4 by omega) with rfl | rfl | rfl | rfl | rfl
  · exact str_ex0
  · exact str_ex1
  · exact str_ex2
  · exact str_ex3
  · exact str_ex4
theorem str_co0 : (Cond.eq (.field (.string "BelfryBox$Tape" 41) "java/lang/String" "coder" "B") (.int 0) : Cond) ∈ flatC (Jvm.Cond.and given_1 narrow_1) := List.mem_of_getElem? (i := 56) (by decide +kernel)
theorem str_co1 : (Cond.eq (.field (.string "BelfryBox$Tape" 47) "java/lang/String" "coder" "B") (.int 0) : Cond) ∈ flatC (Jvm.Cond.and given_1 narrow_1) := List.mem_of_getElem? (i := 156) (by decide +kernel)
theorem str_co2 : (Cond.eq (.field (.string "BelfryBox$Tape" 58) "java/lang/String" "coder" "B") (.int 0) : Cond) ∈ flatC (Jvm.Cond.and given_1 narrow_1) := List.mem_of_getElem? (i := 209) (by decide +kernel)
theorem str_co3 : (Cond.eq (.field (.string "BelfryBox$Tape" 60) "java/lang/String" "coder" "B") (.int 0) : Cond) ∈ flatC (Jvm.Cond.and given_1 narrow_1) := List.mem_of_getElem? (i := 311) (by decide +kernel)
theorem str_co4 : (Cond.eq (.field (.string "BelfryBox$Tape" 73) "java/lang/String" "coder" "B") (.int 0) : Cond) ∈ flatC (Jvm.Cond.and given_1 narrow_1) := List.mem_of_getElem? (i := 343) (by decide +kernel)
theorem str_co (i : Nat) (hi : i < 5) : (Cond.eq (.field (str_t.getD i (.int 0)) "java/lang/String" "coder" "B") (.int 0) : Cond) ∈ flatC (Jvm.Cond.and given_1 narrow_1) := by
  rcases (show i = 0 ∨ i = 1 ∨ i = 2 ∨ i = 3 ∨ i = 4 by omega) with rfl | rfl | rfl | rfl | rfl
  · exact str_co0
  · exact str_co1
  · exact str_co2
  · exact str_co3
  · exact str_co4
theorem str_ar0 : (Cond.arrayOf (.field (.string "BelfryBox$Tape" 41) "java/lang/String" "value" "[B") .byte : Cond) ∈ flatC (Jvm.Cond.and given_1 narrow_1) := List.mem_of_getElem? (i := 57) (by decide +kernel)
theorem str_ar1 : (Cond.arrayOf (.field (.string "BelfryBox$Tape" 47) "java/lang/String" "value" "[B") .byte : Cond) ∈ flatC (Jvm.Cond.and given_1 narrow_1) := List.mem_of_getElem? (i := 157) (by decide +kernel)
theorem str_ar2 : (Cond.arrayOf (.field (.string "BelfryBox$Tape" 58) "java/lang/String" "value" "[B") .byte : Cond) ∈ flatC (Jvm.Cond.and given_1 narrow_1) := List.mem_of_getElem? (i := 210) (by decide +kernel)
theorem str_ar3 : (Cond.arrayOf (.field (.string "BelfryBox$Tape" 60) "java/lang/String" "value" "[B") .byte : Cond) ∈ flatC (Jvm.Cond.and given_1 narrow_1) := List.mem_of_getElem? (i := 312) (by decide +kernel)
theorem str_ar4 : (Cond.arrayOf (.field (.string "BelfryBox$Tape" 73) "java/lang/String" "value" "[B") .byte : Cond) ∈ flatC (Jvm.Cond.and given_1 narrow_1) := List.mem_of_getElem? (i := 344) (by decide +kernel)
theorem str_ar (i : Nat) (hi : i < 5) : (Cond.arrayOf (.field (str_t.getD i (.int 0)) "java/lang/String" "value" "[B") .byte : Cond) ∈ flatC (Jvm.Cond.and given_1 narrow_1) := by
  rcases (show i = 0 ∨ i = 1 ∨ i = 2 ∨ i = 3 ∨ i = 4 by omega) with rfl | rfl | rfl | rfl | rfl
  · exact str_ar0
  · exact str_ar1
  · exact str_ar2
  · exact str_ar3
  · exact str_ar4
theorem str_le0 : (Cond.eq (.length (.field (.string "BelfryBox$Tape" 41) "java/lang/String" "value" "[B")) (.int (Int32.ofNat (slen.getD 0 0))) : Cond) ∈ flatC (Jvm.Cond.and given_1 narrow_1) := List.mem_of_getElem? (i := 58) (by decide +kernel)
theorem str_le1 : (Cond.eq (.length (.field (.string "BelfryBox$Tape" 47) "java/lang/String" "value" "[B")) (.int (Int32.ofNat (slen.getD 1 0))) : Cond) ∈ flatC (Jvm.Cond.and given_1 narrow_1) := List.mem_of_getElem? (i := 158) (by decide +kernel)
theorem str_le2 : (Cond.eq (.length (.field (.string "BelfryBox$Tape" 58) "java/lang/String" "value" "[B")) (.int (Int32.ofNat (slen.getD 2 0))) : Cond) ∈ flatC (Jvm.Cond.and given_1 narrow_1) := List.mem_of_getElem? (i := 211) (by decide +kernel)
theorem str_le3 : (Cond.eq (.length (.field (.string "BelfryBox$Tape" 60) "java/lang/String" "value" "[B")) (.int (Int32.ofNat (slen.getD 3 0))) : Cond) ∈ flatC (Jvm.Cond.and given_1 narrow_1) := List.mem_of_getElem? (i := 313) (by decide +kernel)
theorem str_le4 : (Cond.eq (.length (.field (.string "BelfryBox$Tape" 73) "java/lang/String" "value" "[B")) (.int (Int32.ofNat (slen.getD 4 0))) : Cond) ∈ flatC (Jvm.Cond.and given_1 narrow_1) := List.mem_of_getElem? (i := 345) (by decide +kernel)
theorem str_le (i : Nat) (hi : i < 5) : (Cond.eq (.length (.field (str_t.getD i (.int 0)) "java/lang/String" "value" "[B")) (.int (Int32.ofNat (slen.getD i 0))) : Cond) ∈ flatC (Jvm.Cond.and given_1 narrow_1) := by
  rcases (show i = 0 ∨ i = 1 ∨ i = 2 ∨ i = 3 ∨ i = 4 by omega) with rfl | rfl | rfl | rfl | rfl
  · exact str_le0
  · exact str_le1
  · exact str_le2
  · exact str_le3
  · exact str_le4
theorem str_ne01 : (Cond.not (Cond.eq (.string "BelfryBox$Tape" 41) (.string "BelfryBox$Tape" 47)) : Cond) ∈ flatC (Jvm.Cond.and given_1 narrow_1) := List.mem_of_getElem? (i := 207) (by decide +kernel)
theorem str_ne02 : (Cond.not (Cond.eq (.string "BelfryBox$Tape" 41) (.string "BelfryBox$Tape" 58)) : Cond) ∈ flatC (Jvm.Cond.and given_1 narrow_1) := List.mem_of_getElem? (i := 308) (by decide +kernel)
theorem str_ne12 : (Cond.not (Cond.eq (.string "BelfryBox$Tape" 47) (.string "BelfryBox$Tape" 58)) : Cond) ∈ flatC (Jvm.Cond.and given_1 narrow_1) := List.mem_of_getElem? (i := 309) (by decide +kernel)
theorem str_ne03 : (Cond.not (Cond.eq (.string "BelfryBox$Tape" 41) (.string "BelfryBox$Tape" 60)) : Cond) ∈ flatC (Jvm.Cond.and given_1 narrow_1) := List.mem_of_getElem? (i := 339) (by decide +kernel)
theorem str_ne13 : (Cond.not (Cond.eq (.string "BelfryBox$Tape" 47) (.string "BelfryBox$Tape" 60)) : Cond) ∈ flatC (Jvm.Cond.and given_1 narrow_1) := List.mem_of_getElem? (i := 340) (by decide +kernel)
theorem str_ne23 : (Cond.not (Cond.eq (.string "BelfryBox$Tape" 58) (.string "BelfryBox$Tape" 60)) : Cond) ∈ flatC (Jvm.Cond.and given_1 narrow_1) := List.mem_of_getElem? (i := 341) (by decide +kernel)
theorem str_ne04 : (Cond.not (Cond.eq (.string "BelfryBox$Tape" 41) (.string "BelfryBox$Tape" 73)) : Cond) ∈ flatC (Jvm.Cond.and given_1 narrow_1) := List.mem_of_getElem? (i := 360) (by decide +kernel)
theorem str_ne14 : (Cond.not (Cond.eq (.string "BelfryBox$Tape" 47) (.string "BelfryBox$Tape" 73)) : Cond) ∈ flatC (Jvm.Cond.and given_1 narrow_1) := List.mem_of_getElem? (i := 361) (by decide +kernel)
theorem str_ne24 : (Cond.not (Cond.eq (.string "BelfryBox$Tape" 58) (.string "BelfryBox$Tape" 73)) : Cond) ∈ flatC (Jvm.Cond.and given_1 narrow_1) := List.mem_of_getElem? (i := 362) (by decide +kernel)
theorem str_ne34 : (Cond.not (Cond.eq (.string "BelfryBox$Tape" 60) (.string "BelfryBox$Tape" 73)) : Cond) ∈ flatC (Jvm.Cond.and given_1 narrow_1) := List.mem_of_getElem? (i := 363) (by decide +kernel)
theorem str_ne (i : Nat) (hi : i < 5) (j : Nat) (hj : j < 5) (hij : i ≠ j) : (Cond.not (Cond.eq (str_t.getD i (.int 0)) (str_t.getD j (.int 0))) : Cond) ∈ flatC (Jvm.Cond.and given_1 narrow_1) ∨ (Cond.not (Cond.eq (str_t.getD j (.int 0)) (str_t.getD i (.int 0))) : Cond) ∈ flatC (Jvm.Cond.and given_1 narrow_1) := by
  rcases (show i = 0 ∨ i = 1 ∨ i = 2 ∨ i = 3 ∨ i = 4 by omega) with rfl | rfl | rfl | rfl | rfl <;> rcases (show j = 0 ∨ j = 1 ∨ j = 2 ∨ j = 3 ∨ j = 4 by omega) with rfl | rfl | rfl | rfl | rfl
  · exact absurd rfl hij
  · exact Or.inl str_ne01
  · exact Or.inl str_ne02
  · exact Or.inl str_ne03
  · exact Or.inl str_ne04
  · exact Or.inr str_ne01
  · exact absurd rfl hij
  · exact Or.inl str_ne12
  · exact Or.inl str_ne13
  · exact Or.inl str_ne14
  · exact Or.inr str_ne02
  · exact Or.inr str_ne12
  · exact absurd rfl hij
  · exact Or.inl str_ne23
  · exact Or.inl str_ne24
  · exact Or.inr str_ne03
  · exact Or.inr str_ne13
  · exact Or.inr str_ne23
  · exact absurd rfl hij
  · exact Or.inl str_ne34
  · exact Or.inr str_ne04
  · exact Or.inr str_ne14
  · exact Or.inr str_ne24
  · exact Or.inr str_ne34
  · exact absurd rfl hij
theorem str_el (i : Nat) (hi : i < 5) (j : Nat) (hj : j < slen.getD i 0) : Cond.eq (.elem (.field (str_t.getD i (.int 0)) "java/lang/String" "value" "[B") (.int (Int32.ofNat j))) (.int ((sbyt.getD i []).getD j 0)) ∈ flatC (Jvm.Cond.and given_1 narrow_1) := by
  rcases (show i = 0 ∨ i = 1 ∨ i = 2 ∨ i = 3 ∨ i = 4 by omega) with rfl | rfl | rfl | rfl | rfl
  · exact str_in0 j hj
  · exact str_in1 j hj
  · exact str_in2 j hj
  · exact str_in3 j hj
  · exact str_in4 j hj
theorem nest_on {w : Cond} (h : nest1 w = true) : w.onTables = true := by
  cases w <;> first | (simp [nest1] at h; done) | rfl
set_option maxHeartbeats 4000000 in
set_option maxRecDepth 100000 in
/-- what the start gives of the machine -/
theorem law_env {s : State} {b : Nat} (hts : ∀ w ∈ lw_tbl, w.before #[Value.ref b] s = true) (hgv : (Jvm.Cond.and given_1 narrow_1).before #[Value.ref b] s = true) : ∃ (D : va_G) (cA cB : ClassId), env D cA cB (fun q : Nat => s.heap.size ≤ q) s := by
  have hs := flat_of_before _ hgv
  have hA0 : ∀ a : Nat, a < s.heap.size → ¬ (fun q : Nat => s.heap.size ≤ q) a := fun a h => Nat.not_le.mpr h
  have hg : ∀ w ∈ gw, w.before #[Value.ref b] s = true := fun w hw => hts w (List.mem_filter.mp hw).1
  obtain ⟨c0, i0, hK0⟩ := u_known (C := RX0) (T := TX0) (N := 18) (n := 18) hg iX0 (hts (.instantiable RX0 18) (by decide +kernel))
  obtain ⟨c1, i1, hK1⟩ := u_known (C := RX1) (T := TX1) (N := 5) (n := 5) hg iX1 (hts (.instantiable RX1 5) (by decide +kernel))
  obtain ⟨c2, i2, hK2⟩ := u_known (C := RX2) (T := TX2) (N := 5) (n := 5) hg iX2 (hts (.instantiable RX2 5) (by decide +kernel))
  obtain ⟨c3, i3, hK3⟩ := u_known (C := RX3) (T := TX3) (N := 3) (n := 3) hg iX3 (hts (.instantiable RX3 3) (by decide +kernel))
  obtain ⟨c4, i4, hK4⟩ := u_known (C := RX4) (T := TX4) (N := 7) (n := 7) hg iX4 (hts (.instantiable RX4 7) (by decide +kernel))
  obtain ⟨c5, i5, hK5⟩ := u_known (C := RX5) (T := TX5) (N := 2) (n := 2) hg iX5 (hts (.instantiable RX5 2) (by decide +kernel))
  obtain ⟨c6, i6, hK6⟩ := u_known (C := RX6) (T := TX6) (N := 2) (n := 2) hg iX6 (hts (.instantiable RX6 2) (by decide +kernel))
  obtain ⟨c7, i7, hK7⟩ := u_known (C := RX7) (T := TX7) (N := 9) (n := 9) hg iX7 (hts (.instantiable RX7 9) (by decide +kernel))
  obtain ⟨c8, i8, hK8⟩ := u_known (C := RX8) (T := TX8) (N := 9) (n := 9) hg iX8 (hts (.instantiable RX8 9) (by decide +kernel))
  obtain ⟨c9, i9, hK9⟩ := u_known (C := RX9) (T := TX9) (N := 79) (n := 79) hg iX9 (hts (.instantiable RX9 79) (by decide +kernel))
  obtain ⟨cA, kA, pA, hA1, hA2, hA3⟩ := Cond.arrayClass_spec (hts (.arrayClass .int) (by decide +kernel))
  obtain ⟨cB, kB, pB, hB1, hB2, hB3⟩ := Cond.arrayClass_spec (hts (.arrayClass .boolean) (by decide +kernel))
  obtain ⟨tW, eW, hTW⟩ := va_Tof (args := #[Value.ref b]) (s := s) (tm := (.static "BelfryBox$Processor" "WAY_CYCLES" "[I")) (ty := .int) (N := 8) (f := fun j => .int (way_c.getD j 0)) (A := fun q : Nat => s.heap.size ≤ q) (by decide) (hs (.arrayOf (.static "BelfryBox$Processor" "WAY_CYCLES" "[I") .int) (by decide +kernel)) (va_eqt (hs (.eq (.length (.static "BelfryBox$Processor" "WAY_CYCLES" "[I")) (.int 8)) (by decide +kernel))) (fun j hj => va_eqt (hs _ (way_in j hj))) hA0
  have hZW := va_Zof (hts (.laysStatic "BelfryBox$Processor" "WAY_CYCLES" "[I") (by decide +kernel)) (hts (.initialized "BelfryBox$Processor") (by decide +kernel)) eW hA0
  obtain ⟨tM, eM, hTM⟩ := va_Tof (args := #[Value.ref b]) (s := s) (tm := (.static "BelfryBox$Processor" "MORE_CYCLES" "[I")) (ty := .int) (N := 32) (f := fun j => .int (more_c.getD j 0)) (A := fun q : Nat => s.heap.size ≤ q) (by decide) (hs (.arrayOf (.static "BelfryBox$Processor" "MORE_CYCLES" "[I") .int) (by decide +kernel)) (va_eqt (hs (.eq (.length (.static "BelfryBox$Processor" "MORE_CYCLES" "[I")) (.int 32)) (by decide +kernel))) (fun j hj => va_eqt (hs _ (more_in j hj))) hA0
  have hZM := va_Zof (hts (.laysStatic "BelfryBox$Processor" "MORE_CYCLES" "[I") (by decide +kernel)) (hts (.initialized "BelfryBox$Processor") (by decide +kernel)) eM hA0
  have hZC := va_Zof (hts (.laysStatic "java/lang/String" "COMPACT_STRINGS" "Z") (by decide +kernel)) (hts (.initialized "java/lang/String") (by decide +kernel)) (va_eqi (hs (.eq (.static "java/lang/String" "COMPACT_STRINGS" "Z") (.int 1)) (by decide +kernel))) hA0
  have hZS := va_Zqof (hts (.laysStatic "jdk/internal/util/Preconditions" "SIOOBE_FORMATTER" "Ljava/util/function/BiFunction;") (by decide +kernel)) (hts (.initialized "jdk/internal/util/Preconditions") (by decide +kernel)) (hs (.isRef (.static "jdk/internal/util/Preconditions" "SIOOBE_FORMATTER" "Ljava/util/function/BiFunction;")) (by decide +kernel)) hA0
  obtain ⟨adK, adU, hStr, eStr⟩ := vk_Sof (args := #[Value.ref b]) (s := s) (N := 5) (tm := fun i => str_t.getD i (.int 0)) (len := slen) (byt := sbyt) (A := fun q : Nat => s.heap.size ≤ q)
    (by decide) (fun i hi => hs _ (str_ex i hi)) (fun i hi => hs _ (str_co i hi)) (fun i hi => hs _ (str_ar i hi)) (fun i hi => hs _ (str_le i hi)) (fun i hi j hj => hs _ (str_el i hi j hj)) (fun i j hi hj hij => (str_ne i hi j hj hij).imp (hs _) (hs _)) hA0
  have e0 : (Term.string "BelfryBox$Reader" 27).eval #[Value.ref b] s none [] s = some (.ref (adK 0)) := va_eqR (hs (.eq (.string "BelfryBox$Tape" 41) (.string "BelfryBox$Reader" 27)) (by decide +kernel)) (eStr 0 (by decide))
  have e1 : (Term.string "BelfryBox$Reader" 48).eval #[Value.ref b] s none [] s = some (.ref (adK 1)) := va_eqR (hs (.eq (.string "BelfryBox$Tape" 47) (.string "BelfryBox$Reader" 48)) (by decide +kernel)) (eStr 1 (by decide))
  have e2 : (Term.string "BelfryBox$Reader" 43).eval #[Value.ref b] s none [] s = some (.ref (adK 2)) := va_eqR (hs (.eq (.string "BelfryBox$Tape" 58) (.string "BelfryBox$Reader" 43)) (by decide +kernel)) (eStr 2 (by decide))
  refine ⟨(fun k => if k = 0 then c0 else if k = 1 then c1 else if k = 2 then c2 else if k = 3 then c3 else if k = 4 then c4 else if k = 5 then c5 else if k = 6 then c6 else if k = 7 then c7 else if k = 8 then c8 else c9, fun k => if k = 100 then (fun i => if i = 0 then tW else tM) else if k = 101 then adK else if k = 102 then adU else if k = 0 then i0 else if k = 1 then i1 else if k = 2 then i2 else if k = 3 then i3 else if k = 4 then i4 else if k = 5 then i5 else if k = 6 then i6 else if k = 7 then i7 else if k = 8 then i8 else i9), cA, cB, ⟨?_, ?_⟩, fun w hw => va_Nw.of (nest_on (nests_ok w hw)) (hts w (List.mem_append_right _ (nests_in w hw))), hZW, hTW, hZM, hTM, hZC, hZS, ⟨vk_R.of (hts (.stringRef "BelfryBox$Tape" 41 "ldaldxldyaddsubandoraxorcmpcpxcpytstmuldivadxadystastxstystzincdecshlshrrolrorsetclrswpadmjmpjsr") (by decide +kernel)) (eStr 0 (by decide)), vk_R.of (hts (.stringRef "BelfryBox$Tape" 47 "beqbnebcsbccbmibplbvsbvcbradjxdjy---pshcaltrpidl") (by decide +kernel)) (eStr 1 (by decide)), vk_R.of (hts (.stringRef "BelfryBox$Tape" 58 "noprtsrtihlttaxtxataytyatsxtxsphaplaphxplxphyplyphfplfsecclcseicliclvinxdexinydeyinadeanegswnbcd") (by decide +kernel)) (eStr 2 (by decide)), vk_R.of (hts (.stringRef "BelfryBox$Tape" 60 "org  spacebyte word text ") (by decide +kernel)) (eStr 3 (by decide)), vk_R.of (hts (.stringRef "BelfryBox$Tape" 73 ":=;,#<()+-%&.\"") (by decide +kernel)) (eStr 4 (by decide)), vk_R.of (hts (.stringRef "BelfryBox$Reader" 27 "ldaldxldyaddsubandoraxorcmpcpxcpytstmuldivadxadystastxstystzincdecshlshrrolrorsetclrswpadmjmpjsr") (by decide +kernel)) e0, vk_R.of (hts (.stringRef "BelfryBox$Reader" 48 "beqbnebcsbccbmibplbvsbvcbradjxdjy---pshcaltrpidl") (by decide +kernel)) e1, vk_R.of (hts (.stringRef "BelfryBox$Reader" 43 "noprtsrtihlttaxtxataytyatsxtxsphaplaphxplxphyplyphfplfsecclcseicliclvinxdexinydeyinadeanegswnbcd") (by decide +kernel)) e2⟩, hStr⟩
  · intro k q hq
    match k, hq with
    | 0, hq => cases hq; exact hK0
    | 1, hq => cases hq; exact hK1
    | 2, hq => cases hq; exact hK2
    | 3, hq => cases hq; exact hK3
    | 4, hq => cases hq; exact hK4
    | 5, hq => cases hq; exact hK5
    | 6, hq => cases hq; exact hK6
    | 7, hq => cases hq; exact hK7
    | 8, hq => cases hq; exact hK8
    | 9, hq => cases hq; exact hK9
    | k + 10, hq => simp [classes] at hq
  · intro k q hq
    match k, hq with
    | 0, hq => cases hq; exact ⟨fun n z => ⟨fun k h => (by cases h), kA, hA2, pA, hA3⟩, hA1⟩
    | 1, hq => cases hq; exact ⟨fun n z => ⟨fun k h => (by cases h), kB, hB2, pB, hB3⟩, hB1⟩
    | k + 2, hq => simp at hq

theorem feed_eq {a b a2 b2 : Nat} {r1 r2 : Int32} (h1 : (a + 20 ≤ 6000 ∧ r1 = nI (a + 20) ∧ a2 = a + 20) ∨ (6000 < a + 20 ∧ r1 = -1 ∧ a2 = a)) (h2 : (b + 20 ≤ 6000 ∧ r2 = nI (b + 20) ∧ b2 = b + 20) ∨ (6000 < b + 20 ∧ r2 = -1 ∧ b2 = b)) (e : a = b) : r1 = r2 ∧ a2 = b2 := by
  subst e
  rcases h1 with ⟨x1, x2, x3⟩ | ⟨x1, x2, x3⟩ <;> rcases h2 with ⟨y1, y2, y3⟩ | ⟨y1, y2, y3⟩
  · exact ⟨x2.trans y2.symm, x3.trans y3.symm⟩
  · omega
  · omega
  · exact ⟨x2.trans y2.symm, x3.trans y3.symm⟩
theorem end_eq {a b a2 b2 : Nat} {x r1 r2 : Int32} (ha : a < 6001) (h1 : (∃ j : Nat, j ≤ a ∧ x = nI j ∧ r1 = x ∧ a2 = j) ∨ ((x < 0 ∨ nI a < x) ∧ r1 = -1 ∧ a2 = a)) (h2 : (∃ j : Nat, j ≤ b ∧ x = nI j ∧ r2 = x ∧ b2 = j) ∨ ((x < 0 ∨ nI b < x) ∧ r2 = -1 ∧ b2 = b)) (e : a = b) : r1 = r2 ∧ a2 = b2 := by
  subst e
  have no : ∀ j : Nat, j ≤ a → x = nI j → ¬ (x < 0 ∨ nI a < x) := by
    intro j hj hx q
    subst hx
    rcases q with q | q
    · have q2 := (nI_ltI (a := j) (b := 0) (by omega) (by omega)).mp q
      omega
    · have q2 := (nI_ltI (a := a) (b := j) (by omega) (by omega)).mp q
      omega
  rcases h1 with ⟨j, x1, x2, x3, x4⟩ | ⟨x1, x2, x3⟩ <;> rcases h2 with ⟨k, y1, y2, y3, y4⟩ | ⟨y1, y2, y3⟩
  · exact ⟨x3.trans y3.symm, by rw [x4, y4]; exact (nI_eq (by omega) (by omega)).mp (x2.symm.trans y2)⟩
  · exact absurd y1 (no j x1 x2)
  · exact absurd x1 (no k y1 y2)
  · exact ⟨x2.trans y2.symm, x3.trans y3.symm⟩
theorem law_le {L i : Nat} (hL : L < 2 ^ 30) (hi : i < 2 ^ 30) (h : ¬ nI L - 6 < nI i) : i + 6 ≤ L := by
  rcases Nat.lt_or_ge L 6 with q | q
  · exact absurd (Int32.lt_of_lt_of_le (pk_sneg (a := L) (b := 6) (by decide) q) (nI_pos' (by omega))) h
  · rw [show nI L - 6 = nI (L - 6) from pk_sub (b := 6) q] at h
    rcases Nat.lt_or_ge (L - 6) i with w | w
    · exact absurd (nI_lt (a := L - 6) (b := i) w (by omega)) h
    · omega
theorem okE_zero : okE (fun _ => 0) := by
  intro e j he hj
  have h2 : (List.range 42).all (fun j => (bdE j).all (fun n => decide (0 < n))) = true := by decide
  have h3 := List.all_eq_true.mp h2 j (List.mem_range.mpr hj)
  cases hb : bdE j with
  | none => trivial
  | some n => rw [hb] at h3; exact ⟨0, by simpa using h3, rfl⟩
theorem okN_fr {f : Nat → Int32} (h : frn f) : okN f := by
  intro j hj
  have e : f j = fr_at j := h j hj
  rw [e]
  have h1 : ∀ j, j < 34 → fr_at j = nI (if j = 3 then 255 else if j = 5 then 4 else if j = 18 then 1 else 0) := by decide
  have h2 : (List.range 34).all (fun j => (bd j).all (fun n => decide ((if j = 3 then 255 else if j = 5 then 4 else if j = 18 then 1 else 0) < n))) = true := by decide
  have h3 := List.all_eq_true.mp h2 j (List.mem_range.mpr hj)
  rw [h1 j hj]
  cases hb : bd j with
  | none => trivial
  | some n => rw [hb] at h3; exact ⟨_, by simpa using h3, rfl⟩
theorem words_ok {wf : Nat → Int32} (h : ∀ j, j < 84 → wf j = nI (wordsL.getD j 0)) : ∀ j, j < 84 → ∃ k : Nat, k < 33554432 ∧ wf j = nI k := fun j hj => ⟨wordsL.getD j 0, (by decide : ∀ j, j < 84 → wordsL.getD j 0 < 33554432) j hj, h j hj⟩
theorem sgn_eq {a b : Nat} {f g : Nat → Int32} (e : a = b) (h : ∀ j, j < a → f j = g j) : sgn a f = sgn b g := by
  subst e
  funext k
  by_cases z : k < a
  · rw [sgn_in z, sgn_in z, h k z]
  · rw [sgn_out (Nat.not_lt.mp z), sgn_out (Nat.not_lt.mp z)]
theorem feed_eq2 {a b a2 b2 : Nat} {t u t2 u2 B : Nat → Int32} {r1 r2 : Int32} (h1 : (a + 20 ≤ 6000 ∧ r1 = nI (a + 20) ∧ a2 = a + 20 ∧ ∀ j, t2 j = if a ≤ j ∧ j < a + 20 then B (j - a) else t j) ∨ (6000 < a + 20 ∧ r1 = -1 ∧ a2 = a ∧ t2 = t)) (h2 : (b + 20 ≤ 6000 ∧ r2 = nI (b + 20) ∧ b2 = b + 20 ∧ ∀ j, u2 j = if b ≤ j ∧ j < b + 20 then B (j - b) else u j) ∨ (6000 < b + 20 ∧ r2 = -1 ∧ b2 = b ∧ u2 = u)) (e : a = b) (h : ∀ j, j < a → t j = u j) : r1 = r2 ∧ a2 = b2 ∧ ∀ j, j < a2 → t2 j = u2 j := by
  subst e
  rcases h1 with ⟨x1, x2, x3, x4⟩ | ⟨x1, x2, x3, x4⟩ <;> rcases h2 with ⟨y1, y2, y3, y4⟩ | ⟨y1, y2, y3, y4⟩
  · refine ⟨x2.trans y2.symm, x3.trans y3.symm, fun j hj => ?_⟩
    rw [x4 j, y4 j]
    by_cases z : a ≤ j ∧ j < a + 20
    · rw [if_pos z, if_pos z]
    · rw [if_neg z, if_neg z]; exact h j (by omega)
  · omega
  · omega
  · refine ⟨x2.trans y2.symm, x3.trans y3.symm, fun j hj => ?_⟩
    rw [x4, y4]; exact h j (by omega)
theorem end_eq2 {a b a2 b2 : Nat} {x r1 r2 : Int32} {t u : Nat → Int32} (ha : a < 6001) (h1 : (∃ j : Nat, j ≤ a ∧ x = nI j ∧ r1 = x ∧ a2 = j) ∨ ((x < 0 ∨ nI a < x) ∧ r1 = -1 ∧ a2 = a)) (h2 : (∃ j : Nat, j ≤ b ∧ x = nI j ∧ r2 = x ∧ b2 = j) ∨ ((x < 0 ∨ nI b < x) ∧ r2 = -1 ∧ b2 = b)) (e : a = b) (h : ∀ j, j < a → t j = u j) : r1 = r2 ∧ a2 = b2 ∧ ∀ j, j < a2 → t j = u j := by
  have z := end_eq ha h1 h2 e
  refine ⟨z.1, z.2, fun j hj => h j ?_⟩
  rcases h1 with ⟨k, h3, -, -, h4⟩ | ⟨-, -, h4⟩ <;> omega
theorem asm_eq {a b cm cm2 nm nm2 : Nat} {t u ma mc md ma2 mc2 md2 na nv ne na2 nv2 ne2 : Nat → Int32} {r1 r2 : Int32} (h1 : (ASM (sgn a t) a = none ∧ r1 = -1 ∧ cm2 = cm ∧ ma2 = ma ∧ mc2 = mc ∧ md2 = md) ∨ (∃ (h n : Nat) (G : Nat → Nat × Nat × Int32 × Int32), ASM (sgn a t) a = some (h, n, G) ∧ r1 = nI h ∧ cm2 = n ∧ ∀ k, k < n → mc2 k = (G k).2.2.1 ∧ ma2 k = nI (G k).1 ∧ md2 k = (G k).2.2.2)) (h2 : (ASM (sgn b u) b = none ∧ r2 = -1 ∧ nm2 = nm ∧ nv2 = nv ∧ na2 = na ∧ ne2 = ne) ∨ (∃ (h n : Nat) (G : Nat → Nat × Nat × Int32 × Int32), ASM (sgn b u) b = some (h, n, G) ∧ r2 = nI h ∧ nm2 = n ∧ ∀ k, k < n → nv2 k = (G k).2.2.1 ∧ na2 k = nI (G k).1 ∧ ne2 k = (G k).2.2.2)) (e : a = b) (h : ∀ j, j < a → t j = u j) : r1 = r2 ∧ True := by
  have es := sgn_eq e h
  subst e
  rw [es] at h1
  refine ⟨?_, trivial⟩
  rcases h1 with ⟨x1, x2, -⟩ | ⟨p, n, G, x1, x2, -⟩ <;> rcases h2 with ⟨y1, y2, -⟩ | ⟨p', n', G', y1, y2, -⟩
  · rw [x2, y2]
  · rw [x1] at y1; exact absurd y1 (by simp)
  · rw [x1] at y1; exact absurd y1 (by simp)
  · rw [x1] at y1
    simp only [Option.some.injEq, Prod.mk.injEq] at y1
    rw [x2, y2, y1.1]
theorem nm_in {n j : Nat} (hn : n < 2 ^ 30) (h : j < n) : ¬ inM (nI j) 0 (nI n - 1) = 0 := by
  unfold inM
  rw [if_neg (nI_nneg (by omega)), show nI n - 1 = nI (n - 1) from pk_sub (b := 1) (by omega), if_neg (fun z => by have := (nI_ltI (a := n - 1) (b := j) (by omega) (by omega)).mp z; omega)]
  decide
/-- the two tables that name looks into -/
def NMR (c n : Nat) (mv mp me nv np ne : Nat → Int32) : Prop := c = n ∧ ∀ k, k < c → mv k = nv k ∧ mp k = np k ∧ me k = ne k
theorem asm_eq6 {a b cm cm2 nm nm2 : Nat} {t u ma mc md ma2 mc2 md2 na nv ne na2 nv2 ne2 : Nat → Int32} {r1 r2 : Int32} (h1 : (ASM (sgn a t) a = none ∧ r1 = -1 ∧ cm2 = cm ∧ ma2 = ma ∧ mc2 = mc ∧ md2 = md) ∨ (∃ (h n : Nat) (G : Nat → Nat × Nat × Int32 × Int32), ASM (sgn a t) a = some (h, n, G) ∧ r1 = nI h ∧ cm2 = n ∧ ∀ k, k < n → mc2 k = (G k).2.2.1 ∧ ma2 k = nI (G k).1 ∧ md2 k = (G k).2.2.2)) (h2 : (ASM (sgn b u) b = none ∧ r2 = -1 ∧ nm2 = nm ∧ nv2 = nv ∧ na2 = na ∧ ne2 = ne) ∨ (∃ (h n : Nat) (G : Nat → Nat × Nat × Int32 × Int32), ASM (sgn b u) b = some (h, n, G) ∧ r2 = nI h ∧ nm2 = n ∧ ∀ k, k < n → nv2 k = (G k).2.2.1 ∧ na2 k = nI (G k).1 ∧ ne2 k = (G k).2.2.2)) (e : a = b) (h : ∀ j, j < a → t j = u j) (hn : NMR cm nm mc ma md nv na ne) : r1 = r2 ∧ NMR cm2 nm2 mc2 ma2 md2 nv2 na2 ne2 := by
  have es := sgn_eq e h
  subst e
  rw [es] at h1
  rcases h1 with ⟨x1, x2, x3, x4, x5, x6⟩ | ⟨p, n, G, x1, x2, x3, x4⟩ <;> rcases h2 with ⟨y1, y2, y3, y4, y5, y6⟩ | ⟨p', n', G', y1, y2, y3, y4⟩
  · subst x3; subst x4; subst x5; subst x6; subst y3; subst y4; subst y5; subst y6
    exact ⟨x2.trans y2.symm, hn⟩
  · rw [x1] at y1; exact absurd y1 (by simp)
  · rw [x1] at y1; exact absurd y1 (by simp)
  · rw [x1] at y1
    simp only [Option.some.injEq, Prod.mk.injEq] at y1
    obtain ⟨e1, e2, e3⟩ := y1
    subst e1; subst e2; subst e3
    refine ⟨x2.trans y2.symm, x3.trans y3.symm, fun k hk => ?_⟩
    have z := x4 k (by omega)
    have w := y4 k (by omega)
    exact ⟨z.1.trans w.1.symm, z.2.1.trans w.2.1.symm, z.2.2.trans w.2.2.symm⟩
theorem name_eq {c n : Nat} {mv mp me nv np ne : Nat → Int32} {k w r1 r2 : Int32} (h1 : tlF c mv mp me k w r1) (h2 : tlF n nv np ne k w r2) (hc : c < 2 ^ 30) (h : NMR c n mv mp me nv np ne) : r1 = r2 := by
  obtain ⟨e, hk⟩ := h
  subst e
  rcases h1 with ⟨x1, x2⟩ | ⟨j, x1, x2, x3⟩ <;> rcases h2 with ⟨y1, y2⟩ | ⟨i, y1, y2, y3⟩
  · rw [x2, y2]
  · exact absurd x1 (by rw [y2]; exact nm_in hc y1)
  · exact absurd y1 (by rw [x2]; exact nm_in hc x1)
  · have ij : j = i := (nI_eq (by omega) (by omega)).mp (x2.symm.trans y2)
    subst ij
    obtain ⟨z1, z2, z3⟩ := hk j x1
    rcases x3 with ⟨a, b⟩ | ⟨a, b⟩ | ⟨a, b⟩ | ⟨a1, a2, a3, b⟩ <;> rcases y3 with ⟨c, d⟩ | ⟨c, d⟩ | ⟨c, d⟩ | ⟨c1, c2, c3, d⟩
    · rw [b, d, z1]
    · exact absurd (a.symm.trans c) (by decide)
    · exact absurd (a.symm.trans c) (by decide)
    · exact absurd a c1
    · exact absurd (a.symm.trans c) (by decide)
    · rw [b, d, z2]
    · exact absurd (a.symm.trans c) (by decide)
    · exact absurd a c2
    · exact absurd (a.symm.trans c) (by decide)
    · exact absurd (a.symm.trans c) (by decide)
    · rw [b, d, z3]
    · exact absurd a c3
    · exact absurd c a1
    · exact absurd c a2
    · exact absurd c a3
    · rw [b, d]
/-- every number in its range -/
def LB (v : Nat → Nat → Nat) : Prop := v 0 0 < 256 ∧ v 0 1 < 257 ∧ v 0 2 < 17 ∧ v 0 3 < 6001 ∧ v 0 4 < 6001 ∧ v 0 5 < 6001 ∧ v 0 6 < 6010 ∧ v 0 7 < 6010 ∧ v 1 0 < 2 ∧ v 1 1 < 61 ∧ v 1 2 < 61 ∧ v 1 3 < 17 ∧ v 1 4 < 256 ∧ v 1 5 < 256 ∧ v 1 6 < 256 ∧ v 1 7 < 256 ∧ v 2 0 < 4096 ∧ v 2 1 < 2 ∧ v 2 2 < 2 ∧ v 2 3 < 2 ∧ v 2 4 < 2 ∧ v 2 5 < 2 ∧ v 2 6 < 65536 ∧ v 2 7 < 65536 ∧ v 3 0 < 2 ∧ v 3 1 < 64 ∧ v 3 2 < 256 ∧ v 3 3 < 256 ∧ v 3 4 < 17 ∧ v 3 5 < 301 ∧ v 3 6 < 201 ∧ v 3 7 < 4 ∧ v 4 0 < 2001 ∧ v 4 1 < 256 ∧ v 4 2 < 257 ∧ v 4 3 < 15301 ∧ v 4 4 < 5 ∧ v 4 5 < 6001 ∧ v 4 6 < 61 ∧ v 4 7 < 65 ∧ v 5 0 < 6003 ∧ v 5 1 < 6001 ∧ v 5 2 < 6003 ∧ v 5 3 < 61
/-- the cells of the law: the class and the reference -/
def LWd (cA cB : ClassId) (bx mx : Nat) (a : Nat → Nat → Nat) (v : Nat → Nat → Nat) (g : Nat → Nat → Int32) (F : Nat → Nat → Nat → Int32) : va_W := [(bx, .inr (8, [.ref (a 0 0), .ref (a 0 1), .ref (a 0 2), .ref (a 0 3), .ref (a 0 4), .ref (a 0 5), .ref (a 0 6), .ref (a 0 7), .ref (a 1 0)])), ((a 0 4), .inr (4, [.ref (a 0 0), .ref (a 0 1), .ref (a 0 2), .ref (a 0 3), .ref (a 1 1), .int ((g 0 0)), .int ((g 0 1))])), ((a 0 2), .inr (1, [.ref (a 0 0), .ref (a 1 2), .ref (a 1 3), .ref (a 1 4), .ref (a 1 5)])), ((a 0 3), .inr (3, [.ref (a 1 6), .int (nI (v 0 0)), .int (nI (v 0 1))])), ((a 0 5), .inr (6, [.ref (a 1 7), .int (nI (v 0 2))])), ((a 0 6), .inr (7, [.ref (a 2 0), .int (nI (v 0 3)), .int (nI (v 0 4)), .int (nI (v 0 5)), .int ((g 0 2)), .int (nI (v 0 6)), .int (nI (v 0 7)), .int ((g 0 3)), .int ((g 0 4))])), ((a 0 7), .inr (0, [.ref (a 0 6), .ref (a 2 1), .ref (a 2 2), .ref (a 2 3), .int ((g 0 5)), .int ((g 0 6)), .int ((g 0 7)), .int ((g 1 0)), .int ((g 1 1)), .int ((g 1 2)), .int (nI (v 1 0)), .int ((g 1 3)), .int ((g 1 4)), .int ((g 1 5)), .int ((g 1 6)), .int ((g 1 7)), .int ((g 2 0)), .int ((g 2 1))])), ((a 2 2), .inr (2, [.ref (a 2 4), .ref (a 2 5), .ref (a 2 6), .ref (a 2 7), .int (nI (v 1 1))])), ((a 2 3), .inr (2, [.ref (a 3 0), .ref (a 3 1), .ref (a 3 2), .ref (a 3 3), .int (nI (v 1 2))])), ((a 1 0), .inr (5, [.ref (a 3 4), .int (nI (v 1 3))])), (mx, .inr (9, [.ref (a 3 5), .ref (a 3 6), .int (nI (v 1 4)), .int (nI (v 1 5)), .int (nI (v 1 6)), .int (nI (v 1 7)), .int (nI (v 2 0)), .int (nI (v 2 1)), .int (nI (v 2 2)), .int (nI (v 2 3)), .int (nI (v 2 4)), .int (nI (v 2 5)), .int ((g 2 2)), .int ((g 2 3)), .int (nI (v 2 6)), .int (nI (v 2 7)), .int (nI (v 3 0)), .int ((g 2 4)), .int ((g 2 5)), .int ((g 2 6)), .int (nI (v 3 1)), .int (nI (v 3 2)), .int (nI (v 3 3)), .int ((g 2 7)), .int ((g 3 0)), .int (nI (v 3 4)), .ref (a 3 7), .ref (a 4 0), .int ((g 3 1)), .int ((g 3 2)), .int ((g 3 3)), .int (nI (v 3 5)), .int (nI (v 3 6)), .ref (a 4 1), .ref (a 4 2), .ref (a 4 3), .ref (a 4 4), .int ((g 3 4)), .int (nI (v 3 7)), .int (nI (v 4 0)), .ref (a 4 5), .ref (a 4 6), .int (nI (v 4 1)), .int (nI (v 4 2)), .int (nI (v 4 3)), .int (nI (v 4 4)), .ref (a 4 7), .int (nI (v 4 5)), .int ((g 3 5)), .int ((g 3 6)), .ref (a 5 0), .ref (a 5 1), .ref (a 5 2), .int (nI (v 4 6)), .ref (a 5 3), .int (nI (v 4 7)), .int (nI (v 5 0)), .int (nI (v 5 1)), .int ((g 3 7)), .int ((g 4 0)), .int ((g 4 1)), .int ((g 4 2)), .int ((g 4 3)), .int ((g 4 4)), .int ((g 4 5)), .int ((g 4 6)), .int (nI (v 5 2)), .int ((g 4 7)), .int ((g 5 0)), .int (nI (v 5 3)), .ref (a 5 4), .ref (a 5 5), .ref (a 5 6), .ref (a 5 7), .ref (a 6 0), .int ((g 5 1)), .int ((g 5 2)), .int ((g 5 3)), .int ((g 5 4))])), ((a 0 0), .inl (cA, 34, .inl (F 0 0))), ((a 0 1), .inl (cA, 4096, .inl (F 0 1))), ((a 1 2), .inl (cA, 64, .inl (F 0 2))), ((a 1 3), .inl (cA, 16, .inl (F 0 3))), ((a 1 4), .inl (cA, 900, .inl (F 0 4))), ((a 1 5), .inl (cA, 200, .inl (F 0 5))), ((a 1 6), .inl (cA, 10752, .inl (F 0 6))), ((a 1 1), .inl (cA, 257, .inl (F 0 7))), ((a 1 7), .inl (cA, 16, .inl (F 1 0))), ((a 2 0), .inl (cA, 6000, .inl (F 1 1))), ((a 2 1), .inl (cA, 4096, .inl (F 1 2))), ((a 2 4), .inl (cA, 60, .inl (F 1 3))), ((a 2 5), .inl (cA, 60, .inl (F 1 4))), ((a 2 6), .inl (cA, 60, .inl (F 1 5))), ((a 2 7), .inl (cA, 60, .inl (F 1 6))), ((a 3 0), .inl (cA, 60, .inl (F 1 7))), ((a 3 1), .inl (cA, 60, .inl (F 2 0))), ((a 3 2), .inl (cA, 60, .inl (F 2 1))), ((a 3 3), .inl (cA, 60, .inl (F 2 2))), ((a 3 4), .inl (cA, 16, .inl (F 2 3))), ((a 3 5), .inl (cA, 84, .inl (F 2 4))), ((a 3 6), .inl (cA, 4096, .inl (F 2 5))), ((a 3 7), .inl (cA, 16, .inl (F 2 6))), ((a 4 0), .inl (cA, 8, .inl (F 2 7))), ((a 4 1), .inl (cA, 900, .inl (F 3 0))), ((a 4 2), .inl (cA, 200, .inl (F 3 1))), ((a 4 3), .inl (cA, 64, .inl (F 3 2))), ((a 4 4), .inl (cB, 4096, .inl (F 3 3))), ((a 4 5), .inl (cA, 257, .inl (F 3 4))), ((a 4 6), .inl (cA, 15360, .inl (F 3 5))), ((a 4 7), .inl (cA, 6020, .inl (F 3 6))), ((a 5 0), .inl (cA, 60, .inl (F 3 7))), ((a 5 1), .inl (cA, 60, .inl (F 4 0))), ((a 5 2), .inl (cA, 60, .inl (F 4 1))), ((a 5 3), .inl (cA, 64, .inl (F 4 2))), ((a 5 4), .inl (cA, 60, .inl (F 4 3))), ((a 5 5), .inl (cA, 60, .inl (F 4 4))), ((a 5 6), .inl (cA, 60, .inl (F 4 5))), ((a 5 7), .inl (cA, 60, .inl (F 4 6))), ((a 6 0), .inl (cA, 4096, .inl (F 4 7)))]
