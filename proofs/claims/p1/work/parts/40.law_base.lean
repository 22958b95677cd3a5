/-! THE CLAIM OUT OF ONE WALK OF THE LAW'S BODY. Your part is whole_start (and what it stands on); all else here is the same for every law, but numbers. -/
def R_law : String := "BelfryBoxLaw"
def lw_P (b : Addr) (xs : List Int32) (args : Array Value) (s : State) : Prop := args = #[.ref b] ∧ s.IntsAt b xs ∧ xs.length ≤ 6 ∧ (Jvm.Cond.and given_1 narrow_1).before args s = true
def lw_Q (_ : Array Value) (s : State) (o : Outcome) (t : State) : Prop := o = .returned (some (.int 1)) ∧ Framed s o t [] 51 62752
def lw_Z (below : List Frame) (a : Array Value) (s : State) : State → Prop := fun t => ∃ o, t.status = .running ∧ Ended t below o ∧ lw_Q a s o t
/-- the law's own end, with 1 on the stack, nothing written that was there before, its room as the claim has it -/
theorem lw_ret {p : Program} {l : Launch} {e : Env} {s : State} {m : MethodId} {below : List Frame} {meth : Method} {c : Code} {b : Nat} (hx : p.tables.exec = Jvm.exec) (hb : c.code = code) (hr : meth.sig.returnType = ret) (hlocks : meth.locks = false) {pc : Nat} {H : Heap} {ls : Array Slot} (hdg : decode code pc = .ok (.ireturn, 1)) : W p l e room_1 s m #[Value.ref b] below meth c H [] 51 62752 (lw_Z below #[Value.ref b] s) (F0 m pc ls [.int 1]) := by
  intro T hT X
  obtain ⟨fs, hret, hrun, hended, hW, hframe⟩ := X.leave (v := some (.int 1)) (hlocks := hlocks) (fun h => by rw [hr] at h; cases h)
  have hmeth' : T.vm.method? m = some meth := X.method'
  refine ⟨T.setFrames fs, ?_, .returned (some (.int 1)), hrun, hended, rfl, ⟨_, rfl⟩, hW, hframe⟩
  jvm_step X.here [X.here.top, hx, hb, hdg, hmeth', hr, ret, narrow_b1]
  (try refine ⟨rfl, ?_⟩); (try refine ⟨rfl, ?_⟩)
  first | (intro acts; rw [hret _ acts rfl rfl rfl]) | rw [hret _ _ rfl rfl rfl]
  exact Steps.refl _
/-- what holds at the law's entry: the machine, the code, the tables' words (any of lw_tbl by 'hts w (by decide +kernel)'), the script of L ints xs at the cell b, what the Statement gives of the start (any of its parts by flat_of_before) -/
def lw_At (p : Program) (s : State) (m : MethodId) (meth : Method) (c : Code) (b L : Nat) (xs : Nat → Int32) : Prop :=
  p.tables.exec = Jvm.exec ∧ c.code = code ∧ meth.sig.returnType = ret ∧ c.maxLocals = 4 ∧ s.vm.findClass R_law = some m.cls ∧ (∀ w ∈ lw_tbl, w.before #[Value.ref b] s = true) ∧ va_X b L xs s s.heap ∧ b < s.heap.size ∧ meth.locks = false ∧ (Jvm.Cond.and given_1 narrow_1).before #[Value.ref b] s = true
theorem k_sld {p : Program} {l : Launch} {e : Env} {R : Room} {s : State} {m : MethodId} {args : Array Value} {below : List Frame} {meth : Method} {c : Code} {H H0 : Heap} {locs : List Loc} {cells slots : Nat} {Q : State → Prop} {A : Nat → Prop} {cc : ByteArray} {pc nL : Nat} {ls : Array Slot} {rest : List Value} {own : String} {b n : Nat} {xs : Nat → Int32} {i : Int32} (X : CallFix p m c cc nL s args gw own) (hX : va_X b n xs s H0) (hbl : b < H0.size) (hbA : ¬ A b) (hS : va_S A H0 H locs) (j : Nat) (hj : i = nI j) (hjn : j < n) (hn : n < 2 ^ 31) (hdg : decode cc pc = .ok (.iaload, 1))
    (kk : W p l e R s m args below meth c H locs cells slots Q (F0 m (pc + 1) ls (.int (xs j) :: rest))) : W p l e R s m args below meth c H locs cells slots Q (F0 m pc ls (.int i :: .ref b :: rest)) := by
  subst hj
  refine va_sld X.1 X.2.1 hX hbl hbA hS (vp_in_nI hjn hn) hdg ?_
  rw [nI_clamp (Nat.lt_trans hjn hn)]
  exact kk
theorem law_len {L : Nat} (hL : L ≤ 6) (h : ¬ nI L - 6 < 0) : L = 6 := by
  rcases Nat.lt_or_ge L 6 with q | q
  · exact absurd (pk_sneg (a := L) (b := 6) (by decide) q) h
  · omega
/-! class and reference answer alike -/
theorem le_lt {a x y : Int32} (h : x.toInt = y.toInt + 1) : (x ≤ a) = (y < a) := propext (by rw [Int32.le_iff_toInt_le, Int32.lt_iff_toInt_lt]; omega)
theorem if_le {a x y u v : Int32} (h : x.toInt = y.toInt + 1) : (if x ≤ a then u else v) = if y < a then u else v := by
  by_cases q : y < a
  · rw [if_pos q, if_pos (by rw [le_lt h]; exact q)]
  · rw [if_neg q, if_neg (by rw [le_lt h]; exact q)]
theorem inM_if {a lo hi x y : Int32} : (if inM a lo hi = 0 then x else y) = if a < lo then x else if hi < a then x else y := by
  unfold inM
  by_cases h1 : a < lo
  · rw [if_pos h1, if_pos h1, if_pos rfl]
  · rw [if_neg h1, if_neg h1]
    by_cases h2 : hi < a
    · rw [if_pos h2, if_pos h2, if_pos rfl]
    · rw [if_neg h2, if_neg h2, if_neg (by decide)]
theorem isA_eq (a : Int32) : isA a = inM a 0 4095 := by
  unfold isA inM
  rw [if_le (a := a) (x := 4096) (y := 4095) (by decide)]
theorem eq_peek (a : Int32) : m_peek a = sp_peek a := by unfold sp_peek m_peek; rw [isA_eq]
theorem eq_text (a : Int32) : m_text a = sp_text a := by unfold sp_text m_text; rw [isA_eq]
theorem eq_key (v : Int32) : m_key v = sp_key v := rfl
theorem eq_poke (a v : Int32) : m_poke a v = sp_poke a v := by
  unfold sp_poke m_poke
  rw [inM_if, if_le (a := a) (x := 4080) (y := 4079) (by decide)]
  rfl
theorem eq_drum (a v : Int32) : m_drum a v = sp_drum a v := by
  unfold sp_drum m_drum
  rw [inM_if, if_le (a := a) (x := 64) (y := 63) (by decide)]
  rfl
theorem eq_end (a : Int32) : m_end a = sp_end a := by
  unfold sp_end m_end
  rw [inM_if]
  by_cases h1 : a < 0
  · rw [if_pos h1, if_pos h1]
  · rw [if_neg h1, if_neg h1]
    by_cases h2 : 0 < a
    · rw [if_pos h2, if_neg (Int32.not_le.mpr h2)]
    · rw [if_neg h2, if_pos (Int32.not_lt.mp h2)]
theorem eq_run (a : Int32) : m_run a = sp_run a := by
  unfold sp_run m_run
  rw [inM_if]
  by_cases h1 : a < 1
  · rw [if_pos h1, if_pos h1]
  · rw [if_neg h1, if_neg h1]
    by_cases h2 : 2000 < a
    · rw [if_pos h2, if_neg (Int32.not_le.mpr h2)]
    · rw [if_neg h2, if_pos (Int32.not_lt.mp h2)]
theorem eq_stop (a o : Int32) : m_stop a o = sp_stop a o := by
  unfold sp_stop m_stop
  rw [isA_eq]
  by_cases h : o = 0
  · subst h; rfl
  · rw [if_neg h, if_neg h, show flg o = 1 from if_neg h]; rfl
theorem eq_register (a : Int32) : m_register a = sp_register a := by
  by_cases h3 : a = 3
  · subst h3; decide
  · by_cases h5 : a = 5
    · subst h5; decide
    · unfold m_register sp_register; simp [h3, h5]
theorem eq_device (a : Int32) : m_device a = sp_device a := by
  by_cases h : a = 10
  · subst h; decide
  · unfold m_device sp_device; simp [h]
theorem way_in : ∀ j, j < 8 → Cond.eq (.elem (.static "BelfryBox$Processor" "WAY_CYCLES" "[I") (.int (Int32.ofNat j))) (.int (way_c.getD j 0)) ∈ flatC (Jvm.Cond.and given_1 narrow_1) := by decide +kernel
theorem more_in : ∀ j, j < 32 → Cond.eq (.elem (.static "BelfryBox$Processor" "MORE_CYCLES" "[I") (.int (Int32.ofNat j))) (.int (more_c.getD j 0)) ∈ flatC (Jvm.Cond.and given_1 narrow_1) := by decide +kernel
theorem str_list : ((flatC (Jvm.Cond.and given_1 narrow_1)).drop 531).take 96 = (List.range 96).map (fun j => Cond.eq (.elem (.field (.string "BelfryBox$Reader" 27) "java/lang/String" "value" "[B") (.int (Int32.ofNat j))) (.int (word_b.getD j 0))) := by decide +kernel
theorem str_in (j : Nat) (hj : j < 96) : Cond.eq (.elem (.field (.string "BelfryBox$Reader" 27) "java/lang/String" "value" "[B") (.int (Int32.ofNat j))) (.int (word_b.getD j 0)) ∈ flatC (Jvm.Cond.and given_1 narrow_1) := by
  have h : Cond.eq (.elem (.field (.string "BelfryBox$Reader" 27) "java/lang/String" "value" "[B") (.int (Int32.ofNat j))) (.int (word_b.getD j 0)) ∈ (List.range 96).map (fun j => Cond.eq (.elem (.field (.string "BelfryBox$Reader" 27) "java/lang/String" "value" "[B") (.int (Int32.ofNat j))) (.int (word_b.getD j 0))) := List.mem_map.mpr ⟨j, List.mem_range.mpr hj, rfl⟩
  rw [← str_list] at h
  exact List.mem_of_mem_drop (List.mem_of_mem_take h)
theorem nest_on {w : Cond} (h : nest1 w = true) : w.onTables = true := by
  cases w <;> first | (simp [nest1] at h; done) | rfl
set_option maxHeartbeats 4000000 in
set_option maxRecDepth 100000 in
/-- what the start gives of the machine -/
theorem law_env {s : State} {b : Nat} (hts : ∀ w ∈ lw_tbl, w.before #[Value.ref b] s = true) (hgv : (Jvm.Cond.and given_1 narrow_1).before #[Value.ref b] s = true) : ∃ (D : va_G) (cA cB : ClassId), env D cA cB (fun q : Nat => s.heap.size ≤ q) s := by
  have hs := flat_of_before _ hgv
  have hA0 : ∀ a : Nat, a < s.heap.size → ¬ (fun q : Nat => s.heap.size ≤ q) a := fun a h => Nat.not_le.mpr h
  have hg : ∀ w ∈ gw, w.before #[Value.ref b] s = true := fun w hw => hts w (List.mem_filter.mp hw).1
  obtain ⟨c0, i0, hK0⟩ := u_known (C := RX0) (T := TX0) (N := 18) (n := 18) hg iX0 (hts (.instantiable RX0 18) (by decide +kernel))
  obtain ⟨c1, i1, hK1⟩ := u_known (C := RX1) (T := TX1) (N := 5) (n := 5) hg iX1 (hts (.instantiable RX1 5) (by decide +kernel))
  obtain ⟨c2, i2, hK2⟩ := u_known (C := RX2) (T := TX2) (N := 5) (n := 5) hg iX2 (hts (.instantiable RX2 5) (by decide +kernel))
  obtain ⟨c3, i3, hK3⟩ := u_known (C := RX3) (T := TX3) (N := 3) (n := 3) hg iX3 (hts (.instantiable RX3 3) (by decide +kernel))
  obtain ⟨c4, i4, hK4⟩ := u_known (C := RX4) (T := TX4) (N := 7) (n := 7) hg iX4 (hts (.instantiable RX4 7) (by decide +kernel))
  obtain ⟨c5, i5, hK5⟩ := u_known (C := RX5) (T := TX5) (N := 2) (n := 2) hg iX5 (hts (.instantiable RX5 2) (by decide +kernel))
  obtain ⟨c6, i6, hK6⟩ := u_known (C := RX6) (T := TX6) (N := 2) (n := 2) hg iX6 (hts (.instantiable RX6 2) (by decide +kernel))
  obtain ⟨c7, i7, hK7⟩ := u_known (C := RX7) (T := TX7) (N := 9) (n := 9) hg iX7 (hts (.instantiable RX7 9) (by decide +kernel))
  obtain ⟨c8, i8, hK8⟩ := u_known (C := RX8) (T := TX8) (N := 9) (n := 9) hg iX8 (hts (.instantiable RX8 9) (by decide +kernel))
  obtain ⟨c9, i9, hK9⟩ := u_known (C := RX9) (T := TX9) (N := 79) (n := 79) hg iX9 (hts (.instantiable RX9 79) (by decide +kernel))
  obtain ⟨cA, kA, pA, hA1, hA2, hA3⟩ := Cond.arrayClass_spec (hts (.arrayClass .int) (by decide +kernel))
  obtain ⟨cB, kB, pB, hB1, hB2, hB3⟩ := Cond.arrayClass_spec (hts (.arrayClass .boolean) (by decide +kernel))
  obtain ⟨tW, eW, hTW⟩ := va_Tof (args := #[Value.ref b]) (s := s) (tm := (.static "BelfryBox$Processor" "WAY_CYCLES" "[I")) (ty := .int) (N := 8) (f := fun j => .int (way_c.getD j 0)) (A := fun q : Nat => s.heap.size ≤ q) (by decide) (hs (.arrayOf (.static "BelfryBox$Processor" "WAY_CYCLES" "[I") .int) (by decide +kernel)) (va_eqt (hs (.eq (.length (.static "BelfryBox$Processor" "WAY_CYCLES" "[I")) (.int 8)) (by decide +kernel))) (fun j hj => va_eqt (hs _ (way_in j hj))) hA0
  have hZW := va_Zof (hts (.laysStatic "BelfryBox$Processor" "WAY_CYCLES" "[I") (by decide +kernel)) (hts (.initialized "BelfryBox$Processor") (by decide +kernel)) eW hA0
  obtain ⟨tM, eM, hTM⟩ := va_Tof (args := #[Value.ref b]) (s := s) (tm := (.static "BelfryBox$Processor" "MORE_CYCLES" "[I")) (ty := .int) (N := 32) (f := fun j => .int (more_c.getD j 0)) (A := fun q : Nat => s.heap.size ≤ q) (by decide) (hs (.arrayOf (.static "BelfryBox$Processor" "MORE_CYCLES" "[I") .int) (by decide +kernel)) (va_eqt (hs (.eq (.length (.static "BelfryBox$Processor" "MORE_CYCLES" "[I")) (.int 32)) (by decide +kernel))) (fun j hj => va_eqt (hs _ (more_in j hj))) hA0
  have hZM := va_Zof (hts (.laysStatic "BelfryBox$Processor" "MORE_CYCLES" "[I") (by decide +kernel)) (hts (.initialized "BelfryBox$Processor") (by decide +kernel)) eM hA0
  have hZC := va_Zof (hts (.laysStatic "java/lang/String" "COMPACT_STRINGS" "Z") (by decide +kernel)) (hts (.initialized "java/lang/String") (by decide +kernel)) (va_eqi (hs (.eq (.static "java/lang/String" "COMPACT_STRINGS" "Z") (.int 1)) (by decide +kernel))) hA0
  have hZS := va_Zqof (hts (.laysStatic "jdk/internal/util/Preconditions" "SIOOBE_FORMATTER" "Ljava/util/function/BiFunction;") (by decide +kernel)) (hts (.initialized "jdk/internal/util/Preconditions") (by decide +kernel)) (hs (.isRef (.static "jdk/internal/util/Preconditions" "SIOOBE_FORMATTER" "Ljava/util/function/BiFunction;")) (by decide +kernel)) hA0
  obtain ⟨aK, aU, hStr, eStr⟩ := vk_Sof (args := #[Value.ref b]) (s := s) (N := 1) (tm := fun _ => .string "BelfryBox$Reader" 27) (len := [96]) (byt := [word_b]) (A := fun q : Nat => s.heap.size ≤ q)
    (fun i hi => by obtain rfl : i = 0 := by omega
                    decide)
    (fun i hi => hs (.exactly (.string "BelfryBox$Reader" 27) "java/lang/String") (by decide +kernel))
    (fun i hi => hs (.eq (.field (.string "BelfryBox$Reader" 27) "java/lang/String" "coder" "B") (.int 0)) (by decide +kernel))
    (fun i hi => hs (.arrayOf (.field (.string "BelfryBox$Reader" 27) "java/lang/String" "value" "[B") .byte) (by decide +kernel))
    (fun i hi => by obtain rfl : i = 0 := by omega
                    exact hs (.eq (.length (.field (.string "BelfryBox$Reader" 27) "java/lang/String" "value" "[B")) (.int 96)) (by decide +kernel))
    (fun i hi j hj => by obtain rfl : i = 0 := by omega
                         exact hs _ (str_in j hj))
    (fun i j hi hj hij => absurd (show i = j by omega) hij) hA0
  refine ⟨(fun k => if k = 0 then c0 else if k = 1 then c1 else if k = 2 then c2 else if k = 3 then c3 else if k = 4 then c4 else if k = 5 then c5 else if k = 6 then c6 else if k = 7 then c7 else if k = 8 then c8 else c9, fun k => if k = 100 then (fun i => if i = 0 then tW else if i = 1 then tM else if i = 2 then aK 0 else aU 0) else if k = 0 then i0 else if k = 1 then i1 else if k = 2 then i2 else if k = 3 then i3 else if k = 4 then i4 else if k = 5 then i5 else if k = 6 then i6 else if k = 7 then i7 else if k = 8 then i8 else i9), cA, cB, ⟨?_, ?_⟩, fun w hw => va_Nw.of (nest_on (nests_ok w hw)) (hts w (List.mem_append_right _ (nests_in w hw))), hZW, hTW, hZM, hTM, hZC, hZS, vk_R.of (hts (.stringRef "BelfryBox$Reader" 27 "ldaldxldyaddsubandoraxorcmpcpxcpytstmuldivadxadystastxstystzincdecshlshrrolrorsetclrswpadmjmpjsr") (by decide +kernel)) (eStr 0 (by decide)), (hStr.1 0 (by decide)).1, (hStr.1 0 (by decide)).2.1, (hStr.1 0 (by decide)).2.2.1, (hStr.1 0 (by decide)).2.2.2⟩
  · intro k q hq
    match k, hq with
    | 0, hq => cases hq; exact hK0
    | 1, hq => cases hq; exact hK1
    | 2, hq => cases hq; exact hK2
    | 3, hq => cases hq; exact hK3
    | 4, hq => cases hq; exact hK4
    | 5, hq => cases hq; exact hK5
    | 6, hq => cases hq; exact hK6
    | 7, hq => cases hq; exact hK7
    | 8, hq => cases hq; exact hK8
    | 9, hq => cases hq; exact hK9
    | k + 10, hq => simp [classes] at hq
  · intro k q hq
    match k, hq with
    | 0, hq => cases hq; exact ⟨fun n z => ⟨fun k h => (by cases h), kA, hA2, pA, hA3⟩, hA1⟩
    | 1, hq => cases hq; exact ⟨fun n z => ⟨fun k h => (by cases h), kB, hB2, pB, hB3⟩, hB1⟩
    | k + 2, hq => simp at hq
