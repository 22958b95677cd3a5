/-- the constants that lie in statics: two rows of the class, five Strings; where they lie, D tells (its rows 100 to 102) -/
def aW (D : va_G) : Nat := D.2 100 0
def aM (D : va_G) : Nat := D.2 100 1
def aK (D : va_G) (i : Nat) : Nat := D.2 101 i
def aU (D : va_G) (i : Nat) : Nat := D.2 102 i
def way_c : List Int32 := [2, 3, 4, 4, 5, 5, 6, 7]
def more_c : List Int32 := [0, 0, 0, 0, 0, 0, 0, 0, 0, 0, 0, 0, 8, 12, 0, 0, 1, 1, 1, 1, 2, 2, 2, 2, 2, 2, 2, 2, 2, 2, 0, 2]
def slen : List Nat := [96, 48, 96, 25, 14]
def sbyt : List (List Int32) := [[108, 100, 97, 108, 100, 120, 108, 100, 121, 97, 100, 100, 115, 117, 98, 97, 110, 100, 111, 114, 97, 120, 111, 114, 99, 109, 112, 99, 112, 120, 99, 112, 121, 116, 115, 116, 109, 117, 108, 100, 105, 118, 97, 100, 120, 97, 100, 121, 115, 116, 97, 115, 116, 120, 115, 116, 121, 115, 116, 122, 105, 110, 99, 100, 101, 99, 115, 104, 108, 115, 104, 114, 114, 111, 108, 114, 111, 114, 115, 101, 116, 99, 108, 114, 115, 119, 112, 97, 100, 109, 106, 109, 112, 106, 115, 114], [98, 101, 113, 98, 110, 101, 98, 99, 115, 98, 99, 99, 98, 109, 105, 98, 112, 108, 98, 118, 115, 98, 118, 99, 98, 114, 97, 100, 106, 120, 100, 106, 121, 45, 45, 45, 112, 115, 104, 99, 97, 108, 116, 114, 112, 105, 100, 108], [110, 111, 112, 114, 116, 115, 114, 116, 105, 104, 108, 116, 116, 97, 120, 116, 120, 97, 116, 97, 121, 116, 121, 97, 116, 115, 120, 116, 120, 115, 112, 104, 97, 112, 108, 97, 112, 104, 120, 112, 108, 120, 112, 104, 121, 112, 108, 121, 112, 104, 102, 112, 108, 102, 115, 101, 99, 99, 108, 99, 115, 101, 105, 99, 108, 105, 99, 108, 118, 105, 110, 120, 100, 101, 120, 105, 110, 121, 100, 101, 121, 105, 110, 97, 100, 101, 97, 110, 101, 103, 115, 119, 110, 98, 99, 100], [111, 114, 103, 32, 32, 115, 112, 97, 99, 101, 98, 121, 116, 101, 32, 119, 111, 114, 100, 32, 116, 101, 120, 116, 32], [58, 61, 59, 44, 35, 60, 40, 41, 43, 45, 37, 38, 46, 34]]
def sl (i : Nat) : Nat := slen.getD i 0
def sby (i : Nat) (x : Int32) : Int32 := (sbyt.getD i []).getD x.toNatClampNeg 0
theorem sl_le : ∀ i, i < 5 → sl i < 97 := by decide
def srefs (D : va_G) (U : State) : Prop := vk_R "BelfryBox$Tape" 41 "ldaldxldyaddsubandoraxorcmpcpxcpytstmuldivadxadystastxstystzincdecshlshrrolrorsetclrswpadmjmpjsr" (aK D 0) U ∧ vk_R "BelfryBox$Tape" 47 "beqbnebcsbccbmibplbvsbvcbradjxdjy---pshcaltrpidl" (aK D 1) U ∧ vk_R "BelfryBox$Tape" 58 "noprtsrtihlttaxtxataytyatsxtxsphaplaphxplxphyplyphfplfsecclcseicliclvinxdexinydeyinadeanegswnbcd" (aK D 2) U ∧ vk_R "BelfryBox$Tape" 60 "org  spacebyte word text " (aK D 3) U ∧ vk_R "BelfryBox$Tape" 73 ":=;,#<()+-%&.\"" (aK D 4) U ∧ vk_R "BelfryBox$Reader" 27 "ldaldxldyaddsubandoraxorcmpcpxcpytstmuldivadxadystastxstystzincdecshlshrrolrorsetclrswpadmjmpjsr" (aK D 0) U ∧ vk_R "BelfryBox$Reader" 48 "beqbnebcsbccbmibplbvsbvcbradjxdjy---pshcaltrpidl" (aK D 1) U ∧ vk_R "BelfryBox$Reader" 43 "noprtsrtihlttaxtxataytyatsxtxsphaplaphxplxphyplyphfplfsecclcseicliclvinxdexinydeyinadeanegswnbcd" (aK D 2) U
theorem srefs_same {D : va_G} {u U : State} (h : u.vm = U.vm) (hs : srefs D u) : srefs D U := by
  obtain ⟨h0, h1, h2, h3, h4, h5, h6, h7⟩ := hs
  exact ⟨vk_R.same h.symm h0, vk_R.same h.symm h1, vk_R.same h.symm h2, vk_R.same h.symm h3, vk_R.same h.symm h4, vk_R.same h.symm h5, vk_R.same h.symm h6, vk_R.same h.symm h7⟩
theorem srefs_warm {D : va_G} {s U : State} (hW : s.WarmedH U.vm) (hs : srefs D s) : srefs D U := by
  obtain ⟨h0, h1, h2, h3, h4, h5, h6, h7⟩ := hs
  exact ⟨vk_R.warm hW h0, vk_R.warm hW h1, vk_R.warm hW h2, vk_R.warm hW h3, vk_R.warm hW h4, vk_R.warm hW h5, vk_R.warm hW h6, vk_R.warm hW h7⟩
def sta (D : va_G) (A : Nat → Prop) (U : State) (H : Heap) : Prop := va_Z "BelfryBox$Processor" "WAY_CYCLES" "[I" (.ref (aW D)) A U H ∧ va_T .int (aW D) 8 (fun j => .int (way_c.getD j 0)) A U H ∧ va_Z "BelfryBox$Processor" "MORE_CYCLES" "[I" (.ref (aM D)) A U H ∧ va_T .int (aM D) 32 (fun j => .int (more_c.getD j 0)) A U H ∧ va_Z "java/lang/String" "COMPACT_STRINGS" "Z" (.int 1) A U H ∧ va_Zq "jdk/internal/util/Preconditions" "SIOOBE_FORMATTER" "Ljava/util/function/BiFunction;" A U H ∧ srefs D U ∧ vk_S 5 slen sbyt (aK D) (aU D) A U H
theorem sta_same {D : va_G} {A : Nat → Prop} {u U : State} (h : u.vm = U.vm) (hh : u.heap = U.heap) (hs : sta D A u u.heap) : sta D A U U.heap := by
  obtain ⟨h_z1, h_t1, h_z2, h_t2, h_z3, h_z4, h_r, h_s⟩ := hs
  have hv : u.vm.Alike U.vm := by rw [h]; exact Vm.Alike.refl _
  rw [hh] at h_z1 h_t1 h_z2 h_t2 h_z3 h_z4 h_s
  exact ⟨h_z1.moved hv, h_t1.moved hv, h_z2.moved hv, h_t2.moved hv, h_z3.moved hv, h_z4.moved hv, srefs_same h h_r, h_s.moved hv⟩
theorem sta_call {D : va_G} {A B : Nat → Prop} {s U : State} {H : Heap} {locs : List Loc} (hW : s.WarmedH U.vm) (hU : U.heap = H) (hS : va_S A s.heap H locs) (hB : ∀ q, B q → A q) (hs : sta D A s s.heap) : sta D B U U.heap := by
  obtain ⟨h_z1, h_t1, h_z2, h_t2, h_z3, h_z4, h_r, h_s⟩ := hs
  rw [hU]
  exact ⟨((h_z1.moved hW.alike).kept hS.2.1).narrow hB, ((h_t1.moved hW.alike).kept hS.2.1).narrow hB, ((h_z2.moved hW.alike).kept hS.2.1).narrow hB, ((h_t2.moved hW.alike).kept hS.2.1).narrow hB, ((h_z3.moved hW.alike).kept hS.2.1).narrow hB, ((h_z4.moved hW.alike).kept hS.2.1).narrow hB, srefs_warm hW h_r, ((h_s.moved hW.alike).kept hS.2.1).narrow hB⟩
def nest1 : Cond → Bool
  | .fieldLinkNest .. => true
  | .methodLinkNest .. => true
  | _ => false
theorem nest_same {w : Cond} (hw : nest1 w = true) {u U : State} (h : u.vm = U.vm) (hZ : va_Nw w u) : va_Nw w U := by
  cases w <;> first | (simp [nest1] at hw; done) | exact va_Nw.same rfl h hZ
theorem nest_warm {w : Cond} (hw : nest1 w = true) {s U : State} (hW : s.WarmedH U.vm) (hZ : va_Nw w s) : va_Nw w U := by
  cases w <;> first | (simp [nest1] at hw; done) | exact va_Nw.warmF hW hZ | exact va_Nw.warmM hW hZ
theorem nests_ok : ∀ w ∈ nests, nest1 w = true := fun w h => List.all_eq_true.mp (by decide +kernel : nests.all nest1 = true) w h
theorem gw_good : ∀ w ∈ gw, (w.onTables && w.keeps) = true ∨ ∃ ty, w = .arrayClass ty := fun w h => good_of_word (List.all_eq_true.mp (by decide +kernel : gw.all goodWord = true) w h)
/-- what a method needs of the machine besides its cells: the classes, the nest's words, the constants that lie in statics -/
def env (D : va_G) (cA cB : ClassId) (A : Nat → Prop) (U : State) : Prop := va_K D classes [(cA, .int), (cB, .boolean)] U ∧ (∀ w ∈ nests, va_Nw w U) ∧ sta D A U U.heap
theorem e_z1 {D : va_G} {cA cB : ClassId} {A : Nat → Prop} {U : State} (hE : env D cA cB A U) : va_Z "BelfryBox$Processor" "WAY_CYCLES" "[I" (.ref (aW D)) A U U.heap := hE.2.2.1
theorem e_t1 {D : va_G} {cA cB : ClassId} {A : Nat → Prop} {U : State} (hE : env D cA cB A U) : va_T .int (aW D) 8 (fun j => .int (way_c.getD j 0)) A U U.heap := hE.2.2.2.1
theorem e_z2 {D : va_G} {cA cB : ClassId} {A : Nat → Prop} {U : State} (hE : env D cA cB A U) : va_Z "BelfryBox$Processor" "MORE_CYCLES" "[I" (.ref (aM D)) A U U.heap := hE.2.2.2.2.1
theorem e_t2 {D : va_G} {cA cB : ClassId} {A : Nat → Prop} {U : State} (hE : env D cA cB A U) : va_T .int (aM D) 32 (fun j => .int (more_c.getD j 0)) A U U.heap := hE.2.2.2.2.2.1
theorem e_z3 {D : va_G} {cA cB : ClassId} {A : Nat → Prop} {U : State} (hE : env D cA cB A U) : va_Z "java/lang/String" "COMPACT_STRINGS" "Z" (.int 1) A U U.heap := hE.2.2.2.2.2.2.1
theorem e_z4 {D : va_G} {cA cB : ClassId} {A : Nat → Prop} {U : State} (hE : env D cA cB A U) : va_Zq "jdk/internal/util/Preconditions" "SIOOBE_FORMATTER" "Ljava/util/function/BiFunction;" A U U.heap := hE.2.2.2.2.2.2.2.1
theorem e_rTape41 {D : va_G} {cA cB : ClassId} {A : Nat → Prop} {U : State} (hE : env D cA cB A U) : vk_R "BelfryBox$Tape" 41 "ldaldxldyaddsubandoraxorcmpcpxcpytstmuldivadxadystastxstystzincdecshlshrrolrorsetclrswpadmjmpjsr" (aK D 0) U := hE.2.2.2.2.2.2.2.2.1.1
theorem e_rTape47 {D : va_G} {cA cB : ClassId} {A : Nat → Prop} {U : State} (hE : env D cA cB A U) : vk_R "BelfryBox$Tape" 47 "beqbnebcsbccbmibplbvsbvcbradjxdjy---pshcaltrpidl" (aK D 1) U := hE.2.2.2.2.2.2.2.2.1.2.1
theorem e_rTape58 {D : va_G} {cA cB : ClassId} {A : Nat → Prop} {U : State} (hE : env D cA cB A U) : vk_R "BelfryBox$Tape" 58 "noprtsrtihlttaxtxataytyatsxtxsphaplaphxplxphyplyphfplfsecclcseicliclvinxdexinydeyinadeanegswnbcd" (aK D 2) U := hE.2.2.2.2.2.2.2.2.1.2.2.1
theorem e_rTape60 {D : va_G} {cA cB : ClassId} {A : Nat → Prop} {U : State} (hE : env D cA cB A U) : vk_R "BelfryBox$Tape" 60 "org  spacebyte word text " (aK D 3) U := hE.2.2.2.2.2.2.2.2.1.2.2.2.1
theorem e_rTape73 {D : va_G} {cA cB : ClassId} {A : Nat → Prop} {U : State} (hE : env D cA cB A U) : vk_R "BelfryBox$Tape" 73 ":=;,#<()+-%&.\"" (aK D 4) U := hE.2.2.2.2.2.2.2.2.1.2.2.2.2.1
theorem e_rReader27 {D : va_G} {cA cB : ClassId} {A : Nat → Prop} {U : State} (hE : env D cA cB A U) : vk_R "BelfryBox$Reader" 27 "ldaldxldyaddsubandoraxorcmpcpxcpytstmuldivadxadystastxstystzincdecshlshrrolrorsetclrswpadmjmpjsr" (aK D 0) U := hE.2.2.2.2.2.2.2.2.1.2.2.2.2.2.1
theorem e_rReader48 {D : va_G} {cA cB : ClassId} {A : Nat → Prop} {U : State} (hE : env D cA cB A U) : vk_R "BelfryBox$Reader" 48 "beqbnebcsbccbmibplbvsbvcbradjxdjy---pshcaltrpidl" (aK D 1) U := hE.2.2.2.2.2.2.2.2.1.2.2.2.2.2.2.1
theorem e_rReader43 {D : va_G} {cA cB : ClassId} {A : Nat → Prop} {U : State} (hE : env D cA cB A U) : vk_R "BelfryBox$Reader" 43 "noprtsrtihlttaxtxataytyatsxtxsphaplaphxplxphyplyphfplfsecclcseicliclvinxdexinydeyinadeanegswnbcd" (aK D 2) U := hE.2.2.2.2.2.2.2.2.1.2.2.2.2.2.2.2
theorem e_str {D : va_G} {cA cB : ClassId} {A : Nat → Prop} {U : State} (hE : env D cA cB A U) : vk_S 5 slen sbyt (aK D) (aU D) A U U.heap := hE.2.2.2.2.2.2.2.2.2
theorem env_same {D : va_G} {cA cB : ClassId} {A : Nat → Prop} {u U : State} (h : u.vm = U.vm) (hh : u.heap = U.heap) (hE : env D cA cB A u) : env D cA cB A U := ⟨va_K.moved (by rw [h]; exact Vm.Alike.refl _) hE.1, fun w hw => nest_same (nests_ok w hw) h (hE.2.1 w hw), sta_same h hh hE.2.2⟩
theorem env_call {D : va_G} {cA cB : ClassId} {A B : Nat → Prop} {s U : State} {H : Heap} {locs : List Loc} (hW : s.WarmedH U.vm) (hU : U.heap = H) (hS : va_S A s.heap H locs) (hB : ∀ q, B q → A q) (hE : env D cA cB A s) : env D cA cB B U := ⟨va_K.moved hW.alike hE.1, fun w hw => nest_warm (nests_ok w hw) hW (hE.2.1 w hw), sta_call hW hU hS hB hE.2.2⟩
def Pre (D : va_G) (cA cB : ClassId) (av : List Value) (W0 : va_W) (sz : Nat) : Array Value → State → Prop := va_Pc av (fun U => U.heap.size = sz ∧ va_P D classes W0 U.heap ∧ env D cA cB (va_A W0 sz) U ∧ va_D (fun _ => True) W0)
theorem Pre_blind {D : va_G} {cA cB : ClassId} {av : List Value} {W0 : va_W} {sz : Nat} : FrameBlind (Pre D cA cB av W0 sz) := fun _ U g mk q => ⟨q.1, q.2.1, q.2.2.1, env_same (u := U) (U := U.calling g mk _) rfl rfl q.2.2.2.1, q.2.2.2.2⟩
def QI (D : va_G) (post : Int32 → va_W → Prop) (A : Nat → Prop) : Array Value → State → Outcome → State → Prop := va_Qi post (fun (W1 : va_W) (t : State) => va_P D classes W1 t.heap ∧ va_D A W1) A
def QV (D : va_G) (post : va_W → Prop) (A : Nat → Prop) : Array Value → State → Outcome → State → Prop := va_Qv post (fun (W1 : va_W) (t : State) => va_P D classes W1 t.heap ∧ va_D A W1) A
/-- a contract: answer an int (or a boolean) -/
def CI (l : Launch) (y : MethodName) (b : ByteArray) (n : Nat) (ret : Option FieldType) (fr lo mc ms : Nat) (D : va_G) (cA cB : ClassId) (av : List Value) (W0 : va_W) (post : Int32 → va_W → Prop) : Prop :=
  ∀ sz : Nat, Met l y (.code y b n ret :: gw) { frames := fr, cells := mc, slots := ms, locals := lo } (Pre D cA cB av W0 sz) (QI D post (va_A W0 sz)) mc ms (va_A W0 sz)
/-- a contract: answer nothing -/
def CV (l : Launch) (y : MethodName) (b : ByteArray) (n : Nat) (ret : Option FieldType) (fr lo mc ms : Nat) (D : va_G) (cA cB : ClassId) (av : List Value) (W0 : va_W) (post : va_W → Prop) : Prop :=
  ∀ sz : Nat, Met l y (.code y b n ret :: gw) { frames := fr, cells := mc, slots := ms, locals := lo } (Pre D cA cB av W0 sz) (QV D post (va_A W0 sz)) mc ms (va_A W0 sz)
theorem mkI {l : Launch} {y : MethodName} {b : ByteArray} {n : Nat} {ret : Option FieldType} {fr lo mc ms : Nat} {D : va_G} {cA cB : ClassId} {av : List Value} {W0 : va_W} {post : Int32 → va_W → Prop} {lv0 : List (Nat × Value)} (hy : plainName y.cls = true) (hav : (lg_sl av).length ≤ n) (hlv : lv_args 0 av = lv0)
    (body : ∀ (p : Program) (e : Env) (s : State) (m : MethodId) (below : List Frame) (meth : Method) (c : Code) (A : Nat → Prop) (ls : Array Slot),
      CallFix p m c b n s av.toArray gw y.cls → meth.sig.returnType = ret → meth.locks = false → meth.name = y.name → env D cA cB A s → (∀ q : Nat, s.heap.size ≤ q → A q) → va_P D classes W0 s.heap → va_D A W0 → va_S A s.heap s.heap [] → lv_has ls n lv0 →
      W p l e { frames := fr, cells := mc, slots := ms, locals := lo } s m av.toArray below meth c s.heap [] 0 0 (MQ below (QI D post A) av.toArray s mc ms A) (F0 m 0 ls [])) :
    CI l y b n ret fr lo mc ms D cA cB av W0 post := by
  intro sz
  refine Met.ofW (cc := b) (maxL := n) (ret := ret) hy rfl ?_
  intro p e s m args below meth c s₁ B hml hv
  obtain ⟨rfl, hsz, hP, hE, hD0⟩ := hv
  subst hsz
  subst hlv
  have hts := atoms_spec (ws := .code y b n ret :: gw) B.pre
  have hl := lv_entry av (n := n) hav
  rw [lg_entry_eq]
  exact body p e s m below meth c (va_A W0 s.heap.size) _ ⟨B.exec, B.bytes, hml, findClass_of_methodNamed B.named, fun w hw => hts w (List.mem_cons_of_mem _ hw)⟩ B.returns B.notSynchronized (name_of_methodNamed B.named B.method).1 hE (fun q h => Or.inr h) hP hD0.self va_S.rf hl
theorem mkV {l : Launch} {y : MethodName} {b : ByteArray} {n : Nat} {ret : Option FieldType} {fr lo mc ms : Nat} {D : va_G} {cA cB : ClassId} {av : List Value} {W0 : va_W} {post : va_W → Prop} {lv0 : List (Nat × Value)} (hy : plainName y.cls = true) (hav : (lg_sl av).length ≤ n) (hlv : lv_args 0 av = lv0)
    (body : ∀ (p : Program) (e : Env) (s : State) (m : MethodId) (below : List Frame) (meth : Method) (c : Code) (A : Nat → Prop) (ls : Array Slot),
      CallFix p m c b n s av.toArray gw y.cls → meth.sig.returnType = ret → meth.locks = false → meth.name = y.name → env D cA cB A s → (∀ q : Nat, s.heap.size ≤ q → A q) → va_P D classes W0 s.heap → va_D A W0 → va_S A s.heap s.heap [] → lv_has ls n lv0 →
      W p l e { frames := fr, cells := mc, slots := ms, locals := lo } s m av.toArray below meth c s.heap [] 0 0 (MQ below (QV D post A) av.toArray s mc ms A) (F0 m 0 ls [])) :
    CV l y b n ret fr lo mc ms D cA cB av W0 post := by
  intro sz
  refine Met.ofW (cc := b) (maxL := n) (ret := ret) hy rfl ?_
  intro p e s m args below meth c s₁ B hml hv
  obtain ⟨rfl, hsz, hP, hE, hD0⟩ := hv
  subst hsz
  subst hlv
  have hts := atoms_spec (ws := .code y b n ret :: gw) B.pre
  have hl := lv_entry av (n := n) hav
  rw [lg_entry_eq]
  exact body p e s m below meth c (va_A W0 s.heap.size) _ ⟨B.exec, B.bytes, hml, findClass_of_methodNamed B.named, fun w hw => hts w (List.mem_cons_of_mem _ hw)⟩ B.returns B.notSynchronized (name_of_methodNamed B.named B.method).1 hE (fun q h => Or.inr h) hP hD0.self va_S.rf hl
section
variable {p : Program} {l : Launch} {e : Env} {R : Room} {s : State} {m : MethodId} {args : Array Value} {below : List Frame} {meth : Method} {c : Code} {H H0 : Heap} {locs : List Loc} {cells slots : Nat} {Q : State → Prop}
variable {D : va_G} {cA cB : ClassId} {A : Nat → Prop} {ws : va_W} {cc : ByteArray} {pc nL : Nat} {ls : Array Slot} {rest : List Value} {own : String} {a : Nat}
theorem endI {post : Int32 → va_W → Prop} {mc ms : Nat} {v : Int32} (X : CallFix p m c cc nL s args gw own) (hr : meth.sig.returnType = some .int) (hlocks : meth.locks = false) (hP : va_P D classes ws H) (hD : va_D A ws) (hS : va_S A s.heap H locs) (hdg : decode cc pc = .ok (.ireturn, 1)) (hpost : post v ws) : W p l e R s m args below meth c H locs mc ms (MQ below (QI D post A) args s mc ms A) (F0 m pc ls [.int v]) :=
  W.iret X.1 X.2.1 hr (fun t ht _ => ⟨⟨v, ws, rfl, hpost, by rw [ht]; exact hP, hD⟩, hS.F ht⟩) hS.2.2 hdg
theorem endZ {post : Int32 → va_W → Prop} {mc ms : Nat} {v : Int32} (X : CallFix p m c cc nL s args gw own) (hr : meth.sig.returnType = some .boolean) (hn : narrow .boolean (.int v) = .int v) (hlocks : meth.locks = false) (hP : va_P D classes ws H) (hD : va_D A ws) (hS : va_S A s.heap H locs) (hdg : decode cc pc = .ok (.ireturn, 1)) (hpost : post v ws) : W p l e R s m args below meth c H locs mc ms (MQ below (QI D post A) args s mc ms A) (F0 m pc ls [.int v]) :=
  W.zret X.1 X.2.1 hr hn (fun t ht _ => ⟨⟨v, ws, rfl, hpost, by rw [ht]; exact hP, hD⟩, hS.F ht⟩) hS.2.2 hdg
theorem endV {post : va_W → Prop} {mc ms : Nat} (X : CallFix p m c cc nL s args gw own) (hr : meth.sig.returnType = none) (hlocks : meth.locks = false) (hP : va_P D classes ws H) (hD : va_D A ws) (hS : va_S A s.heap H locs) (hdg : decode cc pc = .ok (.return_, 1)) (hpost : post ws) : W p l e R s m args below meth c H locs mc ms (MQ below (QV D post A) args s mc ms A) (F0 m pc ls []) :=
  W.vret X.1 X.2.1 hr (fun t ht _ => ⟨⟨ws, rfl, hpost, by rw [ht]; exact hP, hD⟩, hS.F ht⟩) hS.2.2 hdg
/-- a number on the stack by another word for it -/
theorem tk {x y : Int32} (h : x = y) (k : W p l e R s m args below meth c H locs cells slots Q (F0 m pc ls (.int y :: rest))) : W p l e R s m args below meth c H locs cells slots Q (F0 m pc ls (.int x :: rest)) := h ▸ k
theorem k_get {C : String} {T : u_T} {N ci index : Nat} {fs : List Value} {v : Value} (X : CallFix p m c cc nL s args gw own) (hE : env D cA cB A s) (hP : va_P D classes ws H) (q0 : Nat) (he : ws[q0]? = some (a, .inr (ci, fs))) (hc : classes[ci]? = some (C, T, N)) (hin : ∀ w ∈ u_ws C T N, w ∈ gw) (k : Nat) (hk : k < N) (hlink : Cond.fieldLink own index (T k).1 (T k).2.1 (T k).2.2.1 ∈ gw) (hv : fs[k]? = some v) (hdg : decode cc pc = .ok (.getfield index, 3))
    (kk : W p l e R s m args below meth c H locs cells slots Q (F0 m (pc + 3) ls (v :: rest))) : W p l e R s m args below meth c H locs cells slots Q (F0 m pc ls (.ref a :: rest)) :=
  va_get X.1 X.2.1 X.2.2.2.2 hin X.2.2.2.1 hE.1 hP q0 he hc k hk (X.2.2.2.2 _ hlink) (fun _ h => h) hv hdg kk
theorem k_getN {C host : String} {T : u_T} {N ci index : Nat} {fs : List Value} {v : Value} (X : CallFix p m c cc nL s args gw own) (hE : env D cA cB A s) (hP : va_P D classes ws H) (q0 : Nat) (he : ws[q0]? = some (a, .inr (ci, fs))) (hc : classes[ci]? = some (C, T, N)) (hin : ∀ w ∈ u_ws C T N, w ∈ gw) (k : Nat) (hk : k < N) (hlink : Cond.fieldLinkNest own index (T k).1 (T k).2.1 (T k).2.2.1 host ∈ nests) (hv : fs[k]? = some v) (hdg : decode cc pc = .ok (.getfield index, 3))
    (kk : W p l e R s m args below meth c H locs cells slots Q (F0 m (pc + 3) ls (v :: rest))) : W p l e R s m args below meth c H locs cells slots Q (F0 m pc ls (.ref a :: rest)) :=
  va_getN X.1 X.2.1 X.2.2.2.2 hin X.2.2.2.1 hE.1 hP q0 he hc k hk (va_Nw.use rfl (hE.2.1 _ hlink)) (fun _ h => h) hv hdg kk
theorem k_put {C : String} {T : u_T} {N ci index : Nat} {fs : List Value} {v : Value} {ty : FieldType} (X : CallFix p m c cc nL s args gw own) (hE : env D cA cB A s) (hP : va_P D classes ws H) (hD : va_D A ws) (hS : va_S A H0 H locs) (q0 : Nat) (he : ws[q0]? = some (a, .inr (ci, fs))) (hc : classes[ci]? = some (C, T, N)) (hin : ∀ w ∈ u_ws C T N, w ∈ gw) (ty0 : Nat → FieldType) (hty : ∀ k, k < N → parseFieldDescriptor (T k).2.2.1 = some (ty0 k)) (hnm : ∀ a, a < N → ∀ b, b < N → a ≠ b → (T a).2.1 ≠ (T b).2.1) (k : Nat) (hk : k < N) (hlink : Cond.fieldLink own index (T k).1 (T k).2.1 (T k).2.2.1 ∈ gw) (hfin : (T k).2.2.2 = false) (hd : parseFieldDescriptor (T k).2.2.1 = some ty) (hn : narrow ty v = v) (hfit : fits ty v = true) (hl : k < fs.length) (W1 : va_W) (hW1 : ws.set q0 (a, .inr (ci, fs.set k v)) = W1) (hdg : decode cc pc = .ok (.putfield index, 3))
    (kk : ∀ (H1 : Heap) (locs1 : List Loc), va_P D classes W1 H1 → va_D A W1 → va_S A H0 H1 locs1 → W p l e R s m args below meth c H1 locs1 cells slots Q (F0 m (pc + 3) ls rest)) : W p l e R s m args below meth c H locs cells slots Q (F0 m pc ls (v :: .ref a :: rest)) := by
  subst hW1
  exact va_put X.1 X.2.1 X.2.2.2.2 hin ty0 hty hnm X.2.2.2.1 hE.1 hP hD hS q0 he hc k hk (X.2.2.2.2 _ hlink) (fun _ h => h) hfin hd hn hfit hl hdg kk
theorem k_putF {C : String} {T : u_T} {N ci index : Nat} {fs : List Value} {v : Value} {ty : FieldType} (X : CallFix p m c cc nL s args gw own) (hE : env D cA cB A s) (hP : va_P D classes ws H) (hD : va_D A ws) (hS : va_S A H0 H locs) (q0 : Nat) (he : ws[q0]? = some (a, .inr (ci, fs))) (hc : classes[ci]? = some (C, T, N)) (hin : ∀ w ∈ u_ws C T N, w ∈ gw) (ty0 : Nat → FieldType) (hty : ∀ k, k < N → parseFieldDescriptor (T k).2.2.1 = some (ty0 k)) (hnm : ∀ a, a < N → ∀ b, b < N → a ≠ b → (T a).2.1 ≠ (T b).2.1) (k : Nat) (hk : k < N) (hlink : Cond.fieldLink own index (T k).1 (T k).2.1 (T k).2.2.1 ∈ gw) (hfin : (T k).2.2.2 = true) (hin2 : meth.name = "<init>") (hdecl : (T k).1 = own) (hd : parseFieldDescriptor (T k).2.2.1 = some ty) (hn : narrow ty v = v) (hfit : fits ty v = true) (hl : k < fs.length) (W1 : va_W) (hW1 : ws.set q0 (a, .inr (ci, fs.set k v)) = W1) (hdg : decode cc pc = .ok (.putfield index, 3))
    (kk : ∀ (H1 : Heap) (locs1 : List Loc), va_P D classes W1 H1 → va_D A W1 → va_S A H0 H1 locs1 → W p l e R s m args below meth c H1 locs1 cells slots Q (F0 m (pc + 3) ls rest)) : W p l e R s m args below meth c H locs cells slots Q (F0 m pc ls (v :: .ref a :: rest)) := by
  subst hW1
  exact va_putF X.1 X.2.1 X.2.2.2.2 hin ty0 hty hnm X.2.2.2.1 hE.1 hP hD hS q0 he hc k hk (X.2.2.2.2 _ hlink) (fun _ h => h) hfin hin2 hdecl hd hn hfit hl hdg kk
theorem k_putN {C host : String} {T : u_T} {N ci index : Nat} {fs : List Value} {v : Value} {ty : FieldType} (X : CallFix p m c cc nL s args gw own) (hE : env D cA cB A s) (hP : va_P D classes ws H) (hD : va_D A ws) (hS : va_S A H0 H locs) (q0 : Nat) (he : ws[q0]? = some (a, .inr (ci, fs))) (hc : classes[ci]? = some (C, T, N)) (hin : ∀ w ∈ u_ws C T N, w ∈ gw) (ty0 : Nat → FieldType) (hty : ∀ k, k < N → parseFieldDescriptor (T k).2.2.1 = some (ty0 k)) (hnm : ∀ a, a < N → ∀ b, b < N → a ≠ b → (T a).2.1 ≠ (T b).2.1) (k : Nat) (hk : k < N) (hlink : Cond.fieldLinkNest own index (T k).1 (T k).2.1 (T k).2.2.1 host ∈ nests) (hfin : (T k).2.2.2 = false) (hd : parseFieldDescriptor (T k).2.2.1 = some ty) (hn : narrow ty v = v) (hfit : fits ty v = true) (hl : k < fs.length) (W1 : va_W) (hW1 : ws.set q0 (a, .inr (ci, fs.set k v)) = W1) (hdg : decode cc pc = .ok (.putfield index, 3))
    (kk : ∀ (H1 : Heap) (locs1 : List Loc), va_P D classes W1 H1 → va_D A W1 → va_S A H0 H1 locs1 → W p l e R s m args below meth c H1 locs1 cells slots Q (F0 m (pc + 3) ls rest)) : W p l e R s m args below meth c H locs cells slots Q (F0 m pc ls (v :: .ref a :: rest)) := by
  subst hW1
  exact va_putN X.1 X.2.1 X.2.2.2.2 hin ty0 hty hnm X.2.2.2.1 hE.1 hP hD hS q0 he hc k hk (va_Nw.use rfl (hE.2.1 _ hlink)) (fun _ h => h) hfin hd hn hfit hl hdg kk
theorem k_ald {n : Nat} {f : Nat → Int32} {i v : Int32} (X : CallFix p m c cc nL s args gw own) (hE : env D cA cB A s) (hP : va_P D classes ws H) (q0 : Nat) (ha : ws[q0]? = some (a, .inl (cA, n, .inl f))) (j : Nat) (hj : i = nI j) (hjn : j < n) (hn : n < 2 ^ 31) (hv : f j = v) (hdg : decode cc pc = .ok (.iaload, 1))
    (kk : W p l e R s m args below meth c H locs cells slots Q (F0 m (pc + 1) ls (.int v :: rest))) : W p l e R s m args below meth c H locs cells slots Q (F0 m pc ls (.int i :: .ref a :: rest)) := by
  subst hj; subst hv
  refine va_iald X.1 X.2.1 hE.1 hP q0 0 ha rfl (vp_in_nI hjn hn) hdg ?_
  rw [nI_clamp (Nat.lt_trans hjn hn)]
  exact kk
theorem k_ast {n : Nat} {f : Nat → Int32} {i x : Int32} (X : CallFix p m c cc nL s args gw own) (hE : env D cA cB A s) (hP : va_P D classes ws H) (hD : va_D A ws) (hS : va_S A H0 H locs) (q0 : Nat) (ha : ws[q0]? = some (a, .inl (cA, n, .inl f))) (j : Nat) (hj : i = nI j) (hjn : j < n) (hn : n < 2 ^ 31) (W1 : va_W) (hW1 : ws.set q0 (a, .inl (cA, n, .inl (upd f j x))) = W1) (hdg : decode cc pc = .ok (.iastore, 1))
    (kk : ∀ (H1 : Heap) (locs1 : List Loc), va_P D classes W1 H1 → va_D A W1 → va_S A H0 H1 locs1 → W p l e R s m args below meth c H1 locs1 cells slots Q (F0 m (pc + 1) ls rest)) : W p l e R s m args below meth c H locs cells slots Q (F0 m pc ls (.int x :: .int i :: .ref a :: rest)) := by
  subst hj; subst hW1
  refine va_iast X.1 X.2.1 hE.1 hP hD hS q0 0 ha rfl (vp_in_nI hjn hn) hdg ?_
  rw [nI_clamp (Nat.lt_trans hjn hn)]
  exact kk
theorem k_len {n : Nat} {f : Nat → Int32} {v : Int32} (X : CallFix p m c cc nL s args gw own) (hE : env D cA cB A s) (hP : va_P D classes ws H) (q0 : Nat) (ha : ws[q0]? = some (a, .inl (cA, n, .inl f))) (hv : Int32.ofNat n = v) (hdg : decode cc pc = .ok (.arraylength, 1))
    (kk : W p l e R s m args below meth c H locs cells slots Q (F0 m (pc + 1) ls (.int v :: rest))) : W p l e R s m args below meth c H locs cells slots Q (F0 m pc ls (.ref a :: rest)) :=
  va_alen X.1 X.2.1 hE.1 hP q0 0 ha rfl hv hdg kk
theorem k_newa {i : Int32} (X : CallFix p m c cc nL s args gw own) (hw : Cond.arrayClass .int ∈ gw) (hE : env D cA cB A s) (hP : va_P D classes ws H) (hD : va_D A ws) (hS : va_S A H0 H locs) (hA : ∀ q, H0.size ≤ q → A q) (n : Nat) (hi : i = nI n) (hn : n < 2 ^ 26) (hcells : cells + 1 ≤ R.cells) (hslots : slots + n ≤ R.slots) (hdg : decode cc pc = .ok (.newarray .int, 2))
    (kk : ∀ (q : Nat) (H1 : Heap), va_P D classes (ws ++ [(q, .inl (cA, n, .inl (fun _ => 0)))]) H1 → va_D A (ws ++ [(q, .inl (cA, n, .inl (fun _ => 0)))]) → va_S A H0 H1 locs → W p l e R s m args below meth c H1 locs (cells + 1) (slots + n) Q (F0 m (pc + 2) ls (.ref q :: rest))) : W p l e R s m args below meth c H locs cells slots Q (F0 m pc ls (.int i :: rest)) := by
  subst hi
  refine va_newa (atype := .int) (ty := .int) (a0 := (n, .inl (fun _ => 0))) X.1 X.2.1 (X.2.2.2.2 _ hw) rfl hE.1 hP hD hS hA (fun _ => rfl) (nI_pos (by omega)) (nI_clamp (by omega)) (by show n * 4 ≤ 536870912; omega) hcells hslots hdg (fun q c2 H1 hK2 hP2 hD2 hS2 => ?_)
  have e1 := (hK2.2 0 _ rfl).2
  have e2 := (hK2.2 2 _ rfl).2
  have e3 : c2 = cA := Option.some.inj ((show _ = some c2 from e2).symm.trans (show _ = some cA from e1))
  subst e3
  exact kk q H1 hP2 hD2 hS2
theorem k_zld {n : Nat} {f : Nat → Int32} {i v : Int32} (X : CallFix p m c cc nL s args gw own) (hE : env D cA cB A s) (hP : va_P D classes ws H) (q0 : Nat) (ha : ws[q0]? = some (a, .inl (cB, n, .inl f))) (j : Nat) (hj : i = nI j) (hjn : j < n) (hn : n < 2 ^ 31) (hv : f j = v) (hdg : decode cc pc = .ok (.baload, 1))
    (kk : W p l e R s m args below meth c H locs cells slots Q (F0 m (pc + 1) ls (.int v :: rest))) : W p l e R s m args below meth c H locs cells slots Q (F0 m pc ls (.int i :: .ref a :: rest)) := by
  subst hj; subst hv
  refine va_zald X.1 X.2.1 hE.1 hP q0 1 ha rfl (vp_in_nI hjn hn) hdg ?_
  rw [nI_clamp (Nat.lt_trans hjn hn)]
  exact kk
theorem k_zst {n : Nat} {f : Nat → Int32} {i x : Int32} (X : CallFix p m c cc nL s args gw own) (hE : env D cA cB A s) (hP : va_P D classes ws H) (hD : va_D A ws) (hS : va_S A H0 H locs) (q0 : Nat) (ha : ws[q0]? = some (a, .inl (cB, n, .inl f))) (j : Nat) (hj : i = nI j) (hjn : j < n) (hn : n < 2 ^ 31) (W1 : va_W) (hW1 : ws.set q0 (a, .inl (cB, n, .inl (upd f j (vp_nar .boolean x)))) = W1) (hdg : decode cc pc = .ok (.bastore, 1))
    (kk : ∀ (H1 : Heap) (locs1 : List Loc), va_P D classes W1 H1 → va_D A W1 → va_S A H0 H1 locs1 → W p l e R s m args below meth c H1 locs1 cells slots Q (F0 m (pc + 1) ls rest)) : W p l e R s m args below meth c H locs cells slots Q (F0 m pc ls (.int x :: .int i :: .ref a :: rest)) := by
  subst hj; subst hW1
  refine va_zast X.1 X.2.1 hE.1 hP hD hS q0 1 ha rfl (vp_in_nI hjn hn) hdg ?_
  rw [nI_clamp (Nat.lt_trans hjn hn)]
  exact kk
theorem k_newz {i : Int32} (X : CallFix p m c cc nL s args gw own) (hw : Cond.arrayClass .boolean ∈ gw) (hE : env D cA cB A s) (hP : va_P D classes ws H) (hD : va_D A ws) (hS : va_S A H0 H locs) (hA : ∀ q, H0.size ≤ q → A q) (n : Nat) (hi : i = nI n) (hn : n < 2 ^ 26) (hcells : cells + 1 ≤ R.cells) (hslots : slots + n ≤ R.slots) (hdg : decode cc pc = .ok (.newarray .boolean, 2))
    (kk : ∀ (q : Nat) (H1 : Heap), va_P D classes (ws ++ [(q, .inl (cB, n, .inl (fun _ => 0)))]) H1 → va_D A (ws ++ [(q, .inl (cB, n, .inl (fun _ => 0)))]) → va_S A H0 H1 locs → W p l e R s m args below meth c H1 locs (cells + 1) (slots + n) Q (F0 m (pc + 2) ls (.ref q :: rest))) : W p l e R s m args below meth c H locs cells slots Q (F0 m pc ls (.int i :: rest)) := by
  subst hi
  refine va_newa (atype := .boolean) (ty := .boolean) (a0 := (n, .inl (fun _ => 0))) X.1 X.2.1 (X.2.2.2.2 _ hw) rfl hE.1 hP hD hS hA (fun _ => rfl) (nI_pos (by omega)) (nI_clamp (by omega)) (by show n * 1 ≤ 536870912; omega) hcells hslots hdg (fun q c2 H1 hK2 hP2 hD2 hS2 => ?_)
  have e1 := (hK2.2 1 _ rfl).2
  have e2 := (hK2.2 2 _ rfl).2
  have e3 : c2 = cB := Option.some.inj ((show _ = some c2 from e2).symm.trans (show _ = some cB from e1))
  subst e3
  exact kk q H1 hP2 hD2 hS2
theorem k_new {C : String} {T : u_T} {N ci index : Nat} {fs : List Value} (X : CallFix p m c cc nL s args gw own) (hE : env D cA cB A s) (hP : va_P D classes ws H) (hD : va_D A ws) (hS : va_S A H0 H locs) (hA : ∀ q, H0.size ≤ q → A q) (hc : classes[ci]? = some (C, T, N)) (hin : ∀ w ∈ u_ws C T N, w ∈ gw) (ty0 : Nat → FieldType) (hty : ∀ k, k < N → parseFieldDescriptor (T k).2.2.1 = some (ty0 k)) (hfs : ∀ j, j < N → defaultValue (ty0 j) = vp_V fs j) (hcl : Cond.classLink own index C ∈ gw) (hinst : Cond.instantiable C N ∈ gw) (hini : Cond.initialized C ∈ gw) (hcells : cells + 1 ≤ R.cells) (hslots : slots + N ≤ R.slots) (hdg : decode cc pc = .ok (.new index, 3))
    (kk : ∀ (q : Nat) (H1 : Heap), va_P D classes (ws ++ [(q, .inr (ci, fs))]) H1 → va_D A (ws ++ [(q, .inr (ci, fs))]) → va_S A H0 H1 locs → W p l e R s m args below meth c H1 locs (cells + 1) (slots + N) Q (F0 m (pc + 3) ls (.ref q :: rest))) : W p l e R s m args below meth c H locs cells slots Q (F0 m pc ls rest) :=
  va_new X.1 X.2.1 X.2.2.2.2 hin ty0 hty X.2.2.2.1 (X.2.2.2.2 _ hcl) (X.2.2.2.2 _ hinst) (X.2.2.2.2 _ hini) hE.1 hP hD hS hA hc hfs hcells hslots hdg kk
theorem k_obj {index : Nat} (X : CallFix p m c cc nL s args gw own) (hl : Cond.methodLink own index Lib.objectInit ∈ gw) (hi : Cond.instanceMethod Lib.objectInit ∈ gw) (hc : Cond.code Lib.objectInit ⟨#[0xb1]⟩ 1 none ∈ gw) (hls : ls.size = nL) (hfr : 1 ≤ R.frames) (hlo : 2 * (F0 m pc ls rest).monitorRoom + (rest.map fun v => v.category).sum + 12 ≤ R.locals) (hdg : decode cc pc = .ok (.invokespecial index, 3))
    (kk : W p l e R s m args below meth c H locs cells slots Q (F0 m (pc + 3) ls rest)) : W p l e R s m args below meth c H locs cells slots Q (F0 m pc ls (.ref a :: rest)) :=
  W.objInit X.1 X.2.1 X.2.2.2.1 (X.2.2.2.2 _ hl) (X.2.2.2.2 _ hi) (X.2.2.2.2 _ hc) rfl (by rw [X.2.2.1]; exact hls) rfl hdg hfr hlo kk
theorem kVi {y : MethodName} {b2 : ByteArray} {n2 n3 index fr lo mc ms : Nat} {rt : Option FieldType} {post : Int32 → va_W → Prop} {As : List Value} {st0 : List Value} (X : CallFix p m c cc nL s args gw own) (hls : ls.size = nL) (hE : env D cA cB A s) (hP : va_P D classes ws H) (hD : va_D A ws) (hS : va_S A s.heap H locs) (hA : ∀ q, s.heap.size ≤ q → A q)
    (Wc wr : va_W) (isC isR : List Nat) (hC : isC.map (fun i => ws[i]?) = Wc.map some) (hC2 : isC.filterMap (fun i => ws[i]?) = Wc) (hR : isR.map (fun i => ws[i]?) = wr.map some) (hnC : va_nd isC = true) (hnR : va_nd isR = true) (hdis : ∀ i ∈ isR, i ∉ isC) (hM : CI l y b2 n2 rt fr lo mc ms D cA cB (.ref a :: As) Wc post) (hcode : Cond.code y b2 n2 rt ∈ gw) (hini : Cond.initialized y.cls ∈ gw) (hlink : Cond.methodLink own index y ∈ gw) (hinst : Cond.instanceMethod y ∈ gw) (hsel : Cond.selects y.cls y y ∈ gw) (q0 : Nat) {ci : Nat} {fs : List Value} {T : u_T} {N : Nat} (hc : classes[ci]? = some (y.cls, T, N)) (hre : Wc[q0]? = some (a, .inr (ci, fs))) (hd : y.cls ≠ "java/lang/invoke/MethodHandle" ∧ y.cls ≠ "java/lang/invoke/VarHandle" ∧ (parseMethodDescriptor y.desc).map (fun d => d.parameters.length) = some n3) (hn3 : As.length = n3) (hst : st0 = As.reverse ++ .ref a :: rest) (hrest : (rest.map fun v => v.category).sum ≤ 8) (hRm : fr + 1 ≤ R.frames ∧ 8 + (n2 + 11) + lo ≤ R.locals) (hf : cells + mc ≤ R.cells ∧ slots + ms ≤ R.slots) (hdg : decode cc pc = .ok (.invokevirtual index, 3))
    (kk : ∀ (r : Int32) (W1 : va_W) (H1 : Heap) (locs1 : List Loc), post r W1 → va_P D classes (wr ++ W1) H1 → va_D A (wr ++ W1) → va_S A s.heap H1 locs1 → W p l e R s m args below meth c H1 locs1 (cells + mc) (slots + ms) Q (F0 m (pc + 3) ls (.int r :: rest))) : W p l e R s m args below meth c H locs cells slots Q (F0 m pc ls st0) := by
  have hPc := hP.sub (ws' := Wc) isC hC2
  have hDc := hD.sub (ws' := Wc) isC hnC hC
  have hFc := va_free (wc := Wc) hD hS hA isC hC
  have hts := X.2.2.2.2
  have hG : GoodIn gw (Cond.code y b2 n2 rt :: gw) := fun w hw => by
    rcases List.mem_cons.mp hw with h | h
    · subst h; exact ⟨hcode, gw_good _ hcode⟩
    · exact ⟨h, gw_good w h⟩
  refine va_calli (va_runV (As := As) (rest := rest) X (hM H.size) ⟨callB_of (ws' := gw) n3 hts hG rfl rfl rfl (hts _ hini) (hts _ hlink) hd hRm, hts _ hinst, hts _ hsel⟩ ⟨Pre_blind, va_recv hE.1 hPc hc hre, fun U hU hW => ⟨rfl, by rw [hU], by rw [hU]; exact hPc, env_call hW hU hS hFc hE, hDc.weaken (fun _ _ _ _ => trivial)⟩⟩ rfl hn3 hls hst (lv_room hrest) hdg hf) hS (fun q _ h => hFc q h) hFc (fun r u t H1 locs1 ht hvm hw hB hz1 hk1 hS1 => ?_)
  obtain ⟨hP1, hD1⟩ := hB
  rw [ht] at hP1
  obtain ⟨hP2, hD2⟩ := va_join (wr := wr) (w1 := u) hP hD isC isR hC hR hnR hdis hk1 hFc hP1 hD1
  exact kk r u H1 locs1 hw hP2 hD2 hS1
theorem kVv {y : MethodName} {b2 : ByteArray} {n2 n3 index fr lo mc ms : Nat} {rt : Option FieldType} {post : va_W → Prop} {As : List Value} {st0 : List Value} (X : CallFix p m c cc nL s args gw own) (hls : ls.size = nL) (hE : env D cA cB A s) (hP : va_P D classes ws H) (hD : va_D A ws) (hS : va_S A s.heap H locs) (hA : ∀ q, s.heap.size ≤ q → A q)
    (Wc wr : va_W) (isC isR : List Nat) (hC : isC.map (fun i => ws[i]?) = Wc.map some) (hC2 : isC.filterMap (fun i => ws[i]?) = Wc) (hR : isR.map (fun i => ws[i]?) = wr.map some) (hnC : va_nd isC = true) (hnR : va_nd isR = true) (hdis : ∀ i ∈ isR, i ∉ isC) (hM : CV l y b2 n2 rt fr lo mc ms D cA cB (.ref a :: As) Wc post) (hcode : Cond.code y b2 n2 rt ∈ gw) (hini : Cond.initialized y.cls ∈ gw) (hlink : Cond.methodLink own index y ∈ gw) (hinst : Cond.instanceMethod y ∈ gw) (hsel : Cond.selects y.cls y y ∈ gw) (q0 : Nat) {ci : Nat} {fs : List Value} {T : u_T} {N : Nat} (hc : classes[ci]? = some (y.cls, T, N)) (hre : Wc[q0]? = some (a, .inr (ci, fs))) (hd : y.cls ≠ "java/lang/invoke/MethodHandle" ∧ y.cls ≠ "java/lang/invoke/VarHandle" ∧ (parseMethodDescriptor y.desc).map (fun d => d.parameters.length) = some n3) (hn3 : As.length = n3) (hst : st0 = As.reverse ++ .ref a :: rest) (hrest : (rest.map fun v => v.category).sum ≤ 8) (hRm : fr + 1 ≤ R.frames ∧ 8 + (n2 + 11) + lo ≤ R.locals) (hf : cells + mc ≤ R.cells ∧ slots + ms ≤ R.slots) (hdg : decode cc pc = .ok (.invokevirtual index, 3))
    (kk : ∀ (W1 : va_W) (H1 : Heap) (locs1 : List Loc), post W1 → va_P D classes (wr ++ W1) H1 → va_D A (wr ++ W1) → va_S A s.heap H1 locs1 → W p l e R s m args below meth c H1 locs1 (cells + mc) (slots + ms) Q (F0 m (pc + 3) ls rest)) : W p l e R s m args below meth c H locs cells slots Q (F0 m pc ls st0) := by
  have hPc := hP.sub (ws' := Wc) isC hC2
  have hDc := hD.sub (ws' := Wc) isC hnC hC
  have hFc := va_free (wc := Wc) hD hS hA isC hC
  have hts := X.2.2.2.2
  have hG : GoodIn gw (Cond.code y b2 n2 rt :: gw) := fun w hw => by
    rcases List.mem_cons.mp hw with h | h
    · subst h; exact ⟨hcode, gw_good _ hcode⟩
    · exact ⟨h, gw_good w h⟩
  refine va_callv (va_runV (As := As) (rest := rest) X (hM H.size) ⟨callB_of (ws' := gw) n3 hts hG rfl rfl rfl (hts _ hini) (hts _ hlink) hd hRm, hts _ hinst, hts _ hsel⟩ ⟨Pre_blind, va_recv hE.1 hPc hc hre, fun U hU hW => ⟨rfl, by rw [hU], by rw [hU]; exact hPc, env_call hW hU hS hFc hE, hDc.weaken (fun _ _ _ _ => trivial)⟩⟩ rfl hn3 hls hst (lv_room hrest) hdg hf) hS (fun q _ h => hFc q h) hFc (fun u t H1 locs1 ht hvm hw hB hz1 hk1 hS1 => ?_)
  obtain ⟨hP1, hD1⟩ := hB
  rw [ht] at hP1
  obtain ⟨hP2, hD2⟩ := va_join (wr := wr) (w1 := u) hP hD isC isR hC hR hnR hdis hk1 hFc hP1 hD1
  exact kk u H1 locs1 hw hP2 hD2 hS1
theorem kVNi {y : MethodName} {b2 : ByteArray} {n2 n3 index fr lo mc ms : Nat} {rt : Option FieldType} {post : Int32 → va_W → Prop} {As : List Value} {host : String} {st0 : List Value} (X : CallFix p m c cc nL s args gw own) (hls : ls.size = nL) (hE : env D cA cB A s) (hP : va_P D classes ws H) (hD : va_D A ws) (hS : va_S A s.heap H locs) (hA : ∀ q, s.heap.size ≤ q → A q)
    (Wc wr : va_W) (isC isR : List Nat) (hC : isC.map (fun i => ws[i]?) = Wc.map some) (hC2 : isC.filterMap (fun i => ws[i]?) = Wc) (hR : isR.map (fun i => ws[i]?) = wr.map some) (hnC : va_nd isC = true) (hnR : va_nd isR = true) (hdis : ∀ i ∈ isR, i ∉ isC) (hM : CI l y b2 n2 rt fr lo mc ms D cA cB (.ref a :: As) Wc post) (hcode : Cond.code y b2 n2 rt ∈ gw) (hini : Cond.initialized y.cls ∈ gw) (hlink : Cond.methodLinkNest own index y host ∈ nests) (hinst : Cond.instanceMethod y ∈ gw) (hsel : Cond.selects y.cls y y ∈ gw) (q0 : Nat) {ci : Nat} {fs : List Value} {T : u_T} {N : Nat} (hc : classes[ci]? = some (y.cls, T, N)) (hre : Wc[q0]? = some (a, .inr (ci, fs))) (hd : y.cls ≠ "java/lang/invoke/MethodHandle" ∧ y.cls ≠ "java/lang/invoke/VarHandle" ∧ (parseMethodDescriptor y.desc).map (fun d => d.parameters.length) = some n3) (hn3 : As.length = n3) (hst : st0 = As.reverse ++ .ref a :: rest) (hrest : (rest.map fun v => v.category).sum ≤ 8) (hRm : fr + 1 ≤ R.frames ∧ 8 + (n2 + 11) + lo ≤ R.locals) (hf : cells + mc ≤ R.cells ∧ slots + ms ≤ R.slots) (hdg : decode cc pc = .ok (.invokevirtual index, 3))
    (kk : ∀ (r : Int32) (W1 : va_W) (H1 : Heap) (locs1 : List Loc), post r W1 → va_P D classes (wr ++ W1) H1 → va_D A (wr ++ W1) → va_S A s.heap H1 locs1 → W p l e R s m args below meth c H1 locs1 (cells + mc) (slots + ms) Q (F0 m (pc + 3) ls (.int r :: rest))) : W p l e R s m args below meth c H locs cells slots Q (F0 m pc ls st0) := by
  have hPc := hP.sub (ws' := Wc) isC hC2
  have hDc := hD.sub (ws' := Wc) isC hnC hC
  have hFc := va_free (wc := Wc) hD hS hA isC hC
  have hts := X.2.2.2.2
  have hG : GoodIn gw (Cond.code y b2 n2 rt :: gw) := fun w hw => by
    rcases List.mem_cons.mp hw with h | h
    · subst h; exact ⟨hcode, gw_good _ hcode⟩
    · exact ⟨h, gw_good w h⟩
  refine va_calli (va_runVN (As := As) (rest := rest) X (hM H.size) ⟨va_cnB (ws' := gw) n3 hts hG rfl rfl rfl (hE.2.1 _ hlink) (hts _ hini) hd hRm, hts _ hinst, hts _ hsel⟩ ⟨Pre_blind, va_recv hE.1 hPc hc hre, fun U hU hW => ⟨rfl, by rw [hU], by rw [hU]; exact hPc, env_call hW hU hS hFc hE, hDc.weaken (fun _ _ _ _ => trivial)⟩⟩ rfl hn3 hls hst (lv_room hrest) hdg hf) hS (fun q _ h => hFc q h) hFc (fun r u t H1 locs1 ht hvm hw hB hz1 hk1 hS1 => ?_)
  obtain ⟨hP1, hD1⟩ := hB
  rw [ht] at hP1
  obtain ⟨hP2, hD2⟩ := va_join (wr := wr) (w1 := u) hP hD isC isR hC hR hnR hdis hk1 hFc hP1 hD1
  exact kk r u H1 locs1 hw hP2 hD2 hS1
theorem kVNv {y : MethodName} {b2 : ByteArray} {n2 n3 index fr lo mc ms : Nat} {rt : Option FieldType} {post : va_W → Prop} {As : List Value} {host : String} {st0 : List Value} (X : CallFix p m c cc nL s args gw own) (hls : ls.size = nL) (hE : env D cA cB A s) (hP : va_P D classes ws H) (hD : va_D A ws) (hS : va_S A s.heap H locs) (hA : ∀ q, s.heap.size ≤ q → A q)
    (Wc wr : va_W) (isC isR : List Nat) (hC : isC.map (fun i => ws[i]?) = Wc.map some) (hC2 : isC.filterMap (fun i => ws[i]?) = Wc) (hR : isR.map (fun i => ws[i]?) = wr.map some) (hnC : va_nd isC = true) (hnR : va_nd isR = true) (hdis : ∀ i ∈ isR, i ∉ isC) (hM : CV l y b2 n2 rt fr lo mc ms D cA cB (.ref a :: As) Wc post) (hcode : Cond.code y b2 n2 rt ∈ gw) (hini : Cond.initialized y.cls ∈ gw) (hlink : Cond.methodLinkNest own index y host ∈ nests) (hinst : Cond.instanceMethod y ∈ gw) (hsel : Cond.selects y.cls y y ∈ gw) (q0 : Nat) {ci : Nat} {fs : List Value} {T : u_T} {N : Nat} (hc : classes[ci]? = some (y.cls, T, N)) (hre : Wc[q0]? = some (a, .inr (ci, fs))) (hd : y.cls ≠ "java/lang/invoke/MethodHandle" ∧ y.cls ≠ "java/lang/invoke/VarHandle" ∧ (parseMethodDescriptor y.desc).map (fun d => d.parameters.length) = some n3) (hn3 : As.length = n3) (hst : st0 = As.reverse ++ .ref a :: rest) (hrest : (rest.map fun v => v.category).sum ≤ 8) (hRm : fr + 1 ≤ R.frames ∧ 8 + (n2 + 11) + lo ≤ R.locals) (hf : cells + mc ≤ R.cells ∧ slots + ms ≤ R.slots) (hdg : decode cc pc = .ok (.invokevirtual index, 3))
    (kk : ∀ (W1 : va_W) (H1 : Heap) (locs1 : List Loc), post W1 → va_P D classes (wr ++ W1) H1 → va_D A (wr ++ W1) → va_S A s.heap H1 locs1 → W p l e R s m args below meth c H1 locs1 (cells + mc) (slots + ms) Q (F0 m (pc + 3) ls rest)) : W p l e R s m args below meth c H locs cells slots Q (F0 m pc ls st0) := by
  have hPc := hP.sub (ws' := Wc) isC hC2
  have hDc := hD.sub (ws' := Wc) isC hnC hC
  have hFc := va_free (wc := Wc) hD hS hA isC hC
  have hts := X.2.2.2.2
  have hG : GoodIn gw (Cond.code y b2 n2 rt :: gw) := fun w hw => by
    rcases List.mem_cons.mp hw with h | h
    · subst h; exact ⟨hcode, gw_good _ hcode⟩
    · exact ⟨h, gw_good w h⟩
  refine va_callv (va_runVN (As := As) (rest := rest) X (hM H.size) ⟨va_cnB (ws' := gw) n3 hts hG rfl rfl rfl (hE.2.1 _ hlink) (hts _ hini) hd hRm, hts _ hinst, hts _ hsel⟩ ⟨Pre_blind, va_recv hE.1 hPc hc hre, fun U hU hW => ⟨rfl, by rw [hU], by rw [hU]; exact hPc, env_call hW hU hS hFc hE, hDc.weaken (fun _ _ _ _ => trivial)⟩⟩ rfl hn3 hls hst (lv_room hrest) hdg hf) hS (fun q _ h => hFc q h) hFc (fun u t H1 locs1 ht hvm hw hB hz1 hk1 hS1 => ?_)
  obtain ⟨hP1, hD1⟩ := hB
  rw [ht] at hP1
  obtain ⟨hP2, hD2⟩ := va_join (wr := wr) (w1 := u) hP hD isC isR hC hR hnR hdis hk1 hFc hP1 hD1
  exact kk u H1 locs1 hw hP2 hD2 hS1
theorem kSi {y : MethodName} {b2 : ByteArray} {n2 n3 index fr lo mc ms : Nat} {rt : Option FieldType} {post : Int32 → va_W → Prop} {As : List Value} {st0 : List Value} (X : CallFix p m c cc nL s args gw own) (hls : ls.size = nL) (hE : env D cA cB A s) (hP : va_P D classes ws H) (hD : va_D A ws) (hS : va_S A s.heap H locs) (hA : ∀ q, s.heap.size ≤ q → A q)
    (Wc wr : va_W) (isC isR : List Nat) (hC : isC.map (fun i => ws[i]?) = Wc.map some) (hC2 : isC.filterMap (fun i => ws[i]?) = Wc) (hR : isR.map (fun i => ws[i]?) = wr.map some) (hnC : va_nd isC = true) (hnR : va_nd isR = true) (hdis : ∀ i ∈ isR, i ∉ isC) (hM : CI l y b2 n2 rt fr lo mc ms D cA cB (As) Wc post) (hcode : Cond.code y b2 n2 rt ∈ gw) (hini : Cond.initialized y.cls ∈ gw) (hlink : Cond.methodLink own index y ∈ gw) (hsta : Cond.static y ∈ gw) (hd : y.cls ≠ "java/lang/invoke/MethodHandle" ∧ y.cls ≠ "java/lang/invoke/VarHandle" ∧ (parseMethodDescriptor y.desc).map (fun d => d.parameters.length) = some n3) (hn3 : As.length = n3) (hst : st0 = As.reverse ++ rest) (hrest : (rest.map fun v => v.category).sum ≤ 8) (hRm : fr + 1 ≤ R.frames ∧ 8 + (n2 + 11) + lo ≤ R.locals) (hf : cells + mc ≤ R.cells ∧ slots + ms ≤ R.slots) (hdg : decode cc pc = .ok (.invokestatic index, 3))
    (kk : ∀ (r : Int32) (W1 : va_W) (H1 : Heap) (locs1 : List Loc), post r W1 → va_P D classes (wr ++ W1) H1 → va_D A (wr ++ W1) → va_S A s.heap H1 locs1 → W p l e R s m args below meth c H1 locs1 (cells + mc) (slots + ms) Q (F0 m (pc + 3) ls (.int r :: rest))) : W p l e R s m args below meth c H locs cells slots Q (F0 m pc ls st0) := by
  have hPc := hP.sub (ws' := Wc) isC hC2
  have hDc := hD.sub (ws' := Wc) isC hnC hC
  have hFc := va_free (wc := Wc) hD hS hA isC hC
  have hts := X.2.2.2.2
  have hG : GoodIn gw (Cond.code y b2 n2 rt :: gw) := fun w hw => by
    rcases List.mem_cons.mp hw with h | h
    · subst h; exact ⟨hcode, gw_good _ hcode⟩
    · exact ⟨h, gw_good w h⟩
  refine va_calli (va_runS (As := As) (rest := rest) X (hM H.size) ⟨callB_of (ws' := gw) n3 hts hG rfl rfl rfl (hts _ hini) (hts _ hlink) hd hRm, hts _ hsta⟩ ⟨Pre_blind, fun U hU hW => ⟨rfl, by rw [hU], by rw [hU]; exact hPc, env_call hW hU hS hFc hE, hDc.weaken (fun _ _ _ _ => trivial)⟩⟩ rfl hn3 hls hst (lv_room hrest) hdg hf) hS (fun q _ h => hFc q h) hFc (fun r u t H1 locs1 ht hvm hw hB hz1 hk1 hS1 => ?_)
  obtain ⟨hP1, hD1⟩ := hB
  rw [ht] at hP1
  obtain ⟨hP2, hD2⟩ := va_join (wr := wr) (w1 := u) hP hD isC isR hC hR hnR hdis hk1 hFc hP1 hD1
  exact kk r u H1 locs1 hw hP2 hD2 hS1
theorem kSv {y : MethodName} {b2 : ByteArray} {n2 n3 index fr lo mc ms : Nat} {rt : Option FieldType} {post : va_W → Prop} {As : List Value} {st0 : List Value} (X : CallFix p m c cc nL s args gw own) (hls : ls.size = nL) (hE : env D cA cB A s) (hP : va_P D classes ws H) (hD : va_D A ws) (hS : va_S A s.heap H locs) (hA : ∀ q, s.heap.size ≤ q → A q)
    (Wc wr : va_W) (isC isR : List Nat) (hC : isC.map (fun i => ws[i]?) = Wc.map some) (hC2 : isC.filterMap (fun i => ws[i]?) = Wc) (hR : isR.map (fun i => ws[i]?) = wr.map some) (hnC : va_nd isC = true) (hnR : va_nd isR = true) (hdis : ∀ i ∈ isR, i ∉ isC) (hM : CV l y b2 n2 rt fr lo mc ms D cA cB (As) Wc post) (hcode : Cond.code y b2 n2 rt ∈ gw) (hini : Cond.initialized y.cls ∈ gw) (hlink : Cond.methodLink own index y ∈ gw) (hsta : Cond.static y ∈ gw) (hd : y.cls ≠ "java/lang/invoke/MethodHandle" ∧ y.cls ≠ "java/lang/invoke/VarHandle" ∧ (parseMethodDescriptor y.desc).map (fun d => d.parameters.length) = some n3) (hn3 : As.length = n3) (hst : st0 = As.reverse ++ rest) (hrest : (rest.map fun v => v.category).sum ≤ 8) (hRm : fr + 1 ≤ R.frames ∧ 8 + (n2 + 11) + lo ≤ R.locals) (hf : cells + mc ≤ R.cells ∧ slots + ms ≤ R.slots) (hdg : decode cc pc = .ok (.invokestatic index, 3))
    (kk : ∀ (W1 : va_W) (H1 : Heap) (locs1 : List Loc), post W1 → va_P D classes (wr ++ W1) H1 → va_D A (wr ++ W1) → va_S A s.heap H1 locs1 → W p l e R s m args below meth c H1 locs1 (cells + mc) (slots + ms) Q (F0 m (pc + 3) ls rest)) : W p l e R s m args below meth c H locs cells slots Q (F0 m pc ls st0) := by
  have hPc := hP.sub (ws' := Wc) isC hC2
  have hDc := hD.sub (ws' := Wc) isC hnC hC
  have hFc := va_free (wc := Wc) hD hS hA isC hC
  have hts := X.2.2.2.2
  have hG : GoodIn gw (Cond.code y b2 n2 rt :: gw) := fun w hw => by
    rcases List.mem_cons.mp hw with h | h
    · subst h; exact ⟨hcode, gw_good _ hcode⟩
    · exact ⟨h, gw_good w h⟩
  refine va_callv (va_runS (As := As) (rest := rest) X (hM H.size) ⟨callB_of (ws' := gw) n3 hts hG rfl rfl rfl (hts _ hini) (hts _ hlink) hd hRm, hts _ hsta⟩ ⟨Pre_blind, fun U hU hW => ⟨rfl, by rw [hU], by rw [hU]; exact hPc, env_call hW hU hS hFc hE, hDc.weaken (fun _ _ _ _ => trivial)⟩⟩ rfl hn3 hls hst (lv_room hrest) hdg hf) hS (fun q _ h => hFc q h) hFc (fun u t H1 locs1 ht hvm hw hB hz1 hk1 hS1 => ?_)
  obtain ⟨hP1, hD1⟩ := hB
  rw [ht] at hP1
  obtain ⟨hP2, hD2⟩ := va_join (wr := wr) (w1 := u) hP hD isC isR hC hR hnR hdis hk1 hFc hP1 hD1
  exact kk u H1 locs1 hw hP2 hD2 hS1
theorem kSNi {y : MethodName} {b2 : ByteArray} {n2 n3 index fr lo mc ms : Nat} {rt : Option FieldType} {post : Int32 → va_W → Prop} {As : List Value} {host : String} {st0 : List Value} (X : CallFix p m c cc nL s args gw own) (hls : ls.size = nL) (hE : env D cA cB A s) (hP : va_P D classes ws H) (hD : va_D A ws) (hS : va_S A s.heap H locs) (hA : ∀ q, s.heap.size ≤ q → A q)
    (Wc wr : va_W) (isC isR : List Nat) (hC : isC.map (fun i => ws[i]?) = Wc.map some) (hC2 : isC.filterMap (fun i => ws[i]?) = Wc) (hR : isR.map (fun i => ws[i]?) = wr.map some) (hnC : va_nd isC = true) (hnR : va_nd isR = true) (hdis : ∀ i ∈ isR, i ∉ isC) (hM : CI l y b2 n2 rt fr lo mc ms D cA cB (As) Wc post) (hcode : Cond.code y b2 n2 rt ∈ gw) (hini : Cond.initialized y.cls ∈ gw) (hlink : Cond.methodLinkNest own index y host ∈ nests) (hsta : Cond.static y ∈ gw) (hd : y.cls ≠ "java/lang/invoke/MethodHandle" ∧ y.cls ≠ "java/lang/invoke/VarHandle" ∧ (parseMethodDescriptor y.desc).map (fun d => d.parameters.length) = some n3) (hn3 : As.length = n3) (hst : st0 = As.reverse ++ rest) (hrest : (rest.map fun v => v.category).sum ≤ 8) (hRm : fr + 1 ≤ R.frames ∧ 8 + (n2 + 11) + lo ≤ R.locals) (hf : cells + mc ≤ R.cells ∧ slots + ms ≤ R.slots) (hdg : decode cc pc = .ok (.invokestatic index, 3))
    (kk : ∀ (r : Int32) (W1 : va_W) (H1 : Heap) (locs1 : List Loc), post r W1 → va_P D classes (wr ++ W1) H1 → va_D A (wr ++ W1) → va_S A s.heap H1 locs1 → W p l e R s m args below meth c H1 locs1 (cells + mc) (slots + ms) Q (F0 m (pc + 3) ls (.int r :: rest))) : W p l e R s m args below meth c H locs cells slots Q (F0 m pc ls st0) := by
  have hPc := hP.sub (ws' := Wc) isC hC2
  have hDc := hD.sub (ws' := Wc) isC hnC hC
  have hFc := va_free (wc := Wc) hD hS hA isC hC
  have hts := X.2.2.2.2
  have hG : GoodIn gw (Cond.code y b2 n2 rt :: gw) := fun w hw => by
    rcases List.mem_cons.mp hw with h | h
    · subst h; exact ⟨hcode, gw_good _ hcode⟩
    · exact ⟨h, gw_good w h⟩
  refine va_calli (va_runSN (As := As) (rest := rest) X (hM H.size) ⟨va_cnB (ws' := gw) n3 hts hG rfl rfl rfl (hE.2.1 _ hlink) (hts _ hini) hd hRm, hts _ hsta, trivial⟩ ⟨Pre_blind, fun U hU hW => ⟨rfl, by rw [hU], by rw [hU]; exact hPc, env_call hW hU hS hFc hE, hDc.weaken (fun _ _ _ _ => trivial)⟩⟩ rfl hn3 hls hst (lv_room hrest) hdg hf) hS (fun q _ h => hFc q h) hFc (fun r u t H1 locs1 ht hvm hw hB hz1 hk1 hS1 => ?_)
  obtain ⟨hP1, hD1⟩ := hB
  rw [ht] at hP1
  obtain ⟨hP2, hD2⟩ := va_join (wr := wr) (w1 := u) hP hD isC isR hC hR hnR hdis hk1 hFc hP1 hD1
  exact kk r u H1 locs1 hw hP2 hD2 hS1
theorem kSNv {y : MethodName} {b2 : ByteArray} {n2 n3 index fr lo mc ms : Nat} {rt : Option FieldType} {post : va_W → Prop} {As : List Value} {host : String} {st0 : List Value} (X : CallFix p m c cc nL s args gw own) (hls : ls.size = nL) (hE : env D cA cB A s) (hP : va_P D classes ws H) (hD : va_D A ws) (hS : va_S A s.heap H locs) (hA : ∀ q, s.heap.size ≤ q → A q)
    (Wc wr : va_W) (isC isR : List Nat) (hC : isC.map (fun i => ws[i]?) = Wc.map some) (hC2 : isC.filterMap (fun i => ws[i]?) = Wc) (hR : isR.map (fun i => ws[i]?) = wr.map some) (hnC : va_nd isC = true) (hnR : va_nd isR = true) (hdis : ∀ i ∈ isR, i ∉ isC) (hM : CV l y b2 n2 rt fr lo mc ms D cA cB (As) Wc post) (hcode : Cond.code y b2 n2 rt ∈ gw) (hini : Cond.initialized y.cls ∈ gw) (hlink : Cond.methodLinkNest own index y host ∈ nests) (hsta : Cond.static y ∈ gw) (hd : y.cls ≠ "java/lang/invoke/MethodHandle" ∧ y.cls ≠ "java/lang/invoke/VarHandle" ∧ (parseMethodDescriptor y.desc).map (fun d => d.parameters.length) = some n3) (hn3 : As.length = n3) (hst : st0 = As.reverse ++ rest) (hrest : (rest.map fun v => v.category).sum ≤ 8) (hRm : fr + 1 ≤ R.frames ∧ 8 + (n2 + 11) + lo ≤ R.locals) (hf : cells + mc ≤ R.cells ∧ slots + ms ≤ R.slots) (hdg : decode cc pc = .ok (.invokestatic index, 3))
    (kk : ∀ (W1 : va_W) (H1 : Heap) (locs1 : List Loc), post W1 → va_P D classes (wr ++ W1) H1 → va_D A (wr ++ W1) → va_S A s.heap H1 locs1 → W p l e R s m args below meth c H1 locs1 (cells + mc) (slots + ms) Q (F0 m (pc + 3) ls rest)) : W p l e R s m args below meth c H locs cells slots Q (F0 m pc ls st0) := by
  have hPc := hP.sub (ws' := Wc) isC hC2
  have hDc := hD.sub (ws' := Wc) isC hnC hC
  have hFc := va_free (wc := Wc) hD hS hA isC hC
  have hts := X.2.2.2.2
  have hG : GoodIn gw (Cond.code y b2 n2 rt :: gw) := fun w hw => by
    rcases List.mem_cons.mp hw with h | h
    · subst h; exact ⟨hcode, gw_good _ hcode⟩
    · exact ⟨h, gw_good w h⟩
  refine va_callv (va_runSN (As := As) (rest := rest) X (hM H.size) ⟨va_cnB (ws' := gw) n3 hts hG rfl rfl rfl (hE.2.1 _ hlink) (hts _ hini) hd hRm, hts _ hsta, trivial⟩ ⟨Pre_blind, fun U hU hW => ⟨rfl, by rw [hU], by rw [hU]; exact hPc, env_call hW hU hS hFc hE, hDc.weaken (fun _ _ _ _ => trivial)⟩⟩ rfl hn3 hls hst (lv_room hrest) hdg hf) hS (fun q _ h => hFc q h) hFc (fun u t H1 locs1 ht hvm hw hB hz1 hk1 hS1 => ?_)
  obtain ⟨hP1, hD1⟩ := hB
  rw [ht] at hP1
  obtain ⟨hP2, hD2⟩ := va_join (wr := wr) (w1 := u) hP hD isC isR hC hR hnR hdis hk1 hFc hP1 hD1
  exact kk u H1 locs1 hw hP2 hD2 hS1
theorem kIv {y : MethodName} {b2 : ByteArray} {n2 n3 index fr lo mc ms : Nat}  {post : va_W → Prop} {As : List Value} {st0 : List Value} (X : CallFix p m c cc nL s args gw own) (hls : ls.size = nL) (hE : env D cA cB A s) (hP : va_P D classes ws H) (hD : va_D A ws) (hS : va_S A s.heap H locs) (hA : ∀ q, s.heap.size ≤ q → A q)
    (Wc wr : va_W) (isC isR : List Nat) (hC : isC.map (fun i => ws[i]?) = Wc.map some) (hC2 : isC.filterMap (fun i => ws[i]?) = Wc) (hR : isR.map (fun i => ws[i]?) = wr.map some) (hnC : va_nd isC = true) (hnR : va_nd isR = true) (hdis : ∀ i ∈ isR, i ∉ isC) (hM : CV l y b2 n2 none fr lo mc ms D cA cB (.ref a :: As) Wc post) (hcode : Cond.code y b2 n2 none ∈ gw) (hini : Cond.initialized y.cls ∈ gw) (hlink : Cond.methodLink own index y ∈ gw) (hinst : Cond.instanceMethod y ∈ gw) (hy1 : y.name = "<init>") (hd : y.cls ≠ "java/lang/invoke/MethodHandle" ∧ y.cls ≠ "java/lang/invoke/VarHandle" ∧ (parseMethodDescriptor y.desc).map (fun d => d.parameters.length) = some n3) (hn3 : As.length = n3) (hst : st0 = As.reverse ++ .ref a :: rest) (hrest : (rest.map fun v => v.category).sum ≤ 8) (hRm : fr + 1 ≤ R.frames ∧ 8 + (n2 + 11) + lo ≤ R.locals) (hf : cells + mc ≤ R.cells ∧ slots + ms ≤ R.slots) (hdg : decode cc pc = .ok (.invokespecial index, 3))
    (kk : ∀ (W1 : va_W) (H1 : Heap) (locs1 : List Loc), post W1 → va_P D classes (wr ++ W1) H1 → va_D A (wr ++ W1) → va_S A s.heap H1 locs1 → W p l e R s m args below meth c H1 locs1 (cells + mc) (slots + ms) Q (F0 m (pc + 3) ls rest)) : W p l e R s m args below meth c H locs cells slots Q (F0 m pc ls st0) := by
  have hPc := hP.sub (ws' := Wc) isC hC2
  have hDc := hD.sub (ws' := Wc) isC hnC hC
  have hFc := va_free (wc := Wc) hD hS hA isC hC
  have hts := X.2.2.2.2
  have hG : GoodIn gw (Cond.code y b2 n2 none :: gw) := fun w hw => by
    rcases List.mem_cons.mp hw with h | h
    · subst h; exact ⟨hcode, gw_good _ hcode⟩
    · exact ⟨h, gw_good w h⟩
  refine va_callv (va_runI (As := As) (rest := rest) X (hM H.size) ⟨callB_of (ws' := gw) n3 hts hG rfl rfl rfl (hts _ hini) (hts _ hlink) hd hRm, hy1, hts _ hinst⟩ ⟨Pre_blind, fun U hU hW => ⟨rfl, by rw [hU], by rw [hU]; exact hPc, env_call hW hU hS hFc hE, hDc.weaken (fun _ _ _ _ => trivial)⟩⟩ rfl hn3 hls hst (lv_room hrest) hdg hf) hS (fun q _ h => hFc q h) hFc (fun u t H1 locs1 ht hvm hw hB hz1 hk1 hS1 => ?_)
  obtain ⟨hP1, hD1⟩ := hB
  rw [ht] at hP1
  obtain ⟨hP2, hD2⟩ := va_join (wr := wr) (w1 := u) hP hD isC isR hC hR hnR hdis hk1 hFc hP1 hD1
  exact kk u H1 locs1 hw hP2 hD2 hS1
theorem kINv {y : MethodName} {b2 : ByteArray} {n2 n3 index fr lo mc ms : Nat}  {post : va_W → Prop} {As : List Value} {host : String} {st0 : List Value} (X : CallFix p m c cc nL s args gw own) (hls : ls.size = nL) (hE : env D cA cB A s) (hP : va_P D classes ws H) (hD : va_D A ws) (hS : va_S A s.heap H locs) (hA : ∀ q, s.heap.size ≤ q → A q)
    (Wc wr : va_W) (isC isR : List Nat) (hC : isC.map (fun i => ws[i]?) = Wc.map some) (hC2 : isC.filterMap (fun i => ws[i]?) = Wc) (hR : isR.map (fun i => ws[i]?) = wr.map some) (hnC : va_nd isC = true) (hnR : va_nd isR = true) (hdis : ∀ i ∈ isR, i ∉ isC) (hM : CV l y b2 n2 none fr lo mc ms D cA cB (.ref a :: As) Wc post) (hcode : Cond.code y b2 n2 none ∈ gw) (hini : Cond.initialized y.cls ∈ gw) (hlink : Cond.methodLinkNest own index y host ∈ nests) (hinst : Cond.instanceMethod y ∈ gw) (hy1 : y.name = "<init>") (hd : y.cls ≠ "java/lang/invoke/MethodHandle" ∧ y.cls ≠ "java/lang/invoke/VarHandle" ∧ (parseMethodDescriptor y.desc).map (fun d => d.parameters.length) = some n3) (hn3 : As.length = n3) (hst : st0 = As.reverse ++ .ref a :: rest) (hrest : (rest.map fun v => v.category).sum ≤ 8) (hRm : fr + 1 ≤ R.frames ∧ 8 + (n2 + 11) + lo ≤ R.locals) (hf : cells + mc ≤ R.cells ∧ slots + ms ≤ R.slots) (hdg : decode cc pc = .ok (.invokespecial index, 3))
    (kk : ∀ (W1 : va_W) (H1 : Heap) (locs1 : List Loc), post W1 → va_P D classes (wr ++ W1) H1 → va_D A (wr ++ W1) → va_S A s.heap H1 locs1 → W p l e R s m args below meth c H1 locs1 (cells + mc) (slots + ms) Q (F0 m (pc + 3) ls rest)) : W p l e R s m args below meth c H locs cells slots Q (F0 m pc ls st0) := by
  have hPc := hP.sub (ws' := Wc) isC hC2
  have hDc := hD.sub (ws' := Wc) isC hnC hC
  have hFc := va_free (wc := Wc) hD hS hA isC hC
  have hts := X.2.2.2.2
  have hG : GoodIn gw (Cond.code y b2 n2 none :: gw) := fun w hw => by
    rcases List.mem_cons.mp hw with h | h
    · subst h; exact ⟨hcode, gw_good _ hcode⟩
    · exact ⟨h, gw_good w h⟩
  refine va_callv (va_runIN (As := As) (rest := rest) X (hM H.size) ⟨va_cnB (ws' := gw) n3 hts hG rfl rfl rfl (hE.2.1 _ hlink) (hts _ hini) hd hRm, hy1, hts _ hinst⟩ ⟨Pre_blind, fun U hU hW => ⟨rfl, by rw [hU], by rw [hU]; exact hPc, env_call hW hU hS hFc hE, hDc.weaken (fun _ _ _ _ => trivial)⟩⟩ rfl hn3 hls hst (lv_room hrest) hdg hf) hS (fun q _ h => hFc q h) hFc (fun u t H1 locs1 ht hvm hw hB hz1 hk1 hS1 => ?_)
  obtain ⟨hP1, hD1⟩ := hB
  rw [ht] at hP1
  obtain ⟨hP2, hD2⟩ := va_join (wr := wr) (w1 := u) hP hD isC isR hC hR hnR hdis hk1 hFc hP1 hD1
  exact kk u H1 locs1 hw hP2 hD2 hS1
theorem kVsi {y : MethodName} {b2 : ByteArray} {n2 n3 index fr lo mc ms : Nat} {rt : Option FieldType} {post : Int32 → va_W → Prop} {As : List Value} {st0 : List Value} (X : CallFix p m c cc nL s args gw own) (hls : ls.size = nL) (hE : env D cA cB A s) (hP : va_P D classes ws H) (hD : va_D A ws) (hS : va_S A s.heap H locs) (hA : ∀ q, s.heap.size ≤ q → A q)
    (isR : List Nat) (hR : isR.map (fun i => ws[i]?) = ws.map some) (hnR : va_nd isR = true) (hM : CI l y b2 n2 rt fr lo mc ms D cA cB (.ref a :: As) [] post) (hcode : Cond.code y b2 n2 rt ∈ gw) (hini : Cond.initialized y.cls ∈ gw) (hlink : Cond.methodLink own index y ∈ gw) (hinst : Cond.instanceMethod y ∈ gw) (hsel : Cond.selects y.cls y y ∈ gw) (hO : va_O y.cls a A s s.heap) (hd : y.cls ≠ "java/lang/invoke/MethodHandle" ∧ y.cls ≠ "java/lang/invoke/VarHandle" ∧ (parseMethodDescriptor y.desc).map (fun d => d.parameters.length) = some n3) (hn3 : As.length = n3) (hst : st0 = As.reverse ++ .ref a :: rest) (hrest : (rest.map fun v => v.category).sum ≤ 8) (hRm : fr + 1 ≤ R.frames ∧ 8 + (n2 + 11) + lo ≤ R.locals) (hf : cells + mc ≤ R.cells ∧ slots + ms ≤ R.slots) (hdg : decode cc pc = .ok (.invokevirtual index, 3))
    (kk : ∀ (r : Int32) (W1 : va_W) (H1 : Heap) (locs1 : List Loc), post r W1 → va_P D classes (ws ++ W1) H1 → va_D A (ws ++ W1) → va_S A s.heap H1 locs1 → W p l e R s m args below meth c H1 locs1 (cells + mc) (slots + ms) Q (F0 m (pc + 3) ls (.int r :: rest))) : W p l e R s m args below meth c H locs cells slots Q (F0 m pc ls st0) := by
  have hPc : va_P D classes [] H := fun k q h => by simp at h
  have hDc : va_D A [] := ⟨fun i j p q h => by simp at h, fun k q h => by simp at h⟩
  have hFc := va_free (wc := []) hD hS hA [] rfl
  have hts := X.2.2.2.2
  have hG : GoodIn gw (Cond.code y b2 n2 rt :: gw) := fun w hw => by
    rcases List.mem_cons.mp hw with h | h
    · subst h; exact ⟨hcode, gw_good _ hcode⟩
    · exact ⟨h, gw_good w h⟩
  have hrc : ∃ cell : Cell, H[a]? = some cell ∧ cell.vm.isStatics = false ∧ s.vm.findClass y.cls = some cell.cls := by
    obtain ⟨cell, h1, h2, h3, -⟩ := hO.kept hS.2.1
    exact ⟨cell, h1, h2, h3⟩
  refine va_calli (va_runV (As := As) (rest := rest) X (hM H.size) ⟨callB_of (ws' := gw) n3 hts hG rfl rfl rfl (hts _ hini) (hts _ hlink) hd hRm, hts _ hinst, hts _ hsel⟩ ⟨Pre_blind, hrc, fun U hU hW => ⟨rfl, by rw [hU], by rw [hU]; exact hPc, env_call hW hU hS hFc hE, hDc.weaken (fun _ _ _ _ => trivial)⟩⟩ rfl hn3 hls hst (lv_room hrest) hdg hf) hS (fun q _ h => hFc q h) hFc (fun r u t H1 locs1 ht hvm hw hB hz1 hk1 hS1 => ?_)
  obtain ⟨hP1, hD1⟩ := hB
  rw [ht] at hP1
  obtain ⟨hP2, hD2⟩ := va_join (wr := ws) (w1 := u) hP hD [] isR rfl hR hnR (fun _ _ h => by cases h) hk1 hFc hP1 hD1
  exact kk r u H1 locs1 hw hP2 hD2 hS1
theorem endT {post : Int32 → va_W → Prop} {mc ms : Nat} {v : Int32} {ty : FieldType} (X : CallFix p m c cc nL s args gw own) (hr : meth.sig.returnType = some ty) (hn : narrow ty (.int v) = .int v) (hlocks : meth.locks = false) (hP : va_P D classes ws H) (hD : va_D A ws) (hS : va_S A s.heap H locs) (hdg : decode cc pc = .ok (.ireturn, 1)) (hpost : post v ws) : W p l e R s m args below meth c H locs mc ms (MQ below (QI D post A) args s mc ms A) (F0 m pc ls [.int v]) :=
  W.zret X.1 X.2.1 hr hn (fun t ht _ => ⟨⟨v, ws, rfl, hpost, by rw [ht]; exact hP, hD⟩, hS.F ht⟩) hS.2.2 hdg
end
