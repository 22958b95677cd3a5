abbrev cX7_next : ByteArray := prog_9_method_5_code
def yX7_next : MethodName := ⟨RX7, "next", "()V"⟩
set_option maxRecDepth 100000 in
theorem w_903 : (Cond.methodLink "BelfryBox$Tape" 65 yX7_readDigits : Cond) ∈ gw := List.mem_filter.mpr ⟨List.mem_append_right _ (tb2 (List.mem_of_getElem? (i := 188) rfl)), rfl⟩
set_option maxRecDepth 100000 in
theorem w_904 : (Cond.code yX7_readDigits prog_9_method_9_code 5 (Option.none : Option Jvm.ClassFile.FieldType) : Cond) ∈ gw := List.mem_filter.mpr ⟨List.mem_append_right _ (tb2 (List.mem_of_getElem? (i := 191) rfl)), rfl⟩
set_option maxRecDepth 100000 in
theorem w_905 : (Cond.instanceMethod yX7_readDigits : Cond) ∈ gw := List.mem_filter.mpr ⟨List.mem_append_right _ (tb2 (List.mem_of_getElem? (i := 190) rfl)), rfl⟩
set_option maxRecDepth 100000 in
theorem w_906 : (Cond.selects "BelfryBox$Tape" yX7_readDigits yX7_readDigits : Cond) ∈ gw := List.mem_filter.mpr ⟨List.mem_append_left _ (List.mem_map.mpr ⟨(⟨"BelfryBox$Tape", "readDigits", "(II)V"⟩, 9), sl1 (List.mem_of_getElem? (i := 7) rfl), rfl⟩), rfl⟩
set_option maxRecDepth 100000 in
theorem w_907 : (Cond.methodLink "BelfryBox$Tape" 75 yJ0_indexOf_0f7a4 : Cond) ∈ gw := List.mem_filter.mpr ⟨List.mem_append_right _ (tb2 (List.mem_of_getElem? (i := 196) rfl)), rfl⟩
set_option maxRecDepth 100000 in
theorem w_908 : (Cond.code yJ0_indexOf_0f7a4 prog_14_method_79_code 2 (Option.some Jvm.ClassFile.FieldType.int) : Cond) ∈ gw := List.mem_filter.mpr ⟨List.mem_append_right _ (tb2 (List.mem_of_getElem? (i := 199) rfl)), rfl⟩
set_option maxRecDepth 100000 in
theorem w_909 : (Cond.instanceMethod yJ0_indexOf_0f7a4 : Cond) ∈ gw := List.mem_filter.mpr ⟨List.mem_append_right _ (tb2 (List.mem_of_getElem? (i := 197) rfl)), rfl⟩
set_option maxRecDepth 100000 in
theorem w_910 : (Cond.selects "java/lang/String" yJ0_indexOf_0f7a4 yJ0_indexOf_0f7a4 : Cond) ∈ gw := List.mem_filter.mpr ⟨List.mem_append_right _ (tb2 (List.mem_of_getElem? (i := 198) rfl)), rfl⟩
set_option maxRecDepth 100000 in
theorem w_911 : (Cond.methodLink "BelfryBox$Tape" 62 yX7_readQuoted : Cond) ∈ gw := List.mem_filter.mpr ⟨List.mem_append_right _ (tb2 (List.mem_of_getElem? (i := 184) rfl)), rfl⟩
set_option maxRecDepth 100000 in
theorem w_912 : (Cond.code yX7_readQuoted prog_9_method_8_code 1 (Option.none : Option Jvm.ClassFile.FieldType) : Cond) ∈ gw := List.mem_filter.mpr ⟨List.mem_append_right _ (tb2 (List.mem_of_getElem? (i := 187) rfl)), rfl⟩
set_option maxRecDepth 100000 in
theorem w_913 : (Cond.instanceMethod yX7_readQuoted : Cond) ∈ gw := List.mem_filter.mpr ⟨List.mem_append_right _ (tb2 (List.mem_of_getElem? (i := 186) rfl)), rfl⟩
set_option maxRecDepth 100000 in
theorem w_914 : (Cond.selects "BelfryBox$Tape" yX7_readQuoted yX7_readQuoted : Cond) ∈ gw := List.mem_filter.mpr ⟨List.mem_append_left _ (List.mem_map.mpr ⟨(⟨"BelfryBox$Tape", "readQuoted", "()V"⟩, 9), sl1 (List.mem_of_getElem? (i := 6) rfl), rfl⟩), rfl⟩
set_option maxRecDepth 100000 in
theorem w_915 : (Cond.methodLink "BelfryBox$Tape" 38 yX7_readLetters : Cond) ∈ gw := List.mem_filter.mpr ⟨List.mem_append_right _ (tb2 (List.mem_of_getElem? (i := 118) rfl)), rfl⟩
set_option maxRecDepth 100000 in
theorem w_916 : (Cond.code yX7_readLetters prog_9_method_6_code 2 (Option.none : Option Jvm.ClassFile.FieldType) : Cond) ∈ gw := List.mem_filter.mpr ⟨List.mem_append_right _ (tb2 (List.mem_of_getElem? (i := 121) rfl)), rfl⟩
set_option maxRecDepth 100000 in
theorem w_917 : (Cond.instanceMethod yX7_readLetters : Cond) ∈ gw := List.mem_filter.mpr ⟨List.mem_append_right _ (tb2 (List.mem_of_getElem? (i := 120) rfl)), rfl⟩
set_option maxRecDepth 100000 in
theorem w_918 : (Cond.selects "BelfryBox$Tape" yX7_readLetters yX7_readLetters : Cond) ∈ gw := List.mem_filter.mpr ⟨List.mem_append_left _ (List.mem_map.mpr ⟨(⟨"BelfryBox$Tape", "readLetters", "()V"⟩, 9), sl1 (List.mem_of_getElem? (i := 4) rfl), rfl⟩), rfl⟩
set_option maxRecDepth 100000 in
theorem w_919 : (Cond.methodLink "BelfryBox$Tape" 43 yX7_wordIn : Cond) ∈ gw := List.mem_filter.mpr ⟨List.mem_append_right _ (tb2 (List.mem_of_getElem? (i := 126) rfl)), rfl⟩
set_option maxRecDepth 100000 in
theorem w_920 : (Cond.code yX7_wordIn prog_9_method_7_code 6 (Option.some Jvm.ClassFile.FieldType.int) : Cond) ∈ gw := List.mem_filter.mpr ⟨List.mem_append_right _ (tb2 (List.mem_of_getElem? (i := 129) rfl)), rfl⟩
set_option maxRecDepth 100000 in
theorem w_921 : (Cond.instanceMethod yX7_wordIn : Cond) ∈ gw := List.mem_filter.mpr ⟨List.mem_append_right _ (tb2 (List.mem_of_getElem? (i := 128) rfl)), rfl⟩
set_option maxRecDepth 100000 in
theorem w_922 : (Cond.selects "BelfryBox$Tape" yX7_wordIn yX7_wordIn : Cond) ∈ gw := List.mem_filter.mpr ⟨List.mem_append_left _ (List.mem_map.mpr ⟨(⟨"BelfryBox$Tape", "wordIn", "(Ljava/lang/String;II)I"⟩, 9), sl1 (List.mem_of_getElem? (i := 5) rfl), rfl⟩), rfl⟩
set_option maxRecDepth 100000 in
theorem w_923 : (Cond.methodLink "BelfryBox$Tape" 49 yJ9_max_7cf53 : Cond) ∈ gw := List.mem_filter.mpr ⟨List.mem_append_right _ (tb2 (List.mem_of_getElem? (i := 179) rfl)), rfl⟩
theorem dX7_next_0 : decode cX7_next 0 = .ok (.aload_n 0, 1) := by decide +kernel
theorem dX7_next_1 : decode cX7_next 1 = .ok (.getfield 19, 3) := by decide +kernel
theorem dX7_next_4 : decode cX7_next 4 = .ok (.aload_n 0, 1) := by decide +kernel
theorem dX7_next_5 : decode cX7_next 5 = .ok (.getfield 22, 3) := by decide +kernel
theorem dX7_next_8 : decode cX7_next 8 = .ok (.if_icmp .ge 30, 3) := by decide +kernel
theorem dX7_next_38 : decode cX7_next 38 = .ok (.aload_n 0, 1) := by decide +kernel
theorem dX7_next_39 : decode cX7_next 39 = .ok (.aload_n 0, 1) := by decide +kernel
theorem dX7_next_40 : decode cX7_next 40 = .ok (.getfield 19, 3) := by decide +kernel
theorem dX7_next_43 : decode cX7_next 43 = .ok (.putfield 25, 3) := by decide +kernel
theorem dX7_next_46 : decode cX7_next 46 = .ok (.aload_n 0, 1) := by decide +kernel
theorem dX7_next_47 : decode cX7_next 47 = .ok (.iconst (-1), 1) := by decide +kernel
theorem dX7_next_48 : decode cX7_next 48 = .ok (.putfield 28, 3) := by decide +kernel
theorem dX7_next_51 : decode cX7_next 51 = .ok (.aload_n 0, 1) := by decide +kernel
theorem dX7_next_52 : decode cX7_next 52 = .ok (.getfield 19, 3) := by decide +kernel
theorem dX7_next_55 : decode cX7_next 55 = .ok (.aload_n 0, 1) := by decide +kernel
theorem dX7_next_56 : decode cX7_next 56 = .ok (.getfield 22, 3) := by decide +kernel
theorem dX7_next_59 : decode cX7_next 59 = .ok (.if_icmp .lt 11, 3) := by decide +kernel
theorem dX7_next_62 : decode cX7_next 62 = .ok (.aload_n 0, 1) := by decide +kernel
theorem dX7_next_63 : decode cX7_next 63 = .ok (.sipush 256, 3) := by decide +kernel
theorem dX7_next_66 : decode cX7_next 66 = .ok (.putfield 31, 3) := by decide +kernel
theorem dX7_next_69 : decode cX7_next 69 = .ok (.return_, 1) := by decide +kernel
theorem dX7_next_11 : decode cX7_next 11 = .ok (.aload_n 0, 1) := by decide +kernel
theorem dX7_next_12 : decode cX7_next 12 = .ok (.getfield 11, 3) := by decide +kernel
theorem dX7_next_15 : decode cX7_next 15 = .ok (.aload_n 0, 1) := by decide +kernel
theorem dX7_next_16 : decode cX7_next 16 = .ok (.getfield 19, 3) := by decide +kernel
theorem dX7_next_19 : decode cX7_next 19 = .ok (.iaload, 1) := by decide +kernel
theorem dX7_next_20 : decode cX7_next 20 = .ok (.bipush 32, 2) := by decide +kernel
theorem dX7_next_22 : decode cX7_next 22 = .ok (.if_icmp .ne 16, 3) := by decide +kernel
theorem dX7_next_70 : decode cX7_next 70 = .ok (.aload_n 0, 1) := by decide +kernel
theorem dX7_next_71 : decode cX7_next 71 = .ok (.getfield 11, 3) := by decide +kernel
theorem dX7_next_74 : decode cX7_next 74 = .ok (.aload_n 0, 1) := by decide +kernel
theorem dX7_next_75 : decode cX7_next 75 = .ok (.getfield 19, 3) := by decide +kernel
theorem dX7_next_78 : decode cX7_next 78 = .ok (.iaload, 1) := by decide +kernel
theorem dX7_next_79 : decode cX7_next 79 = .ok (.istore_n 1, 1) := by decide +kernel
theorem dX7_next_80 : decode cX7_next 80 = .ok (.iload_n 1, 1) := by decide +kernel
theorem dX7_next_81 : decode cX7_next 81 = .ok (.invokestatic 34, 3) := by decide +kernel
theorem dX7_next_84 : decode cX7_next 84 = .ok (.ifCond .eq 105, 3) := by decide +kernel
theorem dX7_next_189 : decode cX7_next 189 = .ok (.iload_n 1, 1) := by decide +kernel
theorem dX7_next_190 : decode cX7_next 190 = .ok (.bipush 39, 2) := by decide +kernel
theorem dX7_next_192 : decode cX7_next 192 = .ok (.if_icmp .ne 10, 3) := by decide +kernel
theorem dX7_next_202 : decode cX7_next 202 = .ok (.iload_n 1, 1) := by decide +kernel
theorem dX7_next_203 : decode cX7_next 203 = .ok (.bipush 36, 2) := by decide +kernel
theorem dX7_next_205 : decode cX7_next 205 = .ok (.if_icmp .ne 23, 3) := by decide +kernel
theorem dX7_next_228 : decode cX7_next 228 = .ok (.iload_n 1, 1) := by decide +kernel
theorem dX7_next_229 : decode cX7_next 229 = .ok (.invokestatic 69, 3) := by decide +kernel
theorem dX7_next_232 : decode cX7_next 232 = .ok (.iconst (-1), 1) := by decide +kernel
theorem dX7_next_233 : decode cX7_next 233 = .ok (.if_icmp .eq 13, 3) := by decide +kernel
theorem dX7_next_236 : decode cX7_next 236 = .ok (.aload_n 0, 1) := by decide +kernel
theorem dX7_next_237 : decode cX7_next 237 = .ok (.bipush 10, 2) := by decide +kernel
theorem dX7_next_239 : decode cX7_next 239 = .ok (.iconst 5, 1) := by decide +kernel
theorem dX7_next_240 : decode cX7_next 240 = .ok (.invokevirtual 65, 3) := by decide +kernel
theorem dX7_next_243 : decode cX7_next 243 = .ok (.goto 34, 3) := by decide +kernel
theorem dX7_next_277 : decode cX7_next 277 = .ok (.return_, 1) := by decide +kernel
theorem dX7_next_246 : decode cX7_next 246 = .ok (.aload_n 0, 1) := by decide +kernel
theorem dX7_next_247 : decode cX7_next 247 = .ok (.dup, 1) := by decide +kernel
theorem dX7_next_248 : decode cX7_next 248 = .ok (.getfield 19, 3) := by decide +kernel
theorem dX7_next_251 : decode cX7_next 251 = .ok (.iconst 1, 1) := by decide +kernel
theorem dX7_next_252 : decode cX7_next 252 = .ok (.iadd, 1) := by decide +kernel
theorem dX7_next_253 : decode cX7_next 253 = .ok (.putfield 19, 3) := by decide +kernel
theorem dX7_next_256 : decode cX7_next 256 = .ok (.aload_n 0, 1) := by decide +kernel
theorem dX7_next_257 : decode cX7_next 257 = .ok (.ldc 73, 2) := by decide +kernel
theorem dX7_next_259 : decode cX7_next 259 = .ok (.iload_n 1, 1) := by decide +kernel
theorem dX7_next_260 : decode cX7_next 260 = .ok (.i2c, 1) := by decide +kernel
theorem dX7_next_261 : decode cX7_next 261 = .ok (.invokevirtual 75, 3) := by decide +kernel
theorem dX7_next_264 : decode cX7_next 264 = .ok (.ifCond .lt 7, 3) := by decide +kernel
theorem dX7_next_267 : decode cX7_next 267 = .ok (.iload_n 1, 1) := by decide +kernel
theorem dX7_next_268 : decode cX7_next 268 = .ok (.goto 6, 3) := by decide +kernel
theorem dX7_next_274 : decode cX7_next 274 = .ok (.putfield 31, 3) := by decide +kernel
theorem dX7_next_271 : decode cX7_next 271 = .ok (.sipush 260, 3) := by decide +kernel
theorem dX7_next_208 : decode cX7_next 208 = .ok (.aload_n 0, 1) := by decide +kernel
theorem dX7_next_209 : decode cX7_next 209 = .ok (.dup, 1) := by decide +kernel
theorem dX7_next_210 : decode cX7_next 210 = .ok (.getfield 19, 3) := by decide +kernel
theorem dX7_next_213 : decode cX7_next 213 = .ok (.iconst 1, 1) := by decide +kernel
theorem dX7_next_214 : decode cX7_next 214 = .ok (.iadd, 1) := by decide +kernel
theorem dX7_next_215 : decode cX7_next 215 = .ok (.putfield 19, 3) := by decide +kernel
theorem dX7_next_218 : decode cX7_next 218 = .ok (.aload_n 0, 1) := by decide +kernel
theorem dX7_next_219 : decode cX7_next 219 = .ok (.bipush 16, 2) := by decide +kernel
theorem dX7_next_221 : decode cX7_next 221 = .ok (.iconst 4, 1) := by decide +kernel
theorem dX7_next_222 : decode cX7_next 222 = .ok (.invokevirtual 65, 3) := by decide +kernel
theorem dX7_next_225 : decode cX7_next 225 = .ok (.goto 52, 3) := by decide +kernel
theorem dX7_next_195 : decode cX7_next 195 = .ok (.aload_n 0, 1) := by decide +kernel
theorem dX7_next_196 : decode cX7_next 196 = .ok (.invokevirtual 62, 3) := by decide +kernel
theorem dX7_next_199 : decode cX7_next 199 = .ok (.goto 78, 3) := by decide +kernel
theorem dX7_next_87 : decode cX7_next 87 = .ok (.aload_n 0, 1) := by decide +kernel
theorem dX7_next_88 : decode cX7_next 88 = .ok (.invokevirtual 38, 3) := by decide +kernel
theorem dX7_next_91 : decode cX7_next 91 = .ok (.aload_n 0, 1) := by decide +kernel
theorem dX7_next_92 : decode cX7_next 92 = .ok (.getfield 31, 3) := by decide +kernel
theorem dX7_next_95 : decode cX7_next 95 = .ok (.sipush 257, 3) := by decide +kernel
theorem dX7_next_98 : decode cX7_next 98 = .ok (.if_icmp .ne 179, 3) := by decide +kernel
theorem dX7_next_101 : decode cX7_next 101 = .ok (.aload_n 0, 1) := by decide +kernel
theorem dX7_next_102 : decode cX7_next 102 = .ok (.aload_n 0, 1) := by decide +kernel
theorem dX7_next_103 : decode cX7_next 103 = .ok (.ldc 41, 2) := by decide +kernel
theorem dX7_next_105 : decode cX7_next 105 = .ok (.iconst 3, 1) := by decide +kernel
theorem dX7_next_106 : decode cX7_next 106 = .ok (.iconst 0, 1) := by decide +kernel
theorem dX7_next_107 : decode cX7_next 107 = .ok (.invokevirtual 43, 3) := by decide +kernel
theorem dX7_next_110 : decode cX7_next 110 = .ok (.aload_n 0, 1) := by decide +kernel
theorem dX7_next_111 : decode cX7_next 111 = .ok (.ldc 47, 2) := by decide +kernel
theorem dX7_next_113 : decode cX7_next 113 = .ok (.iconst 3, 1) := by decide +kernel
theorem dX7_next_114 : decode cX7_next 114 = .ok (.bipush 32, 2) := by decide +kernel
theorem dX7_next_116 : decode cX7_next 116 = .ok (.invokevirtual 43, 3) := by decide +kernel
theorem dX7_next_119 : decode cX7_next 119 = .ok (.invokestatic 49, 3) := by decide +kernel
theorem dX7_next_122 : decode cX7_next 122 = .ok (.putfield 55, 3) := by decide +kernel
theorem dX7_next_125 : decode cX7_next 125 = .ok (.aload_n 0, 1) := by decide +kernel
theorem dX7_next_126 : decode cX7_next 126 = .ok (.aload_n 0, 1) := by decide +kernel
theorem dX7_next_127 : decode cX7_next 127 = .ok (.getfield 55, 3) := by decide +kernel
theorem dX7_next_130 : decode cX7_next 130 = .ok (.aload_n 0, 1) := by decide +kernel
theorem dX7_next_131 : decode cX7_next 131 = .ok (.ldc 58, 2) := by decide +kernel
theorem dX7_next_133 : decode cX7_next 133 = .ok (.iconst 3, 1) := by decide +kernel
theorem dX7_next_134 : decode cX7_next 134 = .ok (.bipush 48, 2) := by decide +kernel
theorem dX7_next_136 : decode cX7_next 136 = .ok (.invokevirtual 43, 3) := by decide +kernel
theorem dX7_next_139 : decode cX7_next 139 = .ok (.invokestatic 49, 3) := by decide +kernel
theorem dX7_next_142 : decode cX7_next 142 = .ok (.putfield 55, 3) := by decide +kernel
theorem dX7_next_145 : decode cX7_next 145 = .ok (.aload_n 0, 1) := by decide +kernel
theorem dX7_next_146 : decode cX7_next 146 = .ok (.aload_n 0, 1) := by decide +kernel
theorem dX7_next_147 : decode cX7_next 147 = .ok (.getfield 55, 3) := by decide +kernel
theorem dX7_next_150 : decode cX7_next 150 = .ok (.aload_n 0, 1) := by decide +kernel
theorem dX7_next_151 : decode cX7_next 151 = .ok (.ldc 60, 2) := by decide +kernel
theorem dX7_next_153 : decode cX7_next 153 = .ok (.iconst 5, 1) := by decide +kernel
theorem dX7_next_154 : decode cX7_next 154 = .ok (.bipush 80, 2) := by decide +kernel
theorem dX7_next_156 : decode cX7_next 156 = .ok (.invokevirtual 43, 3) := by decide +kernel
theorem dX7_next_159 : decode cX7_next 159 = .ok (.invokestatic 49, 3) := by decide +kernel
theorem dX7_next_162 : decode cX7_next 162 = .ok (.putfield 55, 3) := by decide +kernel
theorem dX7_next_165 : decode cX7_next 165 = .ok (.aload_n 0, 1) := by decide +kernel
theorem dX7_next_166 : decode cX7_next 166 = .ok (.aload_n 0, 1) := by decide +kernel
theorem dX7_next_167 : decode cX7_next 167 = .ok (.getfield 55, 3) := by decide +kernel
theorem dX7_next_170 : decode cX7_next 170 = .ok (.iconst (-1), 1) := by decide +kernel
theorem dX7_next_171 : decode cX7_next 171 = .ok (.if_icmp .ne 9, 3) := by decide +kernel
theorem dX7_next_174 : decode cX7_next 174 = .ok (.sipush 257, 3) := by decide +kernel
theorem dX7_next_177 : decode cX7_next 177 = .ok (.goto 6, 3) := by decide +kernel
theorem dX7_next_183 : decode cX7_next 183 = .ok (.putfield 31, 3) := by decide +kernel
theorem dX7_next_186 : decode cX7_next 186 = .ok (.goto 91, 3) := by decide +kernel
theorem dX7_next_180 : decode cX7_next 180 = .ok (.sipush 258, 3) := by decide +kernel
theorem dX7_next_25 : decode cX7_next 25 = .ok (.aload_n 0, 1) := by decide +kernel
theorem dX7_next_26 : decode cX7_next 26 = .ok (.dup, 1) := by decide +kernel
theorem dX7_next_27 : decode cX7_next 27 = .ok (.getfield 19, 3) := by decide +kernel
theorem dX7_next_30 : decode cX7_next 30 = .ok (.iconst 1, 1) := by decide +kernel
theorem dX7_next_31 : decode cX7_next 31 = .ok (.iadd, 1) := by decide +kernel
theorem dX7_next_32 : decode cX7_next 32 = .ok (.putfield 19, 3) := by decide +kernel
theorem dX7_next_35 : decode cX7_next 35 = .ok (.goto (-35), 3) := by decide +kernel
theorem inM_w {c : Int32} (h : ¬ inM c 97 102 = 0) : ¬ inM c 97 122 = 0 := by
  obtain ⟨h1, h2⟩ := inM_spl h
  exact inM_1 h1 (fun q => h2 (Int32.lt_trans (by decide) q))
set_option maxHeartbeats 4000000 in
set_option maxRecDepth 100000 in
theorem c_k_next (l : Launch) (D : va_G) (cA cB : ClassId) (h0 : Nat) (htb : Nat) (ln : Nat) (le : Nat) (ax : Nat) (kd : Int32) (pl : Nat) (lt : Nat) (vl : Int32) (ms : Int32) (tz : Nat → Int32) (hln : ln < 6001) (hle : le < 6001) (hax : ax < 6001) (hpl : pl < 6010) (hlt : lt < 6010) (htz : ∀ j, j < 6000 → ∃ k : Nat, k < 256 ∧ tz j = nI k) (hLo : LNo (sgn ln tz) le ax) (hll : le ≤ ln) : CV l yX7_next cX7_next 2 none 5 110 0 0 D cA cB [.ref h0] [(h0, .inr (7, [.ref htb, .int (nI ln), .int (nI le), .int (nI ax), .int kd, .int (nI pl), .int (nI lt), .int vl, .int ms])), (htb, .inl (cA, 6000, .inl tz))] (fun W1 => ∃ (ax2 : Nat) (kd2 : Int32) (pl2 : Nat) (lt2 : Nat) (vl2 : Int32) (ms2 : Int32), (ax2 < 6001) ∧ (pl2 < 6010) ∧ (lt2 < 6010) ∧ (LNo (sgn ln tz) le ax2) ∧ (TK (sgn ln tz) (sk (sgn ln tz) ax) kd2 pl2 lt2 vl2 ms2 ax2) ∧ W1 = [(h0, .inr (7, [.ref htb, .int (nI ln), .int (nI le), .int (nI ax2), .int kd2, .int (nI pl2), .int (nI lt2), .int vl2, .int ms2])), (htb, .inl (cA, 6000, .inl tz))]) := by
  refine mkV (lv0 := [(0, .ref h0)]) (by decide) (Nat.le_of_ble_eq_true rfl) rfl ?_
  intro p e s m below meth c A ls X hr hlocks hnm hE hA hP hD hS hl
  have hx := X.1
  have hb := X.2.1
  refine qW (fun Q9 hQ9 => ?_)
  have loop_0 : ∀ (n : Nat) (axv : Nat), (axv < 6001) → (ax ≤ axv) → (axv ≤ le) → (∀ j, ax ≤ j → j < axv → sgn ln tz j = 32) → le - axv < n → ∀ (H : Heap) (locs : List Loc), va_P D classes [(h0, .inr (7, [.ref htb, .int (nI ln), .int (nI le), .int (nI axv), .int kd, .int (nI pl), .int (nI lt), .int vl, .int ms])), (htb, .inl (cA, 6000, .inl tz))] H → va_D A [(h0, .inr (7, [.ref htb, .int (nI ln), .int (nI le), .int (nI axv), .int kd, .int (nI pl), .int (nI lt), .int vl, .int ms])), (htb, .inl (cA, 6000, .inl tz))] → va_S A s.heap H locs → ∀ ls : Array Slot, lv_has ls 2 [(0, .ref h0)] → W p l e { frames := 5, cells := 0, slots := 0, locals := 110 } s m (List.toArray [.ref h0]) below meth c H locs 0 0 Q9 (F0 m 0 ls []) := by
    intro n
    induction n with
    | zero => intro axv haxv hg1 hg2 hbl hfuel; exact absurd hfuel (by omega)
    | succ n ih_0 =>
      intro axv haxv hg1 hg2 hbl hfuel H locs hP hD hS ls hl
      refine lv_aload_n hx hb dX7_next_0 rfl (lv_at hl 0 rfl) ?_
      refine k_get (C := RX7) (T := TX7) (N := 9) (ci := 7) (v := .int (nI axv)) X hE hP 0 rfl rfl iX7 3 (by decide) w_366 rfl dX7_next_1 ?_
      refine lv_aload_n hx hb dX7_next_4 rfl (lv_at hl 0 rfl) ?_
      refine k_get (C := RX7) (T := TX7) (N := 9) (ci := 7) (v := .int (nI le)) X hE hP 0 rfl rfl iX7 2 (by decide) w_367 rfl dX7_next_5 ?_
      refine lv_icmp_ge (tgt := 38) hx hb dX7_next_8 (by decide) (fun c_8_1 => ?_) (fun c_8_1 => ?_)
      · have nc_8_1 : le ≤ axv := (nI_leI (a := le) (b := axv) (by omega) (by omega)).mp c_8_1
        have hsk : sk (sgn ln tz) ax = axv := sk_uniq (by omega) (by omega) hbl (fun z => by have y := hLo.2.1; rw [show le = axv by omega, z] at y; exact absurd y (by decide))
        have hlv := LNo_up hLo hg1 hg2
        refine lv_aload_n hx hb dX7_next_38 rfl (lv_at hl 0 rfl) ?_
        refine lv_aload_n hx hb dX7_next_39 rfl (lv_at hl 0 rfl) ?_
        refine k_get (C := RX7) (T := TX7) (N := 9) (ci := 7) (v := .int (nI axv)) X hE hP 0 rfl rfl iX7 3 (by decide) w_366 rfl dX7_next_40 ?_
        refine k_put (C := RX7) (T := TX7) (N := 9) (ci := 7) (v := .int (nI axv)) (ty := .int) X hE hP hD hS 0 rfl rfl iX7 tyX7 tyX7_ok nmX7 5 (by decide) w_376 rfl (by decide +kernel) rfl rfl (Nat.le_of_ble_eq_true rfl) [(h0, .inr (7, [.ref htb, .int (nI ln), .int (nI le), .int (nI axv), .int kd, .int (nI axv), .int (nI lt), .int vl, .int ms])), (htb, .inl (cA, 6000, .inl tz))] rfl dX7_next_43 (fun H locs hP hD hS => ?_)
        refine lv_aload_n hx hb dX7_next_46 rfl (lv_at hl 0 rfl) ?_
        refine lv_iconst (v := (-1)) hx hb dX7_next_47 (by decide) ?_
        refine k_put (C := RX7) (T := TX7) (N := 9) (ci := 7) (v := .int (-1)) (ty := .int) X hE hP hD hS 0 rfl rfl iX7 tyX7 tyX7_ok nmX7 8 (by decide) w_370 rfl (by decide +kernel) rfl rfl (Nat.le_of_ble_eq_true rfl) [(h0, .inr (7, [.ref htb, .int (nI ln), .int (nI le), .int (nI axv), .int kd, .int (nI axv), .int (nI lt), .int vl, .int (-1)])), (htb, .inl (cA, 6000, .inl tz))] rfl dX7_next_48 (fun H locs hP hD hS => ?_)
        refine lv_aload_n hx hb dX7_next_51 rfl (lv_at hl 0 rfl) ?_
        refine k_get (C := RX7) (T := TX7) (N := 9) (ci := 7) (v := .int (nI axv)) X hE hP 0 rfl rfl iX7 3 (by decide) w_366 rfl dX7_next_52 ?_
        refine lv_aload_n hx hb dX7_next_55 rfl (lv_at hl 0 rfl) ?_
        refine k_get (C := RX7) (T := TX7) (N := 9) (ci := 7) (v := .int (nI le)) X hE hP 0 rfl rfl iX7 2 (by decide) w_367 rfl dX7_next_56 ?_
        refine lv_icmp_lt (tgt := 70) hx hb dX7_next_59 (by decide) (fun c_59 => absurd c_59 (fun q => absurd ((nI_ltI (a := axv) (b := le) (by omega) (by omega)).mp q) (by omega))) (fun c_59 => ?_)
        refine lv_aload_n hx hb dX7_next_62 rfl (lv_at hl 0 rfl) ?_
        refine lv_sipush (v := 256) hx hb dX7_next_63 (by decide) ?_
        refine k_put (C := RX7) (T := TX7) (N := 9) (ci := 7) (v := .int 256) (ty := .int) X hE hP hD hS 0 rfl rfl iX7 tyX7 tyX7_ok nmX7 4 (by decide) w_369 rfl (by decide +kernel) rfl rfl (Nat.le_of_ble_eq_true rfl) [(h0, .inr (7, [.ref htb, .int (nI ln), .int (nI le), .int (nI axv), .int 256, .int (nI axv), .int (nI lt), .int vl, .int (-1)])), (htb, .inl (cA, 6000, .inl tz))] rfl dX7_next_66 (fun H locs hP hD hS => ?_)
        rw [hQ9]
        exact endV X hr hlocks hP hD hS dX7_next_69 ⟨axv, 256, axv, lt, vl, (-1), haxv, (by omega), hlt, (LNo_up hLo (by omega) (by omega)), (by rw [hsk]; exact Or.inl ⟨rfl, rfl, by have z := hlv.2.1; rw [show le = axv by omega] at z; exact z, rfl⟩), rfl⟩
      · have nc_8_1 : axv < le := Nat.not_le.mp (fun q => c_8_1 ((nI_leI (a := le) (b := axv) (by omega) (by omega)).mpr q))
        refine lv_aload_n hx hb dX7_next_11 rfl (lv_at hl 0 rfl) ?_
        refine k_get (C := RX7) (T := TX7) (N := 9) (ci := 7) (v := .ref htb) X hE hP 0 rfl rfl iX7 0 (by decide) w_368 rfl dX7_next_12 ?_
        refine lv_aload_n hx hb dX7_next_15 rfl (lv_at hl 0 rfl) ?_
        refine k_get (C := RX7) (T := TX7) (N := 9) (ci := 7) (v := .int (nI axv)) X hE hP 0 rfl rfl iX7 3 (by decide) w_366 rfl dX7_next_16 ?_
        refine k_ald (v := sgn ln tz axv) X hE hP 1 rfl axv rfl (by omega) (by decide) (sgn_in (by omega)).symm dX7_next_19 ?_
        refine lv_bipush (v := 32) hx hb dX7_next_20 (by decide) ?_
        refine lv_icmp_ne (tgt := 38) hx hb dX7_next_22 (by decide) (fun c_22 => ?_) (fun c_22 => ?_)
        · skip
          have hsk : sk (sgn ln tz) ax = axv := sk_uniq (by omega) (by omega) hbl (fun z => c_22 z)
          have hlv := LNo_up hLo hg1 hg2
          refine lv_aload_n hx hb dX7_next_38 rfl (lv_at hl 0 rfl) ?_
          refine lv_aload_n hx hb dX7_next_39 rfl (lv_at hl 0 rfl) ?_
          refine k_get (C := RX7) (T := TX7) (N := 9) (ci := 7) (v := .int (nI axv)) X hE hP 0 rfl rfl iX7 3 (by decide) w_366 rfl dX7_next_40 ?_
          refine k_put (C := RX7) (T := TX7) (N := 9) (ci := 7) (v := .int (nI axv)) (ty := .int) X hE hP hD hS 0 rfl rfl iX7 tyX7 tyX7_ok nmX7 5 (by decide) w_376 rfl (by decide +kernel) rfl rfl (Nat.le_of_ble_eq_true rfl) [(h0, .inr (7, [.ref htb, .int (nI ln), .int (nI le), .int (nI axv), .int kd, .int (nI axv), .int (nI lt), .int vl, .int ms])), (htb, .inl (cA, 6000, .inl tz))] rfl dX7_next_43 (fun H locs hP hD hS => ?_)
          refine lv_aload_n hx hb dX7_next_46 rfl (lv_at hl 0 rfl) ?_
          refine lv_iconst (v := (-1)) hx hb dX7_next_47 (by decide) ?_
          refine k_put (C := RX7) (T := TX7) (N := 9) (ci := 7) (v := .int (-1)) (ty := .int) X hE hP hD hS 0 rfl rfl iX7 tyX7 tyX7_ok nmX7 8 (by decide) w_370 rfl (by decide +kernel) rfl rfl (Nat.le_of_ble_eq_true rfl) [(h0, .inr (7, [.ref htb, .int (nI ln), .int (nI le), .int (nI axv), .int kd, .int (nI axv), .int (nI lt), .int vl, .int (-1)])), (htb, .inl (cA, 6000, .inl tz))] rfl dX7_next_48 (fun H locs hP hD hS => ?_)
          refine lv_aload_n hx hb dX7_next_51 rfl (lv_at hl 0 rfl) ?_
          refine k_get (C := RX7) (T := TX7) (N := 9) (ci := 7) (v := .int (nI axv)) X hE hP 0 rfl rfl iX7 3 (by decide) w_366 rfl dX7_next_52 ?_
          refine lv_aload_n hx hb dX7_next_55 rfl (lv_at hl 0 rfl) ?_
          refine k_get (C := RX7) (T := TX7) (N := 9) (ci := 7) (v := .int (nI le)) X hE hP 0 rfl rfl iX7 2 (by decide) w_367 rfl dX7_next_56 ?_
          refine lv_icmp_lt (tgt := 70) hx hb dX7_next_59 (by decide) (fun c_59 => ?_) (fun c_59 => absurd ((nI_ltI (a := axv) (b := le) (by omega) (by omega)).mpr (by omega)) c_59)
          refine lv_aload_n hx hb dX7_next_70 rfl (lv_at hl 0 rfl) ?_
          refine k_get (C := RX7) (T := TX7) (N := 9) (ci := 7) (v := .ref htb) X hE hP 0 rfl rfl iX7 0 (by decide) w_368 rfl dX7_next_71 ?_
          refine lv_aload_n hx hb dX7_next_74 rfl (lv_at hl 0 rfl) ?_
          refine k_get (C := RX7) (T := TX7) (N := 9) (ci := 7) (v := .int (nI axv)) X hE hP 0 rfl rfl iX7 3 (by decide) w_366 rfl dX7_next_75 ?_
          refine k_ald (v := sgn ln tz axv) X hE hP 1 rfl axv rfl (by omega) (by decide) (sgn_in (by omega)).symm dX7_next_78 ?_
          obtain ⟨kb, hkb, ekb⟩ := htz axv (by omega)
          have esb : sgn ln tz axv = nI kb := (sgn_in (by omega)).trans ekb
          have hnl : ¬ (nI kb = 10 ∨ nI kb < 0) := by rw [← esb]; exact hlv.2.2 axv (Nat.le_refl _) (by omega)
          refine tk (y := nI kb) esb ?_
          refine lv_istore_n (lv' := [(1, .int (nI kb)), (0, .ref h0)]) hx hb dX7_next_79 rfl hl (by decide) rfl (fun ls hl => ?_)
          refine lv_iload_n hx hb dX7_next_80 rfl (lv_at hl 0 rfl) ?_
          refine kSi (n3 := 1) (As := [.int (nI kb)]) (rest := []) X hl.1 hE hP hD hS hA [] [(h0, .inr (7, [.ref htb, .int (nI ln), .int (nI le), .int (nI axv), .int kd, .int (nI axv), .int (nI lt), .int vl, .int (-1)])), (htb, .inl (cA, 6000, .inl tz))] [] [0, 1] rfl rfl rfl (by decide +kernel) (by decide +kernel) (by decide +kernel) (c_k_isLetter l D cA cB (nI kb) ) w_379 w_374 w_378 w_380 (by decide +kernel) rfl rfl (Nat.le_of_ble_eq_true rfl) ⟨(Nat.le_of_ble_eq_true rfl), (Nat.le_of_ble_eq_true rfl)⟩ ⟨(Nat.le_of_ble_eq_true rfl), (Nat.le_of_ble_eq_true rfl)⟩ dX7_next_81 (fun r W1 H locs hw hP hD hS => ?_)
          obtain ⟨rfl, rfl⟩ := hw
          have hP : va_P D classes [(h0, .inr (7, [.ref htb, .int (nI ln), .int (nI le), .int (nI axv), .int kd, .int (nI axv), .int (nI lt), .int vl, .int (-1)])), (htb, .inl (cA, 6000, .inl tz))] H := hP
          have hD : va_D A [(h0, .inr (7, [.ref htb, .int (nI ln), .int (nI le), .int (nI axv), .int kd, .int (nI axv), .int (nI lt), .int vl, .int (-1)])), (htb, .inl (cA, 6000, .inl tz))] := hD
          refine lv_if_eq (tgt := 189) hx hb dX7_next_84 (by decide) (fun c_84 => ?_) (fun c_84 => ?_)
          · skip
            refine lv_iload_n hx hb dX7_next_189 rfl (lv_at hl 0 rfl) ?_
            refine lv_bipush (v := 39) hx hb dX7_next_190 (by decide) ?_
            refine lv_icmp_ne (tgt := 202) hx hb dX7_next_192 (by decide) (fun c_192_2 => ?_) (fun c_192_2 => ?_)
            · have nc_192_2 : ¬ kb = 39 := fun q => c_192_2 ((nI_eq (a := kb) (b := 39) (by omega) (by omega)).mpr q)
              refine lv_iload_n hx hb dX7_next_202 rfl (lv_at hl 0 rfl) ?_
              refine lv_bipush (v := 36) hx hb dX7_next_203 (by decide) ?_
              refine lv_icmp_ne (tgt := 228) hx hb dX7_next_205 (by decide) (fun c_205_3 => ?_) (fun c_205_3 => ?_)
              · have nc_205_3 : ¬ kb = 36 := fun q => c_205_3 ((nI_eq (a := kb) (b := 36) (by omega) (by omega)).mpr q)
                refine lv_iload_n hx hb dX7_next_228 rfl (lv_at hl 0 rfl) ?_
                refine kSi (n3 := 1) (As := [.int (nI kb)]) (rest := []) X hl.1 hE hP hD hS hA [] [(h0, .inr (7, [.ref htb, .int (nI ln), .int (nI le), .int (nI axv), .int kd, .int (nI axv), .int (nI lt), .int vl, .int (-1)])), (htb, .inl (cA, 6000, .inl tz))] [] [0, 1] rfl rfl rfl (by decide +kernel) (by decide +kernel) (by decide +kernel) (c_k_digit l D cA cB (nI kb) ) w_373 w_374 w_372 w_375 (by decide +kernel) rfl rfl (Nat.le_of_ble_eq_true rfl) ⟨(Nat.le_of_ble_eq_true rfl), (Nat.le_of_ble_eq_true rfl)⟩ ⟨(Nat.le_of_ble_eq_true rfl), (Nat.le_of_ble_eq_true rfl)⟩ dX7_next_229 (fun r W1 H locs hw hP hD hS => ?_)
                obtain ⟨rv_4, er_6, hf_5, rfl⟩ := hw
                have hP : va_P D classes [(h0, .inr (7, [.ref htb, .int (nI ln), .int (nI le), .int (nI axv), .int kd, .int (nI axv), .int (nI lt), .int vl, .int (-1)])), (htb, .inl (cA, 6000, .inl tz))] H := hP
                have hD : va_D A [(h0, .inr (7, [.ref htb, .int (nI ln), .int (nI le), .int (nI axv), .int kd, .int (nI axv), .int (nI lt), .int vl, .int (-1)])), (htb, .inl (cA, 6000, .inl tz))] := hD
                refine tk (y := rv_4) er_6 ?_
                rcases hf_5 with ⟨d_7, b1_8, rfl, i1_9, dv_10⟩ | ⟨d_11, b1_12, b2_13, rfl, i1_14, i2_15, dv_16⟩ | ⟨rfl, i1_17, i2_18⟩
                · skip
                  refine lv_iconst (v := (-1)) hx hb dX7_next_232 (by decide) ?_
                  refine lv_icmp_eq (tgt := 246) hx hb dX7_next_233 (by decide) (fun c_233 => absurd c_233 (nI_nm1 (a := d_7) (by omega))) (fun c_233 => ?_)
                  refine lv_aload_n hx hb dX7_next_236 rfl (lv_at hl 1 rfl) ?_
                  refine lv_bipush (v := 10) hx hb dX7_next_237 (by decide) ?_
                  refine lv_iconst (v := 5) hx hb dX7_next_239 (by decide) ?_
                  refine kVv (n3 := 2) (As := [.int 10, .int 5]) (rest := []) X hl.1 hE hP hD hS hA [(h0, .inr (7, [.ref htb, .int (nI ln), .int (nI le), .int (nI axv), .int kd, .int (nI axv), .int (nI lt), .int vl, .int (-1)])), (htb, .inl (cA, 6000, .inl tz))] [] [0, 1] [] rfl rfl rfl (by decide +kernel) (by decide +kernel) (by decide +kernel) (c_k_readDigits10 l D cA cB h0 htb ln le axv kd axv lt vl tz hln hle haxv (by first | assumption | omega | decide | rfl) hlt htz hlv (by first | assumption | omega | decide | rfl)) w_904 w_374 w_903 w_905 w_906 0 (ci := 7) (T := TX7) (N := 9) rfl rfl (by decide +kernel) rfl rfl (Nat.le_of_ble_eq_true rfl) ⟨(Nat.le_of_ble_eq_true rfl), (Nat.le_of_ble_eq_true rfl)⟩ ⟨(Nat.le_of_ble_eq_true rfl), (Nat.le_of_ble_eq_true rfl)⟩ dX7_next_240 (fun W1 H locs hw hP hD hS => ?_)
                  obtain ⟨ax2_19, kd2_20, vl2_21, ms2_22, hf_23, hf_24, hf_25, hf_26, hf_27, rfl⟩ := hw
                  have hP : va_P D classes [(h0, .inr (7, [.ref htb, .int (nI ln), .int (nI le), .int (nI ax2_19), .int kd2_20, .int (nI axv), .int (nI lt), .int vl2_21, .int ms2_22])), (htb, .inl (cA, 6000, .inl tz))] H := hP
                  have hD : va_D A [(h0, .inr (7, [.ref htb, .int (nI ln), .int (nI le), .int (nI ax2_19), .int kd2_20, .int (nI axv), .int (nI lt), .int vl2_21, .int ms2_22])), (htb, .inl (cA, 6000, .inl tz))] := hD
                  obtain rfl := hf_26
                  rcases hf_27 with ⟨hd_28, rfl, rfl, rfl⟩ | ⟨hd_29, rfl⟩
                  · skip
                    refine lv_goto (tgt := 277) hx hb dX7_next_243 (by decide) ?_
                    rw [hQ9]
                    exact endV X hr hlocks hP hD hS dX7_next_277 ⟨((num (sgn ln tz) 10 5 axv 0).1), 259, axv, lt, ((num (sgn ln tz) 10 5 axv 0).2), (-1), (by omega), (by omega), hlt, (LNo_up hLo (by omega) (by omega)), (by rw [hsk]; exact Or.inr (Or.inr (Or.inr (Or.inr (Or.inr (Or.inl ⟨rfl, rfl, (by rw [esb]; exact i1_9), rfl, rfl, rfl⟩)))))), rfl⟩
                  · skip
                    refine lv_goto (tgt := 277) hx hb dX7_next_243 (by decide) ?_
                    rw [hQ9]
                    exact endV X hr hlocks hP hD hS dX7_next_277 ⟨ax2_19, 259, axv, lt, vl2_21, (nI axv), hf_23, (by omega), hlt, (LNo_up hLo (by omega) (by omega)), (absurd (dgt_d (by rw [esb]; exact i1_9)) hd_29), rfl⟩
                · skip
                  refine lv_iconst (v := (-1)) hx hb dX7_next_232 (by decide) ?_
                  refine lv_icmp_eq (tgt := 246) hx hb dX7_next_233 (by decide) (fun c_233 => absurd c_233 (nI_nm1 (a := d_11) (by omega))) (fun c_233 => ?_)
                  refine lv_aload_n hx hb dX7_next_236 rfl (lv_at hl 1 rfl) ?_
                  refine lv_bipush (v := 10) hx hb dX7_next_237 (by decide) ?_
                  refine lv_iconst (v := 5) hx hb dX7_next_239 (by decide) ?_
                  refine kVv (n3 := 2) (As := [.int 10, .int 5]) (rest := []) X hl.1 hE hP hD hS hA [(h0, .inr (7, [.ref htb, .int (nI ln), .int (nI le), .int (nI axv), .int kd, .int (nI axv), .int (nI lt), .int vl, .int (-1)])), (htb, .inl (cA, 6000, .inl tz))] [] [0, 1] [] rfl rfl rfl (by decide +kernel) (by decide +kernel) (by decide +kernel) (c_k_readDigits10 l D cA cB h0 htb ln le axv kd axv lt vl tz hln hle haxv (by first | assumption | omega | decide | rfl) hlt htz hlv (by first | assumption | omega | decide | rfl)) w_904 w_374 w_903 w_905 w_906 0 (ci := 7) (T := TX7) (N := 9) rfl rfl (by decide +kernel) rfl rfl (Nat.le_of_ble_eq_true rfl) ⟨(Nat.le_of_ble_eq_true rfl), (Nat.le_of_ble_eq_true rfl)⟩ ⟨(Nat.le_of_ble_eq_true rfl), (Nat.le_of_ble_eq_true rfl)⟩ dX7_next_240 (fun W1 H locs hw hP hD hS => ?_)
                  obtain ⟨ax2_30, kd2_31, vl2_32, ms2_33, hf_34, hf_35, hf_36, hf_37, hf_38, rfl⟩ := hw
                  have hP : va_P D classes [(h0, .inr (7, [.ref htb, .int (nI ln), .int (nI le), .int (nI ax2_30), .int kd2_31, .int (nI axv), .int (nI lt), .int vl2_32, .int ms2_33])), (htb, .inl (cA, 6000, .inl tz))] H := hP
                  have hD : va_D A [(h0, .inr (7, [.ref htb, .int (nI ln), .int (nI le), .int (nI ax2_30), .int kd2_31, .int (nI axv), .int (nI lt), .int vl2_32, .int ms2_33])), (htb, .inl (cA, 6000, .inl tz))] := hD
                  obtain rfl := hf_37
                  rcases hf_38 with ⟨hd_39, rfl, rfl, rfl⟩ | ⟨hd_40, rfl⟩
                  · skip
                    refine lv_goto (tgt := 277) hx hb dX7_next_243 (by decide) ?_
                    rw [hQ9]
                    exact endV X hr hlocks hP hD hS dX7_next_277 ⟨((num (sgn ln tz) 10 5 axv 0).1), 259, axv, lt, ((num (sgn ln tz) 10 5 axv 0).2), (-1), (by omega), (by omega), hlt, (LNo_up hLo (by omega) (by omega)), (absurd (inM_w i2_15) (by first | exact fun y => y c_84 | exact fun y => c_84 y)), rfl⟩
                  · skip
                    refine lv_goto (tgt := 277) hx hb dX7_next_243 (by decide) ?_
                    rw [hQ9]
                    exact endV X hr hlocks hP hD hS dX7_next_277 ⟨ax2_30, 259, axv, lt, vl2_32, (nI axv), hf_34, (by omega), hlt, (LNo_up hLo (by omega) (by omega)), (absurd (inM_w i2_15) (by first | exact fun y => y c_84 | exact fun y => c_84 y)), rfl⟩
                · skip
                  refine lv_iconst (v := (-1)) hx hb dX7_next_232 (by decide) ?_
                  refine lv_icmp_eq (tgt := 246) hx hb dX7_next_233 (by decide) (fun c_233 => ?_) (fun c_233 => absurd (by decide) c_233)
                  refine lv_aload_n hx hb dX7_next_246 rfl (lv_at hl 1 rfl) ?_
                  refine lv_dup hx hb dX7_next_247 rfl ?_
                  refine k_get (C := RX7) (T := TX7) (N := 9) (ci := 7) (v := .int (nI axv)) X hE hP 0 rfl rfl iX7 3 (by decide) w_366 rfl dX7_next_248 ?_
                  refine lv_iconst (v := 1) hx hb dX7_next_251 (by decide) ?_
                  refine lv_iadd hx hb dX7_next_252 ?_
                  refine tk (y := nI (axv + 1)) (nI_add axv 1) ?_
                  refine k_put (C := RX7) (T := TX7) (N := 9) (ci := 7) (v := .int (nI (axv + 1))) (ty := .int) X hE hP hD hS 0 rfl rfl iX7 tyX7 tyX7_ok nmX7 3 (by decide) w_366 rfl (by decide +kernel) rfl rfl (Nat.le_of_ble_eq_true rfl) [(h0, .inr (7, [.ref htb, .int (nI ln), .int (nI le), .int (nI (axv + 1)), .int kd, .int (nI axv), .int (nI lt), .int vl, .int (-1)])), (htb, .inl (cA, 6000, .inl tz))] rfl dX7_next_253 (fun H locs hP hD hS => ?_)
                  refine lv_aload_n hx hb dX7_next_256 rfl (lv_at hl 1 rfl) ?_
                  refine va_ldcS hx hb X.2.2.2.1 (e_rTape73 hE) dX7_next_257 ?_
                  refine lv_iload_n hx hb dX7_next_259 rfl (lv_at hl 0 rfl) ?_
                  refine lv_i2c (v := nI kb) hx hb dX7_next_260 (sf_i2c (by omega)) ?_
                  refine kVsi (n3 := 1) (As := [.int (nI kb)]) (rest := [.ref h0]) X hl.1 hE hP hD hS hA [0, 1] rfl (by decide) (c_k_indexOf l D cA cB kb (by first | assumption | omega | decide | rfl)) w_908 w_421 w_907 w_909 w_910 ((e_str hE).1 4 (by decide)).1 (by decide +kernel) rfl rfl (Nat.le_of_ble_eq_true rfl) ⟨(Nat.le_of_ble_eq_true rfl), (Nat.le_of_ble_eq_true rfl)⟩ ⟨(Nat.le_of_ble_eq_true rfl), (Nat.le_of_ble_eq_true rfl)⟩ dX7_next_261 (fun r W1 H locs hw hP hD hS => ?_)
                  obtain ⟨rv_41, er_43, hf_42, rfl⟩ := hw
                  have hP : va_P D classes [(h0, .inr (7, [.ref htb, .int (nI ln), .int (nI le), .int (nI (axv + 1)), .int kd, .int (nI axv), .int (nI lt), .int vl, .int (-1)])), (htb, .inl (cA, 6000, .inl tz))] H := hP
                  have hD : va_D A [(h0, .inr (7, [.ref htb, .int (nI ln), .int (nI le), .int (nI (axv + 1)), .int kd, .int (nI axv), .int (nI lt), .int vl, .int (-1)])), (htb, .inl (cA, 6000, .inl tz))] := hD
                  refine tk (y := rv_41) er_43 ?_
                  rcases hf_42 with ⟨j_44, hj_45, rfl, hm_46⟩ | ⟨rfl, hm_47⟩
                  · skip
                    refine lv_if_lt (tgt := 271) hx hb dX7_next_264 (by decide) (fun c_264 => absurd c_264 (nI_nneg (n := j_44) (by omega))) (fun c_264 => ?_)
                    refine lv_iload_n hx hb dX7_next_267 rfl (lv_at hl 0 rfl) ?_
                    refine lv_goto (tgt := 274) hx hb dX7_next_268 (by decide) ?_
                    refine k_put (C := RX7) (T := TX7) (N := 9) (ci := 7) (v := .int (nI kb)) (ty := .int) X hE hP hD hS 0 rfl rfl iX7 tyX7 tyX7_ok nmX7 4 (by decide) w_369 rfl (by decide +kernel) rfl rfl (Nat.le_of_ble_eq_true rfl) [(h0, .inr (7, [.ref htb, .int (nI ln), .int (nI le), .int (nI (axv + 1)), .int (nI kb), .int (nI axv), .int (nI lt), .int vl, .int (-1)])), (htb, .inl (cA, 6000, .inl tz))] rfl dX7_next_274 (fun H locs hP hD hS => ?_)
                    rw [hQ9]
                    exact endV X hr hlocks hP hD hS dX7_next_277 ⟨(axv + 1), (nI kb), axv, lt, vl, (-1), (by omega), (by omega), hlt, (LNo_up hLo (by omega) (by omega)), (by rw [hsk]; exact Or.inr (Or.inr (Or.inr (Or.inr (Or.inr (Or.inr (Or.inr (Or.inr (Or.inr (Or.inr (Or.inl ⟨esb.symm, rfl, by rw [esb]; exact hm_46, rfl, rfl⟩))))))))))), rfl⟩
                  · skip
                    refine lv_if_lt (tgt := 271) hx hb dX7_next_264 (by decide) (fun c_264 => ?_) (fun c_264 => absurd (by decide) c_264)
                    refine lv_sipush (v := 260) hx hb dX7_next_271 (by decide) ?_
                    refine k_put (C := RX7) (T := TX7) (N := 9) (ci := 7) (v := .int 260) (ty := .int) X hE hP hD hS 0 rfl rfl iX7 tyX7 tyX7_ok nmX7 4 (by decide) w_369 rfl (by decide +kernel) rfl rfl (Nat.le_of_ble_eq_true rfl) [(h0, .inr (7, [.ref htb, .int (nI ln), .int (nI le), .int (nI (axv + 1)), .int 260, .int (nI axv), .int (nI lt), .int vl, .int (-1)])), (htb, .inl (cA, 6000, .inl tz))] rfl dX7_next_274 (fun H locs hP hD hS => ?_)
                    rw [hQ9]
                    exact endV X hr hlocks hP hD hS dX7_next_277 ⟨(axv + 1), 260, axv, lt, vl, (-1), (by omega), (by omega), hlt, (LNo_up hLo (by omega) (by omega)), (by rw [hsk]; exact Or.inr (Or.inr (Or.inr (Or.inr (Or.inr (Or.inr (Or.inr (Or.inr (Or.inr (Or.inr (Or.inr (⟨rfl, rfl, by rw [esb]; exact c_84, by rw [esb]; exact i1_17, by rw [esb]; exact nI_ne (b := 36) (by omega) (by decide) (by omega), by rw [esb]; exact nI_ne (b := 39) (by omega) (by decide) (by omega), by rw [esb]; exact hm_47, by rw [esb]; exact hnl, c_22⟩)))))))))))), rfl⟩
              · have nc_205_3 : kb = 36 := (nI_eq (a := kb) (b := 36) (by omega) (by omega)).mp c_205_3
                refine lv_aload_n hx hb dX7_next_208 rfl (lv_at hl 1 rfl) ?_
                refine lv_dup hx hb dX7_next_209 rfl ?_
                refine k_get (C := RX7) (T := TX7) (N := 9) (ci := 7) (v := .int (nI axv)) X hE hP 0 rfl rfl iX7 3 (by decide) w_366 rfl dX7_next_210 ?_
                refine lv_iconst (v := 1) hx hb dX7_next_213 (by decide) ?_
                refine lv_iadd hx hb dX7_next_214 ?_
                refine tk (y := nI (axv + 1)) (nI_add axv 1) ?_
                refine k_put (C := RX7) (T := TX7) (N := 9) (ci := 7) (v := .int (nI (axv + 1))) (ty := .int) X hE hP hD hS 0 rfl rfl iX7 tyX7 tyX7_ok nmX7 3 (by decide) w_366 rfl (by decide +kernel) rfl rfl (Nat.le_of_ble_eq_true rfl) [(h0, .inr (7, [.ref htb, .int (nI ln), .int (nI le), .int (nI (axv + 1)), .int kd, .int (nI axv), .int (nI lt), .int vl, .int (-1)])), (htb, .inl (cA, 6000, .inl tz))] rfl dX7_next_215 (fun H locs hP hD hS => ?_)
                refine lv_aload_n hx hb dX7_next_218 rfl (lv_at hl 1 rfl) ?_
                refine lv_bipush (v := 16) hx hb dX7_next_219 (by decide) ?_
                refine lv_iconst (v := 4) hx hb dX7_next_221 (by decide) ?_
                refine kVv (n3 := 2) (As := [.int 16, .int 4]) (rest := []) X hl.1 hE hP hD hS hA [(h0, .inr (7, [.ref htb, .int (nI ln), .int (nI le), .int (nI (axv + 1)), .int kd, .int (nI axv), .int (nI lt), .int vl, .int (-1)])), (htb, .inl (cA, 6000, .inl tz))] [] [0, 1] [] rfl rfl rfl (by decide +kernel) (by decide +kernel) (by decide +kernel) (c_k_readDigits16 l D cA cB h0 htb ln le (axv + 1) kd axv lt vl tz hln hle (by first | assumption | omega | decide | rfl) (by first | assumption | omega | decide | rfl) hlt htz (LNo_up hlv (by omega) (by omega)) (by first | assumption | omega | decide | rfl)) w_904 w_374 w_903 w_905 w_906 0 (ci := 7) (T := TX7) (N := 9) rfl rfl (by decide +kernel) rfl rfl (Nat.le_of_ble_eq_true rfl) ⟨(Nat.le_of_ble_eq_true rfl), (Nat.le_of_ble_eq_true rfl)⟩ ⟨(Nat.le_of_ble_eq_true rfl), (Nat.le_of_ble_eq_true rfl)⟩ dX7_next_222 (fun W1 H locs hw hP hD hS => ?_)
                obtain ⟨ax2_48, kd2_49, vl2_50, ms2_51, hf_52, hf_53, hf_54, hf_55, hf_56, rfl⟩ := hw
                have hP : va_P D classes [(h0, .inr (7, [.ref htb, .int (nI ln), .int (nI le), .int (nI ax2_48), .int kd2_49, .int (nI axv), .int (nI lt), .int vl2_50, .int ms2_51])), (htb, .inl (cA, 6000, .inl tz))] H := hP
                have hD : va_D A [(h0, .inr (7, [.ref htb, .int (nI ln), .int (nI le), .int (nI ax2_48), .int kd2_49, .int (nI axv), .int (nI lt), .int vl2_50, .int ms2_51])), (htb, .inl (cA, 6000, .inl tz))] := hD
                obtain rfl := hf_55
                rcases hf_56 with ⟨hd_57, rfl, rfl, rfl⟩ | ⟨hd_58, rfl⟩
                · skip
                  refine lv_goto (tgt := 277) hx hb dX7_next_225 (by decide) ?_
                  rw [hQ9]
                  exact endV X hr hlocks hP hD hS dX7_next_277 ⟨((num (sgn ln tz) 16 4 (axv + 1) 0).1), 259, axv, lt, ((num (sgn ln tz) 16 4 (axv + 1) 0).2), (-1), (by omega), (by omega), hlt, (LNo_up hLo (by omega) (by omega)), (by rw [hsk]; exact Or.inr (Or.inr (Or.inr (Or.inr (Or.inr (Or.inr (Or.inl ⟨rfl, rfl, (by rw [esb, show kb = 36 by omega]; rfl), hd_57, rfl, rfl, rfl⟩))))))), rfl⟩
                · skip
                  refine lv_goto (tgt := 277) hx hb dX7_next_225 (by decide) ?_
                  rw [hQ9]
                  exact endV X hr hlocks hP hD hS dX7_next_277 ⟨ax2_48, 259, axv, lt, vl2_50, (nI (axv + 1)), hf_52, (by omega), hlt, (LNo_up hLo (by omega) (by omega)), (by rw [hsk]; exact Or.inr (Or.inr (Or.inr (Or.inr (Or.inr (Or.inr (Or.inr (Or.inl ⟨rfl, nI_nm1 (by omega), (by rw [esb, show kb = 36 by omega]; rfl), hd_58⟩)))))))), rfl⟩
            · have nc_192_2 : kb = 39 := (nI_eq (a := kb) (b := 39) (by omega) (by omega)).mp c_192_2
              refine lv_aload_n hx hb dX7_next_195 rfl (lv_at hl 1 rfl) ?_
              refine kVv (n3 := 0) (As := []) (rest := []) X hl.1 hE hP hD hS hA [(h0, .inr (7, [.ref htb, .int (nI ln), .int (nI le), .int (nI axv), .int kd, .int (nI axv), .int (nI lt), .int vl, .int (-1)])), (htb, .inl (cA, 6000, .inl tz))] [] [0, 1] [] rfl rfl rfl (by decide +kernel) (by decide +kernel) (by decide +kernel) (c_k_readQuoted l D cA cB h0 htb ln le axv kd axv lt vl tz hln hle haxv (by first | assumption | omega | decide | rfl) hlt htz hlv (by first | assumption | omega | decide | rfl) (by first | assumption | omega | decide | rfl)) w_912 w_374 w_911 w_913 w_914 0 (ci := 7) (T := TX7) (N := 9) rfl rfl (by decide +kernel) rfl rfl (Nat.le_of_ble_eq_true rfl) ⟨(Nat.le_of_ble_eq_true rfl), (Nat.le_of_ble_eq_true rfl)⟩ ⟨(Nat.le_of_ble_eq_true rfl), (Nat.le_of_ble_eq_true rfl)⟩ dX7_next_196 (fun W1 H locs hw hP hD hS => ?_)
              obtain ⟨ax2_59, kd2_60, vl2_61, ms2_62, hf_63, hf_64, hf_65, hf_66, hf_67, rfl⟩ := hw
              have hP : va_P D classes [(h0, .inr (7, [.ref htb, .int (nI ln), .int (nI le), .int (nI ax2_59), .int kd2_60, .int (nI axv), .int (nI lt), .int vl2_61, .int ms2_62])), (htb, .inl (cA, 6000, .inl tz))] H := hP
              have hD : va_D A [(h0, .inr (7, [.ref htb, .int (nI ln), .int (nI le), .int (nI ax2_59), .int kd2_60, .int (nI axv), .int (nI lt), .int vl2_61, .int ms2_62])), (htb, .inl (cA, 6000, .inl tz))] := hD
              obtain rfl := hf_66
              rcases hf_67 with ⟨rfl, hi_68, rfl, rfl⟩ | ⟨rfl, hi_69⟩
              · skip
                refine lv_goto (tgt := 277) hx hb dX7_next_199 (by decide) ?_
                rw [hQ9]
                exact endV X hr hlocks hP hD hS dX7_next_277 ⟨(axv + 2), 259, axv, lt, (sgn ln tz (axv + 1)), (-1), (by omega), (by omega), hlt, (LNo_up hLo (by omega) (by omega)), (by rw [hsk]; exact Or.inr (Or.inr (Or.inr (Or.inr (Or.inr (Or.inr (Or.inr (Or.inr (Or.inl ⟨rfl, rfl, (by rw [esb, show kb = 39 by omega]; rfl), hi_68, rfl, rfl, rfl⟩))))))))), rfl⟩
              · skip
                refine lv_goto (tgt := 277) hx hb dX7_next_199 (by decide) ?_
                rw [hQ9]
                exact endV X hr hlocks hP hD hS dX7_next_277 ⟨ax2_59, 259, axv, lt, vl2_61, (nI (axv + 1)), hf_63, (by omega), hlt, (LNo_up hLo (by omega) (by omega)), (by rw [hsk]; exact Or.inr (Or.inr (Or.inr (Or.inr (Or.inr (Or.inr (Or.inr (Or.inr (Or.inr (Or.inl ⟨rfl, nI_nm1 (by omega), (by rw [esb, show kb = 39 by omega]; rfl), hi_69⟩)))))))))), rfl⟩
          · skip
            refine lv_aload_n hx hb dX7_next_87 rfl (lv_at hl 1 rfl) ?_
            refine kVv (n3 := 0) (As := []) (rest := []) X hl.1 hE hP hD hS hA [(h0, .inr (7, [.ref htb, .int (nI ln), .int (nI le), .int (nI axv), .int kd, .int (nI axv), .int (nI lt), .int vl, .int (-1)])), (htb, .inl (cA, 6000, .inl tz))] [] [0, 1] [] rfl rfl rfl (by decide +kernel) (by decide +kernel) (by decide +kernel) (c_k_readLetters l D cA cB h0 htb ln le axv kd axv lt vl (-1) tz hln hle haxv (by first | assumption | omega | decide | rfl) hlt htz hlv (by first | assumption | omega | decide | rfl) rfl (by first | assumption | omega | decide | rfl) (by rw [esb]; exact c_84)) w_916 w_374 w_915 w_917 w_918 0 (ci := 7) (T := TX7) (N := 9) rfl rfl (by decide +kernel) rfl rfl (Nat.le_of_ble_eq_true rfl) ⟨(Nat.le_of_ble_eq_true rfl), (Nat.le_of_ble_eq_true rfl)⟩ ⟨(Nat.le_of_ble_eq_true rfl), (Nat.le_of_ble_eq_true rfl)⟩ dX7_next_88 (fun W1 H locs hw hP hD hS => ?_)
            obtain ⟨ax2_70, kd2_71, pl2_72, lt2_73, hf_74, hf_75, hf_76, hf_77, hf_78, rfl⟩ := hw
            have hP : va_P D classes [(h0, .inr (7, [.ref htb, .int (nI ln), .int (nI le), .int (nI ax2_70), .int kd2_71, .int (nI pl2_72), .int (nI lt2_73), .int vl, .int (-1)])), (htb, .inl (cA, 6000, .inl tz))] H := hP
            have hD : va_D A [(h0, .inr (7, [.ref htb, .int (nI ln), .int (nI le), .int (nI ax2_70), .int kd2_71, .int (nI pl2_72), .int (nI lt2_73), .int vl, .int (-1)])), (htb, .inl (cA, 6000, .inl tz))] := hD
            rcases hf_78 with ⟨rfl, ha_79⟩ | ⟨rfl, ha_80, rfl, rfl⟩ | ⟨rfl, ha_81, hb_82, rfl, rfl, rfl⟩
            · skip
              refine lv_aload_n hx hb dX7_next_91 rfl (lv_at hl 1 rfl) ?_
              refine k_get (C := RX7) (T := TX7) (N := 9) (ci := 7) (v := .int 260) X hE hP 0 rfl rfl iX7 4 (by decide) w_369 rfl dX7_next_92 ?_
              refine lv_sipush (v := 257) hx hb dX7_next_95 (by decide) ?_
              refine lv_icmp_ne (tgt := 277) hx hb dX7_next_98 (by decide) (fun c_98 => ?_) (fun c_98 => absurd c_98 (by decide))
              rw [hQ9]
              exact endV X hr hlocks hP hD hS dX7_next_277 ⟨ax2_70, 260, pl2_72, lt2_73, vl, (-1), hf_74, hf_75, hf_76, hf_77, (by rw [hsk]; exact Or.inr (Or.inl ⟨rfl, rfl, (by rw [esb]; exact c_84), ha_79⟩)), rfl⟩
            · skip
              refine lv_aload_n hx hb dX7_next_91 rfl (lv_at hl 1 rfl) ?_
              refine k_get (C := RX7) (T := TX7) (N := 9) (ci := 7) (v := .int (sgn ln tz axv)) X hE hP 0 rfl rfl iX7 4 (by decide) w_369 rfl dX7_next_92 ?_
              refine lv_sipush (v := 257) hx hb dX7_next_95 (by decide) ?_
              refine lv_icmp_ne (tgt := 277) hx hb dX7_next_98 (by decide) (fun c_98 => ?_) (fun c_98 => absurd c_98 (kq_ne (by simp) (Or.inl ha_80)))
              rw [hQ9]
              exact endV X hr hlocks hP hD hS dX7_next_277 ⟨(axv + 1), (sgn ln tz axv), axv, lt2_73, vl, (-1), (by omega), (by omega), hf_76, hf_77, (by rw [hsk]; exact Or.inr (Or.inr (Or.inl ⟨rfl, rfl, ha_80, rfl, rfl⟩))), rfl⟩
            · have hz1_ := (hf_77).1
              have hz2_ := n8_in (sgn_TX (N := 6000) (e := ln) (by omega) (by decide) htz) (q := axv) (by rw [esb]; exact c_84)
              refine lv_aload_n hx hb dX7_next_91 rfl (lv_at hl 1 rfl) ?_
              refine k_get (C := RX7) (T := TX7) (N := 9) (ci := 7) (v := .int 257) X hE hP 0 rfl rfl iX7 4 (by decide) w_369 rfl dX7_next_92 ?_
              refine lv_sipush (v := 257) hx hb dX7_next_95 (by decide) ?_
              refine lv_icmp_ne (tgt := 277) hx hb dX7_next_98 (by decide) (fun c_98 => absurd (by decide) c_98) (fun c_98 => ?_)
              refine lv_aload_n hx hb dX7_next_101 rfl (lv_at hl 1 rfl) ?_
              refine lv_aload_n hx hb dX7_next_102 rfl (lv_at hl 1 rfl) ?_
              refine va_ldcS hx hb X.2.2.2.1 (e_rTape41 hE) dX7_next_103 ?_
              refine lv_iconst (v := 3) hx hb dX7_next_105 (by decide) ?_
              refine lv_iconst (v := 0) hx hb dX7_next_106 (by decide) ?_
              refine kVi (n3 := 3) (As := [.ref (aK D 0), .int 3, .int 0]) (rest := [.ref h0]) X hl.1 hE hP hD hS hA [(h0, .inr (7, [.ref htb, .int (nI ln), .int (nI le), .int (nI (n8 (sgn ln tz) axv)), .int 257, .int (nI axv), .int (nI (n8 (sgn ln tz) axv - axv)), .int vl, .int (-1)])), (htb, .inl (cA, 6000, .inl tz))] [] [0, 1] [] rfl rfl rfl (by decide +kernel) (by decide +kernel) (by decide +kernel) (c_k_wordIn0 l D cA cB h0 htb ln le (n8 (sgn ln tz) axv) 257 axv (n8 (sgn ln tz) axv - axv) vl (-1) tz hln hle (by first | assumption | omega | decide | rfl) (by first | assumption | omega | decide | rfl) (by first | assumption | omega | decide | rfl) htz (by omega) (fun j hj => (sc_spec (P := isNc) (by decide) (sgn_TX (N := 6000) (by omega) (by decide) htz) axv).1 (axv + j) (by omega) (by have hz : n8 (sgn ln tz) axv ≤ nE (sgn ln tz) axv := Nat.min_le_left _ _; show axv + j < nE (sgn ln tz) axv; omega))) w_920 w_374 w_919 w_921 w_922 0 (ci := 7) (T := TX7) (N := 9) rfl rfl (by decide +kernel) rfl rfl (Nat.le_of_ble_eq_true rfl) ⟨(Nat.le_of_ble_eq_true rfl), (Nat.le_of_ble_eq_true rfl)⟩ ⟨(Nat.le_of_ble_eq_true rfl), (Nat.le_of_ble_eq_true rfl)⟩ dX7_next_107 (fun r W1 H locs hw hP hD hS => ?_)
              obtain ⟨rv_83, er_85, hf_84, rfl⟩ := hw
              have hP : va_P D classes [(h0, .inr (7, [.ref htb, .int (nI ln), .int (nI le), .int (nI (n8 (sgn ln tz) axv)), .int 257, .int (nI axv), .int (nI (n8 (sgn ln tz) axv - axv)), .int vl, .int (-1)])), (htb, .inl (cA, 6000, .inl tz))] H := hP
              have hD : va_D A [(h0, .inr (7, [.ref htb, .int (nI ln), .int (nI le), .int (nI (n8 (sgn ln tz) axv)), .int 257, .int (nI axv), .int (nI (n8 (sgn ln tz) axv - axv)), .int vl, .int (-1)])), (htb, .inl (cA, 6000, .inl tz))] := hD
              refine tk (y := rv_83) er_85 ?_
              rcases hf_84 with ⟨rfl, hn_86⟩ | ⟨w_87, hw_88, ht_89, hz_90, rfl⟩
              · skip
                refine lv_aload_n hx hb dX7_next_110 rfl (lv_at hl 1 rfl) ?_
                refine va_ldcS hx hb X.2.2.2.1 (e_rTape47 hE) dX7_next_111 ?_
                refine lv_iconst (v := 3) hx hb dX7_next_113 (by decide) ?_
                refine lv_bipush (v := 32) hx hb dX7_next_114 (by decide) ?_
                refine kVi (n3 := 3) (As := [.ref (aK D 1), .int 3, .int 32]) (rest := [.int (-1), .ref h0]) X hl.1 hE hP hD hS hA [(h0, .inr (7, [.ref htb, .int (nI ln), .int (nI le), .int (nI (n8 (sgn ln tz) axv)), .int 257, .int (nI axv), .int (nI (n8 (sgn ln tz) axv - axv)), .int vl, .int (-1)])), (htb, .inl (cA, 6000, .inl tz))] [] [0, 1] [] rfl rfl rfl (by decide +kernel) (by decide +kernel) (by decide +kernel) (c_k_wordIn1 l D cA cB h0 htb ln le (n8 (sgn ln tz) axv) 257 axv (n8 (sgn ln tz) axv - axv) vl (-1) tz hln hle (by first | assumption | omega | decide | rfl) (by first | assumption | omega | decide | rfl) (by first | assumption | omega | decide | rfl) htz (by omega) (fun j hj => (sc_spec (P := isNc) (by decide) (sgn_TX (N := 6000) (by omega) (by decide) htz) axv).1 (axv + j) (by omega) (by have hz : n8 (sgn ln tz) axv ≤ nE (sgn ln tz) axv := Nat.min_le_left _ _; show axv + j < nE (sgn ln tz) axv; omega))) w_920 w_374 w_919 w_921 w_922 0 (ci := 7) (T := TX7) (N := 9) rfl rfl (by decide +kernel) rfl rfl (Nat.le_of_ble_eq_true rfl) ⟨(Nat.le_of_ble_eq_true rfl), (Nat.le_of_ble_eq_true rfl)⟩ ⟨(Nat.le_of_ble_eq_true rfl), (Nat.le_of_ble_eq_true rfl)⟩ dX7_next_116 (fun r W1 H locs hw hP hD hS => ?_)
                obtain ⟨rv_91, er_93, hf_92, rfl⟩ := hw
                have hP : va_P D classes [(h0, .inr (7, [.ref htb, .int (nI ln), .int (nI le), .int (nI (n8 (sgn ln tz) axv)), .int 257, .int (nI axv), .int (nI (n8 (sgn ln tz) axv - axv)), .int vl, .int (-1)])), (htb, .inl (cA, 6000, .inl tz))] H := hP
                have hD : va_D A [(h0, .inr (7, [.ref htb, .int (nI ln), .int (nI le), .int (nI (n8 (sgn ln tz) axv)), .int 257, .int (nI axv), .int (nI (n8 (sgn ln tz) axv - axv)), .int vl, .int (-1)])), (htb, .inl (cA, 6000, .inl tz))] := hD
                refine tk (y := rv_91) er_93 ?_
                rcases hf_92 with ⟨rfl, hn_94⟩ | ⟨w_95, hw_96, ht_97, hz_98, rfl⟩
                · skip
                  refine va_mmax hx hb (X.2.2.1.trans hl.1.symm) X.2.2.2.1 (X.2.2.2.2 _ w_923) (X.2.2.2.2 _ w_42) (X.2.2.2.2 _ w_43) (X.2.2.2.2 _ w_44) (Nat.le_of_ble_eq_true rfl) (Nat.le_of_ble_eq_true rfl) (Nat.le_of_ble_eq_true rfl) (Nat.le_of_ble_eq_true rfl) dX7_next_119 ?_
                  refine tk (y := (-1)) (by decide) ?_
                  refine k_put (C := RX7) (T := TX7) (N := 9) (ci := 7) (v := .int (-1)) (ty := .int) X hE hP hD hS 0 rfl rfl iX7 tyX7 tyX7_ok nmX7 7 (by decide) w_371 rfl (by decide +kernel) rfl rfl (Nat.le_of_ble_eq_true rfl) [(h0, .inr (7, [.ref htb, .int (nI ln), .int (nI le), .int (nI (n8 (sgn ln tz) axv)), .int 257, .int (nI axv), .int (nI (n8 (sgn ln tz) axv - axv)), .int (-1), .int (-1)])), (htb, .inl (cA, 6000, .inl tz))] rfl dX7_next_122 (fun H locs hP hD hS => ?_)
                  refine lv_aload_n hx hb dX7_next_125 rfl (lv_at hl 1 rfl) ?_
                  refine lv_aload_n hx hb dX7_next_126 rfl (lv_at hl 1 rfl) ?_
                  refine k_get (C := RX7) (T := TX7) (N := 9) (ci := 7) (v := .int (-1)) X hE hP 0 rfl rfl iX7 7 (by decide) w_371 rfl dX7_next_127 ?_
                  refine lv_aload_n hx hb dX7_next_130 rfl (lv_at hl 1 rfl) ?_
                  refine va_ldcS hx hb X.2.2.2.1 (e_rTape58 hE) dX7_next_131 ?_
                  refine lv_iconst (v := 3) hx hb dX7_next_133 (by decide) ?_
                  refine lv_bipush (v := 48) hx hb dX7_next_134 (by decide) ?_
                  refine kVi (n3 := 3) (As := [.ref (aK D 2), .int 3, .int 48]) (rest := [.int (-1), .ref h0]) X hl.1 hE hP hD hS hA [(h0, .inr (7, [.ref htb, .int (nI ln), .int (nI le), .int (nI (n8 (sgn ln tz) axv)), .int 257, .int (nI axv), .int (nI (n8 (sgn ln tz) axv - axv)), .int (-1), .int (-1)])), (htb, .inl (cA, 6000, .inl tz))] [] [0, 1] [] rfl rfl rfl (by decide +kernel) (by decide +kernel) (by decide +kernel) (c_k_wordIn2 l D cA cB h0 htb ln le (n8 (sgn ln tz) axv) 257 axv (n8 (sgn ln tz) axv - axv) (-1) (-1) tz hln hle (by first | assumption | omega | decide | rfl) (by first | assumption | omega | decide | rfl) (by first | assumption | omega | decide | rfl) htz (by omega) (fun j hj => (sc_spec (P := isNc) (by decide) (sgn_TX (N := 6000) (by omega) (by decide) htz) axv).1 (axv + j) (by omega) (by have hz : n8 (sgn ln tz) axv ≤ nE (sgn ln tz) axv := Nat.min_le_left _ _; show axv + j < nE (sgn ln tz) axv; omega))) w_920 w_374 w_919 w_921 w_922 0 (ci := 7) (T := TX7) (N := 9) rfl rfl (by decide +kernel) rfl rfl (Nat.le_of_ble_eq_true rfl) ⟨(Nat.le_of_ble_eq_true rfl), (Nat.le_of_ble_eq_true rfl)⟩ ⟨(Nat.le_of_ble_eq_true rfl), (Nat.le_of_ble_eq_true rfl)⟩ dX7_next_136 (fun r W1 H locs hw hP hD hS => ?_)
                  obtain ⟨rv_99, er_101, hf_100, rfl⟩ := hw
                  have hP : va_P D classes [(h0, .inr (7, [.ref htb, .int (nI ln), .int (nI le), .int (nI (n8 (sgn ln tz) axv)), .int 257, .int (nI axv), .int (nI (n8 (sgn ln tz) axv - axv)), .int (-1), .int (-1)])), (htb, .inl (cA, 6000, .inl tz))] H := hP
                  have hD : va_D A [(h0, .inr (7, [.ref htb, .int (nI ln), .int (nI le), .int (nI (n8 (sgn ln tz) axv)), .int 257, .int (nI axv), .int (nI (n8 (sgn ln tz) axv - axv)), .int (-1), .int (-1)])), (htb, .inl (cA, 6000, .inl tz))] := hD
                  refine tk (y := rv_99) er_101 ?_
                  rcases hf_100 with ⟨rfl, hn_102⟩ | ⟨w_103, hw_104, ht_105, hz_106, rfl⟩
                  · skip
                    refine va_mmax hx hb (X.2.2.1.trans hl.1.symm) X.2.2.2.1 (X.2.2.2.2 _ w_923) (X.2.2.2.2 _ w_42) (X.2.2.2.2 _ w_43) (X.2.2.2.2 _ w_44) (Nat.le_of_ble_eq_true rfl) (Nat.le_of_ble_eq_true rfl) (Nat.le_of_ble_eq_true rfl) (Nat.le_of_ble_eq_true rfl) dX7_next_139 ?_
                    refine tk (y := (-1)) (by decide) ?_
                    refine k_put (C := RX7) (T := TX7) (N := 9) (ci := 7) (v := .int (-1)) (ty := .int) X hE hP hD hS 0 rfl rfl iX7 tyX7 tyX7_ok nmX7 7 (by decide) w_371 rfl (by decide +kernel) rfl rfl (Nat.le_of_ble_eq_true rfl) [(h0, .inr (7, [.ref htb, .int (nI ln), .int (nI le), .int (nI (n8 (sgn ln tz) axv)), .int 257, .int (nI axv), .int (nI (n8 (sgn ln tz) axv - axv)), .int (-1), .int (-1)])), (htb, .inl (cA, 6000, .inl tz))] rfl dX7_next_142 (fun H locs hP hD hS => ?_)
                    refine lv_aload_n hx hb dX7_next_145 rfl (lv_at hl 1 rfl) ?_
                    refine lv_aload_n hx hb dX7_next_146 rfl (lv_at hl 1 rfl) ?_
                    refine k_get (C := RX7) (T := TX7) (N := 9) (ci := 7) (v := .int (-1)) X hE hP 0 rfl rfl iX7 7 (by decide) w_371 rfl dX7_next_147 ?_
                    refine lv_aload_n hx hb dX7_next_150 rfl (lv_at hl 1 rfl) ?_
                    refine va_ldcS hx hb X.2.2.2.1 (e_rTape60 hE) dX7_next_151 ?_
                    refine lv_iconst (v := 5) hx hb dX7_next_153 (by decide) ?_
                    refine lv_bipush (v := 80) hx hb dX7_next_154 (by decide) ?_
                    refine kVi (n3 := 3) (As := [.ref (aK D 3), .int 5, .int 80]) (rest := [.int (-1), .ref h0]) X hl.1 hE hP hD hS hA [(h0, .inr (7, [.ref htb, .int (nI ln), .int (nI le), .int (nI (n8 (sgn ln tz) axv)), .int 257, .int (nI axv), .int (nI (n8 (sgn ln tz) axv - axv)), .int (-1), .int (-1)])), (htb, .inl (cA, 6000, .inl tz))] [] [0, 1] [] rfl rfl rfl (by decide +kernel) (by decide +kernel) (by decide +kernel) (c_k_wordIn3 l D cA cB h0 htb ln le (n8 (sgn ln tz) axv) 257 axv (n8 (sgn ln tz) axv - axv) (-1) (-1) tz hln hle (by first | assumption | omega | decide | rfl) (by first | assumption | omega | decide | rfl) (by first | assumption | omega | decide | rfl) htz (by omega) (fun j hj => (sc_spec (P := isNc) (by decide) (sgn_TX (N := 6000) (by omega) (by decide) htz) axv).1 (axv + j) (by omega) (by have hz : n8 (sgn ln tz) axv ≤ nE (sgn ln tz) axv := Nat.min_le_left _ _; show axv + j < nE (sgn ln tz) axv; omega))) w_920 w_374 w_919 w_921 w_922 0 (ci := 7) (T := TX7) (N := 9) rfl rfl (by decide +kernel) rfl rfl (Nat.le_of_ble_eq_true rfl) ⟨(Nat.le_of_ble_eq_true rfl), (Nat.le_of_ble_eq_true rfl)⟩ ⟨(Nat.le_of_ble_eq_true rfl), (Nat.le_of_ble_eq_true rfl)⟩ dX7_next_156 (fun r W1 H locs hw hP hD hS => ?_)
                    obtain ⟨rv_107, er_109, hf_108, rfl⟩ := hw
                    have hP : va_P D classes [(h0, .inr (7, [.ref htb, .int (nI ln), .int (nI le), .int (nI (n8 (sgn ln tz) axv)), .int 257, .int (nI axv), .int (nI (n8 (sgn ln tz) axv - axv)), .int (-1), .int (-1)])), (htb, .inl (cA, 6000, .inl tz))] H := hP
                    have hD : va_D A [(h0, .inr (7, [.ref htb, .int (nI ln), .int (nI le), .int (nI (n8 (sgn ln tz) axv)), .int 257, .int (nI axv), .int (nI (n8 (sgn ln tz) axv - axv)), .int (-1), .int (-1)])), (htb, .inl (cA, 6000, .inl tz))] := hD
                    refine tk (y := rv_107) er_109 ?_
                    rcases hf_108 with ⟨rfl, hn_110⟩ | ⟨w_111, hw_112, ht_113, hz_114, rfl⟩
                    · skip
                      refine va_mmax hx hb (X.2.2.1.trans hl.1.symm) X.2.2.2.1 (X.2.2.2.2 _ w_923) (X.2.2.2.2 _ w_42) (X.2.2.2.2 _ w_43) (X.2.2.2.2 _ w_44) (Nat.le_of_ble_eq_true rfl) (Nat.le_of_ble_eq_true rfl) (Nat.le_of_ble_eq_true rfl) (Nat.le_of_ble_eq_true rfl) dX7_next_159 ?_
                      refine tk (y := (-1)) (by decide) ?_
                      refine k_put (C := RX7) (T := TX7) (N := 9) (ci := 7) (v := .int (-1)) (ty := .int) X hE hP hD hS 0 rfl rfl iX7 tyX7 tyX7_ok nmX7 7 (by decide) w_371 rfl (by decide +kernel) rfl rfl (Nat.le_of_ble_eq_true rfl) [(h0, .inr (7, [.ref htb, .int (nI ln), .int (nI le), .int (nI (n8 (sgn ln tz) axv)), .int 257, .int (nI axv), .int (nI (n8 (sgn ln tz) axv - axv)), .int (-1), .int (-1)])), (htb, .inl (cA, 6000, .inl tz))] rfl dX7_next_162 (fun H locs hP hD hS => ?_)
                      refine lv_aload_n hx hb dX7_next_165 rfl (lv_at hl 1 rfl) ?_
                      refine lv_aload_n hx hb dX7_next_166 rfl (lv_at hl 1 rfl) ?_
                      refine k_get (C := RX7) (T := TX7) (N := 9) (ci := 7) (v := .int (-1)) X hE hP 0 rfl rfl iX7 7 (by decide) w_371 rfl dX7_next_167 ?_
                      refine lv_iconst (v := (-1)) hx hb dX7_next_170 (by decide) ?_
                      refine lv_icmp_ne (tgt := 180) hx hb dX7_next_171 (by decide) (fun c_171 => absurd (by decide) c_171) (fun c_171 => ?_)
                      refine lv_sipush (v := 257) hx hb dX7_next_174 (by decide) ?_
                      refine lv_goto (tgt := 183) hx hb dX7_next_177 (by decide) ?_
                      refine k_put (C := RX7) (T := TX7) (N := 9) (ci := 7) (v := .int 257) (ty := .int) X hE hP hD hS 0 rfl rfl iX7 tyX7 tyX7_ok nmX7 4 (by decide) w_369 rfl (by decide +kernel) rfl rfl (Nat.le_of_ble_eq_true rfl) [(h0, .inr (7, [.ref htb, .int (nI ln), .int (nI le), .int (nI (n8 (sgn ln tz) axv)), .int 257, .int (nI axv), .int (nI (n8 (sgn ln tz) axv - axv)), .int (-1), .int (-1)])), (htb, .inl (cA, 6000, .inl tz))] rfl dX7_next_183 (fun H locs hP hD hS => ?_)
                      refine lv_goto (tgt := 277) hx hb dX7_next_186 (by decide) ?_
                      rw [hQ9]
                      exact endV X hr hlocks hP hD hS dX7_next_277 ⟨(n8 (sgn ln tz) axv), 257, axv, (n8 (sgn ln tz) axv - axv), (-1), (-1), (by omega), (by omega), (by omega), hf_77, (by rw [hsk]; exact Or.inr (Or.inr (Or.inr (Or.inr (Or.inl ⟨rfl, rfl, (by rw [esb]; exact c_84), ha_81, hb_82, (by rw [wd_no (fun w hw => by have y : isW (sgn ln tz) axv (axv + (n8 (sgn ln tz) axv - axv)) w := (by rw [show axv + (n8 (sgn ln tz) axv - axv) = n8 (sgn ln tz) axv by omega]; exact hw); have x := (tab_out w hw.1).1; rcases (show tabo w = 0 ∨ tabo w = 1 ∨ tabo w = 2 ∨ tabo w = 3 by omega) with h | h | h | h; exact hn_86 w h y; exact hn_94 w h y; exact hn_102 w h y; exact hn_110 w h y)]; decide), rfl, rfl, rfl⟩))))), rfl⟩
                    · have hcmw_111 := cm_lt hw_112
                      refine va_mmax hx hb (X.2.2.1.trans hl.1.symm) X.2.2.2.1 (X.2.2.2.2 _ w_923) (X.2.2.2.2 _ w_42) (X.2.2.2.2 _ w_43) (X.2.2.2.2 _ w_44) (Nat.le_of_ble_eq_true rfl) (Nat.le_of_ble_eq_true rfl) (Nat.le_of_ble_eq_true rfl) (Nat.le_of_ble_eq_true rfl) dX7_next_159 ?_
                      refine tk (y := nI (cm w_111)) (mx2 (a := cm w_111) (by have hz := cm_lt hw_112; omega)) ?_
                      refine k_put (C := RX7) (T := TX7) (N := 9) (ci := 7) (v := .int (nI (cm w_111))) (ty := .int) X hE hP hD hS 0 rfl rfl iX7 tyX7 tyX7_ok nmX7 7 (by decide) w_371 rfl (by decide +kernel) rfl rfl (Nat.le_of_ble_eq_true rfl) [(h0, .inr (7, [.ref htb, .int (nI ln), .int (nI le), .int (nI (n8 (sgn ln tz) axv)), .int 257, .int (nI axv), .int (nI (n8 (sgn ln tz) axv - axv)), .int (nI (cm w_111)), .int (-1)])), (htb, .inl (cA, 6000, .inl tz))] rfl dX7_next_162 (fun H locs hP hD hS => ?_)
                      refine lv_aload_n hx hb dX7_next_165 rfl (lv_at hl 1 rfl) ?_
                      refine lv_aload_n hx hb dX7_next_166 rfl (lv_at hl 1 rfl) ?_
                      refine k_get (C := RX7) (T := TX7) (N := 9) (ci := 7) (v := .int (nI (cm w_111))) X hE hP 0 rfl rfl iX7 7 (by decide) w_371 rfl dX7_next_167 ?_
                      refine lv_iconst (v := (-1)) hx hb dX7_next_170 (by decide) ?_
                      refine lv_icmp_ne (tgt := 180) hx hb dX7_next_171 (by decide) (fun c_171 => ?_) (fun c_171 => absurd c_171 (nI_nm1 (a := cm w_111) (by omega)))
                      refine lv_sipush (v := 258) hx hb dX7_next_180 (by decide) ?_
                      refine k_put (C := RX7) (T := TX7) (N := 9) (ci := 7) (v := .int 258) (ty := .int) X hE hP hD hS 0 rfl rfl iX7 tyX7 tyX7_ok nmX7 4 (by decide) w_369 rfl (by decide +kernel) rfl rfl (Nat.le_of_ble_eq_true rfl) [(h0, .inr (7, [.ref htb, .int (nI ln), .int (nI le), .int (nI (n8 (sgn ln tz) axv)), .int 258, .int (nI axv), .int (nI (n8 (sgn ln tz) axv - axv)), .int (nI (cm w_111)), .int (-1)])), (htb, .inl (cA, 6000, .inl tz))] rfl dX7_next_183 (fun H locs hP hD hS => ?_)
                      refine lv_goto (tgt := 277) hx hb dX7_next_186 (by decide) ?_
                      rw [hQ9]
                      exact endV X hr hlocks hP hD hS dX7_next_277 ⟨(n8 (sgn ln tz) axv), 258, axv, (n8 (sgn ln tz) axv - axv), (nI (cm w_111)), (-1), (by omega), (by omega), (by omega), hf_77, (by rw [hsk]; exact Or.inr (Or.inr (Or.inr (Or.inl ⟨rfl, rfl, (by rw [esb]; exact c_84), ha_81, hb_82, by rw [(wd_of (show isW (sgn ln tz) axv (n8 (sgn ln tz) axv) w_111 from (by have y := hz_114; rw [show axv + (n8 (sgn ln tz) axv - axv) = n8 (sgn ln tz) axv by omega] at y; exact y)))]; exact hw_112, by rw [(wd_of (show isW (sgn ln tz) axv (n8 (sgn ln tz) axv) w_111 from (by have y := hz_114; rw [show axv + (n8 (sgn ln tz) axv - axv) = n8 (sgn ln tz) axv by omega] at y; exact y)))], rfl, rfl⟩)))), rfl⟩
                  · have hcmw_103 := cm_lt hw_104
                    refine va_mmax hx hb (X.2.2.1.trans hl.1.symm) X.2.2.2.1 (X.2.2.2.2 _ w_923) (X.2.2.2.2 _ w_42) (X.2.2.2.2 _ w_43) (X.2.2.2.2 _ w_44) (Nat.le_of_ble_eq_true rfl) (Nat.le_of_ble_eq_true rfl) (Nat.le_of_ble_eq_true rfl) (Nat.le_of_ble_eq_true rfl) dX7_next_139 ?_
                    refine tk (y := nI (cm w_103)) (mx2 (a := cm w_103) (by have hz := cm_lt hw_104; omega)) ?_
                    refine k_put (C := RX7) (T := TX7) (N := 9) (ci := 7) (v := .int (nI (cm w_103))) (ty := .int) X hE hP hD hS 0 rfl rfl iX7 tyX7 tyX7_ok nmX7 7 (by decide) w_371 rfl (by decide +kernel) rfl rfl (Nat.le_of_ble_eq_true rfl) [(h0, .inr (7, [.ref htb, .int (nI ln), .int (nI le), .int (nI (n8 (sgn ln tz) axv)), .int 257, .int (nI axv), .int (nI (n8 (sgn ln tz) axv - axv)), .int (nI (cm w_103)), .int (-1)])), (htb, .inl (cA, 6000, .inl tz))] rfl dX7_next_142 (fun H locs hP hD hS => ?_)
                    refine lv_aload_n hx hb dX7_next_145 rfl (lv_at hl 1 rfl) ?_
                    refine lv_aload_n hx hb dX7_next_146 rfl (lv_at hl 1 rfl) ?_
                    refine k_get (C := RX7) (T := TX7) (N := 9) (ci := 7) (v := .int (nI (cm w_103))) X hE hP 0 rfl rfl iX7 7 (by decide) w_371 rfl dX7_next_147 ?_
                    refine lv_aload_n hx hb dX7_next_150 rfl (lv_at hl 1 rfl) ?_
                    refine va_ldcS hx hb X.2.2.2.1 (e_rTape60 hE) dX7_next_151 ?_
                    refine lv_iconst (v := 5) hx hb dX7_next_153 (by decide) ?_
                    refine lv_bipush (v := 80) hx hb dX7_next_154 (by decide) ?_
                    refine kVi (n3 := 3) (As := [.ref (aK D 3), .int 5, .int 80]) (rest := [.int (nI (cm w_103)), .ref h0]) X hl.1 hE hP hD hS hA [(h0, .inr (7, [.ref htb, .int (nI ln), .int (nI le), .int (nI (n8 (sgn ln tz) axv)), .int 257, .int (nI axv), .int (nI (n8 (sgn ln tz) axv - axv)), .int (nI (cm w_103)), .int (-1)])), (htb, .inl (cA, 6000, .inl tz))] [] [0, 1] [] rfl rfl rfl (by decide +kernel) (by decide +kernel) (by decide +kernel) (c_k_wordIn3 l D cA cB h0 htb ln le (n8 (sgn ln tz) axv) 257 axv (n8 (sgn ln tz) axv - axv) (nI (cm w_103)) (-1) tz hln hle (by first | assumption | omega | decide | rfl) (by first | assumption | omega | decide | rfl) (by first | assumption | omega | decide | rfl) htz (by omega) (fun j hj => (sc_spec (P := isNc) (by decide) (sgn_TX (N := 6000) (by omega) (by decide) htz) axv).1 (axv + j) (by omega) (by have hz : n8 (sgn ln tz) axv ≤ nE (sgn ln tz) axv := Nat.min_le_left _ _; show axv + j < nE (sgn ln tz) axv; omega))) w_920 w_374 w_919 w_921 w_922 0 (ci := 7) (T := TX7) (N := 9) rfl rfl (by decide +kernel) rfl rfl (Nat.le_of_ble_eq_true rfl) ⟨(Nat.le_of_ble_eq_true rfl), (Nat.le_of_ble_eq_true rfl)⟩ ⟨(Nat.le_of_ble_eq_true rfl), (Nat.le_of_ble_eq_true rfl)⟩ dX7_next_156 (fun r W1 H locs hw hP hD hS => ?_)
                    obtain ⟨rv_115, er_117, hf_116, rfl⟩ := hw
                    have hP : va_P D classes [(h0, .inr (7, [.ref htb, .int (nI ln), .int (nI le), .int (nI (n8 (sgn ln tz) axv)), .int 257, .int (nI axv), .int (nI (n8 (sgn ln tz) axv - axv)), .int (nI (cm w_103)), .int (-1)])), (htb, .inl (cA, 6000, .inl tz))] H := hP
                    have hD : va_D A [(h0, .inr (7, [.ref htb, .int (nI ln), .int (nI le), .int (nI (n8 (sgn ln tz) axv)), .int 257, .int (nI axv), .int (nI (n8 (sgn ln tz) axv - axv)), .int (nI (cm w_103)), .int (-1)])), (htb, .inl (cA, 6000, .inl tz))] := hD
                    refine tk (y := rv_115) er_117 ?_
                    rcases hf_116 with ⟨rfl, hn_118⟩ | ⟨w_119, hw_120, ht_121, hz_122, rfl⟩
                    · skip
                      refine va_mmax hx hb (X.2.2.1.trans hl.1.symm) X.2.2.2.1 (X.2.2.2.2 _ w_923) (X.2.2.2.2 _ w_42) (X.2.2.2.2 _ w_43) (X.2.2.2.2 _ w_44) (Nat.le_of_ble_eq_true rfl) (Nat.le_of_ble_eq_true rfl) (Nat.le_of_ble_eq_true rfl) (Nat.le_of_ble_eq_true rfl) dX7_next_159 ?_
                      refine tk (y := nI (cm w_103)) (mx1 (a := cm w_103) (by have hz := cm_lt hw_104; omega)) ?_
                      refine k_put (C := RX7) (T := TX7) (N := 9) (ci := 7) (v := .int (nI (cm w_103))) (ty := .int) X hE hP hD hS 0 rfl rfl iX7 tyX7 tyX7_ok nmX7 7 (by decide) w_371 rfl (by decide +kernel) rfl rfl (Nat.le_of_ble_eq_true rfl) [(h0, .inr (7, [.ref htb, .int (nI ln), .int (nI le), .int (nI (n8 (sgn ln tz) axv)), .int 257, .int (nI axv), .int (nI (n8 (sgn ln tz) axv - axv)), .int (nI (cm w_103)), .int (-1)])), (htb, .inl (cA, 6000, .inl tz))] rfl dX7_next_162 (fun H locs hP hD hS => ?_)
                      refine lv_aload_n hx hb dX7_next_165 rfl (lv_at hl 1 rfl) ?_
                      refine lv_aload_n hx hb dX7_next_166 rfl (lv_at hl 1 rfl) ?_
                      refine k_get (C := RX7) (T := TX7) (N := 9) (ci := 7) (v := .int (nI (cm w_103))) X hE hP 0 rfl rfl iX7 7 (by decide) w_371 rfl dX7_next_167 ?_
                      refine lv_iconst (v := (-1)) hx hb dX7_next_170 (by decide) ?_
                      refine lv_icmp_ne (tgt := 180) hx hb dX7_next_171 (by decide) (fun c_171 => ?_) (fun c_171 => absurd c_171 (nI_nm1 (a := cm w_103) (by omega)))
                      refine lv_sipush (v := 258) hx hb dX7_next_180 (by decide) ?_
                      refine k_put (C := RX7) (T := TX7) (N := 9) (ci := 7) (v := .int 258) (ty := .int) X hE hP hD hS 0 rfl rfl iX7 tyX7 tyX7_ok nmX7 4 (by decide) w_369 rfl (by decide +kernel) rfl rfl (Nat.le_of_ble_eq_true rfl) [(h0, .inr (7, [.ref htb, .int (nI ln), .int (nI le), .int (nI (n8 (sgn ln tz) axv)), .int 258, .int (nI axv), .int (nI (n8 (sgn ln tz) axv - axv)), .int (nI (cm w_103)), .int (-1)])), (htb, .inl (cA, 6000, .inl tz))] rfl dX7_next_183 (fun H locs hP hD hS => ?_)
                      refine lv_goto (tgt := 277) hx hb dX7_next_186 (by decide) ?_
                      rw [hQ9]
                      exact endV X hr hlocks hP hD hS dX7_next_277 ⟨(n8 (sgn ln tz) axv), 258, axv, (n8 (sgn ln tz) axv - axv), (nI (cm w_103)), (-1), (by omega), (by omega), (by omega), hf_77, (by rw [hsk]; exact Or.inr (Or.inr (Or.inr (Or.inl ⟨rfl, rfl, (by rw [esb]; exact c_84), ha_81, hb_82, by rw [(wd_of (show isW (sgn ln tz) axv (n8 (sgn ln tz) axv) w_103 from (by have y := hz_106; rw [show axv + (n8 (sgn ln tz) axv - axv) = n8 (sgn ln tz) axv by omega] at y; exact y)))]; exact hw_104, by rw [(wd_of (show isW (sgn ln tz) axv (n8 (sgn ln tz) axv) w_103 from (by have y := hz_106; rw [show axv + (n8 (sgn ln tz) axv - axv) = n8 (sgn ln tz) axv by omega] at y; exact y)))], rfl, rfl⟩)))), rfl⟩
                    · skip
                      exact absurd (isW_uniq hz_122 hz_106) (fun z => by have y := ht_121; rw [z, ht_105] at y; exact absurd y (by decide))
                · have hcmw_95 := cm_lt hw_96
                  refine va_mmax hx hb (X.2.2.1.trans hl.1.symm) X.2.2.2.1 (X.2.2.2.2 _ w_923) (X.2.2.2.2 _ w_42) (X.2.2.2.2 _ w_43) (X.2.2.2.2 _ w_44) (Nat.le_of_ble_eq_true rfl) (Nat.le_of_ble_eq_true rfl) (Nat.le_of_ble_eq_true rfl) (Nat.le_of_ble_eq_true rfl) dX7_next_119 ?_
                  refine tk (y := nI (cm w_95)) (mx2 (a := cm w_95) (by have hz := cm_lt hw_96; omega)) ?_
                  refine k_put (C := RX7) (T := TX7) (N := 9) (ci := 7) (v := .int (nI (cm w_95))) (ty := .int) X hE hP hD hS 0 rfl rfl iX7 tyX7 tyX7_ok nmX7 7 (by decide) w_371 rfl (by decide +kernel) rfl rfl (Nat.le_of_ble_eq_true rfl) [(h0, .inr (7, [.ref htb, .int (nI ln), .int (nI le), .int (nI (n8 (sgn ln tz) axv)), .int 257, .int (nI axv), .int (nI (n8 (sgn ln tz) axv - axv)), .int (nI (cm w_95)), .int (-1)])), (htb, .inl (cA, 6000, .inl tz))] rfl dX7_next_122 (fun H locs hP hD hS => ?_)
                  refine lv_aload_n hx hb dX7_next_125 rfl (lv_at hl 1 rfl) ?_
                  refine lv_aload_n hx hb dX7_next_126 rfl (lv_at hl 1 rfl) ?_
                  refine k_get (C := RX7) (T := TX7) (N := 9) (ci := 7) (v := .int (nI (cm w_95))) X hE hP 0 rfl rfl iX7 7 (by decide) w_371 rfl dX7_next_127 ?_
                  refine lv_aload_n hx hb dX7_next_130 rfl (lv_at hl 1 rfl) ?_
                  refine va_ldcS hx hb X.2.2.2.1 (e_rTape58 hE) dX7_next_131 ?_
                  refine lv_iconst (v := 3) hx hb dX7_next_133 (by decide) ?_
                  refine lv_bipush (v := 48) hx hb dX7_next_134 (by decide) ?_
                  refine kVi (n3 := 3) (As := [.ref (aK D 2), .int 3, .int 48]) (rest := [.int (nI (cm w_95)), .ref h0]) X hl.1 hE hP hD hS hA [(h0, .inr (7, [.ref htb, .int (nI ln), .int (nI le), .int (nI (n8 (sgn ln tz) axv)), .int 257, .int (nI axv), .int (nI (n8 (sgn ln tz) axv - axv)), .int (nI (cm w_95)), .int (-1)])), (htb, .inl (cA, 6000, .inl tz))] [] [0, 1] [] rfl rfl rfl (by decide +kernel) (by decide +kernel) (by decide +kernel) (c_k_wordIn2 l D cA cB h0 htb ln le (n8 (sgn ln tz) axv) 257 axv (n8 (sgn ln tz) axv - axv) (nI (cm w_95)) (-1) tz hln hle (by first | assumption | omega | decide | rfl) (by first | assumption | omega | decide | rfl) (by first | assumption | omega | decide | rfl) htz (by omega) (fun j hj => (sc_spec (P := isNc) (by decide) (sgn_TX (N := 6000) (by omega) (by decide) htz) axv).1 (axv + j) (by omega) (by have hz : n8 (sgn ln tz) axv ≤ nE (sgn ln tz) axv := Nat.min_le_left _ _; show axv + j < nE (sgn ln tz) axv; omega))) w_920 w_374 w_919 w_921 w_922 0 (ci := 7) (T := TX7) (N := 9) rfl rfl (by decide +kernel) rfl rfl (Nat.le_of_ble_eq_true rfl) ⟨(Nat.le_of_ble_eq_true rfl), (Nat.le_of_ble_eq_true rfl)⟩ ⟨(Nat.le_of_ble_eq_true rfl), (Nat.le_of_ble_eq_true rfl)⟩ dX7_next_136 (fun r W1 H locs hw hP hD hS => ?_)
                  obtain ⟨rv_123, er_125, hf_124, rfl⟩ := hw
                  have hP : va_P D classes [(h0, .inr (7, [.ref htb, .int (nI ln), .int (nI le), .int (nI (n8 (sgn ln tz) axv)), .int 257, .int (nI axv), .int (nI (n8 (sgn ln tz) axv - axv)), .int (nI (cm w_95)), .int (-1)])), (htb, .inl (cA, 6000, .inl tz))] H := hP
                  have hD : va_D A [(h0, .inr (7, [.ref htb, .int (nI ln), .int (nI le), .int (nI (n8 (sgn ln tz) axv)), .int 257, .int (nI axv), .int (nI (n8 (sgn ln tz) axv - axv)), .int (nI (cm w_95)), .int (-1)])), (htb, .inl (cA, 6000, .inl tz))] := hD
                  refine tk (y := rv_123) er_125 ?_
                  rcases hf_124 with ⟨rfl, hn_126⟩ | ⟨w_127, hw_128, ht_129, hz_130, rfl⟩
                  · skip
                    refine va_mmax hx hb (X.2.2.1.trans hl.1.symm) X.2.2.2.1 (X.2.2.2.2 _ w_923) (X.2.2.2.2 _ w_42) (X.2.2.2.2 _ w_43) (X.2.2.2.2 _ w_44) (Nat.le_of_ble_eq_true rfl) (Nat.le_of_ble_eq_true rfl) (Nat.le_of_ble_eq_true rfl) (Nat.le_of_ble_eq_true rfl) dX7_next_139 ?_
                    refine tk (y := nI (cm w_95)) (mx1 (a := cm w_95) (by have hz := cm_lt hw_96; omega)) ?_
                    refine k_put (C := RX7) (T := TX7) (N := 9) (ci := 7) (v := .int (nI (cm w_95))) (ty := .int) X hE hP hD hS 0 rfl rfl iX7 tyX7 tyX7_ok nmX7 7 (by decide) w_371 rfl (by decide +kernel) rfl rfl (Nat.le_of_ble_eq_true rfl) [(h0, .inr (7, [.ref htb, .int (nI ln), .int (nI le), .int (nI (n8 (sgn ln tz) axv)), .int 257, .int (nI axv), .int (nI (n8 (sgn ln tz) axv - axv)), .int (nI (cm w_95)), .int (-1)])), (htb, .inl (cA, 6000, .inl tz))] rfl dX7_next_142 (fun H locs hP hD hS => ?_)
                    refine lv_aload_n hx hb dX7_next_145 rfl (lv_at hl 1 rfl) ?_
                    refine lv_aload_n hx hb dX7_next_146 rfl (lv_at hl 1 rfl) ?_
                    refine k_get (C := RX7) (T := TX7) (N := 9) (ci := 7) (v := .int (nI (cm w_95))) X hE hP 0 rfl rfl iX7 7 (by decide) w_371 rfl dX7_next_147 ?_
                    refine lv_aload_n hx hb dX7_next_150 rfl (lv_at hl 1 rfl) ?_
                    refine va_ldcS hx hb X.2.2.2.1 (e_rTape60 hE) dX7_next_151 ?_
                    refine lv_iconst (v := 5) hx hb dX7_next_153 (by decide) ?_
                    refine lv_bipush (v := 80) hx hb dX7_next_154 (by decide) ?_
                    refine kVi (n3 := 3) (As := [.ref (aK D 3), .int 5, .int 80]) (rest := [.int (nI (cm w_95)), .ref h0]) X hl.1 hE hP hD hS hA [(h0, .inr (7, [.ref htb, .int (nI ln), .int (nI le), .int (nI (n8 (sgn ln tz) axv)), .int 257, .int (nI axv), .int (nI (n8 (sgn ln tz) axv - axv)), .int (nI (cm w_95)), .int (-1)])), (htb, .inl (cA, 6000, .inl tz))] [] [0, 1] [] rfl rfl rfl (by decide +kernel) (by decide +kernel) (by decide +kernel) (c_k_wordIn3 l D cA cB h0 htb ln le (n8 (sgn ln tz) axv) 257 axv (n8 (sgn ln tz) axv - axv) (nI (cm w_95)) (-1) tz hln hle (by first | assumption | omega | decide | rfl) (by first | assumption | omega | decide | rfl) (by first | assumption | omega | decide | rfl) htz (by omega) (fun j hj => (sc_spec (P := isNc) (by decide) (sgn_TX (N := 6000) (by omega) (by decide) htz) axv).1 (axv + j) (by omega) (by have hz : n8 (sgn ln tz) axv ≤ nE (sgn ln tz) axv := Nat.min_le_left _ _; show axv + j < nE (sgn ln tz) axv; omega))) w_920 w_374 w_919 w_921 w_922 0 (ci := 7) (T := TX7) (N := 9) rfl rfl (by decide +kernel) rfl rfl (Nat.le_of_ble_eq_true rfl) ⟨(Nat.le_of_ble_eq_true rfl), (Nat.le_of_ble_eq_true rfl)⟩ ⟨(Nat.le_of_ble_eq_true rfl), (Nat.le_of_ble_eq_true rfl)⟩ dX7_next_156 (fun r W1 H locs hw hP hD hS => ?_)
                    obtain ⟨rv_131, er_133, hf_132, rfl⟩ := hw
                    have hP : va_P D classes [(h0, .inr (7, [.ref htb, .int (nI ln), .int (nI le), .int (nI (n8 (sgn ln tz) axv)), .int 257, .int (nI axv), .int (nI (n8 (sgn ln tz) axv - axv)), .int (nI (cm w_95)), .int (-1)])), (htb, .inl (cA, 6000, .inl tz))] H := hP
                    have hD : va_D A [(h0, .inr (7, [.ref htb, .int (nI ln), .int (nI le), .int (nI (n8 (sgn ln tz) axv)), .int 257, .int (nI axv), .int (nI (n8 (sgn ln tz) axv - axv)), .int (nI (cm w_95)), .int (-1)])), (htb, .inl (cA, 6000, .inl tz))] := hD
                    refine tk (y := rv_131) er_133 ?_
                    rcases hf_132 with ⟨rfl, hn_134⟩ | ⟨w_135, hw_136, ht_137, hz_138, rfl⟩
                    · skip
                      refine va_mmax hx hb (X.2.2.1.trans hl.1.symm) X.2.2.2.1 (X.2.2.2.2 _ w_923) (X.2.2.2.2 _ w_42) (X.2.2.2.2 _ w_43) (X.2.2.2.2 _ w_44) (Nat.le_of_ble_eq_true rfl) (Nat.le_of_ble_eq_true rfl) (Nat.le_of_ble_eq_true rfl) (Nat.le_of_ble_eq_true rfl) dX7_next_159 ?_
                      refine tk (y := nI (cm w_95)) (mx1 (a := cm w_95) (by have hz := cm_lt hw_96; omega)) ?_
                      refine k_put (C := RX7) (T := TX7) (N := 9) (ci := 7) (v := .int (nI (cm w_95))) (ty := .int) X hE hP hD hS 0 rfl rfl iX7 tyX7 tyX7_ok nmX7 7 (by decide) w_371 rfl (by decide +kernel) rfl rfl (Nat.le_of_ble_eq_true rfl) [(h0, .inr (7, [.ref htb, .int (nI ln), .int (nI le), .int (nI (n8 (sgn ln tz) axv)), .int 257, .int (nI axv), .int (nI (n8 (sgn ln tz) axv - axv)), .int (nI (cm w_95)), .int (-1)])), (htb, .inl (cA, 6000, .inl tz))] rfl dX7_next_162 (fun H locs hP hD hS => ?_)
                      refine lv_aload_n hx hb dX7_next_165 rfl (lv_at hl 1 rfl) ?_
                      refine lv_aload_n hx hb dX7_next_166 rfl (lv_at hl 1 rfl) ?_
                      refine k_get (C := RX7) (T := TX7) (N := 9) (ci := 7) (v := .int (nI (cm w_95))) X hE hP 0 rfl rfl iX7 7 (by decide) w_371 rfl dX7_next_167 ?_
                      refine lv_iconst (v := (-1)) hx hb dX7_next_170 (by decide) ?_
                      refine lv_icmp_ne (tgt := 180) hx hb dX7_next_171 (by decide) (fun c_171 => ?_) (fun c_171 => absurd c_171 (nI_nm1 (a := cm w_95) (by omega)))
                      refine lv_sipush (v := 258) hx hb dX7_next_180 (by decide) ?_
                      refine k_put (C := RX7) (T := TX7) (N := 9) (ci := 7) (v := .int 258) (ty := .int) X hE hP hD hS 0 rfl rfl iX7 tyX7 tyX7_ok nmX7 4 (by decide) w_369 rfl (by decide +kernel) rfl rfl (Nat.le_of_ble_eq_true rfl) [(h0, .inr (7, [.ref htb, .int (nI ln), .int (nI le), .int (nI (n8 (sgn ln tz) axv)), .int 258, .int (nI axv), .int (nI (n8 (sgn ln tz) axv - axv)), .int (nI (cm w_95)), .int (-1)])), (htb, .inl (cA, 6000, .inl tz))] rfl dX7_next_183 (fun H locs hP hD hS => ?_)
                      refine lv_goto (tgt := 277) hx hb dX7_next_186 (by decide) ?_
                      rw [hQ9]
                      exact endV X hr hlocks hP hD hS dX7_next_277 ⟨(n8 (sgn ln tz) axv), 258, axv, (n8 (sgn ln tz) axv - axv), (nI (cm w_95)), (-1), (by omega), (by omega), (by omega), hf_77, (by rw [hsk]; exact Or.inr (Or.inr (Or.inr (Or.inl ⟨rfl, rfl, (by rw [esb]; exact c_84), ha_81, hb_82, by rw [(wd_of (show isW (sgn ln tz) axv (n8 (sgn ln tz) axv) w_95 from (by have y := hz_98; rw [show axv + (n8 (sgn ln tz) axv - axv) = n8 (sgn ln tz) axv by omega] at y; exact y)))]; exact hw_96, by rw [(wd_of (show isW (sgn ln tz) axv (n8 (sgn ln tz) axv) w_95 from (by have y := hz_98; rw [show axv + (n8 (sgn ln tz) axv - axv) = n8 (sgn ln tz) axv by omega] at y; exact y)))], rfl, rfl⟩)))), rfl⟩
                    · skip
                      exact absurd (isW_uniq hz_138 hz_98) (fun z => by have y := ht_137; rw [z, ht_97] at y; exact absurd y (by decide))
                  · skip
                    exact absurd (isW_uniq hz_130 hz_98) (fun z => by have y := ht_129; rw [z, ht_97] at y; exact absurd y (by decide))
              · have hcmw_87 := cm_lt hw_88
                refine lv_aload_n hx hb dX7_next_110 rfl (lv_at hl 1 rfl) ?_
                refine va_ldcS hx hb X.2.2.2.1 (e_rTape47 hE) dX7_next_111 ?_
                refine lv_iconst (v := 3) hx hb dX7_next_113 (by decide) ?_
                refine lv_bipush (v := 32) hx hb dX7_next_114 (by decide) ?_
                refine kVi (n3 := 3) (As := [.ref (aK D 1), .int 3, .int 32]) (rest := [.int (nI (cm w_87)), .ref h0]) X hl.1 hE hP hD hS hA [(h0, .inr (7, [.ref htb, .int (nI ln), .int (nI le), .int (nI (n8 (sgn ln tz) axv)), .int 257, .int (nI axv), .int (nI (n8 (sgn ln tz) axv - axv)), .int vl, .int (-1)])), (htb, .inl (cA, 6000, .inl tz))] [] [0, 1] [] rfl rfl rfl (by decide +kernel) (by decide +kernel) (by decide +kernel) (c_k_wordIn1 l D cA cB h0 htb ln le (n8 (sgn ln tz) axv) 257 axv (n8 (sgn ln tz) axv - axv) vl (-1) tz hln hle (by first | assumption | omega | decide | rfl) (by first | assumption | omega | decide | rfl) (by first | assumption | omega | decide | rfl) htz (by omega) (fun j hj => (sc_spec (P := isNc) (by decide) (sgn_TX (N := 6000) (by omega) (by decide) htz) axv).1 (axv + j) (by omega) (by have hz : n8 (sgn ln tz) axv ≤ nE (sgn ln tz) axv := Nat.min_le_left _ _; show axv + j < nE (sgn ln tz) axv; omega))) w_920 w_374 w_919 w_921 w_922 0 (ci := 7) (T := TX7) (N := 9) rfl rfl (by decide +kernel) rfl rfl (Nat.le_of_ble_eq_true rfl) ⟨(Nat.le_of_ble_eq_true rfl), (Nat.le_of_ble_eq_true rfl)⟩ ⟨(Nat.le_of_ble_eq_true rfl), (Nat.le_of_ble_eq_true rfl)⟩ dX7_next_116 (fun r W1 H locs hw hP hD hS => ?_)
                obtain ⟨rv_139, er_141, hf_140, rfl⟩ := hw
                have hP : va_P D classes [(h0, .inr (7, [.ref htb, .int (nI ln), .int (nI le), .int (nI (n8 (sgn ln tz) axv)), .int 257, .int (nI axv), .int (nI (n8 (sgn ln tz) axv - axv)), .int vl, .int (-1)])), (htb, .inl (cA, 6000, .inl tz))] H := hP
                have hD : va_D A [(h0, .inr (7, [.ref htb, .int (nI ln), .int (nI le), .int (nI (n8 (sgn ln tz) axv)), .int 257, .int (nI axv), .int (nI (n8 (sgn ln tz) axv - axv)), .int vl, .int (-1)])), (htb, .inl (cA, 6000, .inl tz))] := hD
                refine tk (y := rv_139) er_141 ?_
                rcases hf_140 with ⟨rfl, hn_142⟩ | ⟨w_143, hw_144, ht_145, hz_146, rfl⟩
                · skip
                  refine va_mmax hx hb (X.2.2.1.trans hl.1.symm) X.2.2.2.1 (X.2.2.2.2 _ w_923) (X.2.2.2.2 _ w_42) (X.2.2.2.2 _ w_43) (X.2.2.2.2 _ w_44) (Nat.le_of_ble_eq_true rfl) (Nat.le_of_ble_eq_true rfl) (Nat.le_of_ble_eq_true rfl) (Nat.le_of_ble_eq_true rfl) dX7_next_119 ?_
                  refine tk (y := nI (cm w_87)) (mx1 (a := cm w_87) (by have hz := cm_lt hw_88; omega)) ?_
                  refine k_put (C := RX7) (T := TX7) (N := 9) (ci := 7) (v := .int (nI (cm w_87))) (ty := .int) X hE hP hD hS 0 rfl rfl iX7 tyX7 tyX7_ok nmX7 7 (by decide) w_371 rfl (by decide +kernel) rfl rfl (Nat.le_of_ble_eq_true rfl) [(h0, .inr (7, [.ref htb, .int (nI ln), .int (nI le), .int (nI (n8 (sgn ln tz) axv)), .int 257, .int (nI axv), .int (nI (n8 (sgn ln tz) axv - axv)), .int (nI (cm w_87)), .int (-1)])), (htb, .inl (cA, 6000, .inl tz))] rfl dX7_next_122 (fun H locs hP hD hS => ?_)
                  refine lv_aload_n hx hb dX7_next_125 rfl (lv_at hl 1 rfl) ?_
                  refine lv_aload_n hx hb dX7_next_126 rfl (lv_at hl 1 rfl) ?_
                  refine k_get (C := RX7) (T := TX7) (N := 9) (ci := 7) (v := .int (nI (cm w_87))) X hE hP 0 rfl rfl iX7 7 (by decide) w_371 rfl dX7_next_127 ?_
                  refine lv_aload_n hx hb dX7_next_130 rfl (lv_at hl 1 rfl) ?_
                  refine va_ldcS hx hb X.2.2.2.1 (e_rTape58 hE) dX7_next_131 ?_
                  refine lv_iconst (v := 3) hx hb dX7_next_133 (by decide) ?_
                  refine lv_bipush (v := 48) hx hb dX7_next_134 (by decide) ?_
                  refine kVi (n3 := 3) (As := [.ref (aK D 2), .int 3, .int 48]) (rest := [.int (nI (cm w_87)), .ref h0]) X hl.1 hE hP hD hS hA [(h0, .inr (7, [.ref htb, .int (nI ln), .int (nI le), .int (nI (n8 (sgn ln tz) axv)), .int 257, .int (nI axv), .int (nI (n8 (sgn ln tz) axv - axv)), .int (nI (cm w_87)), .int (-1)])), (htb, .inl (cA, 6000, .inl tz))] [] [0, 1] [] rfl rfl rfl (by decide +kernel) (by decide +kernel) (by decide +kernel) (c_k_wordIn2 l D cA cB h0 htb ln le (n8 (sgn ln tz) axv) 257 axv (n8 (sgn ln tz) axv - axv) (nI (cm w_87)) (-1) tz hln hle (by first | assumption | omega | decide | rfl) (by first | assumption | omega | decide | rfl) (by first | assumption | omega | decide | rfl) htz (by omega) (fun j hj => (sc_spec (P := isNc) (by decide) (sgn_TX (N := 6000) (by omega) (by decide) htz) axv).1 (axv + j) (by omega) (by have hz : n8 (sgn ln tz) axv ≤ nE (sgn ln tz) axv := Nat.min_le_left _ _; show axv + j < nE (sgn ln tz) axv; omega))) w_920 w_374 w_919 w_921 w_922 0 (ci := 7) (T := TX7) (N := 9) rfl rfl (by decide +kernel) rfl rfl (Nat.le_of_ble_eq_true rfl) ⟨(Nat.le_of_ble_eq_true rfl), (Nat.le_of_ble_eq_true rfl)⟩ ⟨(Nat.le_of_ble_eq_true rfl), (Nat.le_of_ble_eq_true rfl)⟩ dX7_next_136 (fun r W1 H locs hw hP hD hS => ?_)
                  obtain ⟨rv_147, er_149, hf_148, rfl⟩ := hw
                  have hP : va_P D classes [(h0, .inr (7, [.ref htb, .int (nI ln), .int (nI le), .int (nI (n8 (sgn ln tz) axv)), .int 257, .int (nI axv), .int (nI (n8 (sgn ln tz) axv - axv)), .int (nI (cm w_87)), .int (-1)])), (htb, .inl (cA, 6000, .inl tz))] H := hP
                  have hD : va_D A [(h0, .inr (7, [.ref htb, .int (nI ln), .int (nI le), .int (nI (n8 (sgn ln tz) axv)), .int 257, .int (nI axv), .int (nI (n8 (sgn ln tz) axv - axv)), .int (nI (cm w_87)), .int (-1)])), (htb, .inl (cA, 6000, .inl tz))] := hD
                  refine tk (y := rv_147) er_149 ?_
                  rcases hf_148 with ⟨rfl, hn_150⟩ | ⟨w_151, hw_152, ht_153, hz_154, rfl⟩
                  · skip
                    refine va_mmax hx hb (X.2.2.1.trans hl.1.symm) X.2.2.2.1 (X.2.2.2.2 _ w_923) (X.2.2.2.2 _ w_42) (X.2.2.2.2 _ w_43) (X.2.2.2.2 _ w_44) (Nat.le_of_ble_eq_true rfl) (Nat.le_of_ble_eq_true rfl) (Nat.le_of_ble_eq_true rfl) (Nat.le_of_ble_eq_true rfl) dX7_next_139 ?_
                    refine tk (y := nI (cm w_87)) (mx1 (a := cm w_87) (by have hz := cm_lt hw_88; omega)) ?_
                    refine k_put (C := RX7) (T := TX7) (N := 9) (ci := 7) (v := .int (nI (cm w_87))) (ty := .int) X hE hP hD hS 0 rfl rfl iX7 tyX7 tyX7_ok nmX7 7 (by decide) w_371 rfl (by decide +kernel) rfl rfl (Nat.le_of_ble_eq_true rfl) [(h0, .inr (7, [.ref htb, .int (nI ln), .int (nI le), .int (nI (n8 (sgn ln tz) axv)), .int 257, .int (nI axv), .int (nI (n8 (sgn ln tz) axv - axv)), .int (nI (cm w_87)), .int (-1)])), (htb, .inl (cA, 6000, .inl tz))] rfl dX7_next_142 (fun H locs hP hD hS => ?_)
                    refine lv_aload_n hx hb dX7_next_145 rfl (lv_at hl 1 rfl) ?_
                    refine lv_aload_n hx hb dX7_next_146 rfl (lv_at hl 1 rfl) ?_
                    refine k_get (C := RX7) (T := TX7) (N := 9) (ci := 7) (v := .int (nI (cm w_87))) X hE hP 0 rfl rfl iX7 7 (by decide) w_371 rfl dX7_next_147 ?_
                    refine lv_aload_n hx hb dX7_next_150 rfl (lv_at hl 1 rfl) ?_
                    refine va_ldcS hx hb X.2.2.2.1 (e_rTape60 hE) dX7_next_151 ?_
                    refine lv_iconst (v := 5) hx hb dX7_next_153 (by decide) ?_
                    refine lv_bipush (v := 80) hx hb dX7_next_154 (by decide) ?_
                    refine kVi (n3 := 3) (As := [.ref (aK D 3), .int 5, .int 80]) (rest := [.int (nI (cm w_87)), .ref h0]) X hl.1 hE hP hD hS hA [(h0, .inr (7, [.ref htb, .int (nI ln), .int (nI le), .int (nI (n8 (sgn ln tz) axv)), .int 257, .int (nI axv), .int (nI (n8 (sgn ln tz) axv - axv)), .int (nI (cm w_87)), .int (-1)])), (htb, .inl (cA, 6000, .inl tz))] [] [0, 1] [] rfl rfl rfl (by decide +kernel) (by decide +kernel) (by decide +kernel) (c_k_wordIn3 l D cA cB h0 htb ln le (n8 (sgn ln tz) axv) 257 axv (n8 (sgn ln tz) axv - axv) (nI (cm w_87)) (-1) tz hln hle (by first | assumption | omega | decide | rfl) (by first | assumption | omega | decide | rfl) (by first | assumption | omega | decide | rfl) htz (by omega) (fun j hj => (sc_spec (P := isNc) (by decide) (sgn_TX (N := 6000) (by omega) (by decide) htz) axv).1 (axv + j) (by omega) (by have hz : n8 (sgn ln tz) axv ≤ nE (sgn ln tz) axv := Nat.min_le_left _ _; show axv + j < nE (sgn ln tz) axv; omega))) w_920 w_374 w_919 w_921 w_922 0 (ci := 7) (T := TX7) (N := 9) rfl rfl (by decide +kernel) rfl rfl (Nat.le_of_ble_eq_true rfl) ⟨(Nat.le_of_ble_eq_true rfl), (Nat.le_of_ble_eq_true rfl)⟩ ⟨(Nat.le_of_ble_eq_true rfl), (Nat.le_of_ble_eq_true rfl)⟩ dX7_next_156 (fun r W1 H locs hw hP hD hS => ?_)
                    obtain ⟨rv_155, er_157, hf_156, rfl⟩ := hw
                    have hP : va_P D classes [(h0, .inr (7, [.ref htb, .int (nI ln), .int (nI le), .int (nI (n8 (sgn ln tz) axv)), .int 257, .int (nI axv), .int (nI (n8 (sgn ln tz) axv - axv)), .int (nI (cm w_87)), .int (-1)])), (htb, .inl (cA, 6000, .inl tz))] H := hP
                    have hD : va_D A [(h0, .inr (7, [.ref htb, .int (nI ln), .int (nI le), .int (nI (n8 (sgn ln tz) axv)), .int 257, .int (nI axv), .int (nI (n8 (sgn ln tz) axv - axv)), .int (nI (cm w_87)), .int (-1)])), (htb, .inl (cA, 6000, .inl tz))] := hD
                    refine tk (y := rv_155) er_157 ?_
                    rcases hf_156 with ⟨rfl, hn_158⟩ | ⟨w_159, hw_160, ht_161, hz_162, rfl⟩
                    · skip
                      refine va_mmax hx hb (X.2.2.1.trans hl.1.symm) X.2.2.2.1 (X.2.2.2.2 _ w_923) (X.2.2.2.2 _ w_42) (X.2.2.2.2 _ w_43) (X.2.2.2.2 _ w_44) (Nat.le_of_ble_eq_true rfl) (Nat.le_of_ble_eq_true rfl) (Nat.le_of_ble_eq_true rfl) (Nat.le_of_ble_eq_true rfl) dX7_next_159 ?_
                      refine tk (y := nI (cm w_87)) (mx1 (a := cm w_87) (by have hz := cm_lt hw_88; omega)) ?_
                      refine k_put (C := RX7) (T := TX7) (N := 9) (ci := 7) (v := .int (nI (cm w_87))) (ty := .int) X hE hP hD hS 0 rfl rfl iX7 tyX7 tyX7_ok nmX7 7 (by decide) w_371 rfl (by decide +kernel) rfl rfl (Nat.le_of_ble_eq_true rfl) [(h0, .inr (7, [.ref htb, .int (nI ln), .int (nI le), .int (nI (n8 (sgn ln tz) axv)), .int 257, .int (nI axv), .int (nI (n8 (sgn ln tz) axv - axv)), .int (nI (cm w_87)), .int (-1)])), (htb, .inl (cA, 6000, .inl tz))] rfl dX7_next_162 (fun H locs hP hD hS => ?_)
                      refine lv_aload_n hx hb dX7_next_165 rfl (lv_at hl 1 rfl) ?_
                      refine lv_aload_n hx hb dX7_next_166 rfl (lv_at hl 1 rfl) ?_
                      refine k_get (C := RX7) (T := TX7) (N := 9) (ci := 7) (v := .int (nI (cm w_87))) X hE hP 0 rfl rfl iX7 7 (by decide) w_371 rfl dX7_next_167 ?_
                      refine lv_iconst (v := (-1)) hx hb dX7_next_170 (by decide) ?_
                      refine lv_icmp_ne (tgt := 180) hx hb dX7_next_171 (by decide) (fun c_171 => ?_) (fun c_171 => absurd c_171 (nI_nm1 (a := cm w_87) (by omega)))
                      refine lv_sipush (v := 258) hx hb dX7_next_180 (by decide) ?_
                      refine k_put (C := RX7) (T := TX7) (N := 9) (ci := 7) (v := .int 258) (ty := .int) X hE hP hD hS 0 rfl rfl iX7 tyX7 tyX7_ok nmX7 4 (by decide) w_369 rfl (by decide +kernel) rfl rfl (Nat.le_of_ble_eq_true rfl) [(h0, .inr (7, [.ref htb, .int (nI ln), .int (nI le), .int (nI (n8 (sgn ln tz) axv)), .int 258, .int (nI axv), .int (nI (n8 (sgn ln tz) axv - axv)), .int (nI (cm w_87)), .int (-1)])), (htb, .inl (cA, 6000, .inl tz))] rfl dX7_next_183 (fun H locs hP hD hS => ?_)
                      refine lv_goto (tgt := 277) hx hb dX7_next_186 (by decide) ?_
                      rw [hQ9]
                      exact endV X hr hlocks hP hD hS dX7_next_277 ⟨(n8 (sgn ln tz) axv), 258, axv, (n8 (sgn ln tz) axv - axv), (nI (cm w_87)), (-1), (by omega), (by omega), (by omega), hf_77, (by rw [hsk]; exact Or.inr (Or.inr (Or.inr (Or.inl ⟨rfl, rfl, (by rw [esb]; exact c_84), ha_81, hb_82, by rw [(wd_of (show isW (sgn ln tz) axv (n8 (sgn ln tz) axv) w_87 from (by have y := hz_90; rw [show axv + (n8 (sgn ln tz) axv - axv) = n8 (sgn ln tz) axv by omega] at y; exact y)))]; exact hw_88, by rw [(wd_of (show isW (sgn ln tz) axv (n8 (sgn ln tz) axv) w_87 from (by have y := hz_90; rw [show axv + (n8 (sgn ln tz) axv - axv) = n8 (sgn ln tz) axv by omega] at y; exact y)))], rfl, rfl⟩)))), rfl⟩
                    · skip
                      exact absurd (isW_uniq hz_162 hz_90) (fun z => by have y := ht_161; rw [z, ht_89] at y; exact absurd y (by decide))
                  · skip
                    exact absurd (isW_uniq hz_154 hz_90) (fun z => by have y := ht_153; rw [z, ht_89] at y; exact absurd y (by decide))
                · skip
                  exact absurd (isW_uniq hz_146 hz_90) (fun z => by have y := ht_145; rw [z, ht_89] at y; exact absurd y (by decide))
        · have gc_22 : axv < ln := sgn_lt (f := tz) (by rw [c_22]; decide)
          refine lv_aload_n hx hb dX7_next_25 rfl (lv_at hl 0 rfl) ?_
          refine lv_dup hx hb dX7_next_26 rfl ?_
          refine k_get (C := RX7) (T := TX7) (N := 9) (ci := 7) (v := .int (nI axv)) X hE hP 0 rfl rfl iX7 3 (by decide) w_366 rfl dX7_next_27 ?_
          refine lv_iconst (v := 1) hx hb dX7_next_30 (by decide) ?_
          refine lv_iadd hx hb dX7_next_31 ?_
          refine tk (y := nI (axv + 1)) (nI_add axv 1) ?_
          refine k_put (C := RX7) (T := TX7) (N := 9) (ci := 7) (v := .int (nI (axv + 1))) (ty := .int) X hE hP hD hS 0 rfl rfl iX7 tyX7 tyX7_ok nmX7 3 (by decide) w_366 rfl (by decide +kernel) rfl rfl (Nat.le_of_ble_eq_true rfl) [(h0, .inr (7, [.ref htb, .int (nI ln), .int (nI le), .int (nI (axv + 1)), .int kd, .int (nI pl), .int (nI lt), .int vl, .int ms])), (htb, .inl (cA, 6000, .inl tz))] rfl dX7_next_32 (fun H locs hP hD hS => ?_)
          refine lv_goto (tgt := 0) hx hb dX7_next_35 (by decide) ?_
          exact ih_0 (axv + 1) (by omega) (by first | assumption | omega) (by first | assumption | omega) (bl_next (s := (sgn ln tz)) (P := fun c => c = 32) hbl c_22) (by omega) _ _ hP hD hS ls hl
  exact loop_0 6002 ax hax (by first | assumption | omega) hLo.1 (fun j h1 h2 => absurd h2 (by omega)) (by omega) _ _ hP hD hS ls hl
