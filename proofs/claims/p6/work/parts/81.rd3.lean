theorem inM_1 {a lo hi : Int32} (h1 : ¬ a < lo) (h2 : ¬ hi < a) : ¬ inM a lo hi = 0 := by unfold inM; rw [if_neg h1, if_neg h2]; decide
theorem inM_l {a lo hi : Int32} (h1 : a < lo) : inM a lo hi = 0 := by unfold inM; rw [if_pos h1]
theorem inM_h {a lo hi : Int32} (h2 : hi < a) : inM a lo hi = 0 := by unfold inM; rw [if_pos h2]; split <;> rfl
theorem dv1 {a : Int32} (h : ¬ inM a 48 57 = 0) : ∃ d : Nat, d < 10 ∧ a - 48 = nI d := by
  obtain ⟨j, h1, h2, rfl⟩ := inM_rng (lo := 48) (hi := 57) (by decide) (by decide) h
  exact ⟨j - 48, by omega, pk_sub (b := 48) h1⟩
theorem dv2 {a : Int32} (h : ¬ inM a 97 102 = 0) : ∃ d : Nat, 10 ≤ d ∧ d < 16 ∧ a - 97 + 10 = nI d := by
  obtain ⟨j, h1, h2, rfl⟩ := inM_rng (lo := 97) (hi := 102) (by decide) (by decide) h
  refine ⟨j - 97 + 10, by omega, by omega, ?_⟩
  rw [show nI j - 97 = nI (j - 97) from pk_sub (b := 97) h1]
  exact nI_add (j - 97) 10
theorem dgt_no {b c : Int32} (h1 : inM c 48 57 = 0) (h2 : inM c 97 102 = 0) : ¬ dgt b c = true := by unfold dgt; rw [h1, h2]; simp
theorem eol_in {c lo hi : Int32} (h : c = 10 ∨ c < 0) (hl : 10 < lo) : inM c lo hi = 0 := by
  rcases h with rfl | h
  · exact inM_l hl
  · exact inM_l (Int32.lt_trans h (Int32.lt_trans (by decide) hl))
theorem eol_dgt {b c : Int32} (h : c = 10 ∨ c < 0) : ¬ dgt b c = true := dgt_no (eol_in h (by decide)) (eol_in h (by decide))
theorem eol_nc {c : Int32} (h : c = 10 ∨ c < 0) : ¬ isNc c = true := isNc_no (eol_in h (by decide)) (eol_in h (by decide))
theorem sgn_nn {e k : Nat} {f : Nat → Int32} (h : k < e) (hf : ∃ j : Nat, j < 256 ∧ f k = nI j) : ¬ sgn e f k < 0 := by
  obtain ⟨j, hj, e1⟩ := hf
  rw [sgn_in h, e1]; exact nI_nneg (by omega)
theorem nI_nm1 {a : Nat} (h : a < 2 ^ 31) : ¬ nI a = -1 := fun z => nI_nneg h (by rw [z]; decide)
theorem mx1 {a : Nat} (h : a < 2 ^ 31) : (if nI a < -1 then -1 else nI a) = nI a := if_neg (fun z => nI_nneg h (Int32.lt_trans z (by decide)))
theorem mx2 {a : Nat} (h : a < 2 ^ 31) : (if -1 < nI a then nI a else -1) = nI a := by
  by_cases z : (-1 : Int32) < nI a
  · rw [if_pos z]
  · exact absurd (Int32.lt_of_lt_of_le (by decide : (-1 : Int32) < 0) (nI_pos' h)) z
/-! the class's tokens -/
def cm (w : Nat) : Nat := if w < 5 then w + 80 else if w < 48 then w - 5 else w - 4
def sbN (i j : Nat) : Nat := ((sbyt.getD i []).getD j 0).toNatClampNeg
theorem sbN_all : ∀ i, i < 5 → ∀ j, j < sl i → sby i (nI j) = nI (sbN i j) ∧ sby i (nI j) &&& 255 = nI (sbN i j) ∧ sbN i j < 128 := by decide +kernel
def wdt (i : Nat) : Nat := if i = 3 then 5 else 3
def wno (i k : Nat) : Nat := if i = 0 then k + 5 else if i = 1 then (if k < 11 then k + 37 else k + 36) else if i = 2 then k + 52 else k
def tabo (w : Nat) : Nat := if w < 5 then 3 else if w < 37 then 0 else if w < 52 then 1 else 2
def kof (w : Nat) : Nat := if w < 5 then w else if w < 37 then w - 5 else if w < 48 then w - 37 else if w < 52 then w - 36 else w - 52
theorem tab_i1 : ∀ i, i < 4 → ∀ k, k < 33 → (wdt i * (k + 1) ≤ sl i ∧ ¬ (i = 1 ∧ k = 11)) → (wno i k < 84 ∧ tabo (wno i k) = i ∧ wl (wno i k) ≤ wdt i) := by decide +kernel
theorem tab_i2 : ∀ i, i < 4 → ∀ k, k < 33 → (wdt i * (k + 1) ≤ sl i ∧ ¬ (i = 1 ∧ k = 11)) → ∀ j, j < wl (wno i k) → sbN i (wdt i * k + j) = wc (wno i k) j := by decide +kernel
theorem tab_i3 : ∀ i, i < 4 → ∀ k, k < 33 → (wdt i * (k + 1) ≤ sl i ∧ ¬ (i = 1 ∧ k = 11)) → ∀ j, j < wdt i → (wl (wno i k) ≤ j → sbN i (wdt i * k + j) = 32) := by decide +kernel
theorem tab_in : ∀ i, i < 4 → ∀ k, k < 33 → wdt i * (k + 1) ≤ sl i → ¬ (i = 1 ∧ k = 11) → wno i k < 84 ∧ tabo (wno i k) = i ∧ wl (wno i k) ≤ wdt i ∧ (∀ j, j < wl (wno i k) → sbN i (wdt i * k + j) = wc (wno i k) j) ∧ (∀ j, j < wdt i → wl (wno i k) ≤ j → sbN i (wdt i * k + j) = 32) := fun i hi k hk h1 h2 => ⟨(tab_i1 i hi k hk ⟨h1, h2⟩).1, (tab_i1 i hi k hk ⟨h1, h2⟩).2.1, (tab_i1 i hi k hk ⟨h1, h2⟩).2.2, tab_i2 i hi k hk ⟨h1, h2⟩, tab_i3 i hi k hk ⟨h1, h2⟩⟩
theorem tab_out : ∀ w, w < 84 → tabo w < 4 ∧ kof w < 33 ∧ wdt (tabo w) * (kof w + 1) ≤ sl (tabo w) ∧ ¬ (tabo w = 1 ∧ kof w = 11) ∧ wno (tabo w) (kof w) = w := by decide +kernel
theorem tab_dash : sbN 1 33 = 45 := by decide +kernel
def mtc (s : Nat → Int32) (i k pl lt : Nat) : Prop := (∀ j, j < lt → nI (sbN i (wdt i * k + j)) = s (pl + j)) ∧ (lt = wdt i ∨ sbN i (wdt i * k + lt) = 32)
theorem nc_32 : isNc (nI 32) = false := by decide
theorem nc_45 : isNc (nI 45) = false := by decide
theorem mt_isW {s : Nat → Int32} {i k pl lt : Nat} (hi : i < 4) (hk : wdt i * (k + 1) ≤ sl i) (h3 : 3 ≤ lt) (h5 : lt ≤ wdt i) (hn : ∀ j, j < lt → isNc (s (pl + j)) = true) (h : mtc s i k pl lt) : tabo (wno i k) = i ∧ isW s pl (pl + lt) (wno i k) := by
  have hsl := sl_le i (by omega)
  have hw3 : 3 ≤ wdt i := by unfold wdt; split <;> omega
  have hk33 : k < 33 := by
    rcases Nat.lt_or_ge k 33 with z | z
    · exact z
    · have : 3 * 34 ≤ wdt i * (k + 1) := Nat.mul_le_mul hw3 (by omega)
      omega
  by_cases hd : i = 1 ∧ k = 11
  · obtain ⟨rfl, rfl⟩ := hd
    have h0 := h.1 0 (by omega)
    have e : sbN 1 (wdt 1 * 11 + 0) = 45 := tab_dash
    rw [e] at h0
    have h1 := hn 0 (by omega)
    rw [← h0, nc_45] at h1
    exact absurd h1 (by decide)
  · obtain ⟨t1, t2, t3, t4, t5⟩ := tab_in i hi k hk33 hk hd
    have hr := wl_rng _ t1
    refine ⟨t2, t1, ?_, ?_⟩
    · rcases Nat.lt_trichotomy lt (wl (wno i k)) with z | z | z
      · rcases h.2 with y | y
        · omega
        · rw [t4 lt z] at y
          have := wc_rng _ t1 lt z
          omega
      · rw [z]
      · have e := t5 (wl (wno i k)) (by omega) (Nat.le_refl _)
        have h0 := h.1 (wl (wno i k)) z
        rw [e] at h0
        have h1 := hn (wl (wno i k)) z
        rw [← h0, nc_32] at h1
        exact absurd h1 (by decide)
    · intro j hj
      have hl : wl (wno i k) ≤ lt := by
        rcases Nat.lt_or_ge lt (wl (wno i k)) with z | z
        · rcases h.2 with y | y
          · omega
          · rw [t4 lt z] at y
            have := wc_rng _ t1 lt z
            omega
        · exact z
      rw [← h.1 j (by omega), t4 j hj]
theorem isW_mt {s : Nat → Int32} {pl lt w : Nat} (h : isW s pl (pl + lt) w) : wdt (tabo w) * (kof w + 1) ≤ sl (tabo w) ∧ 3 ≤ lt ∧ lt ≤ wdt (tabo w) ∧ mtc s (tabo w) (kof w) pl lt := by
  obtain ⟨h1, h2, h3⟩ := h
  obtain ⟨t1, t2, t3, t4, t5⟩ := tab_out w h1
  obtain ⟨u1, u2, u3, u4, u5⟩ := tab_in (tabo w) t1 (kof w) t2 t3 t4
  rw [t5] at u1 u2 u3 u4 u5
  have hl : lt = wl w := by omega
  subst hl
  have hr := wl_rng w h1
  refine ⟨t3, hr.1, u3, fun j hj => ?_, ?_⟩
  · rw [u4 j hj]; exact (h3 j hj).symm
  · rcases Nat.lt_or_ge (wl w) (wdt (tabo w)) with z | z
    · exact Or.inr (u5 (wl w) z (Nat.le_refl _))
    · exact Or.inl (by omega)
theorem cm_no : ∀ i, i < 4 → ∀ k, k < 33 → wdt i * (k + 1) ≤ sl i → ¬ (i = 1 ∧ k = 11) → cm (wno i k) = (if i = 0 then 0 else if i = 1 then 32 else if i = 2 then 48 else 80) + k := by decide +kernel
def isMk (c : Int32) : Prop := c = 58 ∨ c = 61 ∨ c = 59 ∨ c = 44 ∨ c = 35 ∨ c = 60 ∨ c = 40 ∨ c = 41 ∨ c = 43 ∨ c = 45 ∨ c = 37 ∨ c = 38 ∨ c = 46 ∨ c = 34
/-- the rest of a line, from ax on; le is its end -/
def LNo (s : Nat → Int32) (le ax : Nat) : Prop := ax ≤ le ∧ (s le = 10 ∨ s le < 0) ∧ ∀ j, ax ≤ j → j < le → ¬ (s j = 10 ∨ s j < 0)
theorem LNo_up {s : Nat → Int32} {le ax ay : Nat} (h : LNo s le ax) (h1 : ax ≤ ay) (h2 : ay ≤ le) : LNo s le ay := ⟨h2, h.2.1, fun j j1 j2 => h.2.2 j (by omega) j2⟩
abbrev xy (s : Nat → Int32) (q : Nat) : Prop := n8 s q = q + 1 ∧ (s q = 120 ∨ s q = 121)
/-- the token at q -/
def TK (s : Nat → Int32) (q : Nat) (kd : Int32) (pl lt : Nat) (vl ms : Int32) (ax : Nat) : Prop :=
  (kd = 256 ∧ ms = -1 ∧ (s q = 10 ∨ s q < 0) ∧ ax = q)
  ∨ (kd = 260 ∧ ms = -1 ∧ ¬ inM (s q) 97 122 = 0 ∧ isNc (s (n8 s q)) = true)
  ∨ (kd = s q ∧ ms = -1 ∧ xy s q ∧ ax = q + 1 ∧ pl = q)
  ∨ (kd = 258 ∧ ms = -1 ∧ ¬ inM (s q) 97 122 = 0 ∧ ¬ isNc (s (n8 s q)) = true ∧ ¬ xy s q ∧ wd s q (n8 s q) < 84 ∧ vl = nI (cm (wd s q (n8 s q))) ∧ ax = n8 s q ∧ pl = q)
  ∨ (kd = 257 ∧ ms = -1 ∧ ¬ inM (s q) 97 122 = 0 ∧ ¬ isNc (s (n8 s q)) = true ∧ ¬ xy s q ∧ ¬ wd s q (n8 s q) < 84 ∧ ax = n8 s q ∧ pl = q ∧ lt = n8 s q - q)
  ∨ (kd = 259 ∧ ms = -1 ∧ ¬ inM (s q) 48 57 = 0 ∧ ax = (num s 10 5 q 0).1 ∧ vl = (num s 10 5 q 0).2 ∧ pl = q)
  ∨ (kd = 259 ∧ ms = -1 ∧ s q = 36 ∧ dgt 16 (s (q + 1)) = true ∧ ax = (num s 16 4 (q + 1) 0).1 ∧ vl = (num s 16 4 (q + 1) 0).2 ∧ pl = q)
  ∨ (kd = 259 ∧ ¬ ms = -1 ∧ s q = 36 ∧ ¬ dgt 16 (s (q + 1)) = true)
  ∨ (kd = 259 ∧ ms = -1 ∧ s q = 39 ∧ ¬ inM (s (q + 1)) 32 126 = 0 ∧ ax = q + 2 ∧ vl = s (q + 1) ∧ pl = q)
  ∨ (kd = 259 ∧ ¬ ms = -1 ∧ s q = 39 ∧ inM (s (q + 1)) 32 126 = 0)
  ∨ (kd = s q ∧ ms = -1 ∧ isMk (s q) ∧ ax = q + 1 ∧ pl = q)
  ∨ (kd = 260 ∧ ms = -1 ∧ inM (s q) 97 122 = 0 ∧ inM (s q) 48 57 = 0 ∧ ¬ s q = 36 ∧ ¬ s q = 39 ∧ ¬ isMk (s q) ∧ ¬ (s q = 10 ∨ s q < 0) ∧ ¬ s q = 32)
theorem mk_facts {c : Int32} (h : isMk c) : ¬ c = 256 ∧ ¬ c = 257 ∧ ¬ c = 258 ∧ ¬ c = 259 ∧ ¬ c = 260 ∧ inM c 97 122 = 0 ∧ inM c 48 57 = 0 ∧ ¬ c = 36 ∧ ¬ c = 39 ∧ ¬ c = 120 ∧ ¬ c = 121 ∧ ¬ (c = 10 ∨ c < 0) := by
  rcases h with rfl | rfl | rfl | rfl | rfl | rfl | rfl | rfl | rfl | rfl | rfl | rfl | rfl | rfl <;> decide
theorem let_x {c : Int32} (h : ¬ inM c 97 122 = 0) : inM c 48 57 = 0 ∧ ¬ c = 36 ∧ ¬ c = 39 ∧ ¬ c = 46 ∧ ¬ (c = 10 ∨ c < 0) := by
  obtain ⟨h1, h2⟩ := inM_spl h
  have h3 : (57 : Int32) < c := Int32.lt_of_lt_of_le (by decide) (Int32.not_lt.mp h1)
  refine ⟨?_, fun q => h (by rw [q]; decide), fun q => h (by rw [q]; decide), fun q => h (by rw [q]; decide), fun q => ?_⟩
  · unfold inM
    rw [if_pos h3]
    split <;> rfl
  · rcases q with q | q
    · exact h (by rw [q]; decide)
    · exact h1 (Int32.lt_trans q (by decide))
theorem dig_x {c : Int32} (h : ¬ inM c 48 57 = 0) : inM c 97 122 = 0 ∧ ¬ c = 36 ∧ ¬ c = 39 ∧ ¬ c = 46 ∧ ¬ (c = 10 ∨ c < 0) ∧ ¬ isMk c := by
  obtain ⟨h1, h2⟩ := inM_spl h
  have h3 : c < (97 : Int32) := Int32.lt_of_le_of_lt (Int32.not_lt.mp h2) (by decide)
  refine ⟨by unfold inM; rw [if_pos h3], fun q => h (by rw [q]; decide), fun q => h (by rw [q]; decide), fun q => h (by rw [q]; decide), fun q => ?_, fun q => h (mk_facts q).2.2.2.2.2.2.1⟩
  rcases q with q | q
  · exact h (by rw [q]; decide)
  · exact h1 (Int32.lt_trans q (by decide))
theorem xy_let {s : Nat → Int32} {q : Nat} (h : xy s q) : ¬ inM (s q) 97 122 = 0 := by
  rcases h.2 with z | z <;> rw [z] <;> decide
theorem TK_mk {s : Nat → Int32} {q : Nat} {kd : Int32} {pl lt : Nat} {vl ms : Int32} {ax : Nat} (h : TK s q kd pl lt vl ms ax) {c : Int32} (hc : isMk c) : kd = c ↔ s q = c := by
  obtain ⟨a1, a2, a3, a4, a5, a6, a7, a8, a9, a10, a11, a12⟩ := mk_facts hc
  rcases h with h | h | h | h | h | h | h | h | h | h | h | h
  · exact ⟨fun z => absurd (z.symm.trans h.1) a1, fun z => absurd h.2.2.1 (by rw [z]; exact a12)⟩
  · exact ⟨fun z => absurd (z.symm.trans h.1) a5, fun z => absurd a6 (by rw [← z]; exact h.2.2.1)⟩
  · rw [h.1]
  · exact ⟨fun z => absurd (z.symm.trans h.1) a3, fun z => absurd a6 (by rw [← z]; exact h.2.2.1)⟩
  · exact ⟨fun z => absurd (z.symm.trans h.1) a2, fun z => absurd a6 (by rw [← z]; exact h.2.2.1)⟩
  · exact ⟨fun z => absurd (z.symm.trans h.1) a4, fun z => absurd a7 (by rw [← z]; exact h.2.2.1)⟩
  · exact ⟨fun z => absurd (z.symm.trans h.1) a4, fun z => absurd (z.symm.trans h.2.2.1) a8⟩
  · exact ⟨fun z => absurd (z.symm.trans h.1) a4, fun z => absurd (z.symm.trans h.2.2.1) a8⟩
  · exact ⟨fun z => absurd (z.symm.trans h.1) a4, fun z => absurd (z.symm.trans h.2.2.1) a9⟩
  · exact ⟨fun z => absurd (z.symm.trans h.1) a4, fun z => absurd (z.symm.trans h.2.2.1) a9⟩
  · rw [h.1]
  · exact ⟨fun z => absurd (z.symm.trans h.1) a5, fun z => absurd hc (by rw [← z]; exact h.2.2.2.2.2.2.1)⟩
theorem TK_mx {s : Nat → Int32} {q : Nat} {kd : Int32} {pl lt : Nat} {vl ms : Int32} {ax : Nat} (h : TK s q kd pl lt vl ms ax) {c : Int32} (hc : isMk c) (e : kd = c) : s q = c ∧ q + 1 = ax ∧ q = pl ∧ -1 = ms := by
  have e2 := (TK_mk h hc).mp e
  obtain ⟨a1, a2, a3, a4, a5, a6, a7, a8, a9, a10, a11, a12⟩ := mk_facts hc
  rcases h with h | h | h | h | h | h | h | h | h | h | h | h
  · exact absurd (e.symm.trans h.1) a1
  · exact absurd (e.symm.trans h.1) a5
  · exact ⟨e2, h.2.2.2.1.symm, h.2.2.2.2.symm, h.2.1.symm⟩
  · exact absurd (e.symm.trans h.1) a3
  · exact absurd (e.symm.trans h.1) a2
  · exact absurd (e.symm.trans h.1) a4
  · exact absurd (e.symm.trans h.1) a4
  · exact absurd (e.symm.trans h.1) a4
  · exact absurd (e.symm.trans h.1) a4
  · exact absurd (e.symm.trans h.1) a4
  · exact ⟨e2, h.2.2.2.1.symm, h.2.2.2.2.symm, h.2.1.symm⟩
  · exact absurd (e.symm.trans h.1) a5
theorem TK_end {s : Nat → Int32} {q : Nat} {kd : Int32} {pl lt : Nat} {vl ms : Int32} {ax : Nat} (h : TK s q kd pl lt vl ms ax) : kd = 256 ↔ (s q = 10 ∨ s q < 0) := by
  rcases h with h | h | h | h | h | h | h | h | h | h | h | h
  · exact ⟨fun _ => h.2.2.1, fun _ => h.1⟩
  · exact ⟨fun z => absurd (z.symm.trans h.1) (by decide), fun z => absurd z (let_x h.2.2.1).2.2.2.2⟩
  · exact ⟨fun z => by rcases h.2.2.1.2 with y | y <;> exact absurd (z.symm.trans (h.1.trans y)) (by decide), fun z => absurd z (let_x (xy_let h.2.2.1)).2.2.2.2⟩
  · exact ⟨fun z => absurd (z.symm.trans h.1) (by decide), fun z => absurd z (let_x h.2.2.1).2.2.2.2⟩
  · exact ⟨fun z => absurd (z.symm.trans h.1) (by decide), fun z => absurd z (let_x h.2.2.1).2.2.2.2⟩
  · exact ⟨fun z => absurd (z.symm.trans h.1) (by decide), fun z => absurd z (dig_x h.2.2.1).2.2.2.2.1⟩
  · exact ⟨fun z => absurd (z.symm.trans h.1) (by decide), fun z => by rw [h.2.2.1] at z; exact absurd z (by decide)⟩
  · exact ⟨fun z => absurd (z.symm.trans h.1) (by decide), fun z => by rw [h.2.2.1] at z; exact absurd z (by decide)⟩
  · exact ⟨fun z => absurd (z.symm.trans h.1) (by decide), fun z => by rw [h.2.2.1] at z; exact absurd z (by decide)⟩
  · exact ⟨fun z => absurd (z.symm.trans h.1) (by decide), fun z => by rw [h.2.2.1] at z; exact absurd z (by decide)⟩
  · exact ⟨fun z => absurd (h.1.symm.trans z) (mk_facts h.2.2.1).1, fun z => absurd z (mk_facts h.2.2.1).2.2.2.2.2.2.2.2.2.2.2⟩
  · exact ⟨fun z => absurd (z.symm.trans h.1) (by decide), fun z => absurd z h.2.2.2.2.2.2.2.1⟩
theorem n8_one {s : Nat → Int32} (hs : TX s) {q : Nat} (h : n8 s q = q + 1) : ¬ isNc (s (n8 s q)) = true := by
  intro z
  have h1 := (n8_long hs).mp z
  unfold n8 at h
  rw [Nat.min_eq_right (by omega)] at h
  omega
theorem TK_xy {s : Nat → Int32} (hs : TX s) {q : Nat} {kd : Int32} {pl lt : Nat} {vl ms : Int32} {ax : Nat} (h : TK s q kd pl lt vl ms ax) {c : Int32} (hc : c = 120 ∨ c = 121) : kd = c ↔ SX s q c := by
  have hl : ¬ inM c 97 122 = 0 := by rcases hc with rfl | rfl <;> decide
  have hk : ¬ c = 256 ∧ ¬ c = 257 ∧ ¬ c = 258 ∧ ¬ c = 259 ∧ ¬ c = 260 := by rcases hc with rfl | rfl <;> decide
  have hm : ¬ isMk c := fun z => absurd (mk_facts z).2.2.2.2.2.1 hl
  have lx := let_x hl
  have one : SX s q c → xy s q := fun z => ⟨z.1, by rw [z.2]; exact hc⟩
  rcases h with h | h | h | h | h | h | h | h | h | h | h | h
  · exact ⟨fun z => absurd (z.symm.trans h.1) hk.1, fun z => by have y := h.2.2.1; rw [z.2] at y; exact absurd y lx.2.2.2.2⟩
  · exact ⟨fun z => absurd (z.symm.trans h.1) hk.2.2.2.2, fun z => absurd h.2.2.2 (n8_one hs z.1)⟩
  · exact ⟨fun z => ⟨h.2.2.1.1, h.1.symm.trans z⟩, fun z => h.1.trans z.2⟩
  · exact ⟨fun z => absurd (z.symm.trans h.1) hk.2.2.1, fun z => absurd (one z) h.2.2.2.2.1⟩
  · exact ⟨fun z => absurd (z.symm.trans h.1) hk.2.1, fun z => absurd (one z) h.2.2.2.2.1⟩
  · exact ⟨fun z => absurd (z.symm.trans h.1) hk.2.2.2.1, fun z => by have y := h.2.2.1; rw [z.2] at y; exact absurd lx.1 y⟩
  · exact ⟨fun z => absurd (z.symm.trans h.1) hk.2.2.2.1, fun z => absurd (z.2.symm.trans h.2.2.1) lx.2.1⟩
  · exact ⟨fun z => absurd (z.symm.trans h.1) hk.2.2.2.1, fun z => absurd (z.2.symm.trans h.2.2.1) lx.2.1⟩
  · exact ⟨fun z => absurd (z.symm.trans h.1) hk.2.2.2.1, fun z => absurd (z.2.symm.trans h.2.2.1) lx.2.2.1⟩
  · exact ⟨fun z => absurd (z.symm.trans h.1) hk.2.2.2.1, fun z => absurd (z.2.symm.trans h.2.2.1) lx.2.2.1⟩
  · exact ⟨fun z => absurd h.2.2.1 (by rw [← h.1, z]; exact hm), fun z => absurd h.2.2.1 (by rw [z.2]; exact hm)⟩
  · exact ⟨fun z => absurd (z.symm.trans h.1) hk.2.2.2.2, fun z => by have y := h.2.2.1; rw [z.2] at y; exact absurd y hl⟩
theorem TK_xa {s : Nat → Int32} {q : Nat} {kd : Int32} {pl lt : Nat} {vl ms : Int32} {ax : Nat} (h : TK s q kd pl lt vl ms ax) {c : Int32} (hc : c = 120 ∨ c = 121) (e : kd = c) : q + 1 = ax := by
  have hk : ¬ c = 256 ∧ ¬ c = 257 ∧ ¬ c = 258 ∧ ¬ c = 259 ∧ ¬ c = 260 := by rcases hc with rfl | rfl <;> decide
  rcases h with h | h | h | h | h | h | h | h | h | h | h | h
  · exact absurd (e.symm.trans h.1) hk.1
  · exact absurd (e.symm.trans h.1) hk.2.2.2.2
  · exact h.2.2.2.1.symm
  · exact absurd (e.symm.trans h.1) hk.2.2.1
  · exact absurd (e.symm.trans h.1) hk.2.1
  · exact absurd (e.symm.trans h.1) hk.2.2.2.1
  · exact absurd (e.symm.trans h.1) hk.2.2.2.1
  · exact absurd (e.symm.trans h.1) hk.2.2.2.1
  · exact absurd (e.symm.trans h.1) hk.2.2.2.1
  · exact absurd (e.symm.trans h.1) hk.2.2.2.1
  · exact h.2.2.2.1.symm
  · exact absurd (e.symm.trans h.1) hk.2.2.2.2
theorem kq_ne {s : Nat → Int32} {q : Nat} {k : Int32} (hk : k = 256 ∨ k = 257 ∨ k = 258 ∨ k = 259 ∨ k = 260) (h : xy s q ∨ isMk (s q)) : ¬ s q = k := by
  intro z
  rcases h with h | h
  · rcases h.2 with y | y <;> rw [y] at z <;> rcases hk with rfl | rfl | rfl | rfl | rfl <;> exact absurd z (by decide)
  · have m := mk_facts h
    rcases hk with rfl | rfl | rfl | rfl | rfl
    · exact m.1 z
    · exact m.2.1 z
    · exact m.2.2.1 z
    · exact m.2.2.2.1 z
    · exact m.2.2.2.2.1 z
theorem TK_word {s : Nat → Int32} {q : Nat} {kd : Int32} {pl lt : Nat} {vl ms : Int32} {ax : Nat} (h : TK s q kd pl lt vl ms ax) (e : kd = 258) : ¬ inM (s q) 97 122 = 0 ∧ ¬ isNc (s (n8 s q)) = true ∧ ¬ xy s q ∧ wd s q (n8 s q) < 84 ∧ nI (cm (wd s q (n8 s q))) = vl ∧ n8 s q = ax ∧ q = pl := by
  rcases h with h | h | h | h | h | h | h | h | h | h | h | h
  · exact absurd (e.symm.trans h.1) (by decide)
  · exact absurd (e.symm.trans h.1) (by decide)
  · exact absurd (h.1.symm.trans e) (kq_ne (by simp) (Or.inl h.2.2.1))
  · obtain ⟨-, -, h1, h2, h3, h4, h5, h6, h7⟩ := h; exact ⟨h1, h2, h3, h4, h5.symm, h6.symm, h7.symm⟩
  · exact absurd (e.symm.trans h.1) (by decide)
  · exact absurd (e.symm.trans h.1) (by decide)
  · exact absurd (e.symm.trans h.1) (by decide)
  · exact absurd (e.symm.trans h.1) (by decide)
  · exact absurd (e.symm.trans h.1) (by decide)
  · exact absurd (e.symm.trans h.1) (by decide)
  · exact absurd (h.1.symm.trans e) (kq_ne (by simp) (Or.inr h.2.2.1))
  · exact absurd (e.symm.trans h.1) (by decide)
theorem TK_name {s : Nat → Int32} {q : Nat} {kd : Int32} {pl lt : Nat} {vl ms : Int32} {ax : Nat} (h : TK s q kd pl lt vl ms ax) (e : kd = 257) : ¬ inM (s q) 97 122 = 0 ∧ ¬ isNc (s (n8 s q)) = true ∧ ¬ xy s q ∧ ¬ wd s q (n8 s q) < 84 ∧ n8 s q = ax ∧ q = pl ∧ n8 s q - q = lt := by
  rcases h with h | h | h | h | h | h | h | h | h | h | h | h
  · exact absurd (e.symm.trans h.1) (by decide)
  · exact absurd (e.symm.trans h.1) (by decide)
  · exact absurd (h.1.symm.trans e) (kq_ne (by simp) (Or.inl h.2.2.1))
  · exact absurd (e.symm.trans h.1) (by decide)
  · obtain ⟨-, -, h1, h2, h3, h4, h5, h6, h7⟩ := h; exact ⟨h1, h2, h3, h4, h5.symm, h6.symm, h7.symm⟩
  · exact absurd (e.symm.trans h.1) (by decide)
  · exact absurd (e.symm.trans h.1) (by decide)
  · exact absurd (e.symm.trans h.1) (by decide)
  · exact absurd (e.symm.trans h.1) (by decide)
  · exact absurd (e.symm.trans h.1) (by decide)
  · exact absurd (h.1.symm.trans e) (kq_ne (by simp) (Or.inr h.2.2.1))
  · exact absurd (e.symm.trans h.1) (by decide)
theorem xy_wd {s : Nat → Int32} {q : Nat} (h : xy s q) : ¬ wd s q (n8 s q) < 84 := by
  rcases wd_cases s q (n8 s q) with z | z
  · have := wl_rng _ z.1
    have := z.2.2.1
    have := h.1
    omega
  · omega
/-- no word, no name: letters there are only x, y, or too many -/
theorem TK_none {s : Nat → Int32} {q : Nat} {kd : Int32} {pl lt : Nat} {vl ms : Int32} {ax : Nat} (h : TK s q kd pl lt vl ms ax) (e1 : ¬ kd = 257) (e2 : ¬ kd = 258) : inM (s q) 97 122 = 0 ∨ (¬ inM (s q) 97 122 = 0 ∧ isNc (s (n8 s q)) = true) ∨ (¬ inM (s q) 97 122 = 0 ∧ ¬ wd s q (n8 s q) < 84 ∧ xy s q) := by
  rcases h with h | h | h | h | h | h | h | h | h | h | h | h
  · left
    rcases h.2.2.1 with z | z
    · rw [z]; decide
    · unfold inM; rw [if_pos (Int32.lt_trans z (by decide))]
  · exact Or.inr (Or.inl h.2.2)
  · exact Or.inr (Or.inr ⟨xy_let h.2.2.1, xy_wd h.2.2.1, h.2.2.1⟩)
  · exact absurd h.1 e2
  · exact absurd h.1 e1
  · exact Or.inl (dig_x h.2.2.1).1
  · left; rw [h.2.2.1]; decide
  · left; rw [h.2.2.1]; decide
  · left; rw [h.2.2.1]; decide
  · left; rw [h.2.2.1]; decide
  · exact Or.inl (mk_facts h.2.2.1).2.2.2.2.2.1
  · exact Or.inl h.2.2.1
theorem TK_num {s : Nat → Int32} {q : Nat} {kd : Int32} {pl lt : Nat} {vl ms : Int32} {ax : Nat} (h : TK s q kd pl lt vl ms ax) (e : kd = 259) (em : ms = -1) (hr : Int32) (n : Nat) (G : Nat → Nat × Nat × Int32 × Int32) (un : Int32) : TM s hr n G q un = some (ax, vl, un) ∧ pl = q := by
  rcases h with h | h | h | h | h | h | h | h | h | h | h | h
  · exact absurd (e.symm.trans h.1) (by decide)
  · exact absurd (e.symm.trans h.1) (by decide)
  · exact absurd (h.1.symm.trans e) (kq_ne (by simp) (Or.inl h.2.2.1))
  · exact absurd (e.symm.trans h.1) (by decide)
  · exact absurd (e.symm.trans h.1) (by decide)
  · obtain ⟨-, -, h1, h2, h3, h4⟩ := h
    refine ⟨?_, h4⟩
    unfold TM; rw [if_neg h1, h2, h3]
  · obtain ⟨-, -, h1, h2, h3, h4, h5⟩ := h
    refine ⟨?_, h5⟩
    unfold TM; rw [if_pos (by rw [h1]; decide), if_pos h1, if_pos h2, h3, h4]
  · exact absurd em h.2.1
  · obtain ⟨-, -, h1, h2, h3, h4, h5⟩ := h
    refine ⟨?_, h5⟩
    unfold TM; rw [if_pos (by rw [h1]; decide), if_neg (by rw [h1]; decide), if_pos h1, if_neg h2, h3, h4]
  · exact absurd em h.2.1
  · exact absurd (h.1.symm.trans e) (kq_ne (by simp) (Or.inr h.2.2.1))
  · exact absurd (e.symm.trans h.1) (by decide)
theorem TK_dot {s : Nat → Int32} {q : Nat} {kd : Int32} {pl lt : Nat} {vl ms : Int32} {ax : Nat} (h : TK s q kd pl lt vl ms ax) (e : kd = 46) (hr : Int32) (n : Nat) (G : Nat → Nat × Nat × Int32 × Int32) (un : Int32) : TM s hr n G q un = some (ax, hr, un) ∧ pl = q := by
  obtain ⟨a, b, c, -⟩ := TK_mx h (c := 46) (by unfold isMk; decide) e
  refine ⟨?_, c.symm⟩
  unfold TM; rw [if_pos (by rw [a]; decide), if_neg (by rw [a]; decide), if_neg (by rw [a]; decide), if_pos a, ← b]
theorem TK_nam {s : Nat → Int32} {q : Nat} {kd : Int32} {pl lt : Nat} {vl ms : Int32} {ax : Nat} (h : TK s q kd pl lt vl ms ax) (e : kd = 257) (hr : Int32) (n : Nat) (G : Nat → Nat × Nat × Int32 × Int32) (un : Int32) : TM s hr n G q un = (if lk s n G q (n8 s q) < n then some (ax, (G (lk s n G q (n8 s q))).2.2.1, un) else some (ax, 0, bdn un q)) ∧ pl = q := by
  obtain ⟨h1, h2, h3, h4, h5, h6, -⟩ := TK_name h e
  obtain ⟨x1, x2, x3, x4, -⟩ := let_x h1
  refine ⟨?_, h6.symm⟩
  unfold TM; rw [if_pos x1, if_neg x2, if_neg x3, if_neg x4, if_neg h1, if_neg h2, if_neg h3, if_neg h4, ← h5]
theorem TK_no {s : Nat → Int32} {q : Nat} {kd : Int32} {pl lt : Nat} {vl ms : Int32} {ax : Nat} (h : TK s q kd pl lt vl ms ax) (e : ¬ ms = -1 ∨ (¬ kd = 259 ∧ ¬ kd = 257 ∧ ¬ kd = 46)) (hr : Int32) (n : Nat) (G : Nat → Nat × Nat × Int32 × Int32) (un : Int32) : TM s hr n G q un = none := by
  rcases h with h | h | h | h | h | h | h | h | h | h | h | h
  · obtain ⟨-, -, h1, -⟩ := h
    have z1 : inM (s q) 48 57 = 0 := by
      rcases h1 with z | z
      · rw [z]; decide
      · unfold inM; rw [if_pos (Int32.lt_trans z (by decide))]
    have z2 : inM (s q) 97 122 = 0 := by
      rcases h1 with z | z
      · rw [z]; decide
      · unfold inM; rw [if_pos (Int32.lt_trans z (by decide))]
    have z3 : ∀ c : Int32, ¬ (c = 10 ∨ c < 0) → ¬ s q = c := fun c hc z => by rw [z] at h1; exact hc h1
    unfold TM; rw [if_pos z1, if_neg (z3 36 (by decide)), if_neg (z3 39 (by decide)), if_neg (z3 46 (by decide)), if_pos z2]
  · obtain ⟨-, -, h1, h2⟩ := h
    obtain ⟨x1, x2, x3, x4, -⟩ := let_x h1
    unfold TM; rw [if_pos x1, if_neg x2, if_neg x3, if_neg x4, if_neg h1, if_pos h2]
  · obtain ⟨-, -, h1, -⟩ := h
    have h2 := xy_let h1
    obtain ⟨x1, x2, x3, x4, -⟩ := let_x h2
    unfold TM; rw [if_pos x1, if_neg x2, if_neg x3, if_neg x4, if_neg h2]
    by_cases c : isNc (s (n8 s q)) = true
    · rw [if_pos c]
    · rw [if_neg c, if_pos h1]
  · obtain ⟨-, -, h1, h2, h3, h4, -⟩ := h
    obtain ⟨x1, x2, x3, x4, -⟩ := let_x h1
    unfold TM; rw [if_pos x1, if_neg x2, if_neg x3, if_neg x4, if_neg h1, if_neg h2, if_neg h3, if_pos h4]
  · rcases e with e | e
    · exact absurd h.2.1 e
    · exact absurd h.1 e.2.1
  · rcases e with e | e
    · exact absurd h.2.1 e
    · exact absurd h.1 e.1
  · rcases e with e | e
    · exact absurd h.2.1 e
    · exact absurd h.1 e.1
  · obtain ⟨-, -, h1, h2⟩ := h
    unfold TM; rw [if_pos (by rw [h1]; decide), if_pos h1, if_neg h2]
  · rcases e with e | e
    · exact absurd h.2.1 e
    · exact absurd h.1 e.1
  · obtain ⟨-, -, h1, h2⟩ := h
    unfold TM; rw [if_pos (by rw [h1]; decide), if_neg (by rw [h1]; decide), if_pos h1, if_pos h2]
  · obtain ⟨h0, hm, h1, -⟩ := h
    have m := mk_facts h1
    rcases e with e | e
    · exact absurd hm e
    · unfold TM; rw [if_pos m.2.2.2.2.2.2.1, if_neg m.2.2.2.2.2.2.2.1, if_neg m.2.2.2.2.2.2.2.2.1, if_neg (fun z => e.2.2 (h0.trans z)), if_pos m.2.2.2.2.2.1]
  · obtain ⟨-, -, h1, h2, h3, h4, h5, -⟩ := h
    unfold TM; rw [if_pos h2, if_neg h3, if_neg h4, if_neg (fun z => h5 (by rw [z]; unfold isMk; simp)), if_pos h1]
theorem cm_cases {w : Nat} (h : w < 84) : (w < 5 ∧ cm w = w + 80) ∨ (5 ≤ w ∧ w < 48 ∧ cm w = w - 5) ∨ (48 ≤ w ∧ cm w = w - 4) := by
  unfold cm
  by_cases h1 : w < 5
  · rw [if_pos h1]; exact Or.inl ⟨h1, rfl⟩
  · rw [if_neg h1]
    by_cases h2 : w < 48
    · rw [if_pos h2]; exact Or.inr (Or.inl ⟨by omega, h2, rfl⟩)
    · rw [if_neg h2]; exact Or.inr (Or.inr ⟨by omega, rfl⟩)
theorem TK_nb {s : Nat → Int32} {q : Nat} {kd : Int32} {pl lt : Nat} {vl ms : Int32} {ax : Nat} (h : TK s q kd pl lt vl ms ax) : ¬ s q = 32 := by
  intro z
  rcases h with h | h | h | h | h | h | h | h | h | h | h | h
  · have y := h.2.2.1; rw [z] at y; exact absurd y (by decide)
  · have y := h.2.2.1; rw [z] at y; exact absurd y (by decide)
  · have y := xy_let h.2.2.1; rw [z] at y; exact absurd y (by decide)
  · have y := h.2.2.1; rw [z] at y; exact absurd y (by decide)
  · have y := h.2.2.1; rw [z] at y; exact absurd y (by decide)
  · have y := h.2.2.1; rw [z] at y; exact absurd y (by decide)
  · have y := h.2.2.1; rw [z] at y; exact absurd y (by decide)
  · have y := h.2.2.1; rw [z] at y; exact absurd y (by decide)
  · have y := h.2.2.1; rw [z] at y; exact absurd y (by decide)
  · have y := h.2.2.1; rw [z] at y; exact absurd y (by decide)
  · have y := mk_facts h.2.2.1; rw [z] at h; exact absurd h.2.2.1 (by unfold isMk; decide)
  · exact h.2.2.2.2.2.2.2.2 z
theorem TK_sk {s : Nat → Int32} {q : Nat} {kd : Int32} {pl lt : Nat} {vl ms : Int32} {ax : Nat} (h : TK s q kd pl lt vl ms ax) : sk s q = q := sk_id (TK_nb h)
theorem SUM_hash {s : Nat → Int32} {hr : Int32} {n : Nat} {G : Nat → Nat × Nat × Int32 × Int32} {q : Nat} {un : Int32} (h : s q = 35) : SUM s hr n G q un = none := by
  unfold SUM PT TM
  rw [h]
  simp only [show ¬ (35 : Int32) = 45 by decide, show ¬ (35 : Int32) = 37 by decide, show ¬ (35 : Int32) = 38 by decide, show inM 35 48 57 = 0 by decide, show ¬ (35 : Int32) = 36 by decide, show ¬ (35 : Int32) = 39 by decide, show ¬ (35 : Int32) = 46 by decide, show inM 35 97 122 = 0 by decide, if_true, if_false]
theorem rgd_none {rg w lo hi : Int32} {q : Nat} (h1 : ¬ w < lo) (h2 : ¬ hi < w) : rgd rg w lo hi q = rg := by
  unfold rgd; rw [if_neg (by unfold inM; rw [if_neg h1, if_neg h2]; decide)]
theorem rgd_old {rg w lo hi : Int32} {q : Nat} (h : ¬ rg < 0) : rgd rg w lo hi q = rg := by
  unfold rgd bdn; rw [if_neg h]; split <;> rfl
theorem rgd_new {w lo hi : Int32} {q : Nat} (h : w < lo ∨ hi < w) : rgd (-1) w lo hi q = nI q := by
  unfold rgd bdn
  rw [if_pos, if_pos (by decide)]
  unfold inM
  rcases h with h | h
  · rw [if_pos h]
  · rw [if_pos h]; split <;> rfl
theorem toInt_nI {h : Nat} (hh : h < 2 ^ 31) : (nI h).toInt = h := by
  have e := pk_sub_toInt (a := 0) (b := 0) (by decide) (by decide)
  have := Int32.toInt_ofNat_of_lt hh
  exact this
/-- the way's length is counted from behind the code -/
theorem rng_eq {w : Int32} {h : Nat} (hh : h ≤ 4080) : inM (w - (nI h + 2)) (-128) 127 = inM w (nI h - 126) (nI h + 129) := by
  have e2 : (nI h + 2).toInt = h + 2 := by
    rw [show nI h + 2 = nI (h + 2) from nI_add h 2, toInt_nI (by omega)]; omega
  have ea : (nI h - 126).toInt = h - 126 := by
    have := pk_sub_toInt (a := h) (b := 126) (by omega) (by decide)
    exact this
  have eb : (nI h + 129).toInt = h + 129 := by
    rw [show nI h + 129 = nI (h + 129) from nI_add h 129, toInt_nI (by omega)]; omega
  have w1 := w.toInt_lt
  have w2 := w.le_toInt
  have e3 : (w - (nI h + 2)).toInt = (w.toInt - (h + 2)).bmod (2 ^ 32) := by rw [Int32.toInt_sub, e2]
  have k1 : (-128 : Int32).toInt = -128 := rfl
  have k2 : (127 : Int32).toInt = 127 := rfl
  by_cases lo : w.toInt - (h + 2) < -2 ^ 31
  · have ed : (w - (nI h + 2)).toInt = w.toInt - (h + 2) + 2 ^ 32 := by
      rw [e3, Int.bmod_def]
      split <;> omega
    have a1 : w < nI h - 126 := Int32.lt_iff_toInt_lt.mpr (by rw [ea]; omega)
    have a2 : ¬ w - (nI h + 2) < -128 := fun z => by have := Int32.lt_iff_toInt_lt.mp z; rw [ed, k1] at this; omega
    have a3 : (127 : Int32) < w - (nI h + 2) := Int32.lt_iff_toInt_lt.mpr (by rw [ed, k2]; omega)
    unfold inM
    rw [if_neg a2, if_pos a3, if_pos a1]
  · have ed : (w - (nI h + 2)).toInt = w.toInt - (h + 2) := by
      rw [e3, Int.bmod_def]
      split <;> omega
    have b1 : w - (nI h + 2) < -128 ↔ w < nI h - 126 := by
      rw [Int32.lt_iff_toInt_lt, Int32.lt_iff_toInt_lt, ed, ea, k1]; omega
    have b2 : (127 : Int32) < w - (nI h + 2) ↔ nI h + 129 < w := by
      rw [Int32.lt_iff_toInt_lt, Int32.lt_iff_toInt_lt, ed, eb, k2]; omega
    unfold inM
    simp only [b1, b2]
theorem TK_ex {s : Nat → Int32} {q : Nat} {kd : Int32} {pl lt : Nat} {vl ms : Int32} {ax : Nat} (h : TK s q kd pl lt vl ms ax) (e : kd = 256) : ax = q := by
  rcases h with h | h | h | h | h | h | h | h | h | h | h | h
  · exact h.2.2.2
  · exact absurd (e.symm.trans h.1) (by decide)
  · exact absurd (h.1.symm.trans e) (kq_ne (by simp) (Or.inl h.2.2.1))
  · exact absurd (e.symm.trans h.1) (by decide)
  · exact absurd (e.symm.trans h.1) (by decide)
  · exact absurd (e.symm.trans h.1) (by decide)
  · exact absurd (e.symm.trans h.1) (by decide)
  · exact absurd (e.symm.trans h.1) (by decide)
  · exact absurd (e.symm.trans h.1) (by decide)
  · exact absurd (e.symm.trans h.1) (by decide)
  · exact absurd (h.1.symm.trans e) (kq_ne (by simp) (Or.inr h.2.2.1))
  · exact absurd (e.symm.trans h.1) (by decide)
theorem EN_e {s : Nat → Int32} {le q : Nat} (h : LNo s le q) (e : s q = 10 ∨ s q < 0) (hk : sk s q = q) : EN s q = some le := by
  have hq : q = le := by
    rcases Nat.lt_or_ge q le with z | z
    · exact absurd e (h.2.2 q (Nat.le_refl _) z)
    · have := h.1; omega
  unfold EN
  rw [hk, if_neg (fun z => by rw [z] at e; exact absurd e (by decide)), if_pos e, hq]
theorem EN_r {s : Nat → Int32} {le q : Nat} (h : LNo s le (q + 1)) (e : s q = 59) (hk : sk s q = q) (hl : le ≤ 6010) : EN s q = some le := by
  unfold EN
  rw [hk, if_pos e]
  have hE : lE s q = le := sc_uniq (P := isLn) (by have := h.1; omega) (by omega) (fun j j1 j2 => by
    rcases Nat.eq_or_lt_of_le j1 with z | z
    · subst z; rw [e]; decide
    · exact isLn_1 (h.2.2 j z j2)) (isLn_0 h.2.1)
  rw [hE]
theorem EN_n {s : Nat → Int32} {q : Nat} (h1 : ¬ (s q = 10 ∨ s q < 0)) (h2 : ¬ s q = 59) (hk : sk s q = q) : EN s q = none := by
  unfold EN
  rw [hk, if_neg h2, if_neg h1]
theorem EN_sk {s : Nat → Int32} (hs : TX s) {g : Nat} : EN s (sk s g) = EN s g := by
  unfold EN
  rw [sk_idem hs]
/-! a line, by what its name and its word are -/
theorem LN_A0 {s : Nat → Int32} {hr : Int32} {n : Nat} {G : Nat → Nat × Nat × Int32 × Int32} {p q : Nat} (hq : q = sk s p) (hk : sk s q = q) (h : inM (s q) 97 122 = 0 ∨ (¬ inM (s q) 97 122 = 0 ∧ isNc (s (n8 s q)) = true) ∨ (¬ inM (s q) 97 122 = 0 ∧ ¬ wd s q (n8 s q) < 84 ∧ xy s q)) : LINE s hr n G p = (match EN s q with | none => none | some g => some (g, none, 100, -1, -1, 0, 0)) := by
  subst hq
  have no : ¬ inM (s (sk s p)) 97 122 = 0 → EN s (sk s p) = none := fun z => EN_n (let_x z).2.2.2.2 (fun y => z (by rw [y]; decide)) hk
  rcases h with h | ⟨h, h2⟩ | ⟨h, h2, h3⟩
  · unfold LINE LB1; rw [if_pos h] <;> rfl
  · have hn : NMD s hr n G (sk s p) (n8 s (sk s p)) = none := by unfold NMD; rw [if_pos h2]
    unfold LINE LB1; rw [if_neg h, if_neg (fun z => z.2 h2), hn, no h] <;> rfl
  · have hn : NMD s hr n G (sk s p) (n8 s (sk s p)) = none := by
      unfold NMD
      by_cases c : isNc (s (n8 s (sk s p))) = true
      · rw [if_pos c]
      · rw [if_neg c, if_pos h3]
    unfold LINE LB1; rw [if_neg h, if_neg (fun z => h2 z.1), hn, no h] <;> rfl
theorem LN_A1 {s : Nat → Int32} {hr : Int32} {n : Nat} {G : Nat → Nat × Nat × Int32 × Int32} {p q : Nat} (hq : q = sk s p) (h1 : ¬ inM (s q) 97 122 = 0) (h2 : ¬ isNc (s (n8 s q)) = true) (h3 : wd s q (n8 s q) < 84) : LINE s hr n G p = (match WRD s hr n G q with | none => none | some z => match EN s z.1 with | none => none | some g => some (g, none, z.2)) := by
  subst hq
  unfold LINE LB1
  rw [if_neg h1, if_pos ⟨h3, h2⟩]
  cases WRD s hr n G (sk s p) with
  | none => rfl
  | some z => rfl
theorem LN_B {s : Nat → Int32} {hr : Int32} {n : Nat} {G : Nat → Nat × Nat × Int32 × Int32} {p q : Nat} (hq : q = sk s p) (h1 : ¬ inM (s q) 97 122 = 0) (h2 : ¬ isNc (s (n8 s q)) = true) (h3 : ¬ xy s q) (h4 : ¬ wd s q (n8 s q) < 84) (h5 : s (sk s (n8 s q)) = 61) : LINE s hr n G p = (match SUM s hr n G (sk s (sk s (n8 s q) + 1)) (-1) with | none => none | some z => match EN s z.1 with | none => none | some g => some (g, some (q, n8 s q), 101, z.2.2, -1, 0, z.2.1)) := by
  subst hq
  have hnm : NMD s hr n G (sk s p) (n8 s (sk s p)) = (match SUM s hr n G (sk s (sk s (n8 s (sk s p)) + 1)) (-1) with | none => none | some z => some (z.1, 101, z.2.2, -1, 0, z.2.1)) := by
    unfold NMD OPS
    rw [if_neg h2, if_neg h3, if_pos h5, if_pos (Or.inr rfl)]
    cases SUM s hr n G (sk s (sk s (n8 s (sk s p)) + 1)) (-1) with
    | none => rfl
    | some z => rfl
  unfold LINE LB1
  rw [if_neg h1, if_neg (fun z => h4 z.1), hnm]
  cases SUM s hr n G (sk s (sk s (n8 s (sk s p)) + 1)) (-1) with
  | none => rfl
  | some z => rfl
theorem LN_C0 {s : Nat → Int32} {hr : Int32} {n : Nat} {G : Nat → Nat × Nat × Int32 × Int32} {p q r : Nat} (hq : q = sk s p) (h1 : ¬ inM (s q) 97 122 = 0) (h2 : ¬ isNc (s (n8 s q)) = true) (h3 : ¬ xy s q) (h4 : ¬ wd s q (n8 s q) < 84) (h5 : s (sk s (n8 s q)) = 58) (hr' : r = sk s (sk s (n8 s q) + 1)) (hk : sk s r = r) (h : inM (s r) 97 122 = 0 ∨ (¬ inM (s r) 97 122 = 0 ∧ isNc (s (n8 s r)) = true) ∨ (¬ inM (s r) 97 122 = 0 ∧ ¬ wd s r (n8 s r) < 84)) : LINE s hr n G p = (match EN s r with | none => none | some g => some (g, some (q, n8 s q), 100, -1, -1, 0, 0)) := by
  subst hq
  have no : ¬ inM (s r) 97 122 = 0 → EN s r = none := fun z => EN_n (let_x z).2.2.2.2 (fun y => z (by rw [y]; decide)) hk
  have hnm : NMD s hr n G (sk s p) (n8 s (sk s p)) = (if inM (s r) 97 122 = 0 then some (r, 100, -1, -1, 0, 0) else WRD s hr n G r) := by
    unfold NMD
    rw [if_neg h2, if_neg h3, if_neg (by rw [h5]; decide), if_pos h5, ← hr']
  unfold LINE LB1
  rw [if_neg h1, if_neg (fun z => h4 z.1), hnm]
  rcases h with h | ⟨h, h6⟩ | ⟨h, h6⟩
  · rw [if_pos h] <;> rfl
  · have hw : WRD s hr n G r = none := by
      unfold WRD
      by_cases c : wd s r (n8 s r) < 84
      · rw [if_pos c, if_pos h6]
      · rw [if_neg c]
    rw [if_neg h, no h, hw] <;> rfl
  · have hw : WRD s hr n G r = none := by unfold WRD; rw [if_neg h6]
    rw [if_neg h, no h, hw] <;> rfl
theorem LN_C1 {s : Nat → Int32} {hr : Int32} {n : Nat} {G : Nat → Nat × Nat × Int32 × Int32} {p q r : Nat} (hq : q = sk s p) (h1 : ¬ inM (s q) 97 122 = 0) (h2 : ¬ isNc (s (n8 s q)) = true) (h3 : ¬ xy s q) (h4 : ¬ wd s q (n8 s q) < 84) (h5 : s (sk s (n8 s q)) = 58) (hr' : r = sk s (sk s (n8 s q) + 1)) (h : ¬ inM (s r) 97 122 = 0) : LINE s hr n G p = (match WRD s hr n G r with | none => none | some z => match EN s z.1 with | none => none | some g => some (g, some (q, n8 s q), z.2)) := by
  subst hq
  have hnm : NMD s hr n G (sk s p) (n8 s (sk s p)) = WRD s hr n G r := by
    unfold NMD
    rw [if_neg h2, if_neg h3, if_neg (by rw [h5]; decide), if_pos h5, ← hr', if_neg h]
  unfold LINE LB1
  rw [if_neg h1, if_neg (fun z => h4 z.1), hnm]
  cases WRD s hr n G r with
  | none => rfl
  | some z => rfl
theorem LN_D {s : Nat → Int32} {hr : Int32} {n : Nat} {G : Nat → Nat × Nat × Int32 × Int32} {p q : Nat} (hq : q = sk s p) (h1 : ¬ inM (s q) 97 122 = 0) (h2 : ¬ isNc (s (n8 s q)) = true) (h3 : ¬ xy s q) (h4 : ¬ wd s q (n8 s q) < 84) (h5 : ¬ s (sk s (n8 s q)) = 61) (h6 : ¬ s (sk s (n8 s q)) = 58) : LINE s hr n G p = none := by
  subst hq
  have hnm : NMD s hr n G (sk s p) (n8 s (sk s p)) = none := by
    unfold NMD
    rw [if_neg h2, if_neg h3, if_neg h5, if_neg h6]
  unfold LINE LB1
  rw [if_neg h1, if_neg (fun z => h4 z.1), hnm] <;> rfl
theorem TK_nw {s : Nat → Int32} {q : Nat} {kd : Int32} {pl lt : Nat} {vl ms : Int32} {ax : Nat} (h : TK s q kd pl lt vl ms ax) (e2 : ¬ kd = 258) : inM (s q) 97 122 = 0 ∨ (¬ inM (s q) 97 122 = 0 ∧ isNc (s (n8 s q)) = true) ∨ (¬ inM (s q) 97 122 = 0 ∧ ¬ wd s q (n8 s q) < 84) := by
  by_cases e1 : kd = 257
  · obtain ⟨h1, -, -, h4, -⟩ := TK_name h e1
    exact Or.inr (Or.inr ⟨h1, h4⟩)
  · rcases TK_none h e1 e2 with z | z | z
    · exact Or.inl z
    · exact Or.inr (Or.inl z)
    · exact Or.inr (Or.inr ⟨z.1, z.2.1⟩)
theorem n8_in {e : Nat} {f : Nat → Int32} (hs : TX (sgn e f)) {q : Nat} (h : ¬ inM (sgn e f q) 97 122 = 0) : q ≤ n8 (sgn e f) q ∧ n8 (sgn e f) q ≤ e := by
  have hq : q < e := sgn_lt (fun z => h (by rw [z]; decide))
  have h1 := sc_spec (P := isNc) (by decide) hs q
  have h2 : q ≤ nE (sgn e f) q := sc_ge
  have h3 : nE (sgn e f) q ≤ e := by
    rcases Nat.lt_or_ge e (nE (sgn e f) q) with z | z
    · have y := h1.1 e (by omega) z
      rw [sgn_out (Nat.le_refl e)] at y
      exact absurd y (by decide)
    · exact z
  unfold n8
  omega
theorem cm_lt {w : Nat} (h : w < 84) : cm w < 85 := by have := cm_cases h; omega
