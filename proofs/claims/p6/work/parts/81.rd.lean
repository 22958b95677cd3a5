/-! A TEXT, as both assemblers read it (p4, p6). s: the sign at each place, -1 behind the end -/
def sgn (e : Nat) (f : Nat → Int32) (k : Nat) : Int32 := if k < e then f k else -1
theorem sgn_in {e k : Nat} {f : Nat → Int32} (h : k < e) : sgn e f k = f k := if_pos h
theorem sgn_out {e k : Nat} {f : Nat → Int32} (h : e ≤ k) : sgn e f k = -1 := if_neg (Nat.not_lt.mpr h)
theorem sgn_lt {e k : Nat} {f : Nat → Int32} (h : ¬ sgn e f k = -1) : k < e := by
  rcases Nat.lt_or_ge k e with q | q
  · exact q
  · exact absurd (sgn_out q) h
def TX (s : Nat → Int32) : Prop := (∀ j, 6000 ≤ j → s j = -1) ∧ ∀ j, s j = -1 ∨ ∃ k : Nat, k < 256 ∧ s j = nI k
theorem sgn_TX {e : Nat} {f : Nat → Int32} {N : Nat} (he : e ≤ 6000) (hN : 6000 ≤ N) (hf : ∀ j, j < N → ∃ k : Nat, k < 256 ∧ f j = nI k) : TX (sgn e f) := by
  refine ⟨fun j hj => sgn_out (by omega), fun j => ?_⟩
  rcases Nat.lt_or_ge j e with q | q
  · rw [sgn_in q]; exact Or.inr (hf j (by omega))
  · exact Or.inl (sgn_out q)
/-- enough steps for any text; a number that nothing unfolds -/
noncomputable def FU : Nat := Classical.choose (⟨6010, rfl⟩ : ∃ n : Nat, n = 6010)
theorem FU_eq : FU = 6010 := Classical.choose_spec (⟨6010, rfl⟩ : ∃ n : Nat, n = 6010)
def scn (P : Int32 → Bool) (s : Nat → Int32) : Nat → Nat → Nat
  | 0, p => p
  | n + 1, p => if P (s p) = true then scn P s n (p + 1) else p
noncomputable def sc (P : Int32 → Bool) (s : Nat → Int32) (p : Nat) : Nat := scn P s FU p
theorem scn_uniq {P : Int32 → Bool} {s : Nat → Int32} : ∀ (n p q : Nat), q ≤ p + n → p ≤ q → (∀ j, p ≤ j → j < q → P (s j) = true) → ¬ P (s q) = true → scn P s n p = q := by
  intro n
  induction n with
  | zero => intro p q hn hpq hb he; show p = q; omega
  | succ n ih =>
    intro p q hn hpq hb he
    show (if P (s p) = true then scn P s n (p + 1) else p) = q
    rcases Nat.eq_or_lt_of_le hpq with e | e
    · subst e; rw [if_neg he]
    · rw [if_pos (hb p (Nat.le_refl p) e)]
      exact ih (p + 1) q (by omega) e (fun j h1 h2 => hb j (by omega) h2) he
theorem sc_uniq {P : Int32 → Bool} {s : Nat → Int32} {p q : Nat} (hpq : p ≤ q) (hl : q ≤ p + 6010) (hb : ∀ j, p ≤ j → j < q → P (s j) = true) (he : ¬ P (s q) = true) : sc P s p = q := scn_uniq _ p q (by rw [FU_eq]; exact hl) hpq hb he
theorem scn_ge {P : Int32 → Bool} {s : Nat → Int32} : ∀ (n p q : Nat), q ≤ p + n → (∀ j, p ≤ j → j < q → P (s j) = true) → q ≤ scn P s n p := by
  intro n
  induction n with
  | zero => intro p q hn hb; exact hn
  | succ n ih =>
    intro p q hn hb
    show q ≤ (if P (s p) = true then scn P s n (p + 1) else p)
    by_cases e : p < q
    · rw [if_pos (hb p (Nat.le_refl p) e)]
      exact ih (p + 1) q (by omega) (fun j h1 h2 => hb j (by omega) h2)
    · split
      · have := ih (p + 1) (p + 1) (by omega) (fun j h1 h2 => absurd h2 (by omega))
        omega
      · omega
theorem sc_geq {P : Int32 → Bool} {s : Nat → Int32} {p q : Nat} (hl : q ≤ p + 6010) (hb : ∀ j, p ≤ j → j < q → P (s j) = true) : q ≤ sc P s p := scn_ge _ p q (by rw [FU_eq]; exact hl) hb
theorem sc_ge {P : Int32 → Bool} {s : Nat → Int32} {p : Nat} : p ≤ sc P s p := sc_geq (by omega) (fun j h1 h2 => absurd h2 (by omega))
/-- the first place from p on where P fails -/
theorem sc_ex {P : Int32 → Bool} {s : Nat → Int32} (hP : P (-1) = false) (hs : TX s) (p : Nat) : ∃ q, p ≤ q ∧ q ≤ p + 6010 ∧ q ≤ max p 6000 ∧ (∀ j, p ≤ j → j < q → P (s j) = true) ∧ ¬ P (s q) = true := by
  have aux : ∀ n p : Nat, 6000 ≤ p + n → ∃ q, p ≤ q ∧ q ≤ max p 6000 ∧ (∀ j, p ≤ j → j < q → P (s j) = true) ∧ ¬ P (s q) = true := by
    intro n
    induction n with
    | zero => intro p hp; exact ⟨p, Nat.le_refl p, by omega, fun j h1 h2 => absurd h2 (by omega), by rw [hs.1 p hp, hP]; decide⟩
    | succ n ih =>
      intro p hp
      by_cases h : P (s p) = true
      · have hp6 : p < 6000 := by
          rcases Nat.lt_or_ge p 6000 with q | q
          · exact q
          · rw [hs.1 p q, hP] at h; exact absurd h (by decide)
        obtain ⟨q, h1, h2, h3, h4⟩ := ih (p + 1) (by omega)
        refine ⟨q, by omega, by omega, fun j j1 j2 => ?_, h4⟩
        rcases Nat.eq_or_lt_of_le j1 with w | w
        · subst w; exact h
        · exact h3 j w j2
      · exact ⟨p, Nat.le_refl p, by omega, fun j h1 h2 => absurd h2 (by omega), h⟩
  obtain ⟨q, h1, h2, h3, h4⟩ := aux 6000 p (by omega)
  exact ⟨q, h1, by omega, h2, h3, h4⟩
theorem sc_spec {P : Int32 → Bool} {s : Nat → Int32} (hP : P (-1) = false) (hs : TX s) (p : Nat) : (∀ j, p ≤ j → j < sc P s p → P (s j) = true) ∧ ¬ P (s (sc P s p)) = true ∧ sc P s p ≤ max p 6000 := by
  obtain ⟨q, h1, h2, h3, h4, h5⟩ := sc_ex hP hs p
  have e := sc_uniq h1 h2 h4 h5
  rw [e]
  exact ⟨h4, h5, h3⟩
def isBl (c : Int32) : Bool := decide (c = 32)
def isNc (c : Int32) : Bool := decide (¬ inM c 97 122 = 0) || decide (¬ inM c 48 57 = 0)
def isLn (c : Int32) : Bool := !(decide (c = 10) || decide (c < 0))
noncomputable def sk (s : Nat → Int32) (p : Nat) : Nat := sc isBl s p
noncomputable def nE (s : Nat → Int32) (p : Nat) : Nat := sc isNc s p
noncomputable def lE (s : Nat → Int32) (p : Nat) : Nat := sc isLn s p
noncomputable def n8 (s : Nat → Int32) (p : Nat) : Nat := min (nE s p) (p + 8)
theorem sk_uniq {s : Nat → Int32} {p q : Nat} (hpq : p ≤ q) (hl : q ≤ p + 6010) (hb : ∀ j, p ≤ j → j < q → s j = 32) (he : ¬ s q = 32) : sk s p = q := sc_uniq hpq hl (fun j h1 h2 => decide_eq_true (hb j h1 h2)) (fun q => he (of_decide_eq_true q))
theorem sk_ge {s : Nat → Int32} {p : Nat} : p ≤ sk s p := sc_ge
theorem sk_no {s : Nat → Int32} (hs : TX s) {p : Nat} : ¬ s (sk s p) = 32 := fun q => (sc_spec (P := isBl) (by decide) hs p).2.1 (decide_eq_true q)
theorem sk_id {s : Nat → Int32} {p : Nat} (h : ¬ s p = 32) : sk s p = p := sk_uniq (Nat.le_refl p) (by omega) (fun j h1 h2 => absurd h2 (by omega)) h
theorem sk_idem {s : Nat → Int32} (hs : TX s) (p : Nat) : sk s (sk s p) = sk s p := sk_id (sk_no hs)
theorem sk_le {s : Nat → Int32} (hs : TX s) {p e : Nat} (hp : p ≤ e) (he : s e = -1) : sk s p ≤ e := by
  rcases Nat.lt_or_ge e (sk s p) with q | q
  · have h := (sc_spec (P := isBl) (by decide) hs p).1 e hp q
    rw [he] at h; exact absurd h (by decide)
  · exact q
theorem n8_of {s : Nat → Int32} {p k : Nat} (h1 : p ≤ k) (h2 : k ≤ p + 8) (hb : ∀ j, p ≤ j → j < k → isNc (s j) = true) (he : k = p + 8 ∨ ¬ isNc (s k) = true) : n8 s p = k := by
  unfold n8
  rcases he with e | e
  · subst e
    have := sc_geq (P := isNc) (s := s) (p := p) (q := p + 8) (by omega) hb
    exact Nat.min_eq_right this
  · have h3 : nE s p = k := sc_uniq h1 (by omega) hb e
    rw [h3]; exact Nat.min_eq_left h2
theorem n8_long {s : Nat → Int32} (hs : TX s) {p : Nat} : isNc (s (n8 s p)) = true ↔ p + 8 < nE s p := by
  have h := sc_spec (P := isNc) (by decide) hs p
  unfold n8
  constructor
  · intro q
    rcases Nat.lt_or_ge (p + 8) (nE s p) with w | w
    · exact w
    · rw [Nat.min_eq_left w] at q; exact absurd q h.2.1
  · intro w
    rw [Nat.min_eq_right (by omega)]
    exact h.1 (p + 8) (by omega) w
theorem n8_short {s : Nat → Int32} (hs : TX s) {p : Nat} (h : ¬ isNc (s (n8 s p)) = true) : n8 s p = nE s p := by
  have h1 := mt (n8_long (p := p) hs).mpr h
  exact Nat.min_eq_left (by omega)
/-! words -/
def wds : List (List Nat) := [[111, 114, 103], [115, 112, 97, 99, 101], [98, 121, 116, 101], [119, 111, 114, 100], [116, 101, 120, 116], [108, 100, 97], [108, 100, 120], [108, 100, 121], [97, 100, 100], [115, 117, 98], [97, 110, 100], [111, 114, 97], [120, 111, 114], [99, 109, 112], [99, 112, 120], [99, 112, 121], [116, 115, 116], [109, 117, 108], [100, 105, 118], [97, 100, 120], [97, 100, 121], [115, 116, 97], [115, 116, 120], [115, 116, 121], [115, 116, 122], [105, 110, 99], [100, 101, 99], [115, 104, 108], [115, 104, 114], [114, 111, 108], [114, 111, 114], [115, 101, 116], [99, 108, 114], [115, 119, 112], [97, 100, 109], [106, 109, 112], [106, 115, 114], [98, 101, 113], [98, 110, 101], [98, 99, 115], [98, 99, 99], [98, 109, 105], [98, 112, 108], [98, 118, 115], [98, 118, 99], [98, 114, 97], [100, 106, 120], [100, 106, 121], [112, 115, 104], [99, 97, 108], [116, 114, 112], [105, 100, 108], [110, 111, 112], [114, 116, 115], [114, 116, 105], [104, 108, 116], [116, 97, 120], [116, 120, 97], [116, 97, 121], [116, 121, 97], [116, 115, 120], [116, 120, 115], [112, 104, 97], [112, 108, 97], [112, 104, 120], [112, 108, 120], [112, 104, 121], [112, 108, 121], [112, 104, 102], [112, 108, 102], [115, 101, 99], [99, 108, 99], [115, 101, 105], [99, 108, 105], [99, 108, 118], [105, 110, 120], [100, 101, 120], [105, 110, 121], [100, 101, 121], [105, 110, 97], [100, 101, 97], [110, 101, 103], [115, 119, 110], [98, 99, 100]]
def wl (w : Nat) : Nat := (wds.getD w []).length
def wc (w j : Nat) : Nat := (wds.getD w []).getD j 0
def isW (s : Nat → Int32) (q r w : Nat) : Prop := w < 84 ∧ r = q + wl w ∧ ∀ j, j < wl w → s (q + j) = nI (wc w j)
theorem wl_rng : ∀ w, w < 84 → 3 ≤ wl w ∧ wl w ≤ 5 := by decide +kernel
theorem wc_rng : ∀ w, w < 84 → ∀ j, j < wl w → 97 ≤ wc w j ∧ wc w j ≤ 122 := by decide +kernel
theorem wds_inj : ∀ v, v < 84 → ∀ w, w < 84 → wl v = wl w → (∀ j, j < wl w → wc v j = wc w j) → v = w := by decide +kernel
theorem isW_uniq {s : Nat → Int32} {q r v w : Nat} (hv : isW s q r v) (hw : isW s q r w) : v = w := by
  obtain ⟨h1, h2, h3⟩ := hv
  obtain ⟨g1, g2, g3⟩ := hw
  have hl : wl v = wl w := by omega
  refine wds_inj v h1 w g1 hl (fun j hj => ?_)
  have a := wc_rng v h1 j (by omega)
  have b := wc_rng w g1 j hj
  exact (nI_eq (by omega) (by omega)).mp ((h3 j (by omega)).symm.trans (g3 j hj))
noncomputable def wd (s : Nat → Int32) (q r : Nat) : Nat := @dite Nat (∃ w, isW s q r w) (Classical.propDecidable _) (fun h => Classical.choose h) (fun _ => 84)
theorem wd_of {s : Nat → Int32} {q r w : Nat} (h : isW s q r w) : wd s q r = w := by
  have hex : ∃ w, isW s q r w := ⟨w, h⟩
  unfold wd
  rw [dif_pos hex]
  exact isW_uniq (Classical.choose_spec hex) h
theorem wd_no {s : Nat → Int32} {q r : Nat} (h : ∀ w, ¬ isW s q r w) : wd s q r = 84 := by
  unfold wd
  rw [dif_neg (fun q => by obtain ⟨w, hw⟩ := q; exact h w hw)]
theorem wd_cases (s : Nat → Int32) (q r : Nat) : (wd s q r < 84 ∧ isW s q r (wd s q r)) ∨ (wd s q r = 84 ∧ ∀ w, ¬ isW s q r w) := by
  by_cases h : ∃ w, isW s q r w
  · obtain ⟨w, hw⟩ := h
    rw [wd_of hw]
    exact Or.inl ⟨hw.1, hw⟩
  · exact Or.inr ⟨wd_no (fun w hw => h ⟨w, hw⟩), fun w hw => h ⟨w, hw⟩⟩
def wI (w : Nat) : Int32 := if w < 84 then nI w else -1
theorem wI_neg {w : Nat} (h : wI w < 0) : ¬ w < 84 := fun q => by
  unfold wI at h
  rw [if_pos q] at h
  exact nI_nneg (by omega) h
theorem wI_pos {w : Nat} (h : ¬ wI w < 0) : w < 84 := by
  rcases Nat.lt_or_ge w 84 with q | q
  · exact q
  · exact absurd (by unfold wI; rw [if_neg (by omega)]; decide) h
/-! the table of names: a row is place, letters, value, equation -/
def nmd (s : Nat → Int32) (G : Nat → Nat × Nat × Int32 × Int32) (k q r : Nat) : Prop := (G k).2.1 = r - q ∧ ∀ j, j < r - q → s ((G k).1 + j) = s (q + j)
def isK (s : Nat → Int32) (n : Nat) (G : Nat → Nat × Nat × Int32 × Int32) (q r k : Nat) : Prop := k < n ∧ nmd s G k q r ∧ ∀ i, i < k → ¬ nmd s G i q r
noncomputable def lk (s : Nat → Int32) (n : Nat) (G : Nat → Nat × Nat × Int32 × Int32) (q r : Nat) : Nat := @dite Nat (∃ k, isK s n G q r k) (Classical.propDecidable _) (fun h => Classical.choose h) (fun _ => n)
theorem isK_uniq {s : Nat → Int32} {n : Nat} {G : Nat → Nat × Nat × Int32 × Int32} {q r i k : Nat} (hi : isK s n G q r i) (hk : isK s n G q r k) : i = k := by
  rcases Nat.lt_trichotomy i k with h | h | h
  · exact absurd hi.2.1 (hk.2.2 i h)
  · exact h
  · exact absurd hk.2.1 (hi.2.2 k h)
theorem lk_of {s : Nat → Int32} {n : Nat} {G : Nat → Nat × Nat × Int32 × Int32} {q r k : Nat} (hk : k < n) (h1 : nmd s G k q r) (h2 : ∀ i, i < k → ¬ nmd s G i q r) : lk s n G q r = k := by
  have hex : ∃ k, isK s n G q r k := ⟨k, hk, h1, h2⟩
  unfold lk
  rw [dif_pos hex]
  exact isK_uniq (Classical.choose_spec hex) ⟨hk, h1, h2⟩
theorem lk_no {s : Nat → Int32} {n : Nat} {G : Nat → Nat × Nat × Int32 × Int32} {q r : Nat} (h : ∀ k, k < n → ¬ nmd s G k q r) : lk s n G q r = n := by
  unfold lk
  rw [dif_neg (fun z => by obtain ⟨k, h1, h2, -⟩ := z; exact h k h1 h2)]
theorem lk_ex {s : Nat → Int32} {G : Nat → Nat × Nat × Int32 × Int32} {q r : Nat} : ∀ n : Nat, (∃ k, isK s n G q r k) ∨ ∀ k, k < n → ¬ nmd s G k q r := by
  intro n
  induction n with
  | zero => exact Or.inr (fun k hk => absurd hk (by omega))
  | succ n ih =>
    rcases ih with ⟨k, h1, h2, h3⟩ | h
    · exact Or.inl ⟨k, by omega, h2, h3⟩
    · rcases Classical.em (nmd s G n q r) with w | w
      · exact Or.inl ⟨n, by omega, w, h⟩
      · refine Or.inr (fun k hk => ?_)
        rcases Nat.lt_or_eq_of_le (Nat.le_of_lt_succ hk) with z | z
        · exact h k z
        · subst z; exact w
/-! terms and sums: the place behind, the value, the first unknown place -/
def isHx (c : Int32) : Prop := ¬ inM c 48 57 = 0 ∨ ¬ inM c 97 102 = 0
def dgt (b c : Int32) : Bool := decide (¬ inM c 48 57 = 0) || (decide (b = 16) && decide (¬ inM c 97 102 = 0))
def dgv (c : Int32) : Int32 := if inM c 48 57 = 0 then c - 97 + 10 else c - 48
def num (s : Nat → Int32) (b : Int32) : Nat → Nat → Int32 → Nat × Int32
  | 0, p, w => (p, w)
  | m + 1, p, w => if dgt b (s p) = true then num s b m (p + 1) (b * w + dgv (s p)) else (p, w)
def bdn (un : Int32) (k : Nat) : Int32 := if un < 0 then nI k else un
noncomputable def TM (s : Nat → Int32) (hr : Int32) (n : Nat) (G : Nat → Nat × Nat × Int32 × Int32) (q : Nat) (un : Int32) : Option (Nat × Int32 × Int32) :=
  if inM (s q) 48 57 = 0 then
    if s q = 36 then (if dgt 16 (s (q + 1)) = true then some ((num s 16 4 (q + 1) 0).1, (num s 16 4 (q + 1) 0).2, un) else none)
    else if s q = 39 then (if inM (s (q + 1)) 32 126 = 0 then none else some (q + 2, s (q + 1), un))
    else if s q = 46 then some (q + 1, hr, un)
    else if inM (s q) 97 122 = 0 then none
    else if isNc (s (n8 s q)) = true then none
    else if n8 s q = q + 1 ∧ (s q = 120 ∨ s q = 121) then none
    else if wd s q (n8 s q) < 84 then none
    else if lk s n G q (n8 s q) < n then some (n8 s q, (G (lk s n G q (n8 s q))).2.2.1, un)
    else some (n8 s q, 0, bdn un q)
  else some ((num s 10 5 q 0).1, (num s 10 5 q 0).2, un)
noncomputable def PT (s : Nat → Int32) (hr : Int32) (n : Nat) (G : Nat → Nat × Nat × Int32 × Int32) (q : Nat) (un : Int32) : Option (Nat × Int32 × Int32) :=
  if s q = 37 then (match TM s hr n G (sk s (q + 1)) un with
    | none => none
    | some z => some (z.1, z.2.1 >>> (8 &&& 31) &&& 255, z.2.2))
  else if s q = 38 then (match TM s hr n G (sk s (q + 1)) un with
    | none => none
    | some z => some (z.1, z.2.1 &&& 255, z.2.2))
  else TM s hr n G q un
noncomputable def SR (s : Nat → Int32) (hr : Int32) (n : Nat) (G : Nat → Nat × Nat × Int32 × Int32) : Nat → Nat → Int32 → Int32 → Option (Nat × Int32 × Int32)
  | 0, _, _, _ => none
  | m + 1, q, w, un => if s q = 43 then (match PT s hr n G (sk s (q + 1)) un with
      | none => none
      | some z => SR s hr n G m (sk s z.1) (w + z.2.1) z.2.2)
    else if s q = 45 then (match PT s hr n G (sk s (q + 1)) un with
      | none => none
      | some z => SR s hr n G m (sk s z.1) (w - z.2.1) z.2.2)
    else some (q, w, un)
theorem SR_s {s : Nat → Int32} {hr : Int32} {n : Nat} {G : Nat → Nat × Nat × Int32 × Int32} {m q : Nat} {w un : Int32} : SR s hr n G (m + 1) q w un = (if s q = 43 then (match PT s hr n G (sk s (q + 1)) un with
      | none => none
      | some z => SR s hr n G m (sk s z.1) (w + z.2.1) z.2.2)
    else if s q = 45 then (match PT s hr n G (sk s (q + 1)) un with
      | none => none
      | some z => SR s hr n G m (sk s z.1) (w - z.2.1) z.2.2)
    else some (q, w, un)) := rfl
noncomputable def SUM (s : Nat → Int32) (hr : Int32) (n : Nat) (G : Nat → Nat × Nat × Int32 × Int32) (q : Nat) (un : Int32) : Option (Nat × Int32 × Int32) :=
  if s q = 45 then (match PT s hr n G (sk s (q + 1)) un with
    | none => none
    | some z => SR s hr n G FU (sk s z.1) (-z.2.1) z.2.2)
  else (match PT s hr n G q un with
    | none => none
    | some z => SR s hr n G FU (sk s z.1) z.2.1 z.2.2)
/-! operands: the place behind, the first unknown place, the first place out of range, how many bytes, the number -/
def rgd (rg w lo hi : Int32) (q : Nat) : Int32 := if inM w lo hi = 0 then bdn rg q else rg
abbrev SX (s : Nat → Int32) (q : Nat) (c : Int32) : Prop := n8 s q = q + 1 ∧ s q = c
/-- place, way, number, unknown, where the sum began -/
noncomputable def AN (s : Nat → Int32) (hr : Int32) (n : Nat) (G : Nat → Nat × Nat × Int32 × Int32) (wv : Bool) (q : Nat) (un : Int32) : Option (Nat × Nat × Int32 × Int32 × Nat) :=
  if s q = 35 then (if wv = true then (match SUM s hr n G (sk s (q + 1)) un with
      | none => none
      | some z => some (z.1, 0, z.2.1, z.2.2, sk s (q + 1))) else none)
  else if s q = 60 then (match SUM s hr n G (sk s (q + 1)) un with
    | none => none
    | some z => if s z.1 = 44 then (if SX s (sk s (z.1 + 1)) 120 then some (sk s (z.1 + 1) + 1, 2, z.2.1, z.2.2, sk s (q + 1)) else none) else some (z.1, 1, z.2.1, z.2.2, sk s (q + 1)))
  else if s q = 40 then (match SUM s hr n G (sk s (q + 1)) un with
    | none => none
    | some z => if s z.1 = 41 then (if s (sk s (z.1 + 1)) = 44 then (if SX s (sk s (sk s (z.1 + 1) + 1)) 121 then some (sk s (sk s (z.1 + 1) + 1) + 1, 7, z.2.1, z.2.2, sk s (q + 1)) else none) else some (sk s (z.1 + 1), 6, z.2.1, z.2.2, sk s (q + 1))) else none)
  else (match SUM s hr n G q un with
    | none => none
    | some z => if s z.1 = 44 then (if SX s (sk s (z.1 + 1)) 120 then some (sk s (z.1 + 1) + 1, 4, z.2.1, z.2.2, q) else if SX s (sk s (z.1 + 1)) 121 then some (sk s (z.1 + 1) + 1, 5, z.2.1, z.2.2, q) else none) else some (z.1, 3, z.2.1, z.2.2, q))
def isTx (c : Int32) : Bool := decide (¬ inM c 32 126 = 0) && decide (¬ c = 34)
noncomputable def LSt (s : Nat → Int32) (hr : Int32) (n : Nat) (G : Nat → Nat × Nat × Int32 × Int32) (wo : Bool) : Nat → Nat → Int32 → Int32 → Nat → Option (Nat × Int32 × Int32 × Nat)
  | 0, _, _, _, _ => none
  | m + 1, q, un, rg, many => match SUM s hr n G q un with
    | none => none
    | some z => if s z.1 = 44 then LSt s hr n G wo m (sk s (z.1 + 1)) z.2.2 (rgd rg z.2.1 (if wo = true then -32768 else -128) (if wo = true then 65535 else 255) q) (many + if wo = true then 2 else 1)
      else some (z.1, z.2.2, rgd rg z.2.1 (if wo = true then -32768 else -128) (if wo = true then 65535 else 255) q, many + if wo = true then 2 else 1)
theorem LSt_s {s : Nat → Int32} {hr : Int32} {n : Nat} {G : Nat → Nat × Nat × Int32 × Int32} {wo : Bool} {m q : Nat} {un rg : Int32} {many : Nat} : LSt s hr n G wo (m + 1) q un rg many = (match SUM s hr n G q un with
    | none => none
    | some z => if s z.1 = 44 then LSt s hr n G wo m (sk s (z.1 + 1)) z.2.2 (rgd rg z.2.1 (if wo = true then -32768 else -128) (if wo = true then 65535 else 255) q) (many + if wo = true then 2 else 1)
      else some (z.1, z.2.2, rgd rg z.2.1 (if wo = true then -32768 else -128) (if wo = true then 65535 else 255) q, many + if wo = true then 2 else 1)) := rfl
noncomputable def CD (s : Nat → Int32) (hr : Int32) (n : Nat) (G : Nat → Nat × Nat × Int32 × Int32) (wv : Bool) (q : Nat) (un rg : Int32) : Option (Nat × Int32 × Int32 × Nat) :=
  match AN s hr n G wv q un with
  | none => none
  | some z => some (z.1, z.2.2.2.1, rgd rg z.2.2.1 (if z.2.1 = 0 then -128 else 0) (if 2 < z.2.1 ∧ z.2.1 < 6 then 65535 else 255) z.2.2.2.2, (if 2 < z.2.1 ∧ z.2.1 < 6 then 3 else 2))
noncomputable def STP (s : Nat → Int32) (hr : Int32) (n : Nat) (G : Nat → Nat × Nat × Int32 × Int32) (q : Nat) (un rg : Int32) : Option (Nat × Int32 × Int32 × Nat) :=
  match SUM s hr n G q un with
  | none => none
  | some z => some (z.1, z.2.2, rgd rg z.2.1 (hr - 126) (hr + 129) q, 2)
noncomputable def NBR (s : Nat → Int32) (hr : Int32) (n : Nat) (G : Nat → Nat × Nat × Int32 × Int32) (q : Nat) (un rg : Int32) : Option (Nat × Int32 × Int32 × Nat) :=
  if s q = 35 then (match SUM s hr n G (sk s (q + 1)) un with
    | none => none
    | some z => some (z.1, z.2.2, rgd rg z.2.1 (-128) 255 (sk s (q + 1)), 2)) else none
/-- a text in quotes: the place of its end -/
noncomputable def QT (s : Nat → Int32) (q : Nat) : Option Nat := if s q = 34 then (if s (sc isTx s (q + 1)) = 34 then some (sc isTx s (q + 1)) else none) else none
def o5 (a : Option (Nat × Int32 × Int32 × Nat)) : Option (Nat × Int32 × Int32 × Nat × Int32) := match a with
  | none => none
  | some z => some (z.1, z.2.1, z.2.2.1, z.2.2.2, 0)
/-- behind the word: place, unknown, out of range, many, number -/
noncomputable def OPS (s : Nat → Int32) (hr : Int32) (n : Nat) (G : Nat → Nat × Nat × Int32 × Int32) (word p : Nat) (un rg : Int32) : Option (Nat × Int32 × Int32 × Nat × Int32) :=
  if word < 2 ∨ word = 101 then (match SUM s hr n G (sk s p) un with
    | none => none
    | some z => some (z.1, z.2.2, rg, 0, z.2.1))
  else if word < 4 then o5 (LSt s hr n G (decide (word = 3)) FU (sk s p) un rg 0)
  else if word = 4 then (match QT s (sk s p) with
    | none => none
    | some z => some (z + 1, un, rg, z - (sk s p + 1), 0))
  else if word < 37 then o5 (CD s hr n G (decide (word < 21)) (sk s p) un rg)
  else if word < 48 ∨ word = 49 then o5 (STP s hr n G (sk s p) un rg)
  else if word < 52 then o5 (NBR s hr n G (sk s p) un rg)
  else some (p, un, rg, 2, 0)
/-- a line's end: only a remark may stand there -/
noncomputable def EN (s : Nat → Int32) (g : Nat) : Option Nat := if s (sk s g) = 59 then some (lE s (sk s g)) else if s (sk s g) = 10 ∨ s (sk s g) < 0 then some (sk s g) else none
/-- a word at q -/
noncomputable def WRD (s : Nat → Int32) (hr : Int32) (n : Nat) (G : Nat → Nat × Nat × Int32 × Int32) (q : Nat) : Option (Nat × Nat × Int32 × Int32 × Nat × Int32) :=
  if wd s q (n8 s q) < 84 then (if isNc (s (n8 s q)) = true then none else (match OPS s hr n G (wd s q (n8 s q)) (n8 s q) (-1) (-1) with
    | none => none
    | some z => some (z.1, wd s q (n8 s q), z.2))) else none
/-- a name at q, up to r: place, name, word, unknown, out of range, many, number -/
noncomputable def NMD (s : Nat → Int32) (hr : Int32) (n : Nat) (G : Nat → Nat × Nat × Int32 × Int32) (q r : Nat) : Option (Nat × Nat × Int32 × Int32 × Nat × Int32) :=
  if isNc (s r) = true then none
  else if r = q + 1 ∧ (s q = 120 ∨ s q = 121) then none
  else if s (sk s r) = 61 then (match OPS s hr n G 101 (sk s r + 1) (-1) (-1) with
    | none => none
    | some z => some (z.1, 101, z.2))
  else if s (sk s r) = 58 then
    (if inM (s (sk s (sk s r + 1))) 97 122 = 0 then some (sk s (sk s r + 1), 100, -1, -1, 0, 0) else WRD s hr n G (sk s (sk s r + 1)))
  else none
/-- what stands in a line ahead of its end: place, name, word, unknown, out of range, many, number -/
noncomputable def LB1 (s : Nat → Int32) (hr : Int32) (n : Nat) (G : Nat → Nat × Nat × Int32 × Int32) (q : Nat) : Option (Nat × Option (Nat × Nat) × Nat × Int32 × Int32 × Nat × Int32) :=
  if inM (s q) 97 122 = 0 then some (q, none, 100, -1, -1, 0, 0)
  else if wd s q (n8 s q) < 84 ∧ ¬ isNc (s (n8 s q)) = true then (match WRD s hr n G q with
    | none => none
    | some z => some (z.1, none, z.2))
  else (match NMD s hr n G q (n8 s q) with
    | none => none
    | some z => some (z.1, some (q, n8 s q), z.2))
noncomputable def LINE (s : Nat → Int32) (hr : Int32) (n : Nat) (G : Nat → Nat × Nat × Int32 × Int32) (p : Nat) : Option (Nat × Option (Nat × Nat) × Nat × Int32 × Int32 × Nat × Int32) :=
  match LB1 s hr n G (sk s p) with
  | none => none
  | some z => (match EN s z.1 with
    | none => none
    | some g => some (g, z.2))
abbrev tls (word : Nat) : Prop := word < 2 ∨ word = 101
/-- the state of the first reading: place, address, names -/
noncomputable def FS (s : Nat → Int32) (p h n : Nat) (G : Nat → Nat × Nat × Int32 × Int32) : Option (Nat × Nat × Nat × (Nat → Nat × Nat × Int32 × Int32)) :=
  match LINE s (nI h) n G p with
  | none => none
  | some (g, nm, word, un, _, many, told) =>
    if tls word ∧ ¬ un < 0 then none
    else if word = 0 ∧ inM told 0 4079 = 0 then none
    else if word = 1 ∧ inM told 0 4080 = 0 then none
    else if ¬ word = 0 ∧ 4080 < h + (if word = 1 then told.toNatClampNeg else many) then none
    else (match nm with
      | none => some (g + 1, (if word = 0 then told.toNatClampNeg else h + (if word = 1 then told.toNatClampNeg else many)), n, G)
      | some (a, b) => if lk s n G a b < n then none else if ¬ n < 60 then none
        else some (g + 1, (if word = 0 then told.toNatClampNeg else h + (if word = 1 then told.toNatClampNeg else many)), n + 1, fun k => if k = n then (a, b - a, (if word = 101 ∨ word = 0 then told else nI h), (if word = 101 then 1 else 0)) else G k))
noncomputable def R1 (s : Nat → Int32) (e : Nat) : Nat → Nat → Nat → Nat → (Nat → Nat × Nat × Int32 × Int32) → Option (Nat × Nat × (Nat → Nat × Nat × Int32 × Int32))
  | 0, _, _, _, _ => none
  | f + 1, p, h, n, G => if p ≤ e then (match FS s p h n G with
      | none => none
      | some (p', h', n', G') => R1 s e f p' h' n' G') else some (h, n, G)
theorem R1_s {s : Nat → Int32} {e f p h n : Nat} {G : Nat → Nat × Nat × Int32 × Int32} : R1 s e (f + 1) p h n G = (if p ≤ e then (match FS s p h n G with
      | none => none
      | some (p', h', n', G') => R1 s e f p' h' n' G') else some (h, n, G)) := rfl
/-- a line of the second reading: the next place and address -/
noncomputable def SS (s : Nat → Int32) (h n : Nat) (G : Nat → Nat × Nat × Int32 × Int32) (p : Nat) : Option (Nat × Nat) :=
  match LINE s (nI h) n G p with
  | none => none
  | some (g, _, word, un, rg, many, told) => if ¬ tls word ∧ ¬ un < 0 then none else if ¬ tls word ∧ ¬ rg < 0 then none
    else some (g + 1, (if word = 0 then told.toNatClampNeg else h + (if word = 1 then told.toNatClampNeg else many)))
noncomputable def R2 (s : Nat → Int32) (e n : Nat) (G : Nat → Nat × Nat × Int32 × Int32) : Nat → Nat → Nat → Option Nat
  | 0, _, _ => none
  | f + 1, p, h => if p ≤ e then (match SS s h n G p with
      | none => none
      | some z => R2 s e n G f z.1 z.2) else some h
theorem R2_s {s : Nat → Int32} {e n f p h : Nat} {G : Nat → Nat × Nat × Int32 × Int32} : R2 s e n G (f + 1) p h = (if p ≤ e then (match SS s h n G p with
      | none => none
      | some z => R2 s e n G f z.1 z.2) else some h) := rfl
noncomputable def ASM (s : Nat → Int32) (e : Nat) : Option (Nat × Nat × (Nat → Nat × Nat × Int32 × Int32)) :=
  match R1 s e FU 0 0 0 (fun _ => (0, 0, 0, 0)) with
  | none => none
  | some (_, n, G) => (match R2 s e n G FU 0 0 with
    | none => none
    | some h => some (h, n, G))
/-! the reference's table of names -/
def TBm (G : Nat → Nat × Nat × Int32 × Int32) (a b c : Nat → Int32) (n e : Nat) : Prop := ∀ k, k < n → a k = nI (G k).1 ∧ b k = nI ((G k).1 + (G k).2.1) ∧ c k = (G k).2.2.1 ∧ (G k).1 + (G k).2.1 ≤ e
theorem and3 {k : Nat} (h : k < 21) : nI k &&& 3 = nI (k % 4) := (by decide : ∀ k, k < 21 → nI k &&& 3 = nI (k % 4)) k h
theorem isNc_l {c : Int32} (h : ¬ inM c 97 122 = 0) : isNc c = true := by unfold isNc; rw [decide_eq_true h]; rfl
theorem isNc_d {c : Int32} (h : ¬ inM c 48 57 = 0) : isNc c = true := by unfold isNc; rw [decide_eq_true h]; exact Bool.or_true _
theorem isNc_no {c : Int32} (h1 : inM c 97 122 = 0) (h2 : inM c 48 57 = 0) : ¬ isNc c = true := by unfold isNc; rw [h1, h2]; decide
theorem bl_next {s : Nat → Int32} {P : Int32 → Prop} {p g : Nat} (h : ∀ j, p ≤ j → j < g → P (s j)) (c : P (s g)) : ∀ j, p ≤ j → j < g + 1 → P (s j) := by
  intro j h1 h2
  rcases Nat.lt_or_eq_of_le (Nat.le_of_lt_succ h2) with z | z
  · exact h j h1 z
  · subst z; exact c
theorem num_step {s : Nat → Int32} {b : Int32} {l p : Nat} {w : Int32} (h : p < l) (hd : dgt b (s p) = true) : num s b (l - p) p w = num s b (l - (p + 1)) (p + 1) (b * w + dgv (s p)) := by
  obtain ⟨m, hm⟩ : ∃ m, l - p = m + 1 := ⟨l - p - 1, by omega⟩
  have h2 : l - (p + 1) = m := by omega
  rw [hm, h2]
  exact if_pos hd
theorem num_stop {s : Nat → Int32} {b : Int32} {l p : Nat} {w : Int32} (h : l ≤ p ∨ ¬ dgt b (s p) = true) : num s b (l - p) p w = (p, w) := by
  rcases h with h | h
  · have h2 : l - p = 0 := by omega
    rw [h2]; rfl
  · cases hm : l - p with
    | zero => rfl
    | succ m => exact if_neg h
theorem dgt_d {b c : Int32} (h : ¬ inM c 48 57 = 0) : dgt b c = true := by unfold dgt; rw [decide_eq_true h]; rfl
theorem dgt_10 {c : Int32} (h : inM c 48 57 = 0) : ¬ dgt 10 c = true := by unfold dgt; rw [h, show decide ((10 : Int32) = 16) = false from rfl]; simp
theorem dgt_16 {c : Int32} : dgt 16 c = true ↔ isHx c := by
  unfold dgt isHx
  constructor
  · intro h
    rcases Bool.or_eq_true_iff.mp h with q | q
    · exact Or.inl (of_decide_eq_true q)
    · exact Or.inr (of_decide_eq_true (Bool.and_eq_true_iff.mp q).2)
  · intro h
    rcases h with q | q
    · rw [decide_eq_true q]; rfl
    · rw [decide_eq_true q]; exact Bool.or_true _
theorem let_rng {k : Nat} (hk : k < 256) (h : ¬ inM (nI k) 97 122 = 0) : 97 ≤ k ∧ k ≤ 122 := by
  obtain ⟨h1, h2⟩ := inM_spl h
  have a : ¬ k < 97 := fun q => h1 ((nI_ltI (a := k) (b := 97) (by omega) (by decide)).mpr q)
  have b : ¬ 122 < k := fun q => h2 ((nI_ltI (a := 122) (b := k) (by decide) (by omega)).mpr q)
  omega
def pck (s : Nat → Int32) (q : Nat) : Nat → Nat
  | 0 => 0
  | n + 1 => pck s q n + ((s (q + n)).toNatClampNeg - 96) * 2 ^ (5 * n)
theorem pck_lt {s : Nat → Int32} {q : Nat} : ∀ n : Nat, (∀ j, j < n → (s (q + j)).toNatClampNeg ≤ 122) → pck s q n < 2 ^ (5 * n) := by
  intro n
  induction n with
  | zero => intro h; exact Nat.one_pos
  | succ n ih =>
    intro h
    have h1 := ih (fun j hj => h j (by omega))
    have h2 := h n (by omega)
    have h3 : ((s (q + n)).toNatClampNeg - 96) * 2 ^ (5 * n) ≤ 26 * 2 ^ (5 * n) := Nat.mul_le_mul_right _ (by omega)
    have h4 : 2 ^ (5 * (n + 1)) = 32 * 2 ^ (5 * n) := by rw [show 5 * (n + 1) = 5 * n + 5 by omega, Nat.pow_add, Nat.mul_comm]
    show pck s q n + ((s (q + n)).toNatClampNeg - 96) * 2 ^ (5 * n) < 2 ^ (5 * (n + 1))
    rw [h4]
    omega
theorem shl5 {a d : Nat} (ha : a < 32) (hd : d < 5) : nI a <<< (nI (5 * d) &&& 31) = nI (a * 2 ^ (5 * d)) := by
  have h1 : ∀ d, d < 5 → ((nI (5 * d) &&& 31).toBitVec.smod 32).toNat = 5 * d := by decide
  have h2 : 2 ^ (5 * d) ≤ 2 ^ 20 := Nat.pow_le_pow_right (by decide) (by omega)
  have h3 : a * 2 ^ (5 * d) ≤ 32 * 2 ^ 20 := Nat.mul_le_mul (by omega) h2
  exact pk_shlN _ (5 * d) (h1 d hd) (by omega)
theorem wordsL_pck : ∀ w, w < 84 → wordsL.getD w 0 = (wc w 0 - 96) + (wc w 1 - 96) * 32 + (wc w 2 - 96) * 1024 + (wc w 3 - 96) * 32768 + (wc w 4 - 96) * 1048576 ∧ (∀ j, j < 5 → wl w ≤ j → wc w j = 0) := by decide +kernel
theorem pck_word {s : Nat → Int32} {q n w : Nat} (hn : n ≤ 5) (hw : w < 84) (hl : ∀ j, j < n → ∃ k : Nat, 97 ≤ k ∧ k ≤ 122 ∧ s (q + j) = nI k) : wordsL.getD w 0 = pck s q n ↔ isW s q (q + n) w := by
  obtain ⟨e, hz⟩ := wordsL_pck w hw
  have hr := wl_rng w hw
  have hc := wc_rng w hw
  have cl : ∀ k : Nat, k ≤ 122 → (nI k).toNatClampNeg = k := fun k hk => nI_clamp (by omega)
  have inj : ∀ a b : Nat, a ≤ 122 → b ≤ 122 → nI a = nI b → a = b := fun a b ha hb h => (nI_eq (by omega) (by omega)).mp h
  have c0 := hc 0 (by omega)
  have c1 := hc 1 (by omega)
  have c2 := hc 2 (by omega)
  rw [e]
  constructor
  · intro h
    rcases (show n = 0 ∨ n = 1 ∨ n = 2 ∨ n = 3 ∨ n = 4 ∨ n = 5 by omega) with rfl | rfl | rfl | rfl | rfl | rfl
    · simp only [pck] at h; omega
    · obtain ⟨a, a1, a2, a3⟩ := hl 0 (by omega)
      simp only [pck, a3, cl a a2] at h; omega
    · obtain ⟨a, a1, a2, a3⟩ := hl 0 (by omega)
      obtain ⟨b, b1, b2, b3⟩ := hl 1 (by omega)
      simp only [pck, a3, cl a a2, b3, cl b b2] at h; omega
    · obtain ⟨a, a1, a2, a3⟩ := hl 0 (by omega)
      obtain ⟨b, b1, b2, b3⟩ := hl 1 (by omega)
      obtain ⟨d, d1, d2, d3⟩ := hl 2 (by omega)
      simp only [pck, a3, cl a a2, b3, cl b b2, d3, cl d d2] at h
      have l3 : wl w = 3 := by
        rcases (show wl w = 3 ∨ 4 ≤ wl w by omega) with z | z
        · exact z
        · have c3 := hc 3 (by omega); omega
      refine ⟨hw, by omega, fun j hj => ?_⟩
      have z3 := hz 3 (by omega) (by omega)
      have z4 := hz 4 (by omega) (by omega)
      rcases (show j = 0 ∨ j = 1 ∨ j = 2 by omega) with rfl | rfl | rfl
      · rw [a3, show a = wc w 0 by omega]
      · rw [b3, show b = wc w 1 by omega]
      · rw [d3, show d = wc w 2 by omega]
    · obtain ⟨a, a1, a2, a3⟩ := hl 0 (by omega)
      obtain ⟨b, b1, b2, b3⟩ := hl 1 (by omega)
      obtain ⟨d, d1, d2, d3⟩ := hl 2 (by omega)
      obtain ⟨f, f1, f2, f3⟩ := hl 3 (by omega)
      simp only [pck, a3, cl a a2, b3, cl b b2, d3, cl d d2, f3, cl f f2] at h
      have l4 : wl w = 4 := by
        rcases (show wl w = 3 ∨ wl w = 4 ∨ wl w = 5 by omega) with z | z | z
        · have z3 := hz 3 (by omega) (by omega); have z4 := hz 4 (by omega) (by omega); omega
        · exact z
        · have c3 := hc 3 (by omega); have c4 := hc 4 (by omega); omega
      have c3 := hc 3 (by omega)
      have z4 := hz 4 (by omega) (by omega)
      refine ⟨hw, by omega, fun j hj => ?_⟩
      rcases (show j = 0 ∨ j = 1 ∨ j = 2 ∨ j = 3 by omega) with rfl | rfl | rfl | rfl
      · rw [a3, show a = wc w 0 by omega]
      · rw [b3, show b = wc w 1 by omega]
      · rw [d3, show d = wc w 2 by omega]
      · rw [f3, show f = wc w 3 by omega]
    · obtain ⟨a, a1, a2, a3⟩ := hl 0 (by omega)
      obtain ⟨b, b1, b2, b3⟩ := hl 1 (by omega)
      obtain ⟨d, d1, d2, d3⟩ := hl 2 (by omega)
      obtain ⟨f, f1, f2, f3⟩ := hl 3 (by omega)
      obtain ⟨g, g1, g2, g3⟩ := hl 4 (by omega)
      simp only [pck, a3, cl a a2, b3, cl b b2, d3, cl d d2, f3, cl f f2, g3, cl g g2] at h
      have l5 : wl w = 5 := by
        rcases (show wl w = 3 ∨ wl w = 4 ∨ wl w = 5 by omega) with z | z | z
        · have z3 := hz 3 (by omega) (by omega); have z4 := hz 4 (by omega) (by omega); omega
        · have c3 := hc 3 (by omega); have z4 := hz 4 (by omega) (by omega); omega
        · exact z
      have c3 := hc 3 (by omega)
      have c4 := hc 4 (by omega)
      refine ⟨hw, by omega, fun j hj => ?_⟩
      rcases (show j = 0 ∨ j = 1 ∨ j = 2 ∨ j = 3 ∨ j = 4 by omega) with rfl | rfl | rfl | rfl | rfl
      · rw [a3, show a = wc w 0 by omega]
      · rw [b3, show b = wc w 1 by omega]
      · rw [d3, show d = wc w 2 by omega]
      · rw [f3, show f = wc w 3 by omega]
      · rw [g3, show g = wc w 4 by omega]
  · rintro ⟨-, h2, h3⟩
    have hn2 : n = wl w := by omega
    subst hn2
    have e0 : s (q + 0) = nI (wc w 0) := h3 0 (by omega)
    have e1 := h3 1 (by omega)
    have e2 := h3 2 (by omega)
    rcases (show wl w = 3 ∨ wl w = 4 ∨ wl w = 5 by omega) with z | z | z
    · have z3 := hz 3 (by omega) (by omega); have z4 := hz 4 (by omega) (by omega)
      rw [z]
      simp only [pck, e0, e1, e2, cl _ c0.2, cl _ c1.2, cl _ c2.2]; omega
    · have c3 := hc 3 (by omega); have z4 := hz 4 (by omega) (by omega); have e3 := h3 3 (by omega)
      rw [z]
      simp only [pck, e0, e1, e2, e3, cl _ c0.2, cl _ c1.2, cl _ c2.2, cl _ c3.2]; omega
    · have c3 := hc 3 (by omega); have c4 := hc 4 (by omega); have e3 := h3 3 (by omega); have e4 := h3 4 (by omega)
      rw [z]
      simp only [pck, e0, e1, e2, e3, e4, cl _ c0.2, cl _ c1.2, cl _ c2.2, cl _ c3.2, cl _ c4.2]; omega
theorem wd_long {s : Nat → Int32} {q r : Nat} (h : q + 5 < r) : ¬ wd s q r < 84 := by
  rw [wd_no (fun w hw => by have := wl_rng w hw.1; have := hw.2.1; omega)]; decide
theorem wd_noL {s : Nat → Int32} {q r j : Nat} (h1 : q ≤ j) (h2 : j < r) (h : inM (s j) 97 122 = 0) : ¬ wd s q r < 84 := by
  rw [wd_no (fun w hw => by
    obtain ⟨a, b, c⟩ := hw
    have e := c (j - q) (by omega)
    have hr := wc_rng w a (j - q) (by omega)
    rw [show q + (j - q) = j by omega] at e
    rw [e] at h
    unfold inM at h
    rw [if_neg (fun z => by have := (nI_ltI (a := wc w (j - q)) (b := 97) (by omega) (by decide)).mp z; omega), if_neg (fun z => by have := (nI_ltI (a := 122) (b := wc w (j - q)) (by decide) (by omega)).mp z; omega)] at h
    exact absurd h (by decide))]; decide
theorem pck_next {s : Nat → Int32} {q n k p : Nat} (hp : p = pck s q n) (hs : s (q + n) = nI k) (hk : k ≤ 122) : p + (k - 96) * 2 ^ (5 * n) = pck s q (n + 1) := by
  show _ = pck s q n + ((s (q + n)).toNatClampNeg - 96) * 2 ^ (5 * n)
  rw [hp, hs, nI_clamp (by omega)]
theorem pck_le {s : Nat → Int32} {q n p : Nat} (hn : n ≤ 5) (hp : p = pck s q n) (h : ∀ j, j < n → ∃ k : Nat, 97 ≤ k ∧ k ≤ 122 ∧ s (q + j) = nI k) : p < 33554432 := by
  have h1 := pck_lt (s := s) (q := q) n (fun j hj => by obtain ⟨k, -, h2, h3⟩ := h j hj; rw [h3, nI_clamp (by omega)]; exact h2)
  have h2 : 2 ^ (5 * n) ≤ 2 ^ 25 := Nat.pow_le_pow_right (by decide) (by omega)
  rw [hp]; omega
theorem isTx_1 {c : Int32} (h1 : ¬ inM c 32 126 = 0) (h2 : ¬ c = 34) : isTx c = true := by unfold isTx; rw [decide_eq_true h1, decide_eq_true h2]; rfl
theorem isTx_0 {c : Int32} (h : inM c 32 126 = 0 ∨ c = 34) : ¬ isTx c = true := by
  unfold isTx
  rcases h with h | h
  · rw [h]; simp
  · subst h; decide
theorem isLn_1 {c : Int32} (h : ¬ (c = 10 ∨ c < 0)) : isLn c = true := by
  unfold isLn
  rw [decide_eq_false (fun z => h (Or.inl z)), decide_eq_false (fun z => h (Or.inr z))]; rfl
theorem isLn_0 {c : Int32} (h : c = 10 ∨ c < 0) : ¬ isLn c = true := by
  unfold isLn
  rcases h with h | h
  · rw [decide_eq_true h]; simp
  · rw [decide_eq_true h, Bool.or_true]; decide
