/-! the readings of the reference -/
def TBe (G : Nat → Nat × Nat × Int32 × Int32) (d : Nat → Int32) (n : Nat) : Prop := ∀ k, k < n → d k = (G k).2.2.2
theorem TBe_add {G : Nat → Nat × Nat × Int32 × Int32} {d : Nat → Int32} {n : Nat} {x : Nat × Nat × Int32 × Int32} (h : TBe G d n) : TBe (fun k => if k = n then x else G k) (upd d n x.2.2.2) (n + 1) := by
  intro k hk
  by_cases e : k = n
  · subst e; rw [pk_us]; simp only [if_true]
  · rw [pk_un e]; simp only [if_neg e]; exact h k (by omega)
theorem TBm_add {G : Nat → Nat × Nat × Int32 × Int32} {a b c : Nat → Int32} {n e i j : Nat} {v q : Int32} (h : TBm G a b c n e) (hij : i ≤ j) (hj : j ≤ e) : TBm (fun k => if k = n then (i, j - i, v, q) else G k) (upd a n (nI i)) (upd b n (nI j)) (upd c n v) (n + 1) e := by
  intro k hk
  by_cases z : k = n
  · subst z; rw [pk_us, pk_us, pk_us]; simp only [if_true]; exact ⟨trivial, by rw [show i + (j - i) = j by omega], trivial, by omega⟩
  · rw [pk_un z, pk_un z, pk_un z]; simp only [if_neg z]; exact h k (by omega)
/-- a line that the second reading can read -/
def GL (s : Nat → Int32) (h n : Nat) (G : Nat → Nat × Nat × Int32 × Int32) (p : Nat) : Prop := ∃ g nm word un rg many told, LINE s (nI h) n G p = some (g, nm, word, un, rg, many, told) ∧ (word = 0 → ¬ inM told 0 4079 = 0) ∧ (word = 1 → ¬ inM told 0 4080 = 0) ∧ (¬ word = 0 → h + (if word = 1 then told.toNatClampNeg else many) ≤ 4080)
theorem GL_some {s : Nat → Int32} {h n p : Nat} {G : Nat → Nat × Nat × Int32 × Int32} (H : GL s h n G p) : ¬ LINE s (nI h) n G p = none := by
  obtain ⟨g, nm, word, un, rg, many, told, e, -⟩ := H
  rw [e]; simp
theorem GL_use {s : Nat → Int32} {h n p : Nat} {G : Nat → Nat × Nat × Int32 × Int32} {g : Nat} {nm : Option (Nat × Nat)} {word : Nat} {un rg : Int32} {many : Nat} {told : Int32} (H : GL s h n G p) (e : LINE s (nI h) n G p = some (g, nm, word, un, rg, many, told)) : (word = 0 → ¬ inM told 0 4079 = 0) ∧ (word = 1 → ¬ inM told 0 4080 = 0) ∧ (¬ word = 0 → h + (if word = 1 then told.toNatClampNeg else many) ≤ 4080) := by
  obtain ⟨g', nm', word', un', rg', many', told', e', H⟩ := H
  rw [e] at e'
  simp only [Option.some.injEq, Prod.mk.injEq] at e'
  obtain ⟨-, -, h1, -, -, h2, h3⟩ := e'
  subst h1; subst h2; subst h3
  exact H
/-! what feed lays on the tape -/
def fdb (a b c d e : Int32) (k : Nat) : Int32 := (if k < 4 then a else if k < 8 then b else if k < 12 then c else if k < 16 then d else e) >>> (nI (24 - 8 * (k % 4)) &&& 31) &&& 255
def fd4 (v : Int32) (k : Nat) : Int32 := v >>> (nI (24 - 8 * k) &&& 31) &&& 255
theorem fd4_upd {tz : Nat → Int32} {ln : Nat} {v : Int32} (j : Nat) : upd (upd (upd (upd tz ln (fd4 v 0)) (ln + 1) (fd4 v 1)) (ln + 2) (fd4 v 2)) (ln + 3) (fd4 v 3) j = if ln ≤ j ∧ j < ln + 4 then fd4 v (j - ln) else tz j := by
  by_cases h : ln ≤ j ∧ j < ln + 4
  · rw [if_pos h]
    rcases (show j = ln ∨ j = ln + 1 ∨ j = ln + 2 ∨ j = ln + 3 by omega) with rfl | rfl | rfl | rfl
    · rw [pk_un (by omega), pk_un (by omega), pk_un (by omega), pk_us, Nat.sub_self]
    · rw [pk_un (by omega), pk_un (by omega), pk_us, show ln + 1 - ln = 1 by omega]
    · rw [pk_un (by omega), pk_us, show ln + 2 - ln = 2 by omega]
    · rw [pk_us, show ln + 3 - ln = 3 by omega]
  · rw [if_neg h, pk_un (by omega), pk_un (by omega), pk_un (by omega), pk_un (by omega)]
theorem fdb_5 {a b c d e : Int32} {t0 t1 t2 t3 t4 t5 : Nat → Int32} {ln : Nat} (h1 : ∀ j, t1 j = if ln ≤ j ∧ j < ln + 4 then fd4 a (j - ln) else t0 j) (h2 : ∀ j, t2 j = if ln + 4 ≤ j ∧ j < ln + 4 + 4 then fd4 b (j - (ln + 4)) else t1 j) (h3 : ∀ j, t3 j = if ln + 4 + 4 ≤ j ∧ j < ln + 4 + 4 + 4 then fd4 c (j - (ln + 4 + 4)) else t2 j) (h4 : ∀ j, t4 j = if ln + 4 + 4 + 4 ≤ j ∧ j < ln + 4 + 4 + 4 + 4 then fd4 d (j - (ln + 4 + 4 + 4)) else t3 j) (h5 : ∀ j, t5 j = if ln + 4 + 4 + 4 + 4 ≤ j ∧ j < ln + 4 + 4 + 4 + 4 + 4 then fd4 e (j - (ln + 4 + 4 + 4 + 4)) else t4 j) (j : Nat) : t5 j = if ln ≤ j ∧ j < ln + 20 then fdb a b c d e (j - ln) else t0 j := by
  have key : ∀ (k m : Nat), k < 4 → k % 4 = k := fun k m hk => Nat.mod_eq_of_lt hk
  rw [h5 j]
  by_cases z5 : ln + 4 + 4 + 4 + 4 ≤ j ∧ j < ln + 4 + 4 + 4 + 4 + 4
  · rw [if_pos z5, if_pos (by omega)]
    unfold fdb fd4
    rw [if_neg (by omega), if_neg (by omega), if_neg (by omega), if_neg (by omega), show (j - ln) % 4 = j - (ln + 4 + 4 + 4 + 4) by omega]
  · rw [if_neg z5, h4 j]
    by_cases z4 : ln + 4 + 4 + 4 ≤ j ∧ j < ln + 4 + 4 + 4 + 4
    · rw [if_pos z4, if_pos (by omega)]
      unfold fdb fd4
      rw [if_neg (by omega), if_neg (by omega), if_neg (by omega), if_pos (by omega), show (j - ln) % 4 = j - (ln + 4 + 4 + 4) by omega]
    · rw [if_neg z4, h3 j]
      by_cases z3 : ln + 4 + 4 ≤ j ∧ j < ln + 4 + 4 + 4
      · rw [if_pos z3, if_pos (by omega)]
        unfold fdb fd4
        rw [if_neg (by omega), if_neg (by omega), if_pos (by omega), show (j - ln) % 4 = j - (ln + 4 + 4) by omega]
      · rw [if_neg z3, h2 j]
        by_cases z2 : ln + 4 ≤ j ∧ j < ln + 4 + 4
        · rw [if_pos z2, if_pos (by omega)]
          unfold fdb fd4
          rw [if_neg (by omega), if_pos (by omega), show (j - ln) % 4 = j - (ln + 4) by omega]
        · rw [if_neg z2, h1 j]
          by_cases z1 : ln ≤ j ∧ j < ln + 4
          · rw [if_pos z1, if_pos (by omega)]
            unfold fdb fd4
            rw [if_pos (by omega), show (j - ln) % 4 = j - ln by omega]
          · rw [if_neg z1, if_neg (by omega)]
theorem fd_next {f t : Nat → Int32} {p k : Nat} {v : Int32} {B : Nat → Int32} (h : ∀ j, f j = if p ≤ j ∧ j < p + k then B (j - p) else t j) (hv : v = B k) (j : Nat) : upd f (p + k) v j = if p ≤ j ∧ j < p + (k + 1) then B (j - p) else t j := by
  by_cases e : j = p + k
  · subst e; rw [pk_us, if_pos (by omega), hv, show p + k - p = k by omega]
  · rw [pk_un e, h j]
    by_cases z : p ≤ j ∧ j < p + k
    · rw [if_pos z, if_pos (by omega)]
    · rw [if_neg z, if_neg (by omega)]
/-! what name answers -/
def tlF (n : Nat) (fv fp fe : Nat → Int32) (k w rv : Int32) : Prop := (inM k 0 (nI n - 1) = 0 ∧ rv = 0) ∨ (∃ j : Nat, j < n ∧ k = nI j ∧ ((w = 0 ∧ rv = fv j) ∨ (w = 1 ∧ rv = fp j) ∨ (w = 2 ∧ rv = fe j) ∨ (¬ w = 0 ∧ ¬ w = 1 ∧ ¬ w = 2 ∧ rv = 0)))
theorem inM_ge {n j : Nat} (hn : n < 2 ^ 30) (hj : j < 2 ^ 31) (h : n ≤ j) : inM (nI j) 0 (nI n - 1) = 0 := by
  unfold inM
  rw [if_neg (nI_nneg hj), if_pos]
  rcases Nat.eq_zero_or_pos n with z | z
  · subst z
    exact Int32.lt_of_lt_of_le (by decide : nI 0 - 1 < 0) (nI_pos' hj)
  · rw [show nI n - 1 = nI (n - 1) from pk_sub (b := 1) z]
    exact nI_lt (by omega) hj
/-! what the second reading finds is what the first has found -/
theorem nm_add {a b d : Nat → Int32} {G : Nat → Nat × Nat × Int32 × Int32} {n : Nat} {v p q : Int32} (h : ∀ k, k < n → a k = (G k).2.2.1 ∧ b k = nI (G k).1 ∧ d k = (G k).2.2.2) (hv : v = (G n).2.2.1) (hp : p = nI (G n).1) (hq : q = (G n).2.2.2) : ∀ k, k < n + 1 → upd a n v k = (G k).2.2.1 ∧ upd b n p k = nI (G k).1 ∧ upd d n q k = (G k).2.2.2 := by
  intro k hk
  by_cases e : k = n
  · subst e; rw [pk_us, pk_us, pk_us]; exact ⟨hv, hp, hq⟩
  · rw [pk_un e, pk_un e, pk_un e]; exact h k (by omega)
def PRE (k n : Nat) (G1 G : Nat → Nat × Nat × Int32 × Int32) : Prop := k ≤ n ∧ ∀ i, i < k → G1 i = G i
theorem lk_ext {s : Nat → Int32} {k n : Nat} {G1 G : Nat → Nat × Nat × Int32 × Int32} (h : PRE k n G1 G) {q r : Nat} (hk : lk s k G1 q r < k) : lk s n G q r = lk s k G1 q r ∧ lk s n G q r < n ∧ G (lk s n G q r) = G1 (lk s k G1 q r) := by
  rcases lk_ex (s := s) (G := G1) (q := q) (r := r) k with ⟨i, h1, h2, h3⟩ | h4
  · have e1 := lk_of h1 h2 h3
    have e2 : lk s n G q r = i := lk_of (Nat.lt_of_lt_of_le h1 h.1) (by unfold nmd; rw [← h.2 i h1]; exact h2) (fun j hj => by unfold nmd; rw [← h.2 j (by omega)]; exact h3 j hj)
    rw [e1, e2]
    exact ⟨rfl, Nat.lt_of_lt_of_le h1 h.1, (h.2 i h1).symm⟩
  · rw [lk_no h4] at hk; exact absurd hk (by omega)
def X3 (un : Int32) (a b : Option (Nat × Int32 × Int32)) : Prop := (a = none ∧ b = none) ∨ ∃ p w u w' u', a = some (p, w, u) ∧ b = some (p, w', u') ∧ (u < 0 → un < 0 ∧ w' = w ∧ u' = u)
theorem X3_same {un un' : Int32} (hun : un < 0 → un' = un) (p : Nat) (w : Int32) : X3 un (some (p, w, un)) (some (p, w, un')) := Or.inr ⟨p, w, un, w, un', rfl, rfl, fun h => ⟨h, rfl, hun h⟩⟩
theorem TX_in {s : Nat → Int32} (hs : TX s) {q : Nat} (h : ¬ s q = -1) : q < 6000 := by
  rcases Nat.lt_or_ge q 6000 with z | z
  · exact z
  · exact absurd (hs.1 q z) h
theorem bdn_pos {un : Int32} {q : Nat} (hq : q < 2 ^ 31) (h : bdn un q < 0) : False := by
  unfold bdn at h
  split at h
  · exact nI_nneg hq h
  · exact absurd h (by assumption)
theorem TM_ext {s : Nat → Int32} (hs : TX s) {hr : Int32} {k n : Nat} {G1 G : Nat → Nat × Nat × Int32 × Int32} (hp : PRE k n G1 G) {q : Nat} {un un' : Int32} (hun : un < 0 → un' = un) : X3 un (TM s hr k G1 q un) (TM s hr n G q un') := by
  by_cases c1 : inM (s q) 48 57 = 0
  · by_cases c2 : s q = 36
    · by_cases c3 : dgt 16 (s (q + 1)) = true
      · simp +decide only [TM, c1, c2, c3, if_true]; exact X3_same hun _ _
      · simp +decide only [TM, c1, c2, c3, if_true]; exact Or.inl ⟨rfl, rfl⟩
    · by_cases c3 : s q = 39
      · by_cases c4 : inM (s (q + 1)) 32 126 = 0
        · simp +decide only [TM, c1, c2, if_pos c3, c4, if_true, if_false]; exact Or.inl ⟨rfl, rfl⟩
        · simp +decide only [TM, c1, c2, if_pos c3, c4, if_true, if_false]; exact X3_same hun _ _
      · by_cases c4 : s q = 46
        · simp +decide only [TM, c1, c2, c3, if_pos c4, if_true, if_false]; exact X3_same hun _ _
        · by_cases c5 : inM (s q) 97 122 = 0
          · simp +decide only [TM, c1, c2, c3, c4, c5, if_true, if_false]; exact Or.inl ⟨rfl, rfl⟩
          · by_cases c6 : isNc (s (n8 s q)) = true
            · simp +decide only [TM, c1, c2, c3, c4, c5, c6, if_true, if_false]; exact Or.inl ⟨rfl, rfl⟩
            · by_cases c7 : n8 s q = q + 1 ∧ (s q = 120 ∨ s q = 121)
              · simp +decide only [TM, c1, c2, c3, c4, c5, c6, if_pos c7, if_true, if_false]; exact Or.inl ⟨rfl, rfl⟩
              · by_cases c8 : wd s q (n8 s q) < 84
                · simp +decide only [TM, c1, c2, c3, c4, c5, c6, if_neg c7, c8, if_true, if_false]; exact Or.inl ⟨rfl, rfl⟩
                · have hq : q < 6000 := TX_in hs (fun z => c5 (by rw [z]; decide))
                  by_cases c9 : lk s k G1 q (n8 s q) < k
                  · obtain ⟨e1, e2, e3⟩ := lk_ext hp c9
                    simp +decide only [TM, c1, c2, c3, c4, c5, c6, if_neg c7, c8, c9, e2, e3, if_true, if_false]; exact X3_same hun _ _
                  · by_cases c10 : lk s n G q (n8 s q) < n
                    · simp +decide only [TM, c1, c2, c3, c4, c5, c6, if_neg c7, c8, c9, c10, if_true, if_false]
                      exact Or.inr ⟨_, _, _, _, _, rfl, rfl, fun z => absurd z (fun z => bdn_pos (by omega) z)⟩
                    · simp +decide only [TM, c1, c2, c3, c4, c5, c6, if_neg c7, c8, c9, c10, if_true, if_false]
                      exact Or.inr ⟨_, _, _, _, _, rfl, rfl, fun z => absurd z (fun z => bdn_pos (by omega) z)⟩
  · simp +decide only [TM, c1, if_false]; exact X3_same hun _ _
theorem PT_ext {s : Nat → Int32} (hs : TX s) {hr : Int32} {k n : Nat} {G1 G : Nat → Nat × Nat × Int32 × Int32} (hp : PRE k n G1 G) {q : Nat} {un un' : Int32} (hun : un < 0 → un' = un) : X3 un (PT s hr k G1 q un) (PT s hr n G q un') := by
  by_cases c1 : s q = 37
  · unfold PT; rw [if_pos c1, if_pos c1]
    rcases TM_ext hs hp (hr := hr) (q := sk s (q + 1)) hun with ⟨a, b⟩ | ⟨p, w, u, w', u', a, b, c⟩
    · rw [a, b]; exact Or.inl ⟨rfl, rfl⟩
    · rw [a, b]; exact Or.inr ⟨_, _, _, _, _, rfl, rfl, fun z => ⟨(c z).1, by rw [(c z).2.1], (c z).2.2⟩⟩
  · unfold PT; rw [if_neg c1, if_neg c1]
    by_cases c2 : s q = 38
    · rw [if_pos c2, if_pos c2]
      rcases TM_ext hs hp (hr := hr) (q := sk s (q + 1)) hun with ⟨a, b⟩ | ⟨p, w, u, w', u', a, b, c⟩
      · rw [a, b]; exact Or.inl ⟨rfl, rfl⟩
      · rw [a, b]; exact Or.inr ⟨_, _, _, _, _, rfl, rfl, fun z => ⟨(c z).1, by rw [(c z).2.1], (c z).2.2⟩⟩
    · rw [if_neg c2, if_neg c2]; exact TM_ext hs hp hun
theorem SR_ext {s : Nat → Int32} (hs : TX s) {hr : Int32} {k n : Nat} {G1 G : Nat → Nat × Nat × Int32 × Int32} (hp : PRE k n G1 G) : ∀ (m q : Nat) (w w' un un' : Int32), (un < 0 → un' = un ∧ w' = w) → X3 un (SR s hr k G1 m q w un) (SR s hr n G m q w' un') := by
  intro m
  induction m with
  | zero => intro q w w' un un' h; exact Or.inl ⟨rfl, rfl⟩
  | succ m ih =>
    intro q w w' un un' h
    rw [SR_s, SR_s]
    by_cases c1 : s q = 43
    · rw [if_pos c1, if_pos c1]
      rcases PT_ext hs hp (hr := hr) (q := sk s (q + 1)) (un := un) (un' := un') (fun z => (h z).1) with ⟨a, b⟩ | ⟨p, v, u, v', u', a, b, c⟩
      · rw [a, b]; exact Or.inl ⟨rfl, rfl⟩
      · rw [a, b]
        rcases ih (sk s p) (w + v) (w' + v') u u' (fun z => ⟨(c z).2.2, by rw [(c z).2.1, (h (c z).1).2]⟩) with ⟨d, e⟩ | ⟨p2, x, y, x', y', d, e, f⟩
        · exact Or.inl ⟨d, e⟩
        · exact Or.inr ⟨p2, x, y, x', y', d, e, fun z => ⟨(c (f z).1).1, (f z).2⟩⟩
    · rw [if_neg c1, if_neg c1]
      by_cases c2 : s q = 45
      · rw [if_pos c2, if_pos c2]
        rcases PT_ext hs hp (hr := hr) (q := sk s (q + 1)) (un := un) (un' := un') (fun z => (h z).1) with ⟨a, b⟩ | ⟨p, v, u, v', u', a, b, c⟩
        · rw [a, b]; exact Or.inl ⟨rfl, rfl⟩
        · rw [a, b]
          rcases ih (sk s p) (w - v) (w' - v') u u' (fun z => ⟨(c z).2.2, by rw [(c z).2.1, (h (c z).1).2]⟩) with ⟨d, e⟩ | ⟨p2, x, y, x', y', d, e, f⟩
          · exact Or.inl ⟨d, e⟩
          · exact Or.inr ⟨p2, x, y, x', y', d, e, fun z => ⟨(c (f z).1).1, (f z).2⟩⟩
      · rw [if_neg c2, if_neg c2]
        exact Or.inr ⟨q, w, un, w', un', rfl, rfl, fun z => ⟨z, (h z).2, (h z).1⟩⟩
theorem SUM_ext {s : Nat → Int32} (hs : TX s) {hr : Int32} {k n : Nat} {G1 G : Nat → Nat × Nat × Int32 × Int32} (hp : PRE k n G1 G) {q : Nat} {un un' : Int32} (hun : un < 0 → un' = un) : X3 un (SUM s hr k G1 q un) (SUM s hr n G q un') := by
  unfold SUM
  by_cases c1 : s q = 45
  · rw [if_pos c1, if_pos c1]
    rcases PT_ext hs hp (hr := hr) (q := sk s (q + 1)) hun with ⟨a, b⟩ | ⟨p, v, u, v', u', a, b, c⟩
    · rw [a, b]; exact Or.inl ⟨rfl, rfl⟩
    · rw [a, b]
      rcases SR_ext hs hp (hr := hr) FU (sk s p) (-v) (-v') u u' (fun z => ⟨(c z).2.2, by rw [(c z).2.1]⟩) with ⟨d, e⟩ | ⟨p2, x, y, x', y', d, e, f⟩
      · exact Or.inl ⟨d, e⟩
      · exact Or.inr ⟨p2, x, y, x', y', d, e, fun z => ⟨(c (f z).1).1, (f z).2⟩⟩
  · rw [if_neg c1, if_neg c1]
    rcases PT_ext hs hp (hr := hr) (q := q) hun with ⟨a, b⟩ | ⟨p, v, u, v', u', a, b, c⟩
    · rw [a, b]; exact Or.inl ⟨rfl, rfl⟩
    · rw [a, b]
      rcases SR_ext hs hp (hr := hr) FU (sk s p) v v' u u' (fun z => ⟨(c z).2.2, (c z).2.1⟩) with ⟨d, e⟩ | ⟨p2, x, y, x', y', d, e, f⟩
      · exact Or.inl ⟨d, e⟩
      · exact Or.inr ⟨p2, x, y, x', y', d, e, fun z => ⟨(c (f z).1).1, (f z).2⟩⟩
def X5 (a b : Option (Nat × Nat × Int32 × Int32 × Nat)) : Prop := (a = none ∧ b = none) ∨ ∃ p y w u e w' u', a = some (p, y, w, u, e) ∧ b = some (p, y, w', u', e)
theorem AN_ext {s : Nat → Int32} (hs : TX s) {hr : Int32} {k n : Nat} {G1 G : Nat → Nat × Nat × Int32 × Int32} (hp : PRE k n G1 G) {wv : Bool} {q : Nat} {un un' : Int32} (hun : un < 0 → un' = un) : X5 (AN s hr k G1 wv q un) (AN s hr n G wv q un') := by
  unfold AN
  by_cases c1 : s q = 35
  · rw [if_pos c1, if_pos c1]
    by_cases c2 : wv = true
    · rw [if_pos c2, if_pos c2]
      rcases SUM_ext hs hp (hr := hr) (q := sk s (q + 1)) hun with ⟨a, b⟩ | ⟨p, v, u, v', u', a, b, -⟩
      · rw [a, b]; exact Or.inl ⟨rfl, rfl⟩
      · rw [a, b]; exact Or.inr ⟨_, _, _, _, _, _, _, rfl, rfl⟩
    · rw [if_neg c2, if_neg c2]; exact Or.inl ⟨rfl, rfl⟩
  · rw [if_neg c1, if_neg c1]
    by_cases c2 : s q = 60
    · rw [if_pos c2, if_pos c2]
      rcases SUM_ext hs hp (hr := hr) (q := sk s (q + 1)) hun with ⟨a, b⟩ | ⟨p, v, u, v', u', a, b, -⟩
      · rw [a, b]; exact Or.inl ⟨rfl, rfl⟩
      · rw [a, b]
        by_cases c3 : s p = 44
        · simp only [if_pos c3]
          by_cases c4 : SX s (sk s (p + 1)) 120
          · simp only [if_pos c4]; exact Or.inr ⟨_, _, _, _, _, _, _, rfl, rfl⟩
          · simp only [if_neg c4]; exact Or.inl ⟨rfl, rfl⟩
        · simp only [if_neg c3]; exact Or.inr ⟨_, _, _, _, _, _, _, rfl, rfl⟩
    · rw [if_neg c2, if_neg c2]
      by_cases c5 : s q = 40
      · rw [if_pos c5, if_pos c5]
        rcases SUM_ext hs hp (hr := hr) (q := sk s (q + 1)) hun with ⟨a, b⟩ | ⟨p, v, u, v', u', a, b, -⟩
        · rw [a, b]; exact Or.inl ⟨rfl, rfl⟩
        · rw [a, b]
          by_cases c3 : s p = 41
          · simp only [if_pos c3]
            by_cases c6 : s (sk s (p + 1)) = 44
            · simp only [if_pos c6]
              by_cases c4 : SX s (sk s (sk s (p + 1) + 1)) 121
              · simp only [if_pos c4]; exact Or.inr ⟨_, _, _, _, _, _, _, rfl, rfl⟩
              · simp only [if_neg c4]; exact Or.inl ⟨rfl, rfl⟩
            · simp only [if_neg c6]; exact Or.inr ⟨_, _, _, _, _, _, _, rfl, rfl⟩
          · simp only [if_neg c3]; exact Or.inl ⟨rfl, rfl⟩
      · rw [if_neg c5, if_neg c5]
        rcases SUM_ext hs hp (hr := hr) (q := q) hun with ⟨a, b⟩ | ⟨p, v, u, v', u', a, b, -⟩
        · rw [a, b]; exact Or.inl ⟨rfl, rfl⟩
        · rw [a, b]
          by_cases c3 : s p = 44
          · simp only [if_pos c3]
            by_cases c4 : SX s (sk s (p + 1)) 120
            · simp only [if_pos c4]; exact Or.inr ⟨_, _, _, _, _, _, _, rfl, rfl⟩
            · simp only [if_neg c4]
              by_cases c7 : SX s (sk s (p + 1)) 121
              · simp only [if_pos c7]; exact Or.inr ⟨_, _, _, _, _, _, _, rfl, rfl⟩
              · simp only [if_neg c7]; exact Or.inl ⟨rfl, rfl⟩
          · simp only [if_neg c3]; exact Or.inr ⟨_, _, _, _, _, _, _, rfl, rfl⟩
def X4 (a b : Option (Nat × Int32 × Int32 × Nat)) : Prop := (a = none ∧ b = none) ∨ ∃ p u g m u' g', a = some (p, u, g, m) ∧ b = some (p, u', g', m)
theorem LSt_ext {s : Nat → Int32} (hs : TX s) {hr : Int32} {k n : Nat} {G1 G : Nat → Nat × Nat × Int32 × Int32} (hp : PRE k n G1 G) {wo : Bool} : ∀ (m q : Nat) (un un' rg rg' : Int32) (many : Nat), (un < 0 → un' = un) → X4 (LSt s hr k G1 wo m q un rg many) (LSt s hr n G wo m q un' rg' many) := by
  intro m
  induction m with
  | zero => intro q un un' rg rg' many h; exact Or.inl ⟨rfl, rfl⟩
  | succ m ih =>
    intro q un un' rg rg' many h
    rw [LSt_s, LSt_s]
    rcases SUM_ext hs hp (hr := hr) (q := q) h with ⟨a, b⟩ | ⟨p, v, u, v', u', a, b, c⟩
    · rw [a, b]; exact Or.inl ⟨rfl, rfl⟩
    · rw [a, b]
      by_cases c3 : s p = 44
      · simp only [if_pos c3]; exact ih _ _ _ _ _ _ (fun z => (c z).2.2)
      · simp only [if_neg c3]; exact Or.inr ⟨_, _, _, _, _, _, rfl, rfl⟩
def X6 (word : Nat) (a b : Option (Nat × Int32 × Int32 × Nat × Int32)) : Prop := (a = none ∧ b = none) ∨ ∃ p u g m t u' g' t', a = some (p, u, g, m, t) ∧ b = some (p, u', g', m, t') ∧ (tls word → u < 0 → t' = t ∧ u' = u)

theorem OPS_0 {s : Nat → Int32} {hr : Int32} {n : Nat} {G : Nat → Nat × Nat × Int32 × Int32} {word p : Nat} {un rg : Int32} (c1 : word < 2 ∨ word = 101) : OPS s hr n G word p un rg = (match SUM s hr n G (sk s p) un with | none => none | some z => some (z.1, z.2.2, rg, 0, z.2.1)) := by unfold OPS; rw [if_pos c1]; cases SUM s hr n G (sk s p) un <;> rfl
theorem OPS_1 {s : Nat → Int32} {hr : Int32} {n : Nat} {G : Nat → Nat × Nat × Int32 × Int32} {word p : Nat} {un rg : Int32} (c1 : ¬ (word < 2 ∨ word = 101)) (c2 : word < 4) : OPS s hr n G word p un rg = o5 (LSt s hr n G (decide (word = 3)) FU (sk s p) un rg 0) := by unfold OPS; rw [if_neg c1, if_pos c2]
theorem OPS_2 {s : Nat → Int32} {hr : Int32} {n : Nat} {G : Nat → Nat × Nat × Int32 × Int32} {word p : Nat} {un rg : Int32} (c3 : word = 4) : OPS s hr n G word p un rg = (match QT s (sk s p) with | none => none | some z => some (z + 1, un, rg, z - (sk s p + 1), 0)) := by unfold OPS; rw [if_neg (by omega), if_neg (by omega), if_pos c3]; cases QT s (sk s p) <;> rfl
theorem OPS_3 {s : Nat → Int32} {hr : Int32} {n : Nat} {G : Nat → Nat × Nat × Int32 × Int32} {word p : Nat} {un rg : Int32} (h : 5 ≤ word) (c4 : word < 37) : OPS s hr n G word p un rg = o5 (CD s hr n G (decide (word < 21)) (sk s p) un rg) := by unfold OPS; rw [if_neg (by omega), if_neg (by omega), if_neg (by omega), if_pos c4]
theorem OPS_4 {s : Nat → Int32} {hr : Int32} {n : Nat} {G : Nat → Nat × Nat × Int32 × Int32} {word p : Nat} {un rg : Int32} (h : 37 ≤ word) (h2 : ¬ word = 101) (c5 : word < 48 ∨ word = 49) : OPS s hr n G word p un rg = o5 (STP s hr n G (sk s p) un rg) := by unfold OPS; rw [if_neg (by omega), if_neg (by omega), if_neg (by omega), if_neg (by omega), if_pos c5]
theorem OPS_5 {s : Nat → Int32} {hr : Int32} {n : Nat} {G : Nat → Nat × Nat × Int32 × Int32} {word p : Nat} {un rg : Int32} (h : 48 ≤ word) (h2 : ¬ word = 49) (c6 : word < 52) : OPS s hr n G word p un rg = o5 (NBR s hr n G (sk s p) un rg) := by unfold OPS; rw [if_neg (by omega), if_neg (by omega), if_neg (by omega), if_neg (by omega), if_neg (by omega), if_pos c6]
theorem OPS_6 {s : Nat → Int32} {hr : Int32} {n : Nat} {G : Nat → Nat × Nat × Int32 × Int32} {word p : Nat} {un rg : Int32} (h : 52 ≤ word) (h2 : ¬ word = 101) : OPS s hr n G word p un rg = some (p, un, rg, 2, 0) := by unfold OPS; rw [if_neg (by omega), if_neg (by omega), if_neg (by omega), if_neg (by omega), if_neg (by omega), if_neg (by omega)]
theorem CD_ext {s : Nat → Int32} (hs : TX s) {hr : Int32} {k n : Nat} {G1 G : Nat → Nat × Nat × Int32 × Int32} (hp : PRE k n G1 G) {wv : Bool} {q : Nat} {un un' rg rg' : Int32} (hun : un < 0 → un' = un) : X4 (CD s hr k G1 wv q un rg) (CD s hr n G wv q un' rg') := by
  unfold CD
  rcases AN_ext hs hp (hr := hr) (wv := wv) (q := q) hun with ⟨a, b⟩ | ⟨g, y, w, u, e, w', u', a, b⟩
  · rw [a, b]; exact Or.inl ⟨rfl, rfl⟩
  · rw [a, b]; exact Or.inr ⟨_, _, _, _, _, _, rfl, rfl⟩
theorem STP_ext {s : Nat → Int32} (hs : TX s) {hr : Int32} {k n : Nat} {G1 G : Nat → Nat × Nat × Int32 × Int32} (hp : PRE k n G1 G) {q : Nat} {un un' rg rg' : Int32} (hun : un < 0 → un' = un) : X4 (STP s hr k G1 q un rg) (STP s hr n G q un' rg') := by
  unfold STP
  rcases SUM_ext hs hp (hr := hr) (q := q) hun with ⟨a, b⟩ | ⟨g, v, u, v', u', a, b, c⟩
  · rw [a, b]; exact Or.inl ⟨rfl, rfl⟩
  · rw [a, b]; exact Or.inr ⟨_, _, _, _, _, _, rfl, rfl⟩
theorem NBR_ext {s : Nat → Int32} (hs : TX s) {hr : Int32} {k n : Nat} {G1 G : Nat → Nat × Nat × Int32 × Int32} (hp : PRE k n G1 G) {q : Nat} {un un' rg rg' : Int32} (hun : un < 0 → un' = un) : X4 (NBR s hr k G1 q un rg) (NBR s hr n G q un' rg') := by
  unfold NBR
  by_cases c7 : s q = 35
  · rw [if_pos c7, if_pos c7]
    rcases SUM_ext hs hp (hr := hr) (q := sk s (q + 1)) hun with ⟨a, b⟩ | ⟨g, v, u, v', u', a, b, c⟩
    · rw [a, b]; exact Or.inl ⟨rfl, rfl⟩
    · rw [a, b]; exact Or.inr ⟨_, _, _, _, _, _, rfl, rfl⟩
  · rw [if_neg c7, if_neg c7]; exact Or.inl ⟨rfl, rfl⟩
theorem X4_6 {word : Nat} {a b : Option (Nat × Int32 × Int32 × Nat)} (no : ¬ tls word) (h : X4 a b) : X6 word (o5 a) (o5 b) := by
  rcases h with ⟨h1, h2⟩ | ⟨p, u, g, m, u', g', h1, h2⟩
  · rw [h1, h2]; exact Or.inl ⟨rfl, rfl⟩
  · rw [h1, h2]; exact Or.inr ⟨p, u, g, m, 0, u', g', 0, rfl, rfl, fun z => absurd z no⟩
theorem OPS_ext {s : Nat → Int32} (hs : TX s) {hr : Int32} {k n : Nat} {G1 G : Nat → Nat × Nat × Int32 × Int32} (hp : PRE k n G1 G) {word p : Nat} {rg : Int32} : X6 word (OPS s hr k G1 word p (-1) rg) (OPS s hr n G word p (-1) rg) := by
  have h1 : (-1 : Int32) < 0 → (-1 : Int32) = -1 := fun _ => rfl
  by_cases c1 : word < 2 ∨ word = 101
  · rw [OPS_0 c1, OPS_0 c1]
    rcases SUM_ext hs hp (hr := hr) (q := sk s p) h1 with ⟨a, b⟩ | ⟨q, v, u, v', u', a, b, c⟩
    · rw [a, b]; exact Or.inl ⟨rfl, rfl⟩
    · rw [a, b]; exact Or.inr ⟨_, _, _, _, _, _, _, _, rfl, rfl, fun _ z => (c z).2⟩
  · by_cases c2 : word < 4
    · rw [OPS_1 c1 c2, OPS_1 c1 c2]; exact X4_6 c1 (LSt_ext hs hp FU (sk s p) (-1) (-1) rg rg 0 h1)
    · by_cases c3 : word = 4
      · rw [OPS_2 c3, OPS_2 c3]
        cases QT s (sk s p) with
        | none => exact Or.inl ⟨rfl, rfl⟩
        | some z9 => exact Or.inr ⟨_, _, _, _, _, _, _, _, rfl, rfl, fun z => absurd z c1⟩
      · by_cases c4 : word < 37
        · rw [OPS_3 (by omega) c4, OPS_3 (by omega) c4]; exact X4_6 c1 (CD_ext hs hp h1)
        · by_cases c5 : word < 48 ∨ word = 49
          · rw [OPS_4 (by omega) (by omega) c5, OPS_4 (by omega) (by omega) c5]; exact X4_6 c1 (STP_ext hs hp h1)
          · by_cases c6 : word < 52
            · rw [OPS_5 (by omega) (by omega) c6, OPS_5 (by omega) (by omega) c6]; exact X4_6 c1 (NBR_ext hs hp h1)
            · rw [OPS_6 (by omega) (by omega), OPS_6 (by omega) (by omega)]; exact Or.inr ⟨_, _, _, _, _, _, _, _, rfl, rfl, fun z => absurd z c1⟩
def X7 (a b : Option (Nat × Nat × Int32 × Int32 × Nat × Int32)) : Prop := (a = none ∧ b = none) ∨ ∃ p wr u g m t u' g' t', a = some (p, wr, u, g, m, t) ∧ b = some (p, wr, u', g', m, t') ∧ (tls wr → u < 0 → t' = t ∧ u' = u)
theorem WRD_ext {s : Nat → Int32} (hs : TX s) {hr : Int32} {k n : Nat} {G1 G : Nat → Nat × Nat × Int32 × Int32} (hp : PRE k n G1 G) {q : Nat} : X7 (WRD s hr k G1 q) (WRD s hr n G q) := by
  unfold WRD
  by_cases c1 : wd s q (n8 s q) < 84
  · rw [if_pos c1, if_pos c1]
    by_cases c2 : isNc (s (n8 s q)) = true
    · rw [if_pos c2, if_pos c2]; exact Or.inl ⟨rfl, rfl⟩
    · rw [if_neg c2, if_neg c2]
      rcases OPS_ext hs hp (hr := hr) (word := wd s q (n8 s q)) (p := n8 s q) (rg := -1) with ⟨a, b⟩ | ⟨p, u, g, m, t, u', g', t', a, b, c⟩
      · rw [a, b]; exact Or.inl ⟨rfl, rfl⟩
      · rw [a, b]; exact Or.inr ⟨_, _, _, _, _, _, _, _, _, rfl, rfl, c⟩
  · rw [if_neg c1, if_neg c1]; exact Or.inl ⟨rfl, rfl⟩
theorem NMD_ext {s : Nat → Int32} (hs : TX s) {hr : Int32} {k n : Nat} {G1 G : Nat → Nat × Nat × Int32 × Int32} (hp : PRE k n G1 G) {q r : Nat} : X7 (NMD s hr k G1 q r) (NMD s hr n G q r) := by
  unfold NMD
  by_cases c1 : isNc (s r) = true
  · rw [if_pos c1, if_pos c1]; exact Or.inl ⟨rfl, rfl⟩
  · rw [if_neg c1, if_neg c1]
    by_cases c2 : r = q + 1 ∧ (s q = 120 ∨ s q = 121)
    · rw [if_pos c2, if_pos c2]; exact Or.inl ⟨rfl, rfl⟩
    · rw [if_neg c2, if_neg c2]
      by_cases c3 : s (sk s r) = 61
      · rw [if_pos c3, if_pos c3]
        rcases OPS_ext hs hp (hr := hr) (word := 101) (p := sk s r + 1) (rg := -1) with ⟨a, b⟩ | ⟨p, u, g, m, t, u', g', t', a, b, c⟩
        · rw [a, b]; exact Or.inl ⟨rfl, rfl⟩
        · rw [a, b]; exact Or.inr ⟨_, _, _, _, _, _, _, _, _, rfl, rfl, c⟩
      · rw [if_neg c3, if_neg c3]
        by_cases c4 : s (sk s r) = 58
        · rw [if_pos c4, if_pos c4]
          by_cases c5 : inM (s (sk s (sk s r + 1))) 97 122 = 0
          · rw [if_pos c5, if_pos c5]; exact Or.inr ⟨_, _, _, _, _, _, _, _, _, rfl, rfl, fun _ _ => ⟨rfl, rfl⟩⟩
          · rw [if_neg c5, if_neg c5]; exact WRD_ext hs hp
        · rw [if_neg c4, if_neg c4]; exact Or.inl ⟨rfl, rfl⟩
theorem LINE_ext {s : Nat → Int32} (hs : TX s) {hr : Int32} {k n : Nat} {G1 G : Nat → Nat × Nat × Int32 × Int32} (hp : PRE k n G1 G) {p : Nat} : (LINE s hr k G1 p = none ∧ LINE s hr n G p = none) ∨ ∃ g nm wr u rg m t u' rg' t', LINE s hr k G1 p = some (g, nm, wr, u, rg, m, t) ∧ LINE s hr n G p = some (g, nm, wr, u', rg', m, t') ∧ (tls wr → u < 0 → t' = t ∧ u' = u) := by
  have fin : ∀ (g : Nat) (nm : Option (Nat × Nat)) (wr : Nat) (u rg : Int32) (m : Nat) (t u' rg' t' : Int32), LB1 s hr k G1 (sk s p) = some (g, nm, wr, u, rg, m, t) → LB1 s hr n G (sk s p) = some (g, nm, wr, u', rg', m, t') → (tls wr → u < 0 → t' = t ∧ u' = u) → (LINE s hr k G1 p = none ∧ LINE s hr n G p = none) ∨ ∃ g nm wr u rg m t u' rg' t', LINE s hr k G1 p = some (g, nm, wr, u, rg, m, t) ∧ LINE s hr n G p = some (g, nm, wr, u', rg', m, t') ∧ (tls wr → u < 0 → t' = t ∧ u' = u) := by
    intro g nm wr u rg m t u' rg' t' a b c
    have e1 : LINE s hr k G1 p = (match EN s g with | none => none | some g2 => some (g2, nm, wr, u, rg, m, t)) := by unfold LINE; rw [a]; dsimp only; cases EN s g <;> rfl
    have e2 : LINE s hr n G p = (match EN s g with | none => none | some g2 => some (g2, nm, wr, u', rg', m, t')) := by unfold LINE; rw [b]; dsimp only; cases EN s g <;> rfl
    rw [e1, e2]
    cases EN s g with
    | none => exact Or.inl ⟨rfl, rfl⟩
    | some g2 => exact Or.inr ⟨_, _, _, _, _, _, _, _, _, _, rfl, rfl, c⟩
  by_cases c1 : inM (s (sk s p)) 97 122 = 0
  · exact fin (sk s p) none 100 (-1) (-1) 0 0 (-1) (-1) 0 (by unfold LB1; rw [if_pos c1]) (by unfold LB1; rw [if_pos c1]) (fun _ _ => ⟨rfl, rfl⟩)
  · by_cases c2 : wd s (sk s p) (n8 s (sk s p)) < 84 ∧ ¬ isNc (s (n8 s (sk s p))) = true
    · rcases WRD_ext hs hp (hr := hr) (q := sk s p) with ⟨a, b⟩ | ⟨g, wr, u, rg, m, t, u', rg', t', a, b, c⟩
      · exact Or.inl ⟨by unfold LINE LB1; rw [if_neg c1, if_pos c2, a] <;> rfl, by unfold LINE LB1; rw [if_neg c1, if_pos c2, b] <;> rfl⟩
      · exact fin g none wr u rg m t u' rg' t' (by unfold LB1; rw [if_neg c1, if_pos c2, a] <;> rfl) (by unfold LB1; rw [if_neg c1, if_pos c2, b] <;> rfl) c
    · rcases NMD_ext hs hp (hr := hr) (q := sk s p) (r := n8 s (sk s p)) with ⟨a, b⟩ | ⟨g, wr, u, rg, m, t, u', rg', t', a, b, c⟩
      · exact Or.inl ⟨by unfold LINE LB1; rw [if_neg c1, if_neg c2, a] <;> rfl, by unfold LINE LB1; rw [if_neg c1, if_neg c2, b] <;> rfl⟩
      · exact fin g (some (sk s p, n8 s (sk s p))) wr u rg m t u' rg' t' (by unfold LB1; rw [if_neg c1, if_neg c2, a] <;> rfl) (by unfold LB1; rw [if_neg c1, if_neg c2, b] <;> rfl) c
/-- what the first reading of a line says -/
theorem FS_inv {s : Nat → Int32} {p h k p' h' k' : Nat} {G1 G1' : Nat → Nat × Nat × Int32 × Int32} (e : FS s p h k G1 = some (p', h', k', G1')) : ∃ g nm wr u rg m t, LINE s (nI h) k G1 p = some (g, nm, wr, u, rg, m, t) ∧ (tls wr → u < 0) ∧ (wr = 0 → ¬ inM t 0 4079 = 0) ∧ (wr = 1 → ¬ inM t 0 4080 = 0) ∧ (¬ wr = 0 → h + (if wr = 1 then t.toNatClampNeg else m) ≤ 4080) ∧ p' = g + 1 ∧ h' = (if wr = 0 then t.toNatClampNeg else h + (if wr = 1 then t.toNatClampNeg else m)) ∧ PRE k k' G1 G1' := by
  unfold FS at e
  cases h9 : LINE s (nI h) k G1 p with
  | none => rw [h9] at e; exact absurd e (by simp)
  | some z =>
    obtain ⟨g, nm, wr, u, rg, m, t⟩ := z
    rw [h9] at e
    simp only at e
    refine ⟨g, nm, wr, u, rg, m, t, rfl, ?_⟩
    by_cases c1 : tls wr ∧ ¬ u < 0
    · rw [if_pos c1] at e; exact absurd e (by simp)
    · rw [if_neg c1] at e
      by_cases c2 : wr = 0 ∧ inM t 0 4079 = 0
      · rw [if_pos c2] at e; exact absurd e (by simp)
      · rw [if_neg c2] at e
        by_cases c3 : wr = 1 ∧ inM t 0 4080 = 0
        · rw [if_pos c3] at e; exact absurd e (by simp)
        · rw [if_neg c3] at e
          by_cases c4 : ¬ wr = 0 ∧ 4080 < h + (if wr = 1 then t.toNatClampNeg else m)
          · rw [if_pos c4] at e; exact absurd e (by simp)
          · rw [if_neg c4] at e
            have r1 : tls wr → u < 0 := fun z => Decidable.byContradiction (fun y => c1 ⟨z, y⟩)
            have r2 : wr = 0 → ¬ inM t 0 4079 = 0 := fun z y => c2 ⟨z, y⟩
            have r3 : wr = 1 → ¬ inM t 0 4080 = 0 := fun z y => c3 ⟨z, y⟩
            have r4 : ¬ wr = 0 → h + (if wr = 1 then t.toNatClampNeg else m) ≤ 4080 := fun z => Nat.not_lt.mp (fun y => c4 ⟨z, y⟩)
            cases nm with
            | none =>
              simp only [Option.some.injEq, Prod.mk.injEq] at e
              obtain ⟨e1, e2, e3, e4⟩ := e
              exact ⟨r1, r2, r3, r4, e1.symm, e2.symm, by omega, fun i _ => by rw [← e4]⟩
            | some ab =>
              obtain ⟨a, b⟩ := ab
              simp only at e
              by_cases c5 : lk s k G1 a b < k
              · rw [if_pos c5] at e; exact absurd e (by simp)
              · rw [if_neg c5] at e
                by_cases c6 : ¬ k < 60
                · rw [if_pos c6] at e; exact absurd e (by simp)
                · rw [if_neg c6] at e
                  simp only [Option.some.injEq, Prod.mk.injEq] at e
                  obtain ⟨e1, e2, e3, e4⟩ := e
                  refine ⟨r1, r2, r3, r4, e1.symm, e2.symm, by omega, fun i hi => ?_⟩
                  rw [← e4]; simp only [if_neg (show ¬ i = k by omega)]
theorem R1_pre {s : Nat → Int32} {e : Nat} : ∀ (f p h k : Nat) (G1 : Nat → Nat × Nat × Int32 × Int32) (hf n : Nat) (G : Nat → Nat × Nat × Int32 × Int32), R1 s e f p h k G1 = some (hf, n, G) → PRE k n G1 G := by
  intro f
  induction f with
  | zero => intro p h k G1 hf n G H; exact absurd H (by simp [R1])
  | succ f ih =>
    intro p h k G1 hf n G H
    rw [R1_s] at H
    by_cases c : p ≤ e
    · rw [if_pos c] at H
      cases h9 : FS s p h k G1 with
      | none => rw [h9] at H; exact absurd H (by simp)
      | some z =>
        obtain ⟨p', h', k', G1'⟩ := z
        rw [h9] at H
        simp only at H
        obtain ⟨_, _, _, _, _, _, _, -, -, -, -, -, -, -, hp⟩ := FS_inv h9
        have h2 := ih _ _ _ _ _ _ _ H
        exact ⟨by have := hp.1; have := h2.1; omega, fun i hi => (hp.2 i hi).trans (h2.2 i (by have := hp.1; omega))⟩
    · rw [if_neg c] at H
      simp only [Option.some.injEq, Prod.mk.injEq] at H
      obtain ⟨e1, e2, e3⟩ := H
      exact ⟨by omega, fun i _ => by rw [← e3]⟩
def OK1 (s : Nat → Int32) (e n : Nat) (G : Nat → Nat × Nat × Int32 × Int32) (p h : Nat) : Prop := ∃ f k G1 hf, R1 s e f p h k G1 = some (hf, n, G)
theorem OK1_start {s : Nat → Int32} {e n h f : Nat} {G1 G : Nat → Nat × Nat × Int32 × Int32} (H : R1 s e f 0 0 0 G1 = some (h, n, G)) : OK1 s e n G 0 0 := ⟨f, 0, G1, h, H⟩
theorem OK1_step {s : Nat → Int32} (hs : TX s) {e n p h : Nat} {G : Nat → Nat × Nat × Int32 × Int32} (H : OK1 s e n G p h) (hpe : p ≤ e) : ∃ g nm wr u rg m t, LINE s (nI h) n G p = some (g, nm, wr, u, rg, m, t) ∧ (tls wr → u < 0) ∧ (wr = 0 → ¬ inM t 0 4079 = 0) ∧ (wr = 1 → ¬ inM t 0 4080 = 0) ∧ (¬ wr = 0 → h + (if wr = 1 then t.toNatClampNeg else m) ≤ 4080) ∧ OK1 s e n G (g + 1) (if wr = 0 then t.toNatClampNeg else h + (if wr = 1 then t.toNatClampNeg else m)) := by
  obtain ⟨f, k, G1, hf, H⟩ := H
  have hp := R1_pre _ _ _ _ _ _ _ _ H
  cases f with
  | zero => exact absurd H (by simp [R1])
  | succ f =>
    rw [R1_s] at H
    rw [if_pos hpe] at H
    cases h9 : FS s p h k G1 with
    | none => rw [h9] at H; exact absurd H (by simp)
    | some z =>
      obtain ⟨p', h', k', G1'⟩ := z
      rw [h9] at H
      simp only at H
      obtain ⟨g, nm, wr, u, rg, m, t, e1, e2, e3, e4, e5, e6, e7, -⟩ := FS_inv h9
      rcases LINE_ext hs hp (hr := nI h) (p := p) with ⟨a, -⟩ | ⟨g', nm', wr', v, rg', m', t', u', rg2, t2, a, b, c⟩
      · rw [a] at e1; exact absurd e1 (by simp)
      · rw [e1] at a
        simp only [Option.some.injEq, Prod.mk.injEq] at a
        obtain ⟨a1, a2, a3, a4, a5, a6, a7⟩ := a
        subst a1; subst a2; subst a3; subst a4; subst a5; subst a6; subst a7
        subst e6; subst e7
        have tt : tls wr → t2 = t ∧ u' = u := fun z => c z (e2 z)
        refine ⟨g, nm, wr, u', rg2, m, t2, b, fun z => by rw [(tt z).2]; exact e2 z, fun z => by rw [(tt (Or.inl (by omega))).1]; exact e3 z, fun z => by rw [(tt (Or.inl (by omega))).1]; exact e4 z, fun z => ?_, ?_⟩
        · by_cases c1 : wr = 1
          · rw [(tt (Or.inl (by omega))).1]; exact e5 z
          · have := e5 z; rw [if_neg c1] at this ⊢; exact this
        · have e9 : (if wr = 0 then t2.toNatClampNeg else h + (if wr = 1 then t2.toNatClampNeg else m)) = (if wr = 0 then t.toNatClampNeg else h + (if wr = 1 then t.toNatClampNeg else m)) := by
            by_cases c0 : wr = 0
            · rw [(tt (Or.inl (by omega))).1]
            · by_cases c1 : wr = 1
              · rw [(tt (Or.inl (by omega))).1]
              · rw [if_neg c0, if_neg c0, if_neg c1, if_neg c1]
          rw [e9]
          exact ⟨f, k', G1', hf, H⟩
theorem OK1_GL {s : Nat → Int32} (hs : TX s) {e n p h : Nat} {G : Nat → Nat × Nat × Int32 × Int32} (H : OK1 s e n G p h) (hpe : p ≤ e) : GL s h n G p := by
  obtain ⟨g, nm, wr, u, rg, m, t, e1, e2, e3, e4, e5, -⟩ := OK1_step hs H hpe
  exact ⟨g, nm, wr, u, rg, m, t, e1, e3, e4, e5⟩
theorem OK1_next {s : Nat → Int32} (hs : TX s) {e n p h p' h' : Nat} {G : Nat → Nat × Nat × Int32 × Int32} (H : OK1 s e n G p h) (hpe : p ≤ e) (hz : SS s h n G p = some (p', h')) : OK1 s e n G p' h' := by
  obtain ⟨g, nm, wr, u, rg, m, t, e1, -, -, -, -, e6⟩ := OK1_step hs H hpe
  unfold SS at hz
  rw [e1] at hz
  simp only at hz
  by_cases c1 : ¬ tls wr ∧ ¬ u < 0
  · rw [if_pos c1] at hz; exact absurd hz (by simp)
  · rw [if_neg c1] at hz
    by_cases c2 : ¬ tls wr ∧ ¬ rg < 0
    · rw [if_pos c2] at hz; exact absurd hz (by simp)
    · rw [if_neg c2] at hz
      simp only [Option.some.injEq, Prod.mk.injEq] at hz
      obtain ⟨a, b⟩ := hz
      rw [← a, ← b]; exact e6
theorem OK1_use {s : Nat → Int32} (hs : TX s) {e n p h : Nat} {G : Nat → Nat × Nat × Int32 × Int32} {g : Nat} {nm : Option (Nat × Nat)} {wr : Nat} {u rg : Int32} {m : Nat} {t : Int32} (H : OK1 s e n G p h) (hpe : p ≤ e) (hL : LINE s (nI h) n G p = some (g, nm, wr, u, rg, m, t)) : tls wr → u < 0 := by
  obtain ⟨g', nm', wr', u', rg', m', t', e1, e2, -⟩ := OK1_step hs H hpe
  rw [hL] at e1
  simp only [Option.some.injEq, Prod.mk.injEq] at e1
  obtain ⟨-, -, a3, a4, -⟩ := e1
  rw [a3, a4]; exact e2
