/-! ranges: what must hold of the numbers so that every call returns -/
def inR (b : Option Nat) (x : Int32) : Prop := match b with
  | none => True
  | some n => ∃ k : Nat, k < n ∧ x = nI k
theorem inR_any {b : Option Nat} {x : Int32} (h : b = none) : inR b x := by subst h; trivial
theorem inR_of {b : Option Nat} {n k : Nat} (hb : b = some n) (hk : k < n) : inR b (nI k) := by subst hb; exact ⟨k, hk, rfl⟩
def bdl : List (Option Nat) := [some 256, some 256, some 256, some 256, some 4096, some 256, none, none, some 65536, some 65536, some 2, some 2, some 256, none, some 64, some 256, some 256, none, none, some 17, none, none, none, none, none, none, none, none, none, none, none, some 301, some 201, some 16]
def bd (j : Nat) : Option Nat := bdl.getD j none
def okN (f : Nat → Int32) : Prop := ∀ j, j < 34 → inR (bd j) (f j)
theorem okN.at {f : Nat → Int32} (h : okN f) (j n : Nat) (hj : j < 34) (hb : bd j = some n) : ∃ k : Nat, k < n ∧ f j = nI k := by
  have h1 := h j hj
  rw [hb] at h1
  exact h1
theorem okN_upd {f : Nat → Int32} (h : okN f) (j : Nat) (v : Int32) (hv : inR (bd j) v) : okN (upd f j v) := by
  intro i hi
  by_cases e : i = j
  · subst e; rw [pk_us]; exact hv
  · rw [pk_un e]; exact h i hi
theorem okB_upd {f : Nat → Int32} {n B : Nat} (h : ∀ j, j < n → ∃ k : Nat, k < B ∧ f j = nI k) (j : Nat) (v : Int32) (hv : ∃ k : Nat, k < B ∧ v = nI k) : ∀ i, i < n → ∃ k : Nat, k < B ∧ upd f j v i = nI k := by
  intro i hi
  by_cases e : i = j
  · subst e; rw [pk_us]; exact hv
  · rw [pk_un e]; exact h i hi
theorem nI_bv (n : Nat) : (nI n).toBitVec = BitVec.ofNat 32 n := rfl
theorem bv_nI {x : Int32} {n : Nat} (h : x.toBitVec.toNat = n) : x = nI n := Int32.toBitVec_inj.mp (BitVec.eq_of_toNat_eq (by rw [h, nI_bv, BitVec.toNat_ofNat, Nat.mod_eq_of_lt (by have := x.toBitVec.isLt; omega)]))
theorem sf_and {a : Nat} (ha : a < 2 ^ 31) (y : Int32) {B : Nat} (hB : a < B) : ∃ k : Nat, k < B ∧ nI a &&& y = nI k := by
  refine ⟨(nI a &&& y).toBitVec.toNat, ?_, bv_nI rfl⟩
  have h1 : (nI a &&& y).toBitVec.toNat = a &&& y.toBitVec.toNat := by
    rw [Int32.toBitVec_and, BitVec.toNat_and, pk_tn (by omega)]
  rw [h1]
  exact Nat.lt_of_le_of_lt Nat.and_le_left hB
theorem sf_andL (y : Int32) {m : Int32} (k : Nat) (hm : m.toBitVec.toNat = 2 ^ k - 1) : ∃ j : Nat, j < 2 ^ k ∧ m &&& y = nI j := by
  rw [Int32.and_comm]
  exact pk_andE y k hm
theorem sf_or {a b : Nat} (k B : Nat) (hB : B = 2 ^ k) (hk : k ≤ 30) (ha : a < B) (hb : b < B) : ∃ r : Nat, r < B ∧ nI a ||| nI b = nI r := by
  subst hB
  have h2 : (2 : Nat) ^ k ≤ 2 ^ 30 := Nat.pow_le_pow_right (by decide) hk
  refine ⟨a ||| b, Nat.or_lt_two_pow ha hb, bv_nI ?_⟩
  rw [Int32.toBitVec_or, BitVec.toNat_or, pk_tn (by omega), pk_tn (by omega)]
theorem sf_xor {a b : Nat} (k B : Nat) (hB : B = 2 ^ k) (hk : k ≤ 30) (ha : a < B) (hb : b < B) : ∃ r : Nat, r < B ∧ nI a ^^^ nI b = nI r := by
  subst hB
  have h2 : (2 : Nat) ^ k ≤ 2 ^ 30 := Nat.pow_le_pow_right (by decide) hk
  refine ⟨a ^^^ b, Nat.xor_lt_two_pow ha hb, bv_nI ?_⟩
  rw [Int32.toBitVec_xor, BitVec.toNat_xor, pk_tn (by omega), pk_tn (by omega)]
theorem nar_b {k : Nat} (h : k < 2) : narrow .boolean (.int (nI k)) = .int (nI k) := by
  rcases (show k = 0 ∨ k = 1 by omega) with rfl | rfl <;> rfl
theorem bd_rest {k : Nat} (h : k < 8) : bd (20 + k) = none := by
  rcases (show k = 0 ∨ k = 1 ∨ k = 2 ∨ k = 3 ∨ k = 4 ∨ k = 5 ∨ k = 6 ∨ k = 7 by omega) with rfl | rfl | rfl | rfl | rfl | rfl | rfl | rfl <;> rfl
theorem bd_rest2 {k : Nat} (h : 20 ≤ k) (h2 : k < 28) : bd k = none := by
  obtain ⟨j, rfl⟩ : ∃ j, k = 20 + j := ⟨k - 20, by omega⟩
  exact bd_rest (by omega)
theorem sh1 {k : Nat} (h : k < 8) : ∃ r : Nat, r < 256 ∧ (1 : Int32) <<< (nI k &&& 31) = nI r := by
  have hh : ∀ j, j < 8 → (1 : Int32) <<< (nI j &&& 31) = nI (2 ^ j) := by decide
  have hp : ∀ j, j < 8 → 2 ^ j < 256 := by decide
  exact ⟨2 ^ k, hp k h, hh k h⟩
/-! the kept steps: 256 entries of 42 numbers -/
def bdE (j : Nat) : Option Nat := if j < 34 then bd j else if j = 34 then some 257 else if j = 35 then some 4 else if j % 2 = 0 then some 4096 else some 256
def okE (en : Nat → Int32) : Prop := ∀ e j, e < 256 → j < 42 → inR (bdE j) (en (e * 42 + j))
theorem okE.at {en : Nat → Int32} (h : okE en) (i e j n : Nat) (he : e < 256) (hj : j < 42) (hi : i = e * 42 + j) (hb : bdE j = some n) : ∃ k : Nat, k < n ∧ en i = nI k := by
  have h1 := h e j he hj
  rw [hb] at h1
  rw [hi]
  exact h1
theorem okE_upd {en : Nat → Int32} (h : okE en) (i : Nat) (v : Int32) (e j : Nat) (hj : j < 42) (hi : i = e * 42 + j) (hv : inR (bdE j) v) : okE (upd en i v) := by
  intro e2 j2 he2 hj2
  by_cases q : e2 * 42 + j2 = i
  · have h1 : j2 = j := by omega
    rw [q, pk_us, h1]
    exact hv
  · rw [pk_un q]
    exact h e2 j2 he2 hj2
theorem bdE_a {k : Nat} (h : k < 3) : bdE (36 + 2 * k) = some 4096 := by
  rcases (show k = 0 ∨ k = 1 ∨ k = 2 by omega) with rfl | rfl | rfl <;> rfl
theorem bdE_b {k : Nat} (h : k < 3) : bdE (37 + 2 * k) = some 256 := by
  rcases (show k = 0 ∨ k = 1 ∨ k = 2 by omega) with rfl | rfl | rfl <;> rfl
theorem okE_cpy {f en : Nat → Int32} {sp dp n : Nat} (hf : okN f) (h : okE en) (e : Nat) (hs : sp = 0) (hd : dp = e * 42) (hn : n = 34) : okE (va_cpy f en sp dp n) := by
  subst hs; subst hd; subst hn
  intro e2 j2 he2 hj2
  by_cases q : e * 42 ≤ e2 * 42 + j2 ∧ e2 * 42 + j2 < e * 42 + 34
  · rw [pk_cpy_in q.1 q.2]
    have h1 : e2 = e := by omega
    subst h1
    have h2 : 0 + (e2 * 42 + j2 - e2 * 42) = j2 := by omega
    rw [h2]
    have h3 := hf j2 (by omega)
    unfold bdE
    rw [if_pos (by omega)]
    exact h3
  · rw [pk_cpy_out (by omega)]
    exact h e2 j2 he2 hj2
theorem okN_cpy {f en : Nat → Int32} {sp dp n : Nat} (h : okE en) (e : Nat) (he : e < 256) (hs : sp = e * 42) (hd : dp = 0) (hn : n = 34) : okN (va_cpy en f sp dp n) := by
  subst hs; subst hd; subst hn
  intro j hj
  rw [pk_cpy_in (by omega) (by omega)]
  have h1 := h e j he (by omega)
  unfold bdE at h1
  rw [if_pos hj] at h1
  exact h1
theorem okN_zero {g : Nat → Int32} (h : ∀ j, j < 34 → g j = 0) : okN g := by
  intro j hj
  rw [h j hj]
  have hh : ∀ j, j < 34 → ∀ n, bd j = some n → 0 < n := by
    intro j hj n hn
    have h2 : (List.range 34).all (fun j => (bd j).all (fun n => decide (0 < n))) = true := by decide
    have h3 := List.all_eq_true.mp h2 j (List.mem_range.mpr hj)
    rw [hn] at h3
    simpa using h3
  cases hb : bd j with
  | none => trivial
  | some n => exact ⟨0, hh j hj n hb, rfl⟩
theorem sf_min {a b : Nat} (ha : a < 2 ^ 31) (hb : b < 2 ^ 31) : (if nI b < nI a then nI b else nI a) = nI (min a b) := by
  by_cases q : b < a
  · rw [if_pos (nI_lt q ha), Nat.min_eq_right (by omega)]
  · rw [if_neg (nI_nlt (by omega) hb), Nat.min_eq_left (by omega)]
theorem sf_div {a b B : Nat} (ha : a < 2 ^ 31) (h0 : 0 < b) (hb : b < 2 ^ 31) (hB : a < B) : ∃ k : Nat, k < B ∧ nI a / nI b = nI k := ⟨a / b, Nat.lt_of_le_of_lt (Nat.div_le_self a b) hB, pk_div ha h0 hb⟩
theorem sf_rem {a b : Nat} (ha : a < 2 ^ 31) (h0 : 0 < b) (hb : b < 2 ^ 31) : ∃ k : Nat, k < b ∧ nI a - nI a / nI b * nI b = nI k := ⟨a % b, Nat.mod_lt _ h0, pk_rem ha h0 hb⟩
theorem k_ti {p : Program} {l : Launch} {e : Env} {R : Room} {s : State} {m : MethodId} {args : Array Value} {below : List Frame} {meth : Method} {c : Code} {H : Heap} {locs : List Loc} {cells slots : Nat} {Q : State → Prop} {A : Nat → Prop} {cc : ByteArray} {pc nL : Nat} {ls : Array Slot} {rest : List Value} {own : String} {t N : Nat} {L : List Int32} (X : CallFix p m c cc nL s args gw own) (hT : va_T .int t N (fun j => .int (L.getD j 0)) A s s.heap) (hS : va_S A s.heap H locs) (j : Nat) (hjn : j < N) (hN : N < 2 ^ 31) (hdg : decode cc pc = .ok (.iaload, 1))
    (kk : W p l e R s m args below meth c H locs cells slots Q (F0 m (pc + 1) ls (.int (L.getD j 0) :: rest))) : W p l e R s m args below meth c H locs cells slots Q (F0 m pc ls (.int (nI j) :: .ref t :: rest)) := by
  refine va_ti X.1 X.2.1 hT hS (vp_in_nI hjn hN) (v := .int (L.getD j 0)) ?_ hdg kk
  show Value.int (L.getD (nI j).toNatClampNeg 0) = _
  rw [nI_clamp (Nat.lt_trans hjn hN)]
def way_n : List Nat := [2, 3, 4, 4, 5, 5, 6, 7]
def more_n : List Nat := [0, 0, 0, 0, 0, 0, 0, 0, 0, 0, 0, 0, 8, 12, 0, 0, 1, 1, 1, 1, 2, 2, 2, 2, 2, 2, 2, 2, 2, 2, 0, 2]
theorem way_rng (j : Nat) (h : j < 8) : ∃ k : Nat, k < 8 ∧ way_c.getD j 0 = nI k := by
  have h1 : ∀ j, j < 8 → way_c.getD j 0 = nI (way_n.getD j 0) := by decide
  have h2 : ∀ j, j < 8 → way_n.getD j 0 < 8 := by decide
  exact ⟨_, h2 j h, h1 j h⟩
theorem more_rng (j : Nat) (h : j < 32) : ∃ k : Nat, k < 13 ∧ more_c.getD j 0 = nI k := by
  have h1 : ∀ j, j < 32 → more_c.getD j 0 = nI (more_n.getD j 0) := by decide
  have h2 : ∀ j, j < 32 → more_n.getD j 0 < 13 := by decide
  exact ⟨_, h2 j h, h1 j h⟩
theorem sub1 (x : Int32) : x + Int32.ofInt (-1) = x - 1 := by rw [Int32.sub_eq_add_neg]; rfl
theorem sf_mul {a b A B C : Nat} (ha : a < A) (hb : b < B) (hC : (A - 1) * (B - 1) < C) : ∃ k : Nat, k < C ∧ nI a * nI b = nI k := ⟨a * b, Nat.lt_of_le_of_lt (Nat.mul_le_mul (by omega) (by omega)) hC, pk_mul a b⟩
theorem qW {p : Program} {l : Launch} {e : Env} {R : Room} {s : State} {m : MethodId} {args : Array Value} {below : List Frame} {meth : Method} {c : Code} {H : Heap} {locs : List Loc} {cells slots : Nat} {Q0 : State → Prop} {g : JFrame} (k : ∀ Q : State → Prop, Q = Q0 → W p l e R s m args below meth c H locs cells slots Q g) : W p l e R s m args below meth c H locs cells slots Q0 g := k Q0 rfl
