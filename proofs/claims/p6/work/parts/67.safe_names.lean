/-- the names told: each lies in the tape -/
def okT (pa lt : Nat → Int32) (n : Nat) : Prop := ∀ k, k < n → ∃ a b : Nat, a + b ≤ 6000 ∧ pa k = nI a ∧ lt k = nI b
theorem okT_add {pa lt : Nat → Int32} {n a b : Nat} (h : okT pa lt n) (hab : a + b ≤ 6000) : okT (upd pa n (nI a)) (upd lt n (nI b)) (n + 1) := by
  intro k hk
  by_cases e : k = n
  · subst e; exact ⟨a, b, hab, pk_us, pk_us⟩
  · rw [pk_un e, pk_un e]; exact h k (by omega)
