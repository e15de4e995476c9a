def FOK (f : Nat → Int32) : Prop := ∀ j, j < 31 → ∃ n, n ≤ 4000 ∧ f j = nI n
theorem FOK.upd {f : Nat → Int32} (h : FOK f) (k : Nat) {n : Nat} (hn : n ≤ 4000) : FOK (upd f k (nI n)) := by
  intro j hj
  by_cases e : j = k
  · subst e
    exact ⟨n, hn, pk_us⟩
  · obtain ⟨q, hq, eq⟩ := h j hj
    exact ⟨q, hq, (pk_un e).trans eq⟩
theorem FOK.at {f : Nat → Int32} (h : FOK f) {t : Nat} (ht : t < 31) : ∃ n, n ≤ 4000 ∧ f (Int32.toNatClampNeg (nI t)) = nI n := by
  have e : Int32.toNatClampNeg (nI t) = t := Int32.toNatClampNeg_ofNat_of_lt (by omega)
  rw [e]
  exact h t ht
