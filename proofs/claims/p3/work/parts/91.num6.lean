theorem x_ge10 {x : Int32} (h : ¬ x < 10) : ∃ j : Nat, 10 ≤ j ∧ j < 2 ^ 31 ∧ x = nI j := by
  have h0 : ¬ x < 0 := fun q => h (x_lt10 q)
  obtain ⟨j, hj, e⟩ := nI_of h0
  refine ⟨j, ?_, hj, e⟩
  rcases Nat.lt_or_ge j 10 with q | q
  · exact absurd (e ▸ (nI_ltI (a := j) (b := 10) hj (by omega)).mpr q) h
  · exact q
