theorem x_dec30 {k : Int32} {j : Nat} (h : ¬ 30 ≤ k) (hj : (30 - k.toInt).toNat < j + 1) : (30 - (k + 1).toInt).toNat < j := by
  have h1 : k.toInt < 30 := by
    have := Int32.not_le.mp h
    simpa using Int32.lt_iff_toInt_lt.mp this
  have h2 : (k + 1).toInt = k.toInt + 1 := by
    have e1 : (1 : Int32).toInt = 1 := rfl
    have e2 := Int32.toInt_add k 1
    rw [e1] at e2
    have hlo := Int32.le_toInt k
    rw [e2]
    exact Int.bmod_eq_of_le (by omega) (by omega)
  rw [h2]
  omega
