theorem x_ltL {L : Int32} {i : Nat} (hi : i < 2 ^ 31) (h : ¬ L ≤ nI i) : (i : Int) < L.toInt := by
  have := Int32.lt_iff_toInt_lt.mp (Int32.not_le.mp h)
  rwa [nI_toInt hi] at this
