/-! NUMBERS for the class's cursor -/
theorem x_nn {x : Int64} : 0 ≤ x ↔ x.toBitVec.msb = false := by
  rw [Int64.le_iff_toInt_le]
  have h : (0 : Int64).toInt = 0 := rfl
  rw [h]
  have h2 : x.toInt = x.toBitVec.toInt := rfl
  rw [h2, BitVec.msb_eq_toInt]
  simp
theorem x_or0 {x y : Int64} (hx : 0 ≤ x) (hy : 0 ≤ y) : 0 ≤ x ||| y := by
  rw [x_nn] at *
  show (x.toBitVec ||| y.toBitVec).msb = false
  rw [BitVec.msb_or, hx, hy]
  rfl
theorem x_sh0 : ∀ j : Nat, j < 128 → 0 ≤ ((nI j).toInt64 <<< ((0 : Int32).toInt64 &&& 63)) := by decide +kernel
theorem x_sh7 : ∀ j : Nat, j < 128 → 0 ≤ ((nI j).toInt64 <<< ((7 : Int32).toInt64 &&& 63)) := by decide +kernel
theorem x_sh14 : ∀ j : Nat, j < 128 → 0 ≤ ((nI j).toInt64 <<< ((14 : Int32).toInt64 &&& 63)) := by decide +kernel
theorem x_sh21 : ∀ j : Nat, j < 128 → 0 ≤ ((nI j).toInt64 <<< ((21 : Int32).toInt64 &&& 63)) := by decide +kernel
theorem x_sh28 : ∀ j : Nat, j < 128 → 0 ≤ ((nI j).toInt64 <<< ((28 : Int32).toInt64 &&& 63)) := by decide +kernel
theorem x_low {v n : Int32} (h : v = n &&& 127) : ∃ j : Nat, j < 128 ∧ v = nI j := by
  obtain ⟨j, hj, e⟩ := pk_andE n (m := 127) 7 (by decide)
  exact ⟨j, hj, h.trans e⟩
theorem x_vec {p : Int64} {k : Nat} (h0 : 0 ≤ p) (hk : k < 2 ^ 31) (h : lg_cmp p ((nI k).toInt64) ≤ 0) : ∃ j : Nat, j ≤ k ∧ p.toInt32 = nI j := by
  have hle : p ≤ lN k := by
    rw [nI_l hk] at h
    unfold lg_cmp at h
    split at h
    · exact absurd h (by decide)
    · rename_i h1
      exact Int64.not_lt.mp h1
  obtain ⟨j, hj, rfl⟩ := pk_lOf (x := p) (Int64.not_lt.mpr h0)
  refine ⟨j, (pk_lLE hj (by omega)).mp hle, lN_i j⟩
theorem x_t0 {x : Int32} (h : x < 0) : x.toInt < 0 := by simpa using Int32.lt_iff_toInt_lt.mp h
theorem x_tn {x : Int32} {n : Nat} (hn : n + 1 < 2 ^ 31) (h : nI (n + 1) ≤ x) : (n : Int) < x.toInt := by
  have := Int32.le_iff_toInt_le.mp h
  rw [nI_toInt hn] at this
  omega
theorem x_neI {x k : Int32} {q : Int} (hq : k.toInt = q) (h : ¬ x = k) : ¬ q = x.toInt := fun e => h (Int32.toInt_inj.mp (e.symm.trans hq.symm))

