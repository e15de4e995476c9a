/-! the reference's face -/
def RB (f : Nat → Int32) : Prop := ∀ k, fits .byte (.int (f k)) = true
theorem RB.upd {f : Nat → Int32} (h : RB f) (k : Nat) (x : Int32) : RB (upd f k (vp_nar .byte x)) := by
  intro j
  by_cases e : j = k
  · subst e
    rw [pk_us]
    exact fits_narrow_byte x
  · rw [pk_un e]
    exact h j
theorem x_anyI (x : Int32) : ∃ n : Nat, n < 2 ^ 32 ∧ x = nI n := by
  refine ⟨x.toUInt32.toNat, x.toUInt32.toNat_lt, ?_⟩
  show x = Int32.ofNat x.toUInt32.toNat
  apply Int32.toBitVec_inj.mp
  show x.toBitVec = BitVec.ofNat 32 x.toBitVec.toNat
  rw [BitVec.ofNat_toNat, BitVec.setWidth_eq]
theorem x_cp0 {n : Nat} (h : n ≤ 4000) : Int32.toNatClampNeg 0 + Int32.toNatClampNeg (nI n) ≤ 4000 := by
  have h0 : Int32.toNatClampNeg 0 = 0 := rfl
  rw [h0, x_cl (by omega)]
  omega
theorem x_lt10 {x : Int32} (h : x < 0) : x < 10 := Int32.lt_trans h (by decide)
theorem x_ltj {x : Int32} {j n : Nat} (e : x = nI j) (hj : j < 2 ^ 31) (hn : n < 2 ^ 31) (h : x < nI n) : j < n := (nI_ltI (a := j) (b := n) hj hn).mp (e ▸ h)

