/-! BYTES and numbers of bytes, for the reference -/
def opn (f : Nat → Int32) (a : Nat) : Nat := Int32.toNatClampNeg (f a &&& 255)
theorem x_opnE (f : Nat → Int32) (a : Nat) : ∃ j : Nat, j < 256 ∧ f a &&& 255 = nI j ∧ opn f a = j := by
  obtain ⟨j, hj, e⟩ := pk_andE (f a) (m := 255) 8 (by decide)
  refine ⟨j, hj, e, ?_⟩
  unfold opn
  rw [e]
  exact Int32.toNatClampNeg_ofNat_of_lt (by omega)
theorem opn_lt (f : Nat → Int32) (a : Nat) : opn f a < 256 := by
  obtain ⟨j, hj, -, e⟩ := x_opnE f a
  omega
theorem x_opn (f : Nat → Int32) {a : Nat} (ha : a < 2 ^ 31) : f (Int32.toNatClampNeg (nI a)) &&& 255 = nI (opn f a) := by
  have h : Int32.toNatClampNeg (nI a) = a := Int32.toNatClampNeg_ofNat_of_lt ha
  rw [h]
  obtain ⟨j, hj, e, e2⟩ := x_opnE f a
  rw [e, e2]
/-- the bytes from p to q are one number: the last one alone is below 128 -/
def LEB (f : Nat → Int32) (p q : Nat) : Prop := p < q ∧ (∀ i, p ≤ i → i + 1 < q → 128 ≤ opn f i) ∧ opn f (q - 1) < 128
theorem LEB.one {f : Nat → Int32} {p : Nat} (h : opn f p < 128) : LEB f p (p + 1) := ⟨by omega, fun i h1 h2 => by omega, by simpa using h⟩
theorem LEB.more {f : Nat → Int32} {p q : Nat} (h : 128 ≤ opn f p) (k : LEB f (p + 1) q) : LEB f p q := by
  obtain ⟨h1, h2, h3⟩ := k
  refine ⟨by omega, fun i hi hq => ?_, h3⟩
  by_cases e : i = p
  · subst e; exact h
  · exact h2 i (by omega) hq
theorem LEB.uniq {f : Nat → Int32} {p q q' : Nat} (h : LEB f p q) (h' : LEB f p q') : q = q' := by
  obtain ⟨a1, a2, a3⟩ := h
  obtain ⟨b1, b2, b3⟩ := h'
  rcases Nat.lt_trichotomy q q' with hl | he | hl
  · have := b2 (q - 1) (by omega) (by omega)
    omega
  · exact he
  · have := a2 (q' - 1) (by omega) (by omega)
    omega
def wv (f : Nat → Int32) (p : Nat) : Nat → Int64
  | 0 => 0
  | n + 1 => wv f p n ||| (((nI (opn f (p + n))) &&& 127).toInt64 <<< ((nI (7 * n)).toInt64 &&& 63))
def WV (f : Nat → Int32) (p q : Nat) (r : Int64) : Prop := LEB f p q ∧ ∃ n, q = p + n ∧ r = wv f p n
theorem WV.uniq {f : Nat → Int32} {p q q' : Nat} {r r' : Int64} (h : WV f p q r) (h' : WV f p q' r') : q = q' ∧ r = r' := by
  obtain ⟨h1, n, e, rfl⟩ := h
  obtain ⟨h1', n', e', rfl⟩ := h'
  have := h1.uniq h1'
  have e2 : n = n' := by omega
  exact ⟨this, by rw [e2]⟩
theorem x_ior0 {b : Nat} (h : b ≤ 1) : nI b ||| 0 = nI b := by
  have : b = 0 ∨ b = 1 := by omega
  rcases this with rfl | rfl <;> decide
theorem x_ior1 {b : Nat} (h : b ≤ 1) : nI b ||| 1 = nI 1 := by
  have : b = 0 ∨ b = 1 := by omega
  rcases this with rfl | rfl <;> decide
theorem x_nb {b : Nat} (h : b ≤ 1) : narrow .boolean (.int (nI b)) = .int (nI b) := by
  have : b = 0 ∨ b = 1 := by omega
  rcases this with rfl | rfl <;> decide
theorem x_fb {b : Nat} (h : b ≤ 1) : fits .boolean (.int (nI b)) = true := by
  have : b = 0 ∨ b = 1 := by omega
  rcases this with rfl | rfl <;> decide
theorem x_cutE {v : Int64} (h0 : 0 ≤ v) (h : lg_cmp v 2147483647 ≤ 0) : ∃ k : Nat, k < 2 ^ 31 ∧ v.toInt32 = nI k := by
  have h' : lg_cmp v ((nI 2147483647).toInt64) ≤ 0 := h
  obtain ⟨j, hj, e⟩ := x_vec h0 (by decide) h'
  exact ⟨j, by omega, e⟩
def BOK (N B : Nat) (f : Nat → Int32) : Prop := ∀ j, j < N → ∃ n, n ≤ B ∧ f j = nI n
theorem BOK.upd {N B : Nat} {f : Nat → Int32} (h : BOK N B f) (k : Nat) {n : Nat} (hn : n ≤ B) : BOK N B (upd f k (nI n)) := by
  intro j hj
  by_cases e : j = k
  · subst e
    exact ⟨n, hn, pk_us⟩
  · obtain ⟨q, hq, eq⟩ := h j hj
    exact ⟨q, hq, (pk_un e).trans eq⟩
theorem BOK.at {N B : Nat} {f : Nat → Int32} (h : BOK N B f) {t : Nat} (ht : t < N) (hN : t < 2 ^ 31) : ∃ n, n ≤ B ∧ f (Int32.toNatClampNeg (nI t)) = nI n := by
  have e : Int32.toNatClampNeg (nI t) = t := Int32.toNatClampNeg_ofNat_of_lt hN
  rw [e]
  exact h t ht

