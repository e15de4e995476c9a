/-! PREDICATES on contents, and the walk of a body's bytes, for the reference -/
def OOK (f : Nat → Int32) : Prop := ∀ j, j < 4000 → f j = -1 ∨ ∃ n, n < 4000 ∧ f j = nI n
theorem OOK.upd {f : Nat → Int32} (h : OOK f) (k : Nat) {x : Int32} (hx : x = -1 ∨ ∃ n, n < 4000 ∧ x = nI n) : OOK (upd f k x) := by
  intro j hj
  by_cases e : j = k
  · subst e
    rw [pk_us]
    exact hx
  · rw [pk_un e]
    exact h j hj
theorem OOK.at {f : Nat → Int32} (h : OOK f) {t : Nat} (ht : t < 4000) : f (Int32.toNatClampNeg (nI t)) = -1 ∨ ∃ n, n < 4000 ∧ f (Int32.toNatClampNeg (nI t)) = nI n := by
  have e : Int32.toNatClampNeg (nI t) = t := Int32.toNatClampNeg_ofNat_of_lt (by omega)
  rw [e]
  exact h t ht
def EOK (f g : Nat → Int32) : Prop := ∀ j, j < 40 → ∃ a n, a + n ≤ 4000 ∧ f j = nI a ∧ g j = nI n
theorem EOK.upd {f g : Nat → Int32} (h : EOK f g) (k : Nat) {a n : Nat} (hx : a + n ≤ 4000) : EOK (upd f k (nI a)) (upd g k (nI n)) := by
  intro j hj
  by_cases e : j = k
  · subst e
    exact ⟨a, n, hx, pk_us, pk_us⟩
  · obtain ⟨a', n', h1, h2, h3⟩ := h j hj
    exact ⟨a', n', h1, (pk_un e).trans h2, (pk_un e).trans h3⟩
theorem EOK.at {f g : Nat → Int32} (h : EOK f g) {t : Nat} (ht : t < 40) : ∃ a n, a + n ≤ 4000 ∧ f (Int32.toNatClampNeg (nI t)) = nI a ∧ g (Int32.toNatClampNeg (nI t)) = nI n := by
  have e : Int32.toNatClampNeg (nI t) = t := Int32.toNatClampNeg_ofNat_of_lt (by omega)
  rw [e]
  exact h t ht
def VOK (N : Nat) (f : Nat → Int32) (g : Nat → Int64) : Prop := ∀ j, j < N → f j = 35 → 0 ≤ g j
theorem VOK.upd {N : Nat} {f : Nat → Int32} {g : Nat → Int64} (h : VOK N f g) (k : Nat) {x : Int32} {y : Int64} (hx : x = 35 → 0 ≤ y) : VOK N (upd f k x) (vp_updL g k y) := by
  intro j hj
  by_cases e : j = k
  · subst e
    rw [pk_us]
    have e2 : vp_updL g j y j = y := by simp [vp_updL]
    rw [e2]
    exact hx
  · rw [pk_un e]
    have e2 : vp_updL g k y j = g j := by simp [vp_updL, e]
    rw [e2]
    exact h j hj
theorem VOK.at {N : Nat} {f : Nat → Int32} {g : Nat → Int64} (h : VOK N f g) {t : Nat} (ht : t < N) (hN : t < 2 ^ 31) : f (Int32.toNatClampNeg (nI t)) = 35 → 0 ≤ g (Int32.toNatClampNeg (nI t)) := by
  have e : Int32.toNatClampNeg (nI t) = t := Int32.toNatClampNeg_ofNat_of_lt hN
  rw [e]
  exact h t ht
/-- so many numbers one behind another -/
def LEBs (f : Nat → Int32) (p : Nat) : Nat → Nat → Prop
  | 0, q => p = q
  | k + 1, q => ∃ r, LEBs f p k r ∧ LEB f r q
theorem LEBs.uniq {f : Nat → Int32} {p : Nat} : ∀ {k q q' : Nat}, LEBs f p k q → LEBs f p k q' → q = q'
  | 0, _, _, h, h' => h.symm.trans h'
  | k + 1, _, _, ⟨r, h1, h2⟩, ⟨r', h1', h2'⟩ => by
    have e := LEBs.uniq h1 h1'
    subst e
    exact h2.uniq h2'
def Tab (f : Nat → Int32) (p q : Nat) : Prop := ∃ r n, n < 2 ^ 63 ∧ WV f p r (lN n) ∧ LEBs f r (n + 1) q
theorem Tab.uniq {f : Nat → Int32} {p q q' : Nat} (h : Tab f p q) (h' : Tab f p q') : q = q' := by
  obtain ⟨r, n, hn, h1, h2⟩ := h
  obtain ⟨r', n', hn', h1', h2'⟩ := h'
  obtain ⟨e1, e2⟩ := h1.uniq h1'
  have e3 := (pk_lEQ hn hn').mp e2
  subst e1
  subst e3
  exact h2.uniq h2'
/-- one INSTRUCTION from p at depth d to p' at depth d' -/
def Step (f : Nat → Int32) (p d p' d' : Nat) : Prop :=
  ((opn f p = 2 ∨ opn f p = 3 ∨ opn f p = 4) ∧ p' = p + 2 ∧ d' = d + 1) ∨ (opn f p = 5 ∧ p' = p + 1 ∧ d' = d) ∨ (opn f p = 11 ∧ 1 ≤ d ∧ p' = p + 1 ∧ d' = d - 1) ∨ (opn f p = 14 ∧ Tab f (p + 1) p' ∧ d' = d)
  ∨ ((opn f p = 12 ∨ opn f p = 13 ∨ opn f p = 16 ∨ (32 ≤ opn f p ∧ opn f p ≤ 36) ∨ opn f p = 65 ∨ opn f p = 66) ∧ LEB f (p + 1) p' ∧ d' = d) ∨ (opn f p = 17 ∧ (∃ q, LEB f (p + 1) q ∧ p' = q + 1) ∧ d' = d)
  ∨ ((opn f p = 63 ∨ opn f p = 64) ∧ p' = p + 2 ∧ d' = d) ∨ ((40 ≤ opn f p ∧ opn f p ≤ 62) ∧ (∃ q, LEB f (p + 1) q ∧ LEB f q p') ∧ d' = d) ∨ ((opn f p ≤ 1 ∨ opn f p = 15 ∨ opn f p = 26 ∨ opn f p = 27 ∨ 69 ≤ opn f p) ∧ p' = p + 1 ∧ d' = d)
theorem Step.uniq {f : Nat → Int32} {p d p1 d1 p2 d2 : Nat} (h : Step f p d p1 d1) (h' : Step f p d p2 d2) : p1 = p2 ∧ d1 = d2 := by
  rcases h with ⟨o, h1, h2⟩ | ⟨o, h1, h2⟩ | ⟨o, h0, h1, h2⟩ | ⟨o, h1, h2⟩ | ⟨o, h1, h2⟩ | ⟨o, ⟨q, h1, h3⟩, h2⟩ | ⟨o, h1, h2⟩ | ⟨o, ⟨q, h1, h3⟩, h2⟩ | ⟨o, h1, h2⟩ <;>
  rcases h' with ⟨o', h1', h2'⟩ | ⟨o', h1', h2'⟩ | ⟨o', h0', h1', h2'⟩ | ⟨o', h1', h2'⟩ | ⟨o', h1', h2'⟩ | ⟨o', ⟨q', h1', h3'⟩, h2'⟩ | ⟨o', h1', h2'⟩ | ⟨o', ⟨q', h1', h3'⟩, h2'⟩ | ⟨o', h1', h2'⟩ <;>
  first
  | (exfalso; omega)
  | exact ⟨h1.trans h1'.symm, h2.trans h2'.symm⟩
  | exact ⟨h1.uniq h1', h2.trans h2'.symm⟩
  | (have e := h1.uniq h1'; exact ⟨by omega, h2.trans h2'.symm⟩)
  | (have e := h1.uniq h1'; subst e; exact ⟨h3.uniq h3', h2.trans h2'.symm⟩)
theorem Step.blk {f : Nat → Int32} {p d : Nat} (h : opn f p = 2 ∨ opn f p = 3 ∨ opn f p = 4) : Step f p d (p + 1 + 1) (d + 1) := Or.inl ⟨h, rfl, rfl⟩
theorem Step.els {f : Nat → Int32} {p d : Nat} (h : opn f p = 5) : Step f p d (p + 1) d := Or.inr (Or.inl ⟨h, rfl, rfl⟩)
theorem Step.fin {f : Nat → Int32} {p d : Nat} (h : opn f p = 11) (hd : 1 ≤ d) : Step f p d (p + 1) (d - 1) := Or.inr (Or.inr (Or.inl ⟨h, hd, rfl, rfl⟩))
theorem Step.tab {f : Nat → Int32} {p d q : Nat} (h : opn f p = 14) (ht : Tab f (p + 1) q) : Step f p d q d := Or.inr (Or.inr (Or.inr (Or.inl ⟨h, ht, rfl⟩)))
theorem Step.leb {f : Nat → Int32} {p d q : Nat} (h : opn f p = 12 ∨ opn f p = 13 ∨ opn f p = 16 ∨ (32 ≤ opn f p ∧ opn f p ≤ 36) ∨ opn f p = 65 ∨ opn f p = 66) (ht : LEB f (p + 1) q) : Step f p d q d := Or.inr (Or.inr (Or.inr (Or.inr (Or.inl ⟨h, ht, rfl⟩))))
theorem Step.ind {f : Nat → Int32} {p d q : Nat} (h : opn f p = 17) (ht : LEB f (p + 1) q) : Step f p d (q + 1) d := Or.inr (Or.inr (Or.inr (Or.inr (Or.inr (Or.inl ⟨h, ⟨q, ht, rfl⟩, rfl⟩)))))
theorem Step.mem {f : Nat → Int32} {p d : Nat} (h : opn f p = 63 ∨ opn f p = 64) : Step f p d (p + 1 + 1) d := Or.inr (Or.inr (Or.inr (Or.inr (Or.inr (Or.inr (Or.inl ⟨h, rfl, rfl⟩))))))
theorem Step.acc {f : Nat → Int32} {p d q r : Nat} (h : 40 ≤ opn f p ∧ opn f p ≤ 62) (ht : LEB f (p + 1) q) (hu : LEB f q r) : Step f p d r d := Or.inr (Or.inr (Or.inr (Or.inr (Or.inr (Or.inr (Or.inr (Or.inl ⟨h, ⟨q, ht, hu⟩, rfl⟩)))))))
theorem Step.pla {f : Nat → Int32} {p d : Nat} (h : opn f p ≤ 1 ∨ opn f p = 15 ∨ opn f p = 26 ∨ opn f p = 27 ∨ 69 ≤ opn f p) : Step f p d (p + 1) d := Or.inr (Or.inr (Or.inr (Or.inr (Or.inr (Or.inr (Or.inr (Or.inr ⟨h, rfl, rfl⟩)))))))
def Rn (f : Nat → Int32) (p d : Nat) : Nat → Nat → Nat → Prop
  | 0, q, c => q = p ∧ c = d
  | n + 1, q, c => ∃ q' c', Rn f p d n q' c' ∧ Step f q' c' q c
theorem Rn.head {f : Nat → Int32} {p d p' d' : Nat} (h : Step f p d p' d') : ∀ {n q c : Nat}, Rn f p' d' n q c → Rn f p d (n + 1) q c
  | 0, q, c, hr => by
    obtain ⟨e1, e2⟩ := hr
    subst e1
    subst e2
    exact ⟨p, d, ⟨rfl, rfl⟩, h⟩
  | n + 1, q, c, hr => by
    obtain ⟨q', c', h1, h2⟩ := hr
    exact ⟨q', c', Rn.head h h1, h2⟩
theorem Rn.cut {f : Nat → Int32} {p d p' d' : Nat} (h : Step f p d p' d') : ∀ {n q c : Nat}, Rn f p d n q c → (q = p ∧ c = d) ∨ ∃ k, Rn f p' d' k q c
  | 0, q, c, hr => Or.inl hr
  | n + 1, q, c, hr => by
    obtain ⟨q', c', h1, h2⟩ := hr
    rcases Rn.cut h h1 with ⟨e1, e2⟩ | ⟨k, ih⟩
    · subst e1
      subst e2
      obtain ⟨e1, e2⟩ := h.uniq h2
      exact Or.inr ⟨0, e1.symm, e2.symm⟩
    · exact Or.inr ⟨k + 1, q', c', ih, h2⟩
/-- from p at depth d the depth never passes 30, and every byte that begins an INSTRUCTION is one -/
def Safe (f : Nat → Int32) (p d : Nat) : Prop := ∀ n q c, Rn f p d n q c → c ≤ 30 ∧ (opn f q ≤ 5 ∨ (11 ≤ opn f q ∧ opn f q ≤ 17) ∨ opn f q = 26 ∨ opn f q = 27 ∨ (32 ≤ opn f q ∧ opn f q ≤ 36) ∨ (40 ≤ opn f q ∧ opn f q ≤ 66) ∨ 69 ≤ opn f q)
theorem Safe.step {f : Nat → Int32} {p d p' d' : Nat} (hd : d ≤ 30) (ho : (opn f p ≤ 5 ∨ (11 ≤ opn f p ∧ opn f p ≤ 17) ∨ opn f p = 26 ∨ opn f p = 27 ∨ (32 ≤ opn f p ∧ opn f p ≤ 36) ∨ (40 ≤ opn f p ∧ opn f p ≤ 66) ∨ 69 ≤ opn f p)) (h : Step f p d p' d') (hs : Safe f p' d') : Safe f p d := by
  intro n q c hr
  rcases Rn.cut h hr with ⟨rfl, rfl⟩ | ⟨k, hr⟩
  · exact ⟨hd, ho⟩
  · exact hs k q c hr
theorem Safe.next {f : Nat → Int32} {p d p' d' : Nat} (hs : Safe f p d) (h : Step f p d p' d') : Safe f p' d' := fun n q c hr => hs (n + 1) q c (Rn.head h hr)
theorem Safe.le {f : Nat → Int32} {p d : Nat} (hs : Safe f p d) : d ≤ 30 := (hs 0 p d ⟨rfl, rfl⟩).1
theorem Safe.op {f : Nat → Int32} {p d : Nat} (hs : Safe f p d) : (opn f p ≤ 5 ∨ (11 ≤ opn f p ∧ opn f p ≤ 17) ∨ opn f p = 26 ∨ opn f p = 27 ∨ (32 ≤ opn f p ∧ opn f p ≤ 36) ∨ (40 ≤ opn f p ∧ opn f p ≤ 66) ∨ 69 ≤ opn f p) := (hs 0 p d ⟨rfl, rfl⟩).2
theorem Rn.stay {f : Nat → Int32} {p : Nat} (ho : opn f p = 11) : ∀ {n q c : Nat}, Rn f p 0 n q c → q = p ∧ c = 0
  | 0, q, c, hr => hr
  | n + 1, q, c, hr => by
    obtain ⟨q', c', h1, s⟩ := hr
    obtain ⟨e1, e2⟩ := Rn.stay ho h1
    subst e1
    subst e2
    exfalso
    rcases s with ⟨o, h1, h2⟩ | ⟨o, h1, h2⟩ | ⟨o, h0, h1, h2⟩ | ⟨o, h1, h2⟩ | ⟨o, h1, h2⟩ | ⟨o, ⟨q, h1, h3⟩, h2⟩ | ⟨o, h1, h2⟩ | ⟨o, ⟨q, h1, h3⟩, h2⟩ | ⟨o, h1, h2⟩ <;> omega
theorem Safe.fin {f : Nat → Int32} {p d : Nat} (ho : opn f p = 11) (hd : d = 0) : Safe f p d := by
  subst hd
  intro n q c hr
  obtain ⟨rfl, rfl⟩ := Rn.stay ho hr
  exact ⟨by omega, by omega⟩
def SOK (n : Nat) (f g : Nat → Int32) : Prop := ∀ j, j < n → j < 60 → ∃ p, p ≤ 4000 ∧ g j = nI p ∧ Safe f p 0
theorem SOK.zero {f g : Nat → Int32} : SOK 0 f g := fun j hj => by omega
theorem SOK.snoc {n : Nat} {f g : Nat → Int32} (h : SOK n f g) {a : Nat} (ha : a ≤ 4000) (hs : Safe f a 0) {k : Nat} (hk : k = n) : SOK (n + 1) f (upd g k (nI a)) := by
  subst hk
  intro j hj hj6
  by_cases e : j = k
  · subst e
    exact ⟨a, ha, pk_us, hs⟩
  · obtain ⟨q, h1, h2, h3⟩ := h j (by omega) hj6
    exact ⟨q, h1, (pk_un e).trans h2, h3⟩
theorem SOK.past {n : Nat} {f g : Nat → Int32} (h : SOK n f g) (hn : 60 ≤ n) : SOK (n + 1) f g := fun j hj hj6 => h j (by omega) hj6
theorem x_cl {k : Nat} (h : k < 2 ^ 31) : Int32.toNatClampNeg (nI k) = k := Int32.toNatClampNeg_ofNat_of_lt h
/-- heights of blocks, one over another, under the stack's -/
def HOK (b h : Nat) (g : Nat → Int32) : Prop := ∃ w : Nat → Nat, (∀ j, j < b → g j = nI (w j)) ∧ (∀ i j, i ≤ j → j < b → w i ≤ w j) ∧ (∀ j, j < b → w j ≤ h)
theorem HOK.up {b h k : Nat} {g : Nat → Int32} (x : HOK b h g) (hk : h ≤ k) : HOK b k g := by
  obtain ⟨w, h1, h2, h3⟩ := x
  exact ⟨w, h1, h2, fun j hj => Nat.le_trans (h3 j hj) hk⟩
theorem HOK.top {b h : Nat} {g : Nat → Int32} (x : HOK b h g) (hb : 1 ≤ b) : ∃ n, g (b - 1) = nI n ∧ n ≤ h ∧ ∀ k, n ≤ k → HOK b k g := by
  obtain ⟨w, h1, h2, h3⟩ := x
  exact ⟨w (b - 1), h1 _ (by omega), h3 _ (by omega), fun k hk => ⟨w, h1, h2, fun j hj => Nat.le_trans (h2 j (b - 1) (by omega) (by omega)) hk⟩⟩
theorem HOK.opn {b h : Nat} {g : Nat → Int32} (x : HOK b h g) {k : Nat} (hk : k = b) : HOK (b + 1) h (upd g k (nI h)) := by
  subst hk
  obtain ⟨w, h1, h2, h3⟩ := x
  refine ⟨fun j => if j = k then h else w j, fun j hj => ?_, fun i j hij hj => ?_, fun j hj => ?_⟩
  · by_cases e : j = k
    · subst e
      simp [pk_us]
    · simp [e, pk_un e, h1 j (by omega)]
  · by_cases e : j = k
    · subst e
      by_cases e2 : i = j
      · subst e2
        simp
      · simp [e2]
        exact h3 i (by omega)
    · have e2 : i ≠ k := by omega
      simp [e, e2]
      exact h2 i j hij (by omega)
  · by_cases e : j = k
    · simp [e]
    · simp [e]
      exact h3 j (by omega)
theorem HOK.less {b b' h : Nat} {g : Nat → Int32} (x : HOK b h g) (hb : b' ≤ b) : HOK b' h g := by
  obtain ⟨w, h1, h2, h3⟩ := x
  exact ⟨w, fun j hj => h1 j (by omega), fun i j hij hj => h2 i j hij (by omega), fun j hj => h3 j (by omega)⟩
theorem x_lgt {a b : Nat} (ha : a < 2 ^ 63) (hb : b < 2 ^ 63) : lg_cmp (lN a) (lN b) > 0 ↔ b < a := (lg_cmp_gt _ _).trans (pk_lLT hb ha)
theorem x_lle {a b : Nat} (ha : a < 2 ^ 63) (hb : b < 2 ^ 63) : lg_cmp (lN a) (lN b) ≤ 0 ↔ a ≤ b := (lg_cmp_le _ _).trans (pk_lLE ha hb)
theorem x_lge {a b : Nat} (ha : a < 2 ^ 63) (hb : b < 2 ^ 63) : lg_cmp (lN a) (lN b) ≥ 0 ↔ b ≤ a := (lg_cmp_ge _ _).trans (pk_lLE hb ha)
theorem x_llt {a b : Nat} (ha : a < 2 ^ 63) (hb : b < 2 ^ 63) : lg_cmp (lN a) (lN b) < 0 ↔ a < b := (lg_cmp_lt _ _).trans (pk_lLT ha hb)
theorem x_klt {n : Int64} {k : Nat} (hk : k < 2 ^ 31) (h0 : 0 ≤ n) (h : ¬ lg_cmp ((nI k : Int32).toInt64) n ≥ 0) (h6 : lg_cmp n 6 ≤ 0) : k < 6 := by
  obtain ⟨j, hj, rfl⟩ := pk_lOf (x := n) (Int64.not_lt.mpr h0)
  have h6 : lg_cmp (lN j) (lN 6) ≤ 0 := h6
  rw [nI_l hk] at h
  have e1 := (x_lle hj (by decide)).mp h6
  have e2 : ¬ j ≤ k := fun q => h ((x_lge (by omega) hj).mpr q)
  omega
theorem x_swT {pc t : Nat} {d lo hi : Int} {offs : Array Int} {o : Nat} (P : Nat → Bool) (ho : o < 256) (hs : (pc : Int) + x_off d lo hi offs (nI o).toInt = (t : Int)) (hall : (List.range 256).all (fun o => !decide ((pc : Int) + x_off d lo hi offs (o : Int) = (t : Int)) || P o) = true) : P o = true := by
  rw [nI_toInt (by omega)] at hs
  have := List.all_eq_true.mp hall o (List.mem_range.mpr ho)
  simpa [hs] using this
theorem OOK.nn {f : Nat → Int32} (h : OOK f) {t : Nat} (ht : t < 4000) {x : Int32} (hx : x = f (Int32.toNatClampNeg (nI t))) (h0 : ¬ x < 0) : ∃ n, n < 4000 ∧ f (Int32.toNatClampNeg (nI t)) = nI n := by
  rcases h.at ht with e | e
  · exact absurd (by rw [hx, e]; decide) h0
  · exact e
theorem x_dec1 {d : Nat} (h : 1 ≤ d) : nI d + (-1) = nI (d - 1) := by
  rw [← pk_sub h, Int32.sub_eq_add_neg]
  rfl
theorem x_Xlt {x y : Int64} {a b : Nat} (hx : x = lN a) (hy : y = lN b) (ha : a < 2 ^ 63) (hb : b < 2 ^ 63) : lg_cmp x y < 0 ↔ a < b := by rw [hx, hy]; exact x_llt ha hb
theorem x_Xle {x y : Int64} {a b : Nat} (hx : x = lN a) (hy : y = lN b) (ha : a < 2 ^ 63) (hb : b < 2 ^ 63) : lg_cmp x y ≤ 0 ↔ a ≤ b := by rw [hx, hy]; exact x_lle ha hb
theorem x_Xgt {x y : Int64} {a b : Nat} (hx : x = lN a) (hy : y = lN b) (ha : a < 2 ^ 63) (hb : b < 2 ^ 63) : lg_cmp x y > 0 ↔ b < a := by rw [hx, hy]; exact x_lgt ha hb
theorem x_Xge {x y : Int64} {a b : Nat} (hx : x = lN a) (hy : y = lN b) (ha : a < 2 ^ 63) (hb : b < 2 ^ 63) : lg_cmp x y ≥ 0 ↔ b ≤ a := by rw [hx, hy]; exact x_lge ha hb
theorem Safe.cast {f : Nat → Int32} {p d p' d' : Nat} (h : Safe f p d) (e1 : p = p') (e2 : d = d') : Safe f p' d' := by subst e1; subst e2; exact h
/-- the types of the first n FUNCTIONS are below t -/
def FTK (n t : Nat) (g : Nat → Int32) : Prop := ∀ j, j < n → ∃ q, q < t ∧ q < 2 ^ 31 ∧ g j = nI q
theorem FTK.zero {t : Nat} {g : Nat → Int32} : FTK 0 t g := fun j hj => by omega
theorem FTK.snoc {n t : Nat} {g : Nat → Int32} (h : FTK n t g) (hn : n < 2 ^ 31) {q : Nat} (e : g (Int32.toNatClampNeg (nI n)) = nI q) (hq : q < t) (hq2 : q ≤ 2147483647) : FTK (n + 1) t g := by
  rw [x_cl hn] at e
  intro j hj
  by_cases e2 : j = n
  · subst e2
    exact ⟨q, hq, by omega, e⟩
  · exact h j (by omega)
theorem FTK.lt {n t : Nat} {g : Nat → Int32} (h : FTK n t g) {j q : Nat} (hj : j < n) (hj2 : j < 2 ^ 31) (e : g (Int32.toNatClampNeg (nI j)) = nI q) (hq : q ≤ 2147483647) : q < t := by
  rw [x_cl hj2] at e
  obtain ⟨q', h1, h2, h3⟩ := h j hj
  have := (nI_eq (a := q) (b := q') (by omega) (by omega)).mp (e.symm.trans h3)
  omega
theorem FTK.of {n n' t : Nat} {g : Nat → Int32} (h : FTK n t g) (hn : n' ≤ n) : FTK n' t g := fun j hj => h j (by omega)
theorem SOK.at {n : Nat} {f g : Nat → Int32} (h : SOK n f g) {j q : Nat} (hj : j < n) (hj6 : j < 60) (e : g (Int32.toNatClampNeg (nI j)) = nI q) (hq : q ≤ 4000) : Safe f q 0 := by
  rw [x_cl (by omega)] at e
  obtain ⟨q', h1, h2, h3⟩ := h j hj hj6
  have e2 := (nI_eq (a := q) (b := q') (by omega) (by omega)).mp (e.symm.trans h2)
  subst e2
  exact h3
def ACC (f : Nat → Int32) (p q : Nat) : Prop := ∃ r, LEB f p r ∧ LEB f r q
theorem Step.acc2 {f : Nat → Int32} {p d q : Nat} (h : 40 ≤ opn f p ∧ opn f p ≤ 62) (ht : ACC f (p + 1) q) : Step f p d q d := by
  obtain ⟨r, h1, h2⟩ := ht
  exact Step.acc h h1 h2
theorem x_subadd (x : Int32) : x + (-1) = x - 1 := by
  rw [Int32.sub_eq_add_neg]
theorem x_z1 : nI 0 - 1 = -1 := by decide
theorem x_p1 {k : Nat} (h : 0 < k) : nI k - 1 = nI (k - 1) := pk_sub h
theorem HOK.zero {h : Nat} {g : Nat → Int32} : HOK 0 h g := ⟨fun _ => 0, fun j hj => by omega, fun i j hij hj => by omega, fun j hj => by omega⟩

