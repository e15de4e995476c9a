set_option maxHeartbeats 8000000 in
set_option maxRecDepth 100000 in
theorem x_tab_ACCESS_ALIGNMENT {args : Array Value} {s : State} {A : Nat → Prop} (hf : ∀ c ∈ flatC (Jvm.Cond.and given_1 narrow_1), c.before args s = true) (hl : (Cond.laysStatic "WasmReader" "ACCESS_ALIGNMENT" "[I").before args s = true) (hini : (Cond.initialized "WasmReader").before args s = true) (hA : ∀ a : Nat, a < s.heap.size → ¬ A a) : xT "ACCESS_ALIGNMENT" 23 A s s.heap := by
  have hel : ∀ j : Nat, j < 23 → (Term.elem (Term.static "WasmReader" "ACCESS_ALIGNMENT" "[I") (.int (Int32.ofNat j))).eval args s none [] s = some ((fun j => .int (([2, 3, (-1), (-1), 0, 0, 1, 1, 0, 0, 1, 1, 2, 2, 2, 3, (-1), (-1), 0, 1, 0, 1, 2] : List Int32).getD j 0)) j) := by
    intro j hj
    match j, hj with
    | 0, _ => exact x_eqv (tm := Term.elem (Term.static "WasmReader" "ACCESS_ALIGNMENT" "[I") (.int (0 : Int32))) (v := (2 : Int32)) (hf _ (by decide +kernel))
    | 1, _ => exact x_eqv (tm := Term.elem (Term.static "WasmReader" "ACCESS_ALIGNMENT" "[I") (.int (1 : Int32))) (v := (3 : Int32)) (hf _ (by decide +kernel))
    | 2, _ => exact x_eqv (tm := Term.elem (Term.static "WasmReader" "ACCESS_ALIGNMENT" "[I") (.int (2 : Int32))) (v := (-1 : Int32)) (hf _ (by decide +kernel))
    | 3, _ => exact x_eqv (tm := Term.elem (Term.static "WasmReader" "ACCESS_ALIGNMENT" "[I") (.int (3 : Int32))) (v := (-1 : Int32)) (hf _ (by decide +kernel))
    | 4, _ => exact x_eqv (tm := Term.elem (Term.static "WasmReader" "ACCESS_ALIGNMENT" "[I") (.int (4 : Int32))) (v := (0 : Int32)) (hf _ (by decide +kernel))
    | 5, _ => exact x_eqv (tm := Term.elem (Term.static "WasmReader" "ACCESS_ALIGNMENT" "[I") (.int (5 : Int32))) (v := (0 : Int32)) (hf _ (by decide +kernel))
    | 6, _ => exact x_eqv (tm := Term.elem (Term.static "WasmReader" "ACCESS_ALIGNMENT" "[I") (.int (6 : Int32))) (v := (1 : Int32)) (hf _ (by decide +kernel))
    | 7, _ => exact x_eqv (tm := Term.elem (Term.static "WasmReader" "ACCESS_ALIGNMENT" "[I") (.int (7 : Int32))) (v := (1 : Int32)) (hf _ (by decide +kernel))
    | 8, _ => exact x_eqv (tm := Term.elem (Term.static "WasmReader" "ACCESS_ALIGNMENT" "[I") (.int (8 : Int32))) (v := (0 : Int32)) (hf _ (by decide +kernel))
    | 9, _ => exact x_eqv (tm := Term.elem (Term.static "WasmReader" "ACCESS_ALIGNMENT" "[I") (.int (9 : Int32))) (v := (0 : Int32)) (hf _ (by decide +kernel))
    | 10, _ => exact x_eqv (tm := Term.elem (Term.static "WasmReader" "ACCESS_ALIGNMENT" "[I") (.int (10 : Int32))) (v := (1 : Int32)) (hf _ (by decide +kernel))
    | 11, _ => exact x_eqv (tm := Term.elem (Term.static "WasmReader" "ACCESS_ALIGNMENT" "[I") (.int (11 : Int32))) (v := (1 : Int32)) (hf _ (by decide +kernel))
    | 12, _ => exact x_eqv (tm := Term.elem (Term.static "WasmReader" "ACCESS_ALIGNMENT" "[I") (.int (12 : Int32))) (v := (2 : Int32)) (hf _ (by decide +kernel))
    | 13, _ => exact x_eqv (tm := Term.elem (Term.static "WasmReader" "ACCESS_ALIGNMENT" "[I") (.int (13 : Int32))) (v := (2 : Int32)) (hf _ (by decide +kernel))
    | 14, _ => exact x_eqv (tm := Term.elem (Term.static "WasmReader" "ACCESS_ALIGNMENT" "[I") (.int (14 : Int32))) (v := (2 : Int32)) (hf _ (by decide +kernel))
    | 15, _ => exact x_eqv (tm := Term.elem (Term.static "WasmReader" "ACCESS_ALIGNMENT" "[I") (.int (15 : Int32))) (v := (3 : Int32)) (hf _ (by decide +kernel))
    | 16, _ => exact x_eqv (tm := Term.elem (Term.static "WasmReader" "ACCESS_ALIGNMENT" "[I") (.int (16 : Int32))) (v := (-1 : Int32)) (hf _ (by decide +kernel))
    | 17, _ => exact x_eqv (tm := Term.elem (Term.static "WasmReader" "ACCESS_ALIGNMENT" "[I") (.int (17 : Int32))) (v := (-1 : Int32)) (hf _ (by decide +kernel))
    | 18, _ => exact x_eqv (tm := Term.elem (Term.static "WasmReader" "ACCESS_ALIGNMENT" "[I") (.int (18 : Int32))) (v := (0 : Int32)) (hf _ (by decide +kernel))
    | 19, _ => exact x_eqv (tm := Term.elem (Term.static "WasmReader" "ACCESS_ALIGNMENT" "[I") (.int (19 : Int32))) (v := (1 : Int32)) (hf _ (by decide +kernel))
    | 20, _ => exact x_eqv (tm := Term.elem (Term.static "WasmReader" "ACCESS_ALIGNMENT" "[I") (.int (20 : Int32))) (v := (0 : Int32)) (hf _ (by decide +kernel))
    | 21, _ => exact x_eqv (tm := Term.elem (Term.static "WasmReader" "ACCESS_ALIGNMENT" "[I") (.int (21 : Int32))) (v := (1 : Int32)) (hf _ (by decide +kernel))
    | 22, _ => exact x_eqv (tm := Term.elem (Term.static "WasmReader" "ACCESS_ALIGNMENT" "[I") (.int (22 : Int32))) (v := (2 : Int32)) (hf _ (by decide +kernel))
    | j + 23, h => exact absurd h (by omega)
  obtain ⟨t, ht, hT⟩ := va_Tof (tm := (Term.static "WasmReader" "ACCESS_ALIGNMENT" "[I")) (ty := .int) (N := 23) (by decide) (hf _ (by decide +kernel)) (x_eqv (v := (23 : Int32)) (hf _ (by decide +kernel))) hel hA
  exact ⟨t, _, va_Zref hl hini ht hA, hT⟩
set_option maxHeartbeats 8000000 in
set_option maxRecDepth 100000 in
theorem x_tab_ACCESS_TYPE {args : Array Value} {s : State} {A : Nat → Prop} (hf : ∀ c ∈ flatC (Jvm.Cond.and given_1 narrow_1), c.before args s = true) (hl : (Cond.laysStatic "WasmReader" "ACCESS_TYPE" "[I").before args s = true) (hini : (Cond.initialized "WasmReader").before args s = true) (hA : ∀ a : Nat, a < s.heap.size → ¬ A a) : xT "ACCESS_TYPE" 23 A s s.heap := by
  have hel : ∀ j : Nat, j < 23 → (Term.elem (Term.static "WasmReader" "ACCESS_TYPE" "[I") (.int (Int32.ofNat j))).eval args s none [] s = some ((fun j => .int (([0, 1, (-1), (-1), 0, 0, 0, 0, 1, 1, 1, 1, 1, 1, 0, 1, (-1), (-1), 0, 0, 1, 1, 1] : List Int32).getD j 0)) j) := by
    intro j hj
    match j, hj with
    | 0, _ => exact x_eqv (tm := Term.elem (Term.static "WasmReader" "ACCESS_TYPE" "[I") (.int (0 : Int32))) (v := (0 : Int32)) (hf _ (by decide +kernel))
    | 1, _ => exact x_eqv (tm := Term.elem (Term.static "WasmReader" "ACCESS_TYPE" "[I") (.int (1 : Int32))) (v := (1 : Int32)) (hf _ (by decide +kernel))
    | 2, _ => exact x_eqv (tm := Term.elem (Term.static "WasmReader" "ACCESS_TYPE" "[I") (.int (2 : Int32))) (v := (-1 : Int32)) (hf _ (by decide +kernel))
    | 3, _ => exact x_eqv (tm := Term.elem (Term.static "WasmReader" "ACCESS_TYPE" "[I") (.int (3 : Int32))) (v := (-1 : Int32)) (hf _ (by decide +kernel))
    | 4, _ => exact x_eqv (tm := Term.elem (Term.static "WasmReader" "ACCESS_TYPE" "[I") (.int (4 : Int32))) (v := (0 : Int32)) (hf _ (by decide +kernel))
    | 5, _ => exact x_eqv (tm := Term.elem (Term.static "WasmReader" "ACCESS_TYPE" "[I") (.int (5 : Int32))) (v := (0 : Int32)) (hf _ (by decide +kernel))
    | 6, _ => exact x_eqv (tm := Term.elem (Term.static "WasmReader" "ACCESS_TYPE" "[I") (.int (6 : Int32))) (v := (0 : Int32)) (hf _ (by decide +kernel))
    | 7, _ => exact x_eqv (tm := Term.elem (Term.static "WasmReader" "ACCESS_TYPE" "[I") (.int (7 : Int32))) (v := (0 : Int32)) (hf _ (by decide +kernel))
    | 8, _ => exact x_eqv (tm := Term.elem (Term.static "WasmReader" "ACCESS_TYPE" "[I") (.int (8 : Int32))) (v := (1 : Int32)) (hf _ (by decide +kernel))
    | 9, _ => exact x_eqv (tm := Term.elem (Term.static "WasmReader" "ACCESS_TYPE" "[I") (.int (9 : Int32))) (v := (1 : Int32)) (hf _ (by decide +kernel))
    | 10, _ => exact x_eqv (tm := Term.elem (Term.static "WasmReader" "ACCESS_TYPE" "[I") (.int (10 : Int32))) (v := (1 : Int32)) (hf _ (by decide +kernel))
    | 11, _ => exact x_eqv (tm := Term.elem (Term.static "WasmReader" "ACCESS_TYPE" "[I") (.int (11 : Int32))) (v := (1 : Int32)) (hf _ (by decide +kernel))
    | 12, _ => exact x_eqv (tm := Term.elem (Term.static "WasmReader" "ACCESS_TYPE" "[I") (.int (12 : Int32))) (v := (1 : Int32)) (hf _ (by decide +kernel))
    | 13, _ => exact x_eqv (tm := Term.elem (Term.static "WasmReader" "ACCESS_TYPE" "[I") (.int (13 : Int32))) (v := (1 : Int32)) (hf _ (by decide +kernel))
    | 14, _ => exact x_eqv (tm := Term.elem (Term.static "WasmReader" "ACCESS_TYPE" "[I") (.int (14 : Int32))) (v := (0 : Int32)) (hf _ (by decide +kernel))
    | 15, _ => exact x_eqv (tm := Term.elem (Term.static "WasmReader" "ACCESS_TYPE" "[I") (.int (15 : Int32))) (v := (1 : Int32)) (hf _ (by decide +kernel))
    | 16, _ => exact x_eqv (tm := Term.elem (Term.static "WasmReader" "ACCESS_TYPE" "[I") (.int (16 : Int32))) (v := (-1 : Int32)) (hf _ (by decide +kernel))
    | 17, _ => exact x_eqv (tm := Term.elem (Term.static "WasmReader" "ACCESS_TYPE" "[I") (.int (17 : Int32))) (v := (-1 : Int32)) (hf _ (by decide +kernel))
    | 18, _ => exact x_eqv (tm := Term.elem (Term.static "WasmReader" "ACCESS_TYPE" "[I") (.int (18 : Int32))) (v := (0 : Int32)) (hf _ (by decide +kernel))
    | 19, _ => exact x_eqv (tm := Term.elem (Term.static "WasmReader" "ACCESS_TYPE" "[I") (.int (19 : Int32))) (v := (0 : Int32)) (hf _ (by decide +kernel))
    | 20, _ => exact x_eqv (tm := Term.elem (Term.static "WasmReader" "ACCESS_TYPE" "[I") (.int (20 : Int32))) (v := (1 : Int32)) (hf _ (by decide +kernel))
    | 21, _ => exact x_eqv (tm := Term.elem (Term.static "WasmReader" "ACCESS_TYPE" "[I") (.int (21 : Int32))) (v := (1 : Int32)) (hf _ (by decide +kernel))
    | 22, _ => exact x_eqv (tm := Term.elem (Term.static "WasmReader" "ACCESS_TYPE" "[I") (.int (22 : Int32))) (v := (1 : Int32)) (hf _ (by decide +kernel))
    | j + 23, h => exact absurd h (by omega)
  obtain ⟨t, ht, hT⟩ := va_Tof (tm := (Term.static "WasmReader" "ACCESS_TYPE" "[I")) (ty := .int) (N := 23) (by decide) (hf _ (by decide +kernel)) (x_eqv (v := (23 : Int32)) (hf _ (by decide +kernel))) hel hA
  exact ⟨t, _, va_Zref hl hini ht hA, hT⟩
set_option maxHeartbeats 8000000 in
set_option maxRecDepth 100000 in
theorem x_tab_NUMERIC {args : Array Value} {s : State} {A : Nat → Prop} (hf : ∀ c ∈ flatC (Jvm.Cond.and given_1 narrow_1), c.before args s = true) (hl : (Cond.laysStatic "WasmReader" "NUMERIC" "[I").before args s = true) (hini : (Cond.initialized "WasmReader").before args s = true) (hA : ∀ a : Nat, a < s.heap.size → ¬ A a) : xT "NUMERIC" 50 A s s.heap := by
  have hel : ∀ j : Nat, j < 50 → (Term.elem (Term.static "WasmReader" "NUMERIC" "[I") (.int (Int32.ofNat j))).eval args s none [] s = some ((fun j => .int (([69, 69, 1, 0, 0, 70, 79, 2, 0, 0, 80, 80, 1, 1, 0, 81, 90, 2, 1, 0, 103, 105, 1, 0, 0, 106, 120, 2, 0, 0, 121, 123, 1, 1, 1, 124, 138, 2, 1, 1, 167, 167, 1, 1, 0, 172, 173, 1, 0, 1] : List Int32).getD j 0)) j) := by
    intro j hj
    match j, hj with
    | 0, _ => exact x_eqv (tm := Term.elem (Term.static "WasmReader" "NUMERIC" "[I") (.int (0 : Int32))) (v := (69 : Int32)) (hf _ (by decide +kernel))
    | 1, _ => exact x_eqv (tm := Term.elem (Term.static "WasmReader" "NUMERIC" "[I") (.int (1 : Int32))) (v := (69 : Int32)) (hf _ (by decide +kernel))
    | 2, _ => exact x_eqv (tm := Term.elem (Term.static "WasmReader" "NUMERIC" "[I") (.int (2 : Int32))) (v := (1 : Int32)) (hf _ (by decide +kernel))
    | 3, _ => exact x_eqv (tm := Term.elem (Term.static "WasmReader" "NUMERIC" "[I") (.int (3 : Int32))) (v := (0 : Int32)) (hf _ (by decide +kernel))
    | 4, _ => exact x_eqv (tm := Term.elem (Term.static "WasmReader" "NUMERIC" "[I") (.int (4 : Int32))) (v := (0 : Int32)) (hf _ (by decide +kernel))
    | 5, _ => exact x_eqv (tm := Term.elem (Term.static "WasmReader" "NUMERIC" "[I") (.int (5 : Int32))) (v := (70 : Int32)) (hf _ (by decide +kernel))
    | 6, _ => exact x_eqv (tm := Term.elem (Term.static "WasmReader" "NUMERIC" "[I") (.int (6 : Int32))) (v := (79 : Int32)) (hf _ (by decide +kernel))
    | 7, _ => exact x_eqv (tm := Term.elem (Term.static "WasmReader" "NUMERIC" "[I") (.int (7 : Int32))) (v := (2 : Int32)) (hf _ (by decide +kernel))
    | 8, _ => exact x_eqv (tm := Term.elem (Term.static "WasmReader" "NUMERIC" "[I") (.int (8 : Int32))) (v := (0 : Int32)) (hf _ (by decide +kernel))
    | 9, _ => exact x_eqv (tm := Term.elem (Term.static "WasmReader" "NUMERIC" "[I") (.int (9 : Int32))) (v := (0 : Int32)) (hf _ (by decide +kernel))
    | 10, _ => exact x_eqv (tm := Term.elem (Term.static "WasmReader" "NUMERIC" "[I") (.int (10 : Int32))) (v := (80 : Int32)) (hf _ (by decide +kernel))
    | 11, _ => exact x_eqv (tm := Term.elem (Term.static "WasmReader" "NUMERIC" "[I") (.int (11 : Int32))) (v := (80 : Int32)) (hf _ (by decide +kernel))
    | 12, _ => exact x_eqv (tm := Term.elem (Term.static "WasmReader" "NUMERIC" "[I") (.int (12 : Int32))) (v := (1 : Int32)) (hf _ (by decide +kernel))
    | 13, _ => exact x_eqv (tm := Term.elem (Term.static "WasmReader" "NUMERIC" "[I") (.int (13 : Int32))) (v := (1 : Int32)) (hf _ (by decide +kernel))
    | 14, _ => exact x_eqv (tm := Term.elem (Term.static "WasmReader" "NUMERIC" "[I") (.int (14 : Int32))) (v := (0 : Int32)) (hf _ (by decide +kernel))
    | 15, _ => exact x_eqv (tm := Term.elem (Term.static "WasmReader" "NUMERIC" "[I") (.int (15 : Int32))) (v := (81 : Int32)) (hf _ (by decide +kernel))
    | 16, _ => exact x_eqv (tm := Term.elem (Term.static "WasmReader" "NUMERIC" "[I") (.int (16 : Int32))) (v := (90 : Int32)) (hf _ (by decide +kernel))
    | 17, _ => exact x_eqv (tm := Term.elem (Term.static "WasmReader" "NUMERIC" "[I") (.int (17 : Int32))) (v := (2 : Int32)) (hf _ (by decide +kernel))
    | 18, _ => exact x_eqv (tm := Term.elem (Term.static "WasmReader" "NUMERIC" "[I") (.int (18 : Int32))) (v := (1 : Int32)) (hf _ (by decide +kernel))
    | 19, _ => exact x_eqv (tm := Term.elem (Term.static "WasmReader" "NUMERIC" "[I") (.int (19 : Int32))) (v := (0 : Int32)) (hf _ (by decide +kernel))
    | 20, _ => exact x_eqv (tm := Term.elem (Term.static "WasmReader" "NUMERIC" "[I") (.int (20 : Int32))) (v := (103 : Int32)) (hf _ (by decide +kernel))
    | 21, _ => exact x_eqv (tm := Term.elem (Term.static "WasmReader" "NUMERIC" "[I") (.int (21 : Int32))) (v := (105 : Int32)) (hf _ (by decide +kernel))
    | 22, _ => exact x_eqv (tm := Term.elem (Term.static "WasmReader" "NUMERIC" "[I") (.int (22 : Int32))) (v := (1 : Int32)) (hf _ (by decide +kernel))
    | 23, _ => exact x_eqv (tm := Term.elem (Term.static "WasmReader" "NUMERIC" "[I") (.int (23 : Int32))) (v := (0 : Int32)) (hf _ (by decide +kernel))
    | 24, _ => exact x_eqv (tm := Term.elem (Term.static "WasmReader" "NUMERIC" "[I") (.int (24 : Int32))) (v := (0 : Int32)) (hf _ (by decide +kernel))
    | 25, _ => exact x_eqv (tm := Term.elem (Term.static "WasmReader" "NUMERIC" "[I") (.int (25 : Int32))) (v := (106 : Int32)) (hf _ (by decide +kernel))
    | 26, _ => exact x_eqv (tm := Term.elem (Term.static "WasmReader" "NUMERIC" "[I") (.int (26 : Int32))) (v := (120 : Int32)) (hf _ (by decide +kernel))
    | 27, _ => exact x_eqv (tm := Term.elem (Term.static "WasmReader" "NUMERIC" "[I") (.int (27 : Int32))) (v := (2 : Int32)) (hf _ (by decide +kernel))
    | 28, _ => exact x_eqv (tm := Term.elem (Term.static "WasmReader" "NUMERIC" "[I") (.int (28 : Int32))) (v := (0 : Int32)) (hf _ (by decide +kernel))
    | 29, _ => exact x_eqv (tm := Term.elem (Term.static "WasmReader" "NUMERIC" "[I") (.int (29 : Int32))) (v := (0 : Int32)) (hf _ (by decide +kernel))
    | 30, _ => exact x_eqv (tm := Term.elem (Term.static "WasmReader" "NUMERIC" "[I") (.int (30 : Int32))) (v := (121 : Int32)) (hf _ (by decide +kernel))
    | 31, _ => exact x_eqv (tm := Term.elem (Term.static "WasmReader" "NUMERIC" "[I") (.int (31 : Int32))) (v := (123 : Int32)) (hf _ (by decide +kernel))
    | 32, _ => exact x_eqv (tm := Term.elem (Term.static "WasmReader" "NUMERIC" "[I") (.int (32 : Int32))) (v := (1 : Int32)) (hf _ (by decide +kernel))
    | 33, _ => exact x_eqv (tm := Term.elem (Term.static "WasmReader" "NUMERIC" "[I") (.int (33 : Int32))) (v := (1 : Int32)) (hf _ (by decide +kernel))
    | 34, _ => exact x_eqv (tm := Term.elem (Term.static "WasmReader" "NUMERIC" "[I") (.int (34 : Int32))) (v := (1 : Int32)) (hf _ (by decide +kernel))
    | 35, _ => exact x_eqv (tm := Term.elem (Term.static "WasmReader" "NUMERIC" "[I") (.int (35 : Int32))) (v := (124 : Int32)) (hf _ (by decide +kernel))
    | 36, _ => exact x_eqv (tm := Term.elem (Term.static "WasmReader" "NUMERIC" "[I") (.int (36 : Int32))) (v := (138 : Int32)) (hf _ (by decide +kernel))
    | 37, _ => exact x_eqv (tm := Term.elem (Term.static "WasmReader" "NUMERIC" "[I") (.int (37 : Int32))) (v := (2 : Int32)) (hf _ (by decide +kernel))
    | 38, _ => exact x_eqv (tm := Term.elem (Term.static "WasmReader" "NUMERIC" "[I") (.int (38 : Int32))) (v := (1 : Int32)) (hf _ (by decide +kernel))
    | 39, _ => exact x_eqv (tm := Term.elem (Term.static "WasmReader" "NUMERIC" "[I") (.int (39 : Int32))) (v := (1 : Int32)) (hf _ (by decide +kernel))
    | 40, _ => exact x_eqv (tm := Term.elem (Term.static "WasmReader" "NUMERIC" "[I") (.int (40 : Int32))) (v := (167 : Int32)) (hf _ (by decide +kernel))
    | 41, _ => exact x_eqv (tm := Term.elem (Term.static "WasmReader" "NUMERIC" "[I") (.int (41 : Int32))) (v := (167 : Int32)) (hf _ (by decide +kernel))
    | 42, _ => exact x_eqv (tm := Term.elem (Term.static "WasmReader" "NUMERIC" "[I") (.int (42 : Int32))) (v := (1 : Int32)) (hf _ (by decide +kernel))
    | 43, _ => exact x_eqv (tm := Term.elem (Term.static "WasmReader" "NUMERIC" "[I") (.int (43 : Int32))) (v := (1 : Int32)) (hf _ (by decide +kernel))
    | 44, _ => exact x_eqv (tm := Term.elem (Term.static "WasmReader" "NUMERIC" "[I") (.int (44 : Int32))) (v := (0 : Int32)) (hf _ (by decide +kernel))
    | 45, _ => exact x_eqv (tm := Term.elem (Term.static "WasmReader" "NUMERIC" "[I") (.int (45 : Int32))) (v := (172 : Int32)) (hf _ (by decide +kernel))
    | 46, _ => exact x_eqv (tm := Term.elem (Term.static "WasmReader" "NUMERIC" "[I") (.int (46 : Int32))) (v := (173 : Int32)) (hf _ (by decide +kernel))
    | 47, _ => exact x_eqv (tm := Term.elem (Term.static "WasmReader" "NUMERIC" "[I") (.int (47 : Int32))) (v := (1 : Int32)) (hf _ (by decide +kernel))
    | 48, _ => exact x_eqv (tm := Term.elem (Term.static "WasmReader" "NUMERIC" "[I") (.int (48 : Int32))) (v := (0 : Int32)) (hf _ (by decide +kernel))
    | 49, _ => exact x_eqv (tm := Term.elem (Term.static "WasmReader" "NUMERIC" "[I") (.int (49 : Int32))) (v := (1 : Int32)) (hf _ (by decide +kernel))
    | j + 50, h => exact absurd h (by omega)
  obtain ⟨t, ht, hT⟩ := va_Tof (tm := (Term.static "WasmReader" "NUMERIC" "[I")) (ty := .int) (N := 50) (by decide) (hf _ (by decide +kernel)) (x_eqv (v := (50 : Int32)) (hf _ (by decide +kernel))) hel hA
  exact ⟨t, _, va_Zref hl hini ht hA, hT⟩
theorem x_FOK0 : FOK (fun _ => 0) := fun j hj => ⟨0, by omega, rfl⟩
theorem x_BOK0 {N B : Nat} : BOK N B (fun _ => 0) := fun j hj => ⟨0, by omega, rfl⟩
theorem x_OOK0 : OOK (fun _ => 0) := fun j hj => Or.inr ⟨0, by omega, rfl⟩
theorem x_EOK0 : EOK (fun _ => 0) (fun _ => 0) := fun j hj => ⟨0, 0, by omega, rfl, rfl⟩
theorem x_VOK0 {N : Nat} : VOK N (fun _ => 0) (fun _ => 0) := fun j hj h => absurd (show (0 : Int32) = 35 from h) (by decide)
theorem x_RB0 : RB (fun _ => 0) := fun k => (by decide : fits .byte (.int 0) = true)
