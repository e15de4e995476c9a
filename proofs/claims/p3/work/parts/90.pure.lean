set_option maxHeartbeats 4000000 in
set_option maxRecDepth 100000 in
theorem c_Functions_hasP (l : Launch) (D : va_G) (cB cI cJ cZ : ClassId) (sz : Nat) (h0 : Nat) (cn : Nat) (im : Nat) (bd : Int32) (f0 : Nat) (f1 : Nat) (f2 : Nat) (f3 : Nat) (f4 : Nat) (f5 : Nat) (f6 : Nat) (x : Nat) (hc : cn ≤ 20000000) (hx : x < 2 ^ 31) : Met l y_Functions_has (Cond.code y_Functions_has prog_4_method_3_code 2 (some .boolean) :: xtb) ({ frames := 0, cells := 0, slots := 0, locals := 0 }) (xP D [(cB, .byte), (cI, .int), (cJ, .long), (cZ, .boolean)] [.ref h0, .int (nI x)] [(h0, .inr (4, [.int (nI cn), .int (nI im), .int bd, .ref f0, .ref f1, .ref f2, .ref f3, .ref f4, .ref f5, .ref f6]))] sz) (xQp (fun r => (r = 0) ∨ (r = 1 ∧ (x < cn) ∧ (x < 60)))) 0 0 (fun _ => False) := by
  refine x_met (Qc := fun _ => xQp (fun r => (r = 0) ∨ (r = 1 ∧ (x < cn) ∧ (x < 60)))) (fr := fun _ => fun _ => False) "WasmReader$Functions" (by decide +kernel) rfl (Nat.le_of_ble_eq_true rfl) (fun s h => rfl) (fun s h => rfl) ?_
  intro p e s m below meth c ls E hr hlocks hinit hl hP hD hA hS hZ hadm
  replace hl : lv_has ls 2 [(0, .ref h0), (1, .int (nI x))] := hl
  refine lv_iload_n E.1 E.2.1 d_Functions_has_0 rfl (lv_at hl 1 rfl) ?_
  refine lv_if_lt (tgt := 22) E.1 E.2.1 d_Functions_has_1 (by decide) (fun hc => absurd hc (nI_pos (n := x) (by omega))) (fun _ => ?_)
  refine lv_iload_n E.1 E.2.1 d_Functions_has_4 rfl (lv_at hl 1 rfl) ?_
  refine lv_aload_n E.1 E.2.1 d_Functions_has_5 rfl (lv_at hl 0 rfl) ?_
  refine x_get E hP (C := "WasmReader$Functions") (T := T_Functions) (N := 10) (ci := 4) 0 (v := .int (nI cn)) 0 in_Functions rfl rfl (by decide) m_250 rfl d_Functions_has_6 ?_
  refine lv_icmp_ge (tgt := 22) E.1 E.2.1 d_Functions_has_9 (by decide) (fun hc_6 => ?_) (fun hc_6 => ?_)
  ·
    have hc_6 : cn ≤ x := (nI_leI (a := cn) (b := x) (by omega) (by omega)).mp hc_6
    refine lv_iconst (v := 0) E.1 E.2.1 d_Functions_has_22 (by decide) ?_
    exact x_pret E.1 E.2.1 hr (by decide) hlocks (Or.inl rfl) d_Functions_has_23
  ·
    have hc_6 : ¬ (cn ≤ x) := fun hq_ => hc_6 ((nI_leI (a := cn) (b := x) (by omega) (by omega)).mpr hq_)
    refine lv_iload_n E.1 E.2.1 d_Functions_has_12 rfl (lv_at hl 1 rfl) ?_
    refine lv_bipush (v := 60) E.1 E.2.1 d_Functions_has_13 (by decide) ?_
    refine lv_icmp_ge (tgt := 22) E.1 E.2.1 d_Functions_has_15 (by decide) (fun hc_7 => ?_) (fun hc_7 => ?_)
    ·
      have hc_7 : 60 ≤ x := (nI_leI (a := 60) (b := x) (by omega) (by omega)).mp hc_7
      refine lv_iconst (v := 0) E.1 E.2.1 d_Functions_has_22 (by decide) ?_
      exact x_pret E.1 E.2.1 hr (by decide) hlocks (Or.inl rfl) d_Functions_has_23
    ·
      have hc_7 : ¬ (60 ≤ x) := fun hq_ => hc_7 ((nI_leI (a := 60) (b := x) (by omega) (by omega)).mpr hq_)
      refine lv_iconst (v := 1) E.1 E.2.1 d_Functions_has_18 (by decide) ?_
      refine lv_goto (tgt := 23) E.1 E.2.1 d_Functions_has_19 (by decide) ?_
      exact x_pret E.1 E.2.1 hr (by decide) hlocks (Or.inr ⟨rfl, (by omega), (by omega)⟩) d_Functions_has_23
set_option maxHeartbeats 4000000 in
set_option maxRecDepth 100000 in
theorem c_Functions_hasPr (l : Launch) (D : va_G) (cB cI cJ cZ : ClassId) (sz : Nat) (h0 : Nat) (cn : Nat) (im : Nat) (bd : Int32) (f0 : Nat) (f1 : Nat) (f2 : Nat) (f3 : Nat) (f4 : Nat) (f5 : Nat) (f6 : Nat) (t1 : Int32) (hc : cn ≤ 20000000) : Met l y_Functions_has (Cond.code y_Functions_has prog_4_method_3_code 2 (some .boolean) :: xtb) ({ frames := 0, cells := 0, slots := 0, locals := 0 }) (xP D [(cB, .byte), (cI, .int), (cJ, .long), (cZ, .boolean)] [.ref h0, .int t1] [(h0, .inr (4, [.int (nI cn), .int (nI im), .int bd, .ref f0, .ref f1, .ref f2, .ref f3, .ref f4, .ref f5, .ref f6]))] sz) (xQp (fun r => (r = 0) ∨ (∃ (x : Nat), r = 1 ∧ (t1 = nI x) ∧ (x < cn) ∧ (x < 60)))) 0 0 (fun _ => False) := by
  refine x_met (Qc := fun _ => xQp (fun r => (r = 0) ∨ (∃ (x : Nat), r = 1 ∧ (t1 = nI x) ∧ (x < cn) ∧ (x < 60)))) (fr := fun _ => fun _ => False) "WasmReader$Functions" (by decide +kernel) rfl (Nat.le_of_ble_eq_true rfl) (fun s h => rfl) (fun s h => rfl) ?_
  intro p e s m below meth c ls E hr hlocks hinit hl hP hD hA hS hZ hadm
  replace hl : lv_has ls 2 [(0, .ref h0), (1, .int t1)] := hl
  refine lv_iload_n E.1 E.2.1 d_Functions_has_0 rfl (lv_at hl 1 rfl) ?_
  refine lv_if_lt (tgt := 22) E.1 E.2.1 d_Functions_has_1 (by decide) (fun hc_8 => ?_) (fun hc_8 => ?_)
  ·
    refine lv_iconst (v := 0) E.1 E.2.1 d_Functions_has_22 (by decide) ?_
    exact x_pret E.1 E.2.1 hr (by decide) hlocks (Or.inl rfl) d_Functions_has_23
  ·
    obtain ⟨jv, hjv, ejv⟩ := nI_of hc_8
    replace hl : lv_has ls 2 [(0, .ref h0), (1, .int (nI jv))] := by rw [← ejv]; exact hl
    refine lv_iload_n E.1 E.2.1 d_Functions_has_4 rfl (lv_at hl 1 rfl) ?_
    refine lv_aload_n E.1 E.2.1 d_Functions_has_5 rfl (lv_at hl 0 rfl) ?_
    refine x_get E hP (C := "WasmReader$Functions") (T := T_Functions) (N := 10) (ci := 4) 0 (v := .int (nI cn)) 0 in_Functions rfl rfl (by decide) m_250 rfl d_Functions_has_6 ?_
    refine lv_icmp_ge (tgt := 22) E.1 E.2.1 d_Functions_has_9 (by decide) (fun hc_9 => ?_) (fun hc_9 => ?_)
    ·
      have hc_9 : cn ≤ jv := (nI_leI (a := cn) (b := jv) (by omega) (by omega)).mp hc_9
      refine lv_iconst (v := 0) E.1 E.2.1 d_Functions_has_22 (by decide) ?_
      exact x_pret E.1 E.2.1 hr (by decide) hlocks (Or.inl rfl) d_Functions_has_23
    ·
      have hc_9 : ¬ (cn ≤ jv) := fun hq_ => hc_9 ((nI_leI (a := cn) (b := jv) (by omega) (by omega)).mpr hq_)
      refine lv_iload_n E.1 E.2.1 d_Functions_has_12 rfl (lv_at hl 1 rfl) ?_
      refine lv_bipush (v := 60) E.1 E.2.1 d_Functions_has_13 (by decide) ?_
      refine lv_icmp_ge (tgt := 22) E.1 E.2.1 d_Functions_has_15 (by decide) (fun hc_10 => ?_) (fun hc_10 => ?_)
      ·
        have hc_10 : 60 ≤ jv := (nI_leI (a := 60) (b := jv) (by omega) (by omega)).mp hc_10
        refine lv_iconst (v := 0) E.1 E.2.1 d_Functions_has_22 (by decide) ?_
        exact x_pret E.1 E.2.1 hr (by decide) hlocks (Or.inl rfl) d_Functions_has_23
      ·
        have hc_10 : ¬ (60 ≤ jv) := fun hq_ => hc_10 ((nI_leI (a := 60) (b := jv) (by omega) (by omega)).mpr hq_)
        refine lv_iconst (v := 1) E.1 E.2.1 d_Functions_has_18 (by decide) ?_
        refine lv_goto (tgt := 23) E.1 E.2.1 d_Functions_has_19 (by decide) ?_
        exact x_pret E.1 E.2.1 hr (by decide) hlocks (Or.inr ⟨jv, rfl, ejv, (by omega), (by omega)⟩) d_Functions_has_23
set_option maxHeartbeats 4000000 in
set_option maxRecDepth 100000 in
theorem c_Globals_hasP (l : Launch) (D : va_G) (cB cI cJ cZ : ClassId) (sz : Nat) (h0 : Nat) (cn : Nat) (im : Nat) (g0 : Nat) (g1 : Nat) (g2 : Nat) (g3 : Nat) (x : Nat) (hc : cn ≤ 20000000) (hx : x < 2 ^ 31) : Met l y_Globals_has (Cond.code y_Globals_has prog_5_method_4_code 2 (some .boolean) :: xtb) ({ frames := 0, cells := 0, slots := 0, locals := 0 }) (xP D [(cB, .byte), (cI, .int), (cJ, .long), (cZ, .boolean)] [.ref h0, .int (nI x)] [(h0, .inr (5, [.int (nI cn), .int (nI im), .ref g0, .ref g1, .ref g2, .ref g3]))] sz) (xQp (fun r => (r = 0) ∨ (r = 1 ∧ (x < cn) ∧ (x < 30)))) 0 0 (fun _ => False) := by
  refine x_met (Qc := fun _ => xQp (fun r => (r = 0) ∨ (r = 1 ∧ (x < cn) ∧ (x < 30)))) (fr := fun _ => fun _ => False) "WasmReader$Globals" (by decide +kernel) rfl (Nat.le_of_ble_eq_true rfl) (fun s h => rfl) (fun s h => rfl) ?_
  intro p e s m below meth c ls E hr hlocks hinit hl hP hD hA hS hZ hadm
  replace hl : lv_has ls 2 [(0, .ref h0), (1, .int (nI x))] := hl
  refine lv_iload_n E.1 E.2.1 d_Globals_has_0 rfl (lv_at hl 1 rfl) ?_
  refine lv_if_lt (tgt := 22) E.1 E.2.1 d_Globals_has_1 (by decide) (fun hc => absurd hc (nI_pos (n := x) (by omega))) (fun _ => ?_)
  refine lv_iload_n E.1 E.2.1 d_Globals_has_4 rfl (lv_at hl 1 rfl) ?_
  refine lv_aload_n E.1 E.2.1 d_Globals_has_5 rfl (lv_at hl 0 rfl) ?_
  refine x_get E hP (C := "WasmReader$Globals") (T := T_Globals) (N := 6) (ci := 5) 0 (v := .int (nI cn)) 0 in_Globals rfl rfl (by decide) m_266 rfl d_Globals_has_6 ?_
  refine lv_icmp_ge (tgt := 22) E.1 E.2.1 d_Globals_has_9 (by decide) (fun hc_6 => ?_) (fun hc_6 => ?_)
  ·
    have hc_6 : cn ≤ x := (nI_leI (a := cn) (b := x) (by omega) (by omega)).mp hc_6
    refine lv_iconst (v := 0) E.1 E.2.1 d_Globals_has_22 (by decide) ?_
    exact x_pret E.1 E.2.1 hr (by decide) hlocks (Or.inl rfl) d_Globals_has_23
  ·
    have hc_6 : ¬ (cn ≤ x) := fun hq_ => hc_6 ((nI_leI (a := cn) (b := x) (by omega) (by omega)).mpr hq_)
    refine lv_iload_n E.1 E.2.1 d_Globals_has_12 rfl (lv_at hl 1 rfl) ?_
    refine lv_bipush (v := 30) E.1 E.2.1 d_Globals_has_13 (by decide) ?_
    refine lv_icmp_ge (tgt := 22) E.1 E.2.1 d_Globals_has_15 (by decide) (fun hc_7 => ?_) (fun hc_7 => ?_)
    ·
      have hc_7 : 30 ≤ x := (nI_leI (a := 30) (b := x) (by omega) (by omega)).mp hc_7
      refine lv_iconst (v := 0) E.1 E.2.1 d_Globals_has_22 (by decide) ?_
      exact x_pret E.1 E.2.1 hr (by decide) hlocks (Or.inl rfl) d_Globals_has_23
    ·
      have hc_7 : ¬ (30 ≤ x) := fun hq_ => hc_7 ((nI_leI (a := 30) (b := x) (by omega) (by omega)).mpr hq_)
      refine lv_iconst (v := 1) E.1 E.2.1 d_Globals_has_18 (by decide) ?_
      refine lv_goto (tgt := 23) E.1 E.2.1 d_Globals_has_19 (by decide) ?_
      exact x_pret E.1 E.2.1 hr (by decide) hlocks (Or.inr ⟨rfl, (by omega), (by omega)⟩) d_Globals_has_23
set_option maxHeartbeats 4000000 in
set_option maxRecDepth 100000 in
theorem c_Globals_hasPr (l : Launch) (D : va_G) (cB cI cJ cZ : ClassId) (sz : Nat) (h0 : Nat) (cn : Nat) (im : Nat) (g0 : Nat) (g1 : Nat) (g2 : Nat) (g3 : Nat) (t1 : Int32) (hc : cn ≤ 20000000) : Met l y_Globals_has (Cond.code y_Globals_has prog_5_method_4_code 2 (some .boolean) :: xtb) ({ frames := 0, cells := 0, slots := 0, locals := 0 }) (xP D [(cB, .byte), (cI, .int), (cJ, .long), (cZ, .boolean)] [.ref h0, .int t1] [(h0, .inr (5, [.int (nI cn), .int (nI im), .ref g0, .ref g1, .ref g2, .ref g3]))] sz) (xQp (fun r => (r = 0) ∨ (∃ (x : Nat), r = 1 ∧ (t1 = nI x) ∧ (x < cn) ∧ (x < 30)))) 0 0 (fun _ => False) := by
  refine x_met (Qc := fun _ => xQp (fun r => (r = 0) ∨ (∃ (x : Nat), r = 1 ∧ (t1 = nI x) ∧ (x < cn) ∧ (x < 30)))) (fr := fun _ => fun _ => False) "WasmReader$Globals" (by decide +kernel) rfl (Nat.le_of_ble_eq_true rfl) (fun s h => rfl) (fun s h => rfl) ?_
  intro p e s m below meth c ls E hr hlocks hinit hl hP hD hA hS hZ hadm
  replace hl : lv_has ls 2 [(0, .ref h0), (1, .int t1)] := hl
  refine lv_iload_n E.1 E.2.1 d_Globals_has_0 rfl (lv_at hl 1 rfl) ?_
  refine lv_if_lt (tgt := 22) E.1 E.2.1 d_Globals_has_1 (by decide) (fun hc_8 => ?_) (fun hc_8 => ?_)
  ·
    refine lv_iconst (v := 0) E.1 E.2.1 d_Globals_has_22 (by decide) ?_
    exact x_pret E.1 E.2.1 hr (by decide) hlocks (Or.inl rfl) d_Globals_has_23
  ·
    obtain ⟨jv, hjv, ejv⟩ := nI_of hc_8
    replace hl : lv_has ls 2 [(0, .ref h0), (1, .int (nI jv))] := by rw [← ejv]; exact hl
    refine lv_iload_n E.1 E.2.1 d_Globals_has_4 rfl (lv_at hl 1 rfl) ?_
    refine lv_aload_n E.1 E.2.1 d_Globals_has_5 rfl (lv_at hl 0 rfl) ?_
    refine x_get E hP (C := "WasmReader$Globals") (T := T_Globals) (N := 6) (ci := 5) 0 (v := .int (nI cn)) 0 in_Globals rfl rfl (by decide) m_266 rfl d_Globals_has_6 ?_
    refine lv_icmp_ge (tgt := 22) E.1 E.2.1 d_Globals_has_9 (by decide) (fun hc_9 => ?_) (fun hc_9 => ?_)
    ·
      have hc_9 : cn ≤ jv := (nI_leI (a := cn) (b := jv) (by omega) (by omega)).mp hc_9
      refine lv_iconst (v := 0) E.1 E.2.1 d_Globals_has_22 (by decide) ?_
      exact x_pret E.1 E.2.1 hr (by decide) hlocks (Or.inl rfl) d_Globals_has_23
    ·
      have hc_9 : ¬ (cn ≤ jv) := fun hq_ => hc_9 ((nI_leI (a := cn) (b := jv) (by omega) (by omega)).mpr hq_)
      refine lv_iload_n E.1 E.2.1 d_Globals_has_12 rfl (lv_at hl 1 rfl) ?_
      refine lv_bipush (v := 30) E.1 E.2.1 d_Globals_has_13 (by decide) ?_
      refine lv_icmp_ge (tgt := 22) E.1 E.2.1 d_Globals_has_15 (by decide) (fun hc_10 => ?_) (fun hc_10 => ?_)
      ·
        have hc_10 : 30 ≤ jv := (nI_leI (a := 30) (b := jv) (by omega) (by omega)).mp hc_10
        refine lv_iconst (v := 0) E.1 E.2.1 d_Globals_has_22 (by decide) ?_
        exact x_pret E.1 E.2.1 hr (by decide) hlocks (Or.inl rfl) d_Globals_has_23
      ·
        have hc_10 : ¬ (30 ≤ jv) := fun hq_ => hc_10 ((nI_leI (a := 30) (b := jv) (by omega) (by omega)).mpr hq_)
        refine lv_iconst (v := 1) E.1 E.2.1 d_Globals_has_18 (by decide) ?_
        refine lv_goto (tgt := 23) E.1 E.2.1 d_Globals_has_19 (by decide) ?_
        exact x_pret E.1 E.2.1 hr (by decide) hlocks (Or.inr ⟨jv, rfl, ejv, (by omega), (by omega)⟩) d_Globals_has_23
set_option maxHeartbeats 4000000 in
set_option maxRecDepth 100000 in
theorem c_Exports_hasP (l : Launch) (D : va_G) (cB cI cJ cZ : ClassId) (sz : Nat) (h0 : Nat) (cn : Nat) (e0 : Nat) (e1 : Nat) (e2 : Nat) (e3 : Nat) (x : Nat) (hc : cn ≤ 20000000) (hx : x < 2 ^ 31) : Met l y_Exports_has (Cond.code y_Exports_has prog_3_method_4_code 2 (some .boolean) :: xtb) ({ frames := 0, cells := 0, slots := 0, locals := 0 }) (xP D [(cB, .byte), (cI, .int), (cJ, .long), (cZ, .boolean)] [.ref h0, .int (nI x)] [(h0, .inr (6, [.int (nI cn), .ref e0, .ref e1, .ref e2, .ref e3]))] sz) (xQp (fun r => (r = 0) ∨ (r = 1 ∧ (x < cn) ∧ (x < 40)))) 0 0 (fun _ => False) := by
  refine x_met (Qc := fun _ => xQp (fun r => (r = 0) ∨ (r = 1 ∧ (x < cn) ∧ (x < 40)))) (fr := fun _ => fun _ => False) "WasmReader$Exports" (by decide +kernel) rfl (Nat.le_of_ble_eq_true rfl) (fun s h => rfl) (fun s h => rfl) ?_
  intro p e s m below meth c ls E hr hlocks hinit hl hP hD hA hS hZ hadm
  replace hl : lv_has ls 2 [(0, .ref h0), (1, .int (nI x))] := hl
  refine lv_iload_n E.1 E.2.1 d_Exports_has_0 rfl (lv_at hl 1 rfl) ?_
  refine lv_if_lt (tgt := 22) E.1 E.2.1 d_Exports_has_1 (by decide) (fun hc => absurd hc (nI_pos (n := x) (by omega))) (fun _ => ?_)
  refine lv_iload_n E.1 E.2.1 d_Exports_has_4 rfl (lv_at hl 1 rfl) ?_
  refine lv_aload_n E.1 E.2.1 d_Exports_has_5 rfl (lv_at hl 0 rfl) ?_
  refine x_get E hP (C := "WasmReader$Exports") (T := T_Exports) (N := 5) (ci := 6) 0 (v := .int (nI cn)) 0 in_Exports rfl rfl (by decide) m_272 rfl d_Exports_has_6 ?_
  refine lv_icmp_ge (tgt := 22) E.1 E.2.1 d_Exports_has_9 (by decide) (fun hc_6 => ?_) (fun hc_6 => ?_)
  ·
    have hc_6 : cn ≤ x := (nI_leI (a := cn) (b := x) (by omega) (by omega)).mp hc_6
    refine lv_iconst (v := 0) E.1 E.2.1 d_Exports_has_22 (by decide) ?_
    exact x_pret E.1 E.2.1 hr (by decide) hlocks (Or.inl rfl) d_Exports_has_23
  ·
    have hc_6 : ¬ (cn ≤ x) := fun hq_ => hc_6 ((nI_leI (a := cn) (b := x) (by omega) (by omega)).mpr hq_)
    refine lv_iload_n E.1 E.2.1 d_Exports_has_12 rfl (lv_at hl 1 rfl) ?_
    refine lv_bipush (v := 40) E.1 E.2.1 d_Exports_has_13 (by decide) ?_
    refine lv_icmp_ge (tgt := 22) E.1 E.2.1 d_Exports_has_15 (by decide) (fun hc_7 => ?_) (fun hc_7 => ?_)
    ·
      have hc_7 : 40 ≤ x := (nI_leI (a := 40) (b := x) (by omega) (by omega)).mp hc_7
      refine lv_iconst (v := 0) E.1 E.2.1 d_Exports_has_22 (by decide) ?_
      exact x_pret E.1 E.2.1 hr (by decide) hlocks (Or.inl rfl) d_Exports_has_23
    ·
      have hc_7 : ¬ (40 ≤ x) := fun hq_ => hc_7 ((nI_leI (a := 40) (b := x) (by omega) (by omega)).mpr hq_)
      refine lv_iconst (v := 1) E.1 E.2.1 d_Exports_has_18 (by decide) ?_
      refine lv_goto (tgt := 23) E.1 E.2.1 d_Exports_has_19 (by decide) ?_
      exact x_pret E.1 E.2.1 hr (by decide) hlocks (Or.inr ⟨rfl, (by omega), (by omega)⟩) d_Exports_has_23
set_option maxHeartbeats 4000000 in
set_option maxRecDepth 100000 in
theorem c_Exports_hasPr (l : Launch) (D : va_G) (cB cI cJ cZ : ClassId) (sz : Nat) (h0 : Nat) (cn : Nat) (e0 : Nat) (e1 : Nat) (e2 : Nat) (e3 : Nat) (t1 : Int32) (hc : cn ≤ 20000000) : Met l y_Exports_has (Cond.code y_Exports_has prog_3_method_4_code 2 (some .boolean) :: xtb) ({ frames := 0, cells := 0, slots := 0, locals := 0 }) (xP D [(cB, .byte), (cI, .int), (cJ, .long), (cZ, .boolean)] [.ref h0, .int t1] [(h0, .inr (6, [.int (nI cn), .ref e0, .ref e1, .ref e2, .ref e3]))] sz) (xQp (fun r => (r = 0) ∨ (∃ (x : Nat), r = 1 ∧ (t1 = nI x) ∧ (x < cn) ∧ (x < 40)))) 0 0 (fun _ => False) := by
  refine x_met (Qc := fun _ => xQp (fun r => (r = 0) ∨ (∃ (x : Nat), r = 1 ∧ (t1 = nI x) ∧ (x < cn) ∧ (x < 40)))) (fr := fun _ => fun _ => False) "WasmReader$Exports" (by decide +kernel) rfl (Nat.le_of_ble_eq_true rfl) (fun s h => rfl) (fun s h => rfl) ?_
  intro p e s m below meth c ls E hr hlocks hinit hl hP hD hA hS hZ hadm
  replace hl : lv_has ls 2 [(0, .ref h0), (1, .int t1)] := hl
  refine lv_iload_n E.1 E.2.1 d_Exports_has_0 rfl (lv_at hl 1 rfl) ?_
  refine lv_if_lt (tgt := 22) E.1 E.2.1 d_Exports_has_1 (by decide) (fun hc_8 => ?_) (fun hc_8 => ?_)
  ·
    refine lv_iconst (v := 0) E.1 E.2.1 d_Exports_has_22 (by decide) ?_
    exact x_pret E.1 E.2.1 hr (by decide) hlocks (Or.inl rfl) d_Exports_has_23
  ·
    obtain ⟨jv, hjv, ejv⟩ := nI_of hc_8
    replace hl : lv_has ls 2 [(0, .ref h0), (1, .int (nI jv))] := by rw [← ejv]; exact hl
    refine lv_iload_n E.1 E.2.1 d_Exports_has_4 rfl (lv_at hl 1 rfl) ?_
    refine lv_aload_n E.1 E.2.1 d_Exports_has_5 rfl (lv_at hl 0 rfl) ?_
    refine x_get E hP (C := "WasmReader$Exports") (T := T_Exports) (N := 5) (ci := 6) 0 (v := .int (nI cn)) 0 in_Exports rfl rfl (by decide) m_272 rfl d_Exports_has_6 ?_
    refine lv_icmp_ge (tgt := 22) E.1 E.2.1 d_Exports_has_9 (by decide) (fun hc_9 => ?_) (fun hc_9 => ?_)
    ·
      have hc_9 : cn ≤ jv := (nI_leI (a := cn) (b := jv) (by omega) (by omega)).mp hc_9
      refine lv_iconst (v := 0) E.1 E.2.1 d_Exports_has_22 (by decide) ?_
      exact x_pret E.1 E.2.1 hr (by decide) hlocks (Or.inl rfl) d_Exports_has_23
    ·
      have hc_9 : ¬ (cn ≤ jv) := fun hq_ => hc_9 ((nI_leI (a := cn) (b := jv) (by omega) (by omega)).mpr hq_)
      refine lv_iload_n E.1 E.2.1 d_Exports_has_12 rfl (lv_at hl 1 rfl) ?_
      refine lv_bipush (v := 40) E.1 E.2.1 d_Exports_has_13 (by decide) ?_
      refine lv_icmp_ge (tgt := 22) E.1 E.2.1 d_Exports_has_15 (by decide) (fun hc_10 => ?_) (fun hc_10 => ?_)
      ·
        have hc_10 : 40 ≤ jv := (nI_leI (a := 40) (b := jv) (by omega) (by omega)).mp hc_10
        refine lv_iconst (v := 0) E.1 E.2.1 d_Exports_has_22 (by decide) ?_
        exact x_pret E.1 E.2.1 hr (by decide) hlocks (Or.inl rfl) d_Exports_has_23
      ·
        have hc_10 : ¬ (40 ≤ jv) := fun hq_ => hc_10 ((nI_leI (a := 40) (b := jv) (by omega) (by omega)).mpr hq_)
        refine lv_iconst (v := 1) E.1 E.2.1 d_Exports_has_18 (by decide) ?_
        refine lv_goto (tgt := 23) E.1 E.2.1 d_Exports_has_19 (by decide) ?_
        exact x_pret E.1 E.2.1 hr (by decide) hlocks (Or.inr ⟨jv, rfl, ejv, (by omega), (by omega)⟩) d_Exports_has_23
set_option maxHeartbeats 4000000 in
set_option maxRecDepth 100000 in
theorem c_Functions_hasLocalP (l : Launch) (D : va_G) (cB cI cJ cZ : ClassId) (sz : Nat) (h0 : Nat) (cn : Nat) (im : Nat) (bd : Int32) (f0 : Nat) (f1 : Nat) (f2 : Nat) (f3 : Nat) (f4 : Nat) (f5 : Nat) (f6 : Nat) (vf0 : Nat → Int32) (vf1 : Nat → Int32) (vf2 : Nat → Int32) (vf3 : Nat → Int32) (vf4 : Nat → Int32) (vf5 : Nat → Int32) (vf6 : Nat → Int32) (x : Nat) (kk : Int32) (hc : cn ≤ 20000000) (hx : x < 2 ^ 31) : Met l y_Functions_hasLocal (Cond.code y_Functions_hasLocal prog_4_method_6_code 3 (some .boolean) :: xtb) ({ frames := 1, cells := 0, slots := 0, locals := 21 }) (xP D [(cB, .byte), (cI, .int), (cJ, .long), (cZ, .boolean)] [.ref h0, .int (nI x), .int kk] [(h0, .inr (4, [.int (nI cn), .int (nI im), .int bd, .ref f0, .ref f1, .ref f2, .ref f3, .ref f4, .ref f5, .ref f6])), (f0, .inl (cI, 60, .inl vf0)), (f1, .inl (cI, 60, .inl vf1)), (f2, .inl (cI, 60, .inl vf2)), (f3, .inl (cI, 60, .inl vf3)), (f4, .inl (cI, 60, .inl vf4)), (f5, .inl (cI, 60, .inl vf5)), (f6, .inl (cI, 60, .inl vf6))] sz) (xQp (fun r => (r = 0) ∨ (r = 1 ∧ (x < cn) ∧ (x < 60)))) 0 0 (fun _ => False) := by
  refine x_met (Qc := fun _ => xQp (fun r => (r = 0) ∨ (r = 1 ∧ (x < cn) ∧ (x < 60)))) (fr := fun _ => fun _ => False) "WasmReader$Functions" (by decide +kernel) rfl (Nat.le_of_ble_eq_true rfl) (fun s h => rfl) (fun s h => rfl) ?_
  intro p e s m below meth c ls E hr hlocks hinit hl hP hD hA hS hZ hadm
  replace hl : lv_has ls 3 [(0, .ref h0), (1, .int (nI x)), (2, .int kk)] := hl
  refine lv_aload_n E.1 E.2.1 d_Functions_hasLocal_0 rfl (lv_at hl 0 rfl) ?_
  refine lv_iload_n E.1 E.2.1 d_Functions_hasLocal_1 rfl (lv_at hl 1 rfl) ?_
  have hPc := hP.sub (ws' := [(h0, .inr (4, [.int (nI cn), .int (nI im), .int bd, .ref f0, .ref f1, .ref f2, .ref f3, .ref f4, .ref f5, .ref f6]))]) [0] rfl
  have hDc := hD.sub (ws' := [(h0, .inr (4, [.int (nI cn), .int (nI im), .int bd, .ref f0, .ref f1, .ref f2, .ref f3, .ref f4, .ref f5, .ref f6]))]) [0] (by decide) rfl
  have hFc := va_free (wc := [(h0, .inr (4, [.int (nI cn), .int (nI im), .int bd, .ref f0, .ref f1, .ref f2, .ref f3, .ref f4, .ref f5, .ref f6]))]) hD hS hA [0] rfl
  refine x_pure (x_V (As := [.int (nI x)]) (C := "WasmReader$Functions") E (c_Functions_hasP l D cB cI cJ cZ s.heap.size h0 cn im bd f0 f1 f2 f3 f4 f5 f6 x (by first | assumption | omega) (by first | assumption | omega)) m_259 m_59 m_258 m_260 m_261 nm_Functions_has hPc hDc hZ hS hFc rfl rfl rfl hl.1 rfl (Nat.le_of_ble_eq_true rfl) d_Functions_hasLocal_2 rfl rfl (by decide) (by decide) (by decide) (by decide)) (fun r hw => ?_)
  clear hPc hDc hFc
  rcases hw with rfl | ⟨rfl, hb_27, hb_28⟩
  ·
    show W p l e _ s m _ below meth c s.heap [] _ _ _ (F0 m 5 ls [.int 0])
    refine lv_if_eq (tgt := 33) E.1 E.2.1 d_Functions_hasLocal_5 (by decide) (fun _ => ?_) (fun hc => absurd (by decide) hc)
    refine lv_iconst (v := 0) E.1 E.2.1 d_Functions_hasLocal_33 (by decide) ?_
    exact x_pret E.1 E.2.1 hr (by decide) hlocks (Or.inl rfl) d_Functions_hasLocal_34
  ·
    show W p l e _ s m _ below meth c s.heap [] _ _ _ (F0 m 5 ls [.int 1])
    refine lv_if_eq (tgt := 33) E.1 E.2.1 d_Functions_hasLocal_5 (by decide) (fun hc => absurd hc (by decide)) (fun _ => ?_)
    refine lv_iload_n E.1 E.2.1 d_Functions_hasLocal_8 rfl (lv_at hl 2 rfl) ?_
    refine lv_if_lt (tgt := 33) E.1 E.2.1 d_Functions_hasLocal_9 (by decide) (fun hc_29 => ?_) (fun hc_29 => ?_)
    ·
      refine lv_iconst (v := 0) E.1 E.2.1 d_Functions_hasLocal_33 (by decide) ?_
      exact x_pret E.1 E.2.1 hr (by decide) hlocks (Or.inl rfl) d_Functions_hasLocal_34
    ·
      refine lv_iload_n E.1 E.2.1 d_Functions_hasLocal_12 rfl (lv_at hl 2 rfl) ?_
      refine lv_aload_n E.1 E.2.1 d_Functions_hasLocal_13 rfl (lv_at hl 0 rfl) ?_
      refine x_get E hP (C := "WasmReader$Functions") (T := T_Functions) (N := 10) (ci := 4) 0 (v := .ref f1) 4 in_Functions rfl rfl (by decide) m_11 rfl d_Functions_hasLocal_14 ?_
      refine lv_iload_n E.1 E.2.1 d_Functions_hasLocal_17 rfl (lv_at hl 1 rfl) ?_
      refine va_iald E.1 E.2.1 E.2.2.2.2.2 hP 2 1 rfl rfl (i := nI x) (vp_in_nI (n := x) (by omega) (by decide)) d_Functions_hasLocal_18 ?_
      refine lv_topi (fun v_30 ev_30 => ?_)
      refine lv_aload_n E.1 E.2.1 d_Functions_hasLocal_19 rfl (lv_at hl 0 rfl) ?_
      refine x_get E hP (C := "WasmReader$Functions") (T := T_Functions) (N := 10) (ci := 4) 0 (v := .ref f3) 6 in_Functions rfl rfl (by decide) m_13 rfl d_Functions_hasLocal_20 ?_
      refine lv_iload_n E.1 E.2.1 d_Functions_hasLocal_23 rfl (lv_at hl 1 rfl) ?_
      refine va_iald E.1 E.2.1 E.2.2.2.2.2 hP 4 1 rfl rfl (i := nI x) (vp_in_nI (n := x) (by omega) (by decide)) d_Functions_hasLocal_24 ?_
      refine lv_topi (fun v_31 ev_31 => ?_)
      refine lv_iadd E.1 E.2.1 d_Functions_hasLocal_25 ?_
      refine lv_topi (fun v_32 ev_32 => ?_)
      refine lv_icmp_ge (tgt := 33) E.1 E.2.1 d_Functions_hasLocal_26 (by decide) (fun hc_33 => ?_) (fun hc_33 => ?_)
      ·
        refine lv_iconst (v := 0) E.1 E.2.1 d_Functions_hasLocal_33 (by decide) ?_
        exact x_pret E.1 E.2.1 hr (by decide) hlocks (Or.inl rfl) d_Functions_hasLocal_34
      ·
        refine lv_iconst (v := 1) E.1 E.2.1 d_Functions_hasLocal_29 (by decide) ?_
        refine lv_goto (tgt := 34) E.1 E.2.1 d_Functions_hasLocal_30 (by decide) ?_
        exact x_pret E.1 E.2.1 hr (by decide) hlocks (Or.inr ⟨rfl, (by omega), (by omega)⟩) d_Functions_hasLocal_34
