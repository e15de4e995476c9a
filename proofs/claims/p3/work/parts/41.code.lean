set_option maxHeartbeats 4000000 in
set_option maxRecDepth 100000 in
theorem c_Reader_isAccess (l : Launch) (D : va_G) (cB cI cJ cZ : ClassId) (sz : Nat) (x : Int32)  : Met l y_Reader_isAccess (Cond.code y_Reader_isAccess prog_1_method_11_code 2 (some .boolean) :: xtb) ({ frames := 0, cells := 0, slots := 0, locals := 0 }) (xP D [(cB, .byte), (cI, .int), (cJ, .long), (cZ, .boolean)] [.int x] [] sz) (xQi D [(cB, .byte), (cI, .int), (cJ, .long), (cZ, .boolean)] [] sz (fun r u => ((r = 0) ∨ (∃ (k : Nat), r = 1 ∧ (x - 40 = nI k) ∧ (k < 23))) ∧ u = [])) 0 0 (va_A [] sz) := by
  refine x_met (Qc := fun s => xQi D [(cB, .byte), (cI, .int), (cJ, .long), (cZ, .boolean)] [] s.heap.size (fun r u => ((r = 0) ∨ (∃ (k : Nat), r = 1 ∧ (x - 40 = nI k) ∧ (k < 23))) ∧ u = [])) (fr := fun s => va_A [] s.heap.size) "WasmReader" (by decide +kernel) rfl (Nat.le_of_ble_eq_true rfl) (fun s h => by rw [h]) (fun s h => by rw [h]) ?_
  intro p e s m below meth c ls E hr hlocks hinit hl hP hD hA hS hZ hadm
  have hl : lv_has ls 2 [(0, .int x)] := hl
  refine lv_iload_n E.1 E.2.1 d_Reader_isAccess_0 rfl (lv_at hl 0 rfl) ?_
  refine lv_bipush (v := 40) E.1 E.2.1 d_Reader_isAccess_1 (by decide) ?_
  refine lv_isub E.1 E.2.1 d_Reader_isAccess_3 ?_
  refine lv_topi (fun v_1 ev_1 => ?_)
  refine lv_istore_n (lv' := [(1, .int v_1), (0, .int x)]) E.1 E.2.1 d_Reader_isAccess_4 rfl hl (by decide) rfl (fun ls hl => ?_)
  refine lv_iload_n E.1 E.2.1 d_Reader_isAccess_5 rfl (lv_at hl 0 rfl) ?_
  refine lv_if_lt (tgt := 29) E.1 E.2.1 d_Reader_isAccess_6 (by decide) (fun hc_2 => ?_) (fun hc_2 => ?_)
  ·
    refine lv_iconst (v := 0) E.1 E.2.1 d_Reader_isAccess_29 (by decide) ?_
    refine W.widen (k := 0) (n := 0) (by decide) (by decide) ?_
    exact x_zret (ws := []) E hr (by decide) hlocks (hP.sub [] rfl) (hD.sub [] (by decide) rfl) hS ⟨(Or.inl rfl), rfl⟩ d_Reader_isAccess_30
  ·
    obtain ⟨jv_3, hjv_3, ejv_3⟩ := nI_of hc_2
    subst ejv_3
    refine lv_iload_n E.1 E.2.1 d_Reader_isAccess_9 rfl (lv_at hl 0 rfl) ?_
    obtain ⟨tz_4, gtz_4, hatz_4, hbtz_4⟩ := hZ.2.1.1
    refine va_gets (C := "WasmReader") E.1 E.2.1 hatz_4 hS E.2.2.2.2.1 (E.2.2.2.1 _ m_390) (fun _ h => h) d_Reader_isAccess_10 ?_
    refine va_tlen (v := 23) E.1 E.2.1 hbtz_4 hS (by decide) d_Reader_isAccess_13 ?_
    refine lv_icmp_ge (tgt := 29) E.1 E.2.1 d_Reader_isAccess_14 (by decide) (fun hc_5 => ?_) (fun hc_5 => ?_)
    ·
      have hc_5 : 23 ≤ jv_3 := (nI_leI (a := 23) (b := jv_3) (by omega) (by omega)).mp hc_5
      refine lv_iconst (v := 0) E.1 E.2.1 d_Reader_isAccess_29 (by decide) ?_
      refine W.widen (k := 0) (n := 0) (by decide) (by decide) ?_
      exact x_zret (ws := []) E hr (by decide) hlocks (hP.sub [] rfl) (hD.sub [] (by decide) rfl) hS ⟨(Or.inl rfl), rfl⟩ d_Reader_isAccess_30
    ·
      have hc_5 : ¬ (23 ≤ jv_3) := fun hq_ => hc_5 ((nI_leI (a := 23) (b := jv_3) (by omega) (by omega)).mpr hq_)
      obtain ⟨tz_6, gtz_6, hatz_6, hbtz_6⟩ := hZ.2.1.1
      refine va_gets (C := "WasmReader") E.1 E.2.1 hatz_6 hS E.2.2.2.2.1 (E.2.2.2.1 _ m_390) (fun _ h => h) d_Reader_isAccess_17 ?_
      refine lv_iload_n E.1 E.2.1 d_Reader_isAccess_20 rfl (lv_at hl 0 rfl) ?_
      obtain ⟨v_7, ev_7⟩ : ∃ z : Int32, z = gtz_6 (Int32.toNatClampNeg (nI jv_3)) := ⟨_, rfl⟩
      refine va_ti E.1 E.2.1 hbtz_6 hS (i := nI jv_3) (v := .int v_7) (vp_in_nI (n := jv_3) (by omega) (by decide)) (by rw [ev_7]) d_Reader_isAccess_21 ?_
      refine lv_if_lt (tgt := 29) E.1 E.2.1 d_Reader_isAccess_22 (by decide) (fun hc_8 => ?_) (fun hc_8 => ?_)
      ·
        refine lv_iconst (v := 0) E.1 E.2.1 d_Reader_isAccess_29 (by decide) ?_
        refine W.widen (k := 0) (n := 0) (by decide) (by decide) ?_
        exact x_zret (ws := []) E hr (by decide) hlocks (hP.sub [] rfl) (hD.sub [] (by decide) rfl) hS ⟨(Or.inl rfl), rfl⟩ d_Reader_isAccess_30
      ·
        refine lv_iconst (v := 1) E.1 E.2.1 d_Reader_isAccess_25 (by decide) ?_
        refine lv_goto (tgt := 30) E.1 E.2.1 d_Reader_isAccess_26 (by decide) ?_
        refine W.widen (k := 0) (n := 0) (by decide) (by decide) ?_
        exact x_zret (ws := []) E hr (by decide) hlocks (hP.sub [] rfl) (hD.sub [] (by decide) rfl) hS ⟨(Or.inr (⟨jv_3, rfl, ev_1.symm, (by omega)⟩)), rfl⟩ d_Reader_isAccess_30
set_option maxHeartbeats 4000000 in
set_option maxRecDepth 100000 in
theorem c_Reader_numericRow (l : Launch) (D : va_G) (cB cI cJ cZ : ClassId) (sz : Nat) (x : Int32)  : Met l y_Reader_numericRow (Cond.code y_Reader_numericRow prog_1_method_12_code 2 (some .int) :: xtb) ({ frames := 0, cells := 0, slots := 0, locals := 0 }) (xP D [(cB, .byte), (cI, .int), (cJ, .long), (cZ, .boolean)] [.int x] [] sz) (xQi D [(cB, .byte), (cI, .int), (cJ, .long), (cZ, .boolean)] [] sz (fun r u => ((r = (-1)) ∨ (∃ (k : Nat), r = nI k ∧ (k + 5 ≤ 50))) ∧ u = [])) 0 0 (va_A [] sz) := by
  refine x_met (Qc := fun s => xQi D [(cB, .byte), (cI, .int), (cJ, .long), (cZ, .boolean)] [] s.heap.size (fun r u => ((r = (-1)) ∨ (∃ (k : Nat), r = nI k ∧ (k + 5 ≤ 50))) ∧ u = [])) (fr := fun s => va_A [] s.heap.size) "WasmReader" (by decide +kernel) rfl (Nat.le_of_ble_eq_true rfl) (fun s h => by rw [h]) (fun s h => by rw [h]) ?_
  intro p e s m below meth c ls E hr hlocks hinit hl hP hD hA hS hZ hadm
  have hl : lv_has ls 2 [(0, .int x)] := hl
  refine lv_iconst (v := 0) E.1 E.2.1 d_Reader_numericRow_0 (by decide) ?_
  refine lv_istore_n (lv' := [(1, .int 0), (0, .int x)]) E.1 E.2.1 d_Reader_numericRow_1 rfl hl (by decide) rfl (fun ls hl => ?_)
  have hl : lv_has ls 2 [(1, .int (nI 0)), (0, .int x)] := hl
  have loop_1 : ∀ (j1 : Nat) (i : Nat) (hi : i ≤ 50) (hj1 : 51 ≤ i + j1) (H : Heap) (locs : List Loc) (ls : Array Slot), va_P D classes [] H → va_D (va_A [] s.heap.size) [] → va_S (va_A [] s.heap.size) s.heap H locs → lv_has ls 2 [(1, .int (nI i)), (0, .int x)] → W p l e (({ frames := 0, cells := 0, slots := 0, locals := 0 }) : Room) s m ([.int x] : List Value).toArray below meth c H locs 0 0 (MQ below (xQi D [(cB, .byte), (cI, .int), (cJ, .long), (cZ, .boolean)] [] s.heap.size (fun r u => ((r = (-1)) ∨ (∃ (k : Nat), r = nI k ∧ (k + 5 ≤ 50))) ∧ u = [])) ([.int x] : List Value).toArray s 0 0 (va_A [] s.heap.size)) (F0 m 2 ls []) := by
    intro j1
    induction j1 with
    | zero =>
      intro i hi hj1
      exact absurd hj1 (by omega)
    | succ j1 ih_j1 =>
      intro i hi hj1 H locs ls hP hD hS hl
      refine lv_iload_n E.1 E.2.1 d_Reader_numericRow_2 rfl (lv_at hl 0 rfl) ?_
      refine lv_iconst (v := 5) E.1 E.2.1 d_Reader_numericRow_3 (by decide) ?_
      refine lv_iadd E.1 E.2.1 d_Reader_numericRow_4 ?_
      refine lv_topi (fun vt_2 evt_2 => ?_)
      obtain rfl : vt_2 = nI (i + 5) := evt_2.trans (nI_add i 5)
      obtain ⟨tz_3, gtz_3, hatz_3, hbtz_3⟩ := hZ.2.1.2.2
      refine va_gets (C := "WasmReader") E.1 E.2.1 hatz_3 hS E.2.2.2.2.1 (E.2.2.2.1 _ m_391) (fun _ h => h) d_Reader_numericRow_5 ?_
      refine va_tlen (v := 50) E.1 E.2.1 hbtz_3 hS (by decide) d_Reader_numericRow_8 ?_
      refine lv_icmp_gt (tgt := 40) E.1 E.2.1 d_Reader_numericRow_9 (by decide) (fun hc_4 => ?_) (fun hc_4 => ?_)
      ·
        have hc_4 : 50 < i + 5 := (nI_ltI (a := 50) (b := i + 5) (by omega) (by omega)).mp hc_4
        refine lv_iconst (v := (-1)) E.1 E.2.1 d_Reader_numericRow_40 (by decide) ?_
        refine W.widen (k := 0) (n := 0) (by decide) (by decide) ?_
        exact x_iret (ws := []) E hr hlocks (hP.sub [] rfl) (hD.sub [] (by decide) rfl) hS ⟨(Or.inl rfl), rfl⟩ d_Reader_numericRow_41
      ·
        have hc_4 : ¬ (50 < i + 5) := fun hq_ => hc_4 ((nI_ltI (a := 50) (b := i + 5) (by omega) (by omega)).mpr hq_)
        refine lv_iload_n E.1 E.2.1 d_Reader_numericRow_12 rfl (lv_at hl 1 rfl) ?_
        obtain ⟨tz_5, gtz_5, hatz_5, hbtz_5⟩ := hZ.2.1.2.2
        refine va_gets (C := "WasmReader") E.1 E.2.1 hatz_5 hS E.2.2.2.2.1 (E.2.2.2.1 _ m_391) (fun _ h => h) d_Reader_numericRow_13 ?_
        refine lv_iload_n E.1 E.2.1 d_Reader_numericRow_16 rfl (lv_at hl 0 rfl) ?_
        obtain ⟨v_6, ev_6⟩ : ∃ z : Int32, z = gtz_5 (Int32.toNatClampNeg (nI i)) := ⟨_, rfl⟩
        refine va_ti E.1 E.2.1 hbtz_5 hS (i := nI i) (v := .int v_6) (vp_in_nI (n := i) (by omega) (by decide)) (by rw [ev_6]) d_Reader_numericRow_17 ?_
        refine lv_icmp_lt (tgt := 34) E.1 E.2.1 d_Reader_numericRow_18 (by decide) (fun hc_7 => ?_) (fun hc_7 => ?_)
        ·
          refine lv_iinc (v := nI (i + 5)) (lv' := [(1, .int (nI (i + 5))), (0, .int x)]) E.1 E.2.1 d_Reader_numericRow_34 hl (k := 0) rfl (nI_add i 5) (by decide) rfl (fun ls hl => ?_)
          refine lv_goto (tgt := 2) E.1 E.2.1 d_Reader_numericRow_37 (by decide) ?_
          exact ih_j1 (i + 5) (by omega) (by omega) _ _ _ (hP.sub [] rfl) (hD.sub [] (by decide) rfl) hS (lv_sub hl [0, 1] rfl)
        ·
          refine lv_iload_n E.1 E.2.1 d_Reader_numericRow_21 rfl (lv_at hl 1 rfl) ?_
          obtain ⟨tz_8, gtz_8, hatz_8, hbtz_8⟩ := hZ.2.1.2.2
          refine va_gets (C := "WasmReader") E.1 E.2.1 hatz_8 hS E.2.2.2.2.1 (E.2.2.2.1 _ m_391) (fun _ h => h) d_Reader_numericRow_22 ?_
          refine lv_iload_n E.1 E.2.1 d_Reader_numericRow_25 rfl (lv_at hl 0 rfl) ?_
          refine lv_iconst (v := 1) E.1 E.2.1 d_Reader_numericRow_26 (by decide) ?_
          refine lv_iadd E.1 E.2.1 d_Reader_numericRow_27 ?_
          refine lv_topi (fun vt_9 evt_9 => ?_)
          obtain rfl : vt_9 = nI (i + 1) := evt_9.trans (nI_add i 1)
          obtain ⟨v_10, ev_10⟩ : ∃ z : Int32, z = gtz_8 (Int32.toNatClampNeg (nI (i + 1))) := ⟨_, rfl⟩
          refine va_ti E.1 E.2.1 hbtz_8 hS (i := nI (i + 1)) (v := .int v_10) (vp_in_nI (n := i + 1) (by omega) (by decide)) (by rw [ev_10]) d_Reader_numericRow_28 ?_
          refine lv_icmp_gt (tgt := 34) E.1 E.2.1 d_Reader_numericRow_29 (by decide) (fun hc_11 => ?_) (fun hc_11 => ?_)
          ·
            refine lv_iinc (v := nI (i + 5)) (lv' := [(1, .int (nI (i + 5))), (0, .int x)]) E.1 E.2.1 d_Reader_numericRow_34 hl (k := 0) rfl (nI_add i 5) (by decide) rfl (fun ls hl => ?_)
            refine lv_goto (tgt := 2) E.1 E.2.1 d_Reader_numericRow_37 (by decide) ?_
            exact ih_j1 (i + 5) (by omega) (by omega) _ _ _ (hP.sub [] rfl) (hD.sub [] (by decide) rfl) hS (lv_sub hl [0, 1] rfl)
          ·
            refine lv_iload_n E.1 E.2.1 d_Reader_numericRow_32 rfl (lv_at hl 0 rfl) ?_
            refine W.widen (k := 0) (n := 0) (by decide) (by decide) ?_
            exact x_iret (ws := []) E hr hlocks (hP.sub [] rfl) (hD.sub [] (by decide) rfl) hS ⟨(Or.inr (⟨i, rfl, (by omega)⟩)), rfl⟩ d_Reader_numericRow_33
  exact loop_1 (51) 0 (by omega) (by omega) _ _ _ (hP.sub [] rfl) (hD.sub [] (by decide) rfl) hS (lv_sub hl [0, 1] rfl)
set_option maxHeartbeats 4000000 in
set_option maxRecDepth 100000 in
theorem c_Grammar_elseOf (l : Launch) (D : va_G) (cB cI cJ cZ : ClassId) (sz : Nat) (h0 : Nat) (qc : Nat) (qm : Nat) (qe : Nat) (qb : Nat) (ln : Int32) (a : Nat) (b : Nat) (ml : Int32) (f : Nat → Int32) (fe : Nat → Int32) (x : Int32)  : Met l y_Grammar_elseOf (Cond.code y_Grammar_elseOf prog_6_method_24_code 2 none :: xtb) ({ frames := 1, cells := 0, slots := 0, locals := 20 }) (xP D [(cB, .byte), (cI, .int), (cJ, .long), (cZ, .boolean)] [.ref h0, .int x] [(h0, .inr (10, [.ref qc, .ref qm, .ref qe])), (qc, .inr (1, [.ref qb, .int ln, .int (nI a), .int (nI b), .int ml])), (qb, .inl (cB, 4000, .inl f)), (qe, .inl (cZ, 2000, .inl fe))] sz) (xQv D [(cB, .byte), (cI, .int), (cJ, .long), (cZ, .boolean)] [(h0, .inr (10, [.ref qc, .ref qm, .ref qe])), (qc, .inr (1, [.ref qb, .int ln, .int (nI a), .int (nI b), .int ml])), (qb, .inl (cB, 4000, .inl f)), (qe, .inl (cZ, 2000, .inl fe))] sz (fun u => ∃ (ml2 : Int32), ∃ (fe2 : Nat → Int32), u = [(h0, .inr (10, [.ref qc, .ref qm, .ref qe])), (qc, .inr (1, [.ref qb, .int ln, .int (nI a), .int (nI b), .int ml2])), (qb, .inl (cB, 4000, .inl f)), (qe, .inl (cZ, 2000, .inl fe2))])) 0 0 (va_A [(h0, .inr (10, [.ref qc, .ref qm, .ref qe])), (qc, .inr (1, [.ref qb, .int ln, .int (nI a), .int (nI b), .int ml])), (qb, .inl (cB, 4000, .inl f)), (qe, .inl (cZ, 2000, .inl fe))] sz) := by
  refine x_met (Qc := fun s => xQv D [(cB, .byte), (cI, .int), (cJ, .long), (cZ, .boolean)] [(h0, .inr (10, [.ref qc, .ref qm, .ref qe])), (qc, .inr (1, [.ref qb, .int ln, .int (nI a), .int (nI b), .int ml])), (qb, .inl (cB, 4000, .inl f)), (qe, .inl (cZ, 2000, .inl fe))] s.heap.size (fun u => ∃ (ml2 : Int32), ∃ (fe2 : Nat → Int32), u = [(h0, .inr (10, [.ref qc, .ref qm, .ref qe])), (qc, .inr (1, [.ref qb, .int ln, .int (nI a), .int (nI b), .int ml2])), (qb, .inl (cB, 4000, .inl f)), (qe, .inl (cZ, 2000, .inl fe2))])) (fr := fun s => va_A [(h0, .inr (10, [.ref qc, .ref qm, .ref qe])), (qc, .inr (1, [.ref qb, .int ln, .int (nI a), .int (nI b), .int ml])), (qb, .inl (cB, 4000, .inl f)), (qe, .inl (cZ, 2000, .inl fe))] s.heap.size) "WasmReader$Grammar" (by decide +kernel) rfl (Nat.le_of_ble_eq_true rfl) (fun s h => by rw [h]) (fun s h => by rw [h]) ?_
  intro p e s m below meth c ls E hr hlocks hinit hl hP hD hA hS hZ hadm
  have hl : lv_has ls 2 [(0, .ref h0), (1, .int x)] := hl
  refine lv_iload_n E.1 E.2.1 d_Grammar_elseOf_0 rfl (lv_at hl 1 rfl) ?_
  refine lv_if_lt (tgt := 22) E.1 E.2.1 d_Grammar_elseOf_1 (by decide) (fun hc_1 => ?_) (fun hc_1 => ?_)
  ·
    refine lv_aload_n E.1 E.2.1 d_Grammar_elseOf_22 rfl (lv_at hl 0 rfl) ?_
    refine x_get E hP (C := "WasmReader$Grammar") (T := T_Grammar) (N := 3) (ci := 10) 0 (v := .ref qc) 0 in_Grammar rfl rfl (by decide) m_179 rfl d_Grammar_elseOf_23 ?_
    have hPc := hP.sub (ws' := [(qc, .inr (1, [.ref qb, .int ln, .int (nI a), .int (nI b), .int ml]))]) [1] rfl
    have hDc := hD.sub (ws' := [(qc, .inr (1, [.ref qb, .int ln, .int (nI a), .int (nI b), .int ml]))]) [1] (by decide) rfl
    have hFc := va_free (wc := [(qc, .inr (1, [.ref qb, .int ln, .int (nI a), .int (nI b), .int ml]))]) hD hS hA [1] rfl
    refine x_rv (ws := [(h0, .inr (10, [.ref qc, .ref qm, .ref qe])), (qc, .inr (1, [.ref qb, .int ln, .int (nI a), .int (nI b), .int ml])), (qb, .inl (cB, 4000, .inl f)), (qe, .inl (cZ, 2000, .inl fe))]) (wc := [(qc, .inr (1, [.ref qb, .int ln, .int (nI a), .int (nI b), .int ml]))]) (wr := [(h0, .inr (10, [.ref qc, .ref qm, .ref qe])), (qb, .inl (cB, 4000, .inl f)), (qe, .inl (cZ, 2000, .inl fe))]) (x_V (As := []) (C := "WasmReader$Cursor") E (c_Cursor_fail l D cB cI cJ cZ s.heap.size qc qb ln (nI a) (nI b) ml ) m_175 m_94 m_281 m_176 m_177 nm_Cursor_fail hPc hDc hZ hS hFc rfl rfl rfl hl.1 rfl (Nat.le_of_ble_eq_true rfl) d_Grammar_elseOf_26 rfl rfl (by decide) (by decide) (by decide) (by decide)) hP hD hS hA [1] [0, 2, 3] rfl rfl (by decide) (by decide) (fun u H locs hw hP hD hS => ?_)
    obtain rfl := hw
    have hP : va_P D classes [(h0, .inr (10, [.ref qc, .ref qm, .ref qe])), (qb, .inl (cB, 4000, .inl f)), (qe, .inl (cZ, 2000, .inl fe)), (qc, .inr (1, [.ref qb, .int ln, .int (nI a), .int (nI b), .int 1]))] H := hP
    have hD : va_D (va_A [(h0, .inr (10, [.ref qc, .ref qm, .ref qe])), (qc, .inr (1, [.ref qb, .int ln, .int (nI a), .int (nI b), .int ml])), (qb, .inl (cB, 4000, .inl f)), (qe, .inl (cZ, 2000, .inl fe))] s.heap.size) [(h0, .inr (10, [.ref qc, .ref qm, .ref qe])), (qb, .inl (cB, 4000, .inl f)), (qe, .inl (cZ, 2000, .inl fe)), (qc, .inr (1, [.ref qb, .int ln, .int (nI a), .int (nI b), .int 1]))] := hD
    refine lv_goto (tgt := 39) E.1 E.2.1 d_Grammar_elseOf_29 (by decide) ?_
    refine W.widen (k := 0) (n := 0) (by decide) (by decide) ?_
    exact x_vret (ws := [(h0, .inr (10, [.ref qc, .ref qm, .ref qe])), (qc, .inr (1, [.ref qb, .int ln, .int (nI a), .int (nI b), .int 1])), (qb, .inl (cB, 4000, .inl f)), (qe, .inl (cZ, 2000, .inl fe))]) E hr hlocks (hP.sub [0, 3, 1, 2] rfl) (hD.sub [0, 3, 1, 2] (by decide) rfl) hS ⟨1, fe, rfl⟩ d_Grammar_elseOf_39
  ·
    obtain ⟨jv_2, hjv_2, ejv_2⟩ := nI_of hc_1
    subst ejv_2
    refine lv_iload_n E.1 E.2.1 d_Grammar_elseOf_4 rfl (lv_at hl 1 rfl) ?_
    refine lv_aload_n E.1 E.2.1 d_Grammar_elseOf_5 rfl (lv_at hl 0 rfl) ?_
    refine x_get E hP (C := "WasmReader$Grammar") (T := T_Grammar) (N := 3) (ci := 10) 0 (v := .ref qe) 2 in_Grammar rfl rfl (by decide) m_181 rfl d_Grammar_elseOf_6 ?_
    refine va_alen E.1 E.2.1 E.2.2.2.2.2 hP 3 3 rfl rfl (v := 2000) rfl d_Grammar_elseOf_9 ?_
    refine lv_icmp_ge (tgt := 22) E.1 E.2.1 d_Grammar_elseOf_10 (by decide) (fun hc_3 => ?_) (fun hc_3 => ?_)
    ·
      have hc_3 : 2000 ≤ jv_2 := (nI_leI (a := 2000) (b := jv_2) (by omega) (by omega)).mp hc_3
      refine lv_aload_n E.1 E.2.1 d_Grammar_elseOf_22 rfl (lv_at hl 0 rfl) ?_
      refine x_get E hP (C := "WasmReader$Grammar") (T := T_Grammar) (N := 3) (ci := 10) 0 (v := .ref qc) 0 in_Grammar rfl rfl (by decide) m_179 rfl d_Grammar_elseOf_23 ?_
      have hPc := hP.sub (ws' := [(qc, .inr (1, [.ref qb, .int ln, .int (nI a), .int (nI b), .int ml]))]) [1] rfl
      have hDc := hD.sub (ws' := [(qc, .inr (1, [.ref qb, .int ln, .int (nI a), .int (nI b), .int ml]))]) [1] (by decide) rfl
      have hFc := va_free (wc := [(qc, .inr (1, [.ref qb, .int ln, .int (nI a), .int (nI b), .int ml]))]) hD hS hA [1] rfl
      refine x_rv (ws := [(h0, .inr (10, [.ref qc, .ref qm, .ref qe])), (qc, .inr (1, [.ref qb, .int ln, .int (nI a), .int (nI b), .int ml])), (qb, .inl (cB, 4000, .inl f)), (qe, .inl (cZ, 2000, .inl fe))]) (wc := [(qc, .inr (1, [.ref qb, .int ln, .int (nI a), .int (nI b), .int ml]))]) (wr := [(h0, .inr (10, [.ref qc, .ref qm, .ref qe])), (qb, .inl (cB, 4000, .inl f)), (qe, .inl (cZ, 2000, .inl fe))]) (x_V (As := []) (C := "WasmReader$Cursor") E (c_Cursor_fail l D cB cI cJ cZ s.heap.size qc qb ln (nI a) (nI b) ml ) m_175 m_94 m_281 m_176 m_177 nm_Cursor_fail hPc hDc hZ hS hFc rfl rfl rfl hl.1 rfl (Nat.le_of_ble_eq_true rfl) d_Grammar_elseOf_26 rfl rfl (by decide) (by decide) (by decide) (by decide)) hP hD hS hA [1] [0, 2, 3] rfl rfl (by decide) (by decide) (fun u H locs hw hP hD hS => ?_)
      obtain rfl := hw
      have hP : va_P D classes [(h0, .inr (10, [.ref qc, .ref qm, .ref qe])), (qb, .inl (cB, 4000, .inl f)), (qe, .inl (cZ, 2000, .inl fe)), (qc, .inr (1, [.ref qb, .int ln, .int (nI a), .int (nI b), .int 1]))] H := hP
      have hD : va_D (va_A [(h0, .inr (10, [.ref qc, .ref qm, .ref qe])), (qc, .inr (1, [.ref qb, .int ln, .int (nI a), .int (nI b), .int ml])), (qb, .inl (cB, 4000, .inl f)), (qe, .inl (cZ, 2000, .inl fe))] s.heap.size) [(h0, .inr (10, [.ref qc, .ref qm, .ref qe])), (qb, .inl (cB, 4000, .inl f)), (qe, .inl (cZ, 2000, .inl fe)), (qc, .inr (1, [.ref qb, .int ln, .int (nI a), .int (nI b), .int 1]))] := hD
      refine lv_goto (tgt := 39) E.1 E.2.1 d_Grammar_elseOf_29 (by decide) ?_
      refine W.widen (k := 0) (n := 0) (by decide) (by decide) ?_
      exact x_vret (ws := [(h0, .inr (10, [.ref qc, .ref qm, .ref qe])), (qc, .inr (1, [.ref qb, .int ln, .int (nI a), .int (nI b), .int 1])), (qb, .inl (cB, 4000, .inl f)), (qe, .inl (cZ, 2000, .inl fe))]) E hr hlocks (hP.sub [0, 3, 1, 2] rfl) (hD.sub [0, 3, 1, 2] (by decide) rfl) hS ⟨1, fe, rfl⟩ d_Grammar_elseOf_39
    ·
      have hc_3 : ¬ (2000 ≤ jv_2) := fun hq_ => hc_3 ((nI_leI (a := 2000) (b := jv_2) (by omega) (by omega)).mpr hq_)
      refine lv_aload_n E.1 E.2.1 d_Grammar_elseOf_13 rfl (lv_at hl 0 rfl) ?_
      refine x_get E hP (C := "WasmReader$Grammar") (T := T_Grammar) (N := 3) (ci := 10) 0 (v := .ref qe) 2 in_Grammar rfl rfl (by decide) m_181 rfl d_Grammar_elseOf_14 ?_
      refine lv_iload_n E.1 E.2.1 d_Grammar_elseOf_17 rfl (lv_at hl 1 rfl) ?_
      refine va_zald E.1 E.2.1 E.2.2.2.2.2 hP 3 3 rfl rfl (i := nI jv_2) (vp_in_nI (n := jv_2) (by omega) (by decide)) d_Grammar_elseOf_18 ?_
      refine lv_topi (fun v_4 ev_4 => ?_)
      refine lv_if_ne (tgt := 32) E.1 E.2.1 d_Grammar_elseOf_19 (by decide) (fun hc_5 => ?_) (fun hc_5 => ?_)
      ·
        refine lv_aload_n E.1 E.2.1 d_Grammar_elseOf_32 rfl (lv_at hl 0 rfl) ?_
        refine x_get E hP (C := "WasmReader$Grammar") (T := T_Grammar) (N := 3) (ci := 10) 0 (v := .ref qe) 2 in_Grammar rfl rfl (by decide) m_181 rfl d_Grammar_elseOf_33 ?_
        refine lv_iload_n E.1 E.2.1 d_Grammar_elseOf_36 rfl (lv_at hl 1 rfl) ?_
        refine lv_iconst (v := 0) E.1 E.2.1 d_Grammar_elseOf_37 (by decide) ?_
        refine va_zast E.1 E.2.1 E.2.2.2.2.2 hP hD hS 3 3 rfl rfl (i := nI jv_2) (x := 0) (vp_in_nI (n := jv_2) (by omega) (by decide)) d_Grammar_elseOf_38 (fun H locs hP hD hS => ?_)
        generalize upd fe (Int32.toNatClampNeg (nI jv_2)) (vp_nar .boolean 0) = g_6 at hP hD
        have hP : va_P D classes [(h0, .inr (10, [.ref qc, .ref qm, .ref qe])), (qc, .inr (1, [.ref qb, .int ln, .int (nI a), .int (nI b), .int ml])), (qb, .inl (cB, 4000, .inl f)), (qe, .inl (cZ, 2000, .inl g_6))] H := hP
        have hD : va_D (va_A [(h0, .inr (10, [.ref qc, .ref qm, .ref qe])), (qc, .inr (1, [.ref qb, .int ln, .int (nI a), .int (nI b), .int ml])), (qb, .inl (cB, 4000, .inl f)), (qe, .inl (cZ, 2000, .inl fe))] s.heap.size) [(h0, .inr (10, [.ref qc, .ref qm, .ref qe])), (qc, .inr (1, [.ref qb, .int ln, .int (nI a), .int (nI b), .int ml])), (qb, .inl (cB, 4000, .inl f)), (qe, .inl (cZ, 2000, .inl g_6))] := hD
        refine W.widen (k := 0) (n := 0) (by decide) (by decide) ?_
        exact x_vret (ws := [(h0, .inr (10, [.ref qc, .ref qm, .ref qe])), (qc, .inr (1, [.ref qb, .int ln, .int (nI a), .int (nI b), .int ml])), (qb, .inl (cB, 4000, .inl f)), (qe, .inl (cZ, 2000, .inl g_6))]) E hr hlocks (hP.sub [0, 1, 2, 3] rfl) (hD.sub [0, 1, 2, 3] (by decide) rfl) hS ⟨ml, g_6, rfl⟩ d_Grammar_elseOf_39
      ·
        refine lv_aload_n E.1 E.2.1 d_Grammar_elseOf_22 rfl (lv_at hl 0 rfl) ?_
        refine x_get E hP (C := "WasmReader$Grammar") (T := T_Grammar) (N := 3) (ci := 10) 0 (v := .ref qc) 0 in_Grammar rfl rfl (by decide) m_179 rfl d_Grammar_elseOf_23 ?_
        have hPc := hP.sub (ws' := [(qc, .inr (1, [.ref qb, .int ln, .int (nI a), .int (nI b), .int ml]))]) [1] rfl
        have hDc := hD.sub (ws' := [(qc, .inr (1, [.ref qb, .int ln, .int (nI a), .int (nI b), .int ml]))]) [1] (by decide) rfl
        have hFc := va_free (wc := [(qc, .inr (1, [.ref qb, .int ln, .int (nI a), .int (nI b), .int ml]))]) hD hS hA [1] rfl
        refine x_rv (ws := [(h0, .inr (10, [.ref qc, .ref qm, .ref qe])), (qc, .inr (1, [.ref qb, .int ln, .int (nI a), .int (nI b), .int ml])), (qb, .inl (cB, 4000, .inl f)), (qe, .inl (cZ, 2000, .inl fe))]) (wc := [(qc, .inr (1, [.ref qb, .int ln, .int (nI a), .int (nI b), .int ml]))]) (wr := [(h0, .inr (10, [.ref qc, .ref qm, .ref qe])), (qb, .inl (cB, 4000, .inl f)), (qe, .inl (cZ, 2000, .inl fe))]) (x_V (As := []) (C := "WasmReader$Cursor") E (c_Cursor_fail l D cB cI cJ cZ s.heap.size qc qb ln (nI a) (nI b) ml ) m_175 m_94 m_281 m_176 m_177 nm_Cursor_fail hPc hDc hZ hS hFc rfl rfl rfl hl.1 rfl (Nat.le_of_ble_eq_true rfl) d_Grammar_elseOf_26 rfl rfl (by decide) (by decide) (by decide) (by decide)) hP hD hS hA [1] [0, 2, 3] rfl rfl (by decide) (by decide) (fun u H locs hw hP hD hS => ?_)
        obtain rfl := hw
        have hP : va_P D classes [(h0, .inr (10, [.ref qc, .ref qm, .ref qe])), (qb, .inl (cB, 4000, .inl f)), (qe, .inl (cZ, 2000, .inl fe)), (qc, .inr (1, [.ref qb, .int ln, .int (nI a), .int (nI b), .int 1]))] H := hP
        have hD : va_D (va_A [(h0, .inr (10, [.ref qc, .ref qm, .ref qe])), (qc, .inr (1, [.ref qb, .int ln, .int (nI a), .int (nI b), .int ml])), (qb, .inl (cB, 4000, .inl f)), (qe, .inl (cZ, 2000, .inl fe))] s.heap.size) [(h0, .inr (10, [.ref qc, .ref qm, .ref qe])), (qb, .inl (cB, 4000, .inl f)), (qe, .inl (cZ, 2000, .inl fe)), (qc, .inr (1, [.ref qb, .int ln, .int (nI a), .int (nI b), .int 1]))] := hD
        refine lv_goto (tgt := 39) E.1 E.2.1 d_Grammar_elseOf_29 (by decide) ?_
        refine W.widen (k := 0) (n := 0) (by decide) (by decide) ?_
        exact x_vret (ws := [(h0, .inr (10, [.ref qc, .ref qm, .ref qe])), (qc, .inr (1, [.ref qb, .int ln, .int (nI a), .int (nI b), .int 1])), (qb, .inl (cB, 4000, .inl f)), (qe, .inl (cZ, 2000, .inl fe))]) E hr hlocks (hP.sub [0, 3, 1, 2] rfl) (hD.sub [0, 3, 1, 2] (by decide) rfl) hS ⟨1, fe, rfl⟩ d_Grammar_elseOf_39
set_option maxHeartbeats 4000000 in
set_option maxRecDepth 100000 in
theorem c_Grammar_openBlock (l : Launch) (D : va_G) (cB cI cJ cZ : ClassId) (sz : Nat) (h0 : Nat) (qc : Nat) (qm : Nat) (qe : Nat) (m0 : Nat) (m1 : Nat) (m2 : Nat) (m3 : Nat) (m4 : Nat) (m5 : Nat) (m6 : Nat) (m7 : Nat) (wi : Int32) (wst : Int32) (wpt : Int32) (fe : Nat → Int32) (x : Int32) (z : Int32)  : Met l y_Grammar_openBlock (Cond.code y_Grammar_openBlock prog_6_method_26_code 3 none :: xtb) ({ frames := 0, cells := 0, slots := 0, locals := 0 }) (xP D [(cB, .byte), (cI, .int), (cJ, .long), (cZ, .boolean)] [.ref h0, .int x, .int z] [(h0, .inr (10, [.ref qc, .ref qm, .ref qe])), (qm, .inr (2, [.ref m0, .ref m1, .ref m2, .ref m3, .ref m4, .ref m5, .ref m6, .ref m7, .int wi, .int wst, .int wpt])), (qe, .inl (cZ, 2000, .inl fe))] sz) (xQv D [(cB, .byte), (cI, .int), (cJ, .long), (cZ, .boolean)] [(h0, .inr (10, [.ref qc, .ref qm, .ref qe])), (qm, .inr (2, [.ref m0, .ref m1, .ref m2, .ref m3, .ref m4, .ref m5, .ref m6, .ref m7, .int wi, .int wst, .int wpt])), (qe, .inl (cZ, 2000, .inl fe))] sz (fun u => ∃ (wp2 : Int32), ∃ (fe2 : Nat → Int32), u = [(h0, .inr (10, [.ref qc, .ref qm, .ref qe])), (qm, .inr (2, [.ref m0, .ref m1, .ref m2, .ref m3, .ref m4, .ref m5, .ref m6, .ref m7, .int wi, .int wst, .int wp2])), (qe, .inl (cZ, 2000, .inl fe2))])) 0 0 (va_A [(h0, .inr (10, [.ref qc, .ref qm, .ref qe])), (qm, .inr (2, [.ref m0, .ref m1, .ref m2, .ref m3, .ref m4, .ref m5, .ref m6, .ref m7, .int wi, .int wst, .int wpt])), (qe, .inl (cZ, 2000, .inl fe))] sz) := by
  refine x_met (Qc := fun s => xQv D [(cB, .byte), (cI, .int), (cJ, .long), (cZ, .boolean)] [(h0, .inr (10, [.ref qc, .ref qm, .ref qe])), (qm, .inr (2, [.ref m0, .ref m1, .ref m2, .ref m3, .ref m4, .ref m5, .ref m6, .ref m7, .int wi, .int wst, .int wpt])), (qe, .inl (cZ, 2000, .inl fe))] s.heap.size (fun u => ∃ (wp2 : Int32), ∃ (fe2 : Nat → Int32), u = [(h0, .inr (10, [.ref qc, .ref qm, .ref qe])), (qm, .inr (2, [.ref m0, .ref m1, .ref m2, .ref m3, .ref m4, .ref m5, .ref m6, .ref m7, .int wi, .int wst, .int wp2])), (qe, .inl (cZ, 2000, .inl fe2))])) (fr := fun s => va_A [(h0, .inr (10, [.ref qc, .ref qm, .ref qe])), (qm, .inr (2, [.ref m0, .ref m1, .ref m2, .ref m3, .ref m4, .ref m5, .ref m6, .ref m7, .int wi, .int wst, .int wpt])), (qe, .inl (cZ, 2000, .inl fe))] s.heap.size) "WasmReader$Grammar" (by decide +kernel) rfl (Nat.le_of_ble_eq_true rfl) (fun s h => by rw [h]) (fun s h => by rw [h]) ?_
  intro p e s m below meth c ls E hr hlocks hinit hl hP hD hA hS hZ hadm
  have hl : lv_has ls 3 [(0, .ref h0), (1, .int x), (2, .int z)] := hl
  refine lv_iload_n E.1 E.2.1 d_Grammar_openBlock_0 rfl (lv_at hl 1 rfl) ?_
  refine lv_bipush (v := 30) E.1 E.2.1 d_Grammar_openBlock_1 (by decide) ?_
  refine lv_icmp_lt (tgt := 14) E.1 E.2.1 d_Grammar_openBlock_3 (by decide) (fun hc_1 => ?_) (fun hc_1 => ?_)
  ·
    refine lv_iload_n E.1 E.2.1 d_Grammar_openBlock_14 rfl (lv_at hl 1 rfl) ?_
    refine lv_if_lt (tgt := 34) E.1 E.2.1 d_Grammar_openBlock_15 (by decide) (fun hc_2 => ?_) (fun hc_2 => ?_)
    ·
      refine W.widen (k := 0) (n := 0) (by decide) (by decide) ?_
      exact x_vret (ws := [(h0, .inr (10, [.ref qc, .ref qm, .ref qe])), (qm, .inr (2, [.ref m0, .ref m1, .ref m2, .ref m3, .ref m4, .ref m5, .ref m6, .ref m7, .int wi, .int wst, .int wpt])), (qe, .inl (cZ, 2000, .inl fe))]) E hr hlocks (hP.sub [0, 1, 2] rfl) (hD.sub [0, 1, 2] (by decide) rfl) hS ⟨wpt, fe, rfl⟩ d_Grammar_openBlock_34
    ·
      obtain ⟨jv_3, hjv_3, ejv_3⟩ := nI_of hc_2
      subst ejv_3
      refine lv_iload_n E.1 E.2.1 d_Grammar_openBlock_18 rfl (lv_at hl 1 rfl) ?_
      refine lv_aload_n E.1 E.2.1 d_Grammar_openBlock_19 rfl (lv_at hl 0 rfl) ?_
      refine x_get E hP (C := "WasmReader$Grammar") (T := T_Grammar) (N := 3) (ci := 10) 0 (v := .ref qe) 2 in_Grammar rfl rfl (by decide) m_181 rfl d_Grammar_openBlock_20 ?_
      refine va_alen E.1 E.2.1 E.2.2.2.2.2 hP 2 3 rfl rfl (v := 2000) rfl d_Grammar_openBlock_23 ?_
      refine lv_icmp_ge (tgt := 34) E.1 E.2.1 d_Grammar_openBlock_24 (by decide) (fun hc_4 => ?_) (fun hc_4 => ?_)
      ·
        have hc_4 : 2000 ≤ jv_3 := (nI_leI (a := 2000) (b := jv_3) (by omega) (by omega)).mp hc_4
        refine W.widen (k := 0) (n := 0) (by decide) (by decide) ?_
        exact x_vret (ws := [(h0, .inr (10, [.ref qc, .ref qm, .ref qe])), (qm, .inr (2, [.ref m0, .ref m1, .ref m2, .ref m3, .ref m4, .ref m5, .ref m6, .ref m7, .int wi, .int wst, .int wpt])), (qe, .inl (cZ, 2000, .inl fe))]) E hr hlocks (hP.sub [0, 1, 2] rfl) (hD.sub [0, 1, 2] (by decide) rfl) hS ⟨wpt, fe, rfl⟩ d_Grammar_openBlock_34
      ·
        have hc_4 : ¬ (2000 ≤ jv_3) := fun hq_ => hc_4 ((nI_leI (a := 2000) (b := jv_3) (by omega) (by omega)).mpr hq_)
        refine lv_aload_n E.1 E.2.1 d_Grammar_openBlock_27 rfl (lv_at hl 0 rfl) ?_
        refine x_get E hP (C := "WasmReader$Grammar") (T := T_Grammar) (N := 3) (ci := 10) 0 (v := .ref qe) 2 in_Grammar rfl rfl (by decide) m_181 rfl d_Grammar_openBlock_28 ?_
        refine lv_iload_n E.1 E.2.1 d_Grammar_openBlock_31 rfl (lv_at hl 1 rfl) ?_
        refine lv_iload_n E.1 E.2.1 d_Grammar_openBlock_32 rfl (lv_at hl 2 rfl) ?_
        refine va_zast E.1 E.2.1 E.2.2.2.2.2 hP hD hS 2 3 rfl rfl (i := nI jv_3) (x := z) (vp_in_nI (n := jv_3) (by omega) (by decide)) d_Grammar_openBlock_33 (fun H locs hP hD hS => ?_)
        generalize upd fe (Int32.toNatClampNeg (nI jv_3)) (vp_nar .boolean z) = g_5 at hP hD
        have hP : va_P D classes [(h0, .inr (10, [.ref qc, .ref qm, .ref qe])), (qm, .inr (2, [.ref m0, .ref m1, .ref m2, .ref m3, .ref m4, .ref m5, .ref m6, .ref m7, .int wi, .int wst, .int wpt])), (qe, .inl (cZ, 2000, .inl g_5))] H := hP
        have hD : va_D (va_A [(h0, .inr (10, [.ref qc, .ref qm, .ref qe])), (qm, .inr (2, [.ref m0, .ref m1, .ref m2, .ref m3, .ref m4, .ref m5, .ref m6, .ref m7, .int wi, .int wst, .int wpt])), (qe, .inl (cZ, 2000, .inl fe))] s.heap.size) [(h0, .inr (10, [.ref qc, .ref qm, .ref qe])), (qm, .inr (2, [.ref m0, .ref m1, .ref m2, .ref m3, .ref m4, .ref m5, .ref m6, .ref m7, .int wi, .int wst, .int wpt])), (qe, .inl (cZ, 2000, .inl g_5))] := hD
        refine W.widen (k := 0) (n := 0) (by decide) (by decide) ?_
        exact x_vret (ws := [(h0, .inr (10, [.ref qc, .ref qm, .ref qe])), (qm, .inr (2, [.ref m0, .ref m1, .ref m2, .ref m3, .ref m4, .ref m5, .ref m6, .ref m7, .int wi, .int wst, .int wpt])), (qe, .inl (cZ, 2000, .inl g_5))]) E hr hlocks (hP.sub [0, 1, 2] rfl) (hD.sub [0, 1, 2] (by decide) rfl) hS ⟨wpt, g_5, rfl⟩ d_Grammar_openBlock_34
  ·
    refine lv_aload_n E.1 E.2.1 d_Grammar_openBlock_6 rfl (lv_at hl 0 rfl) ?_
    refine x_get E hP (C := "WasmReader$Grammar") (T := T_Grammar) (N := 3) (ci := 10) 0 (v := .ref qm) 1 in_Grammar rfl rfl (by decide) m_180 rfl d_Grammar_openBlock_7 ?_
    refine lv_iconst (v := 1) E.1 E.2.1 d_Grammar_openBlock_10 (by decide) ?_
    refine x_put E hP hD hS (C := "WasmReader$WasmModule") (T := T_WasmModule) (N := 11) (ci := 2) 1 (v := .int 1) 10 (t0 := t_WasmModule) (tk := .boolean) in_WasmModule tok_WasmModule nok_WasmModule rfl rfl (by decide) m_293 rfl rfl (by decide) (by decide) (Nat.le_of_ble_eq_true rfl) d_Grammar_openBlock_11 (fun H locs hP hD hS => ?_)
    have hP : va_P D classes [(h0, .inr (10, [.ref qc, .ref qm, .ref qe])), (qm, .inr (2, [.ref m0, .ref m1, .ref m2, .ref m3, .ref m4, .ref m5, .ref m6, .ref m7, .int wi, .int wst, .int 1])), (qe, .inl (cZ, 2000, .inl fe))] H := hP
    have hD : va_D (va_A [(h0, .inr (10, [.ref qc, .ref qm, .ref qe])), (qm, .inr (2, [.ref m0, .ref m1, .ref m2, .ref m3, .ref m4, .ref m5, .ref m6, .ref m7, .int wi, .int wst, .int wpt])), (qe, .inl (cZ, 2000, .inl fe))] s.heap.size) [(h0, .inr (10, [.ref qc, .ref qm, .ref qe])), (qm, .inr (2, [.ref m0, .ref m1, .ref m2, .ref m3, .ref m4, .ref m5, .ref m6, .ref m7, .int wi, .int wst, .int 1])), (qe, .inl (cZ, 2000, .inl fe))] := hD
    refine lv_iload_n E.1 E.2.1 d_Grammar_openBlock_14 rfl (lv_at hl 1 rfl) ?_
    refine lv_if_lt (tgt := 34) E.1 E.2.1 d_Grammar_openBlock_15 (by decide) (fun hc_6 => ?_) (fun hc_6 => ?_)
    ·
      refine W.widen (k := 0) (n := 0) (by decide) (by decide) ?_
      exact x_vret (ws := [(h0, .inr (10, [.ref qc, .ref qm, .ref qe])), (qm, .inr (2, [.ref m0, .ref m1, .ref m2, .ref m3, .ref m4, .ref m5, .ref m6, .ref m7, .int wi, .int wst, .int 1])), (qe, .inl (cZ, 2000, .inl fe))]) E hr hlocks (hP.sub [0, 1, 2] rfl) (hD.sub [0, 1, 2] (by decide) rfl) hS ⟨1, fe, rfl⟩ d_Grammar_openBlock_34
    ·
      obtain ⟨jv_7, hjv_7, ejv_7⟩ := nI_of hc_6
      subst ejv_7
      refine lv_iload_n E.1 E.2.1 d_Grammar_openBlock_18 rfl (lv_at hl 1 rfl) ?_
      refine lv_aload_n E.1 E.2.1 d_Grammar_openBlock_19 rfl (lv_at hl 0 rfl) ?_
      refine x_get E hP (C := "WasmReader$Grammar") (T := T_Grammar) (N := 3) (ci := 10) 0 (v := .ref qe) 2 in_Grammar rfl rfl (by decide) m_181 rfl d_Grammar_openBlock_20 ?_
      refine va_alen E.1 E.2.1 E.2.2.2.2.2 hP 2 3 rfl rfl (v := 2000) rfl d_Grammar_openBlock_23 ?_
      refine lv_icmp_ge (tgt := 34) E.1 E.2.1 d_Grammar_openBlock_24 (by decide) (fun hc_8 => ?_) (fun hc_8 => ?_)
      ·
        have hc_8 : 2000 ≤ jv_7 := (nI_leI (a := 2000) (b := jv_7) (by omega) (by omega)).mp hc_8
        refine W.widen (k := 0) (n := 0) (by decide) (by decide) ?_
        exact x_vret (ws := [(h0, .inr (10, [.ref qc, .ref qm, .ref qe])), (qm, .inr (2, [.ref m0, .ref m1, .ref m2, .ref m3, .ref m4, .ref m5, .ref m6, .ref m7, .int wi, .int wst, .int 1])), (qe, .inl (cZ, 2000, .inl fe))]) E hr hlocks (hP.sub [0, 1, 2] rfl) (hD.sub [0, 1, 2] (by decide) rfl) hS ⟨1, fe, rfl⟩ d_Grammar_openBlock_34
      ·
        have hc_8 : ¬ (2000 ≤ jv_7) := fun hq_ => hc_8 ((nI_leI (a := 2000) (b := jv_7) (by omega) (by omega)).mpr hq_)
        refine lv_aload_n E.1 E.2.1 d_Grammar_openBlock_27 rfl (lv_at hl 0 rfl) ?_
        refine x_get E hP (C := "WasmReader$Grammar") (T := T_Grammar) (N := 3) (ci := 10) 0 (v := .ref qe) 2 in_Grammar rfl rfl (by decide) m_181 rfl d_Grammar_openBlock_28 ?_
        refine lv_iload_n E.1 E.2.1 d_Grammar_openBlock_31 rfl (lv_at hl 1 rfl) ?_
        refine lv_iload_n E.1 E.2.1 d_Grammar_openBlock_32 rfl (lv_at hl 2 rfl) ?_
        refine va_zast E.1 E.2.1 E.2.2.2.2.2 hP hD hS 2 3 rfl rfl (i := nI jv_7) (x := z) (vp_in_nI (n := jv_7) (by omega) (by decide)) d_Grammar_openBlock_33 (fun H locs hP hD hS => ?_)
        generalize upd fe (Int32.toNatClampNeg (nI jv_7)) (vp_nar .boolean z) = g_9 at hP hD
        have hP : va_P D classes [(h0, .inr (10, [.ref qc, .ref qm, .ref qe])), (qm, .inr (2, [.ref m0, .ref m1, .ref m2, .ref m3, .ref m4, .ref m5, .ref m6, .ref m7, .int wi, .int wst, .int 1])), (qe, .inl (cZ, 2000, .inl g_9))] H := hP
        have hD : va_D (va_A [(h0, .inr (10, [.ref qc, .ref qm, .ref qe])), (qm, .inr (2, [.ref m0, .ref m1, .ref m2, .ref m3, .ref m4, .ref m5, .ref m6, .ref m7, .int wi, .int wst, .int wpt])), (qe, .inl (cZ, 2000, .inl fe))] s.heap.size) [(h0, .inr (10, [.ref qc, .ref qm, .ref qe])), (qm, .inr (2, [.ref m0, .ref m1, .ref m2, .ref m3, .ref m4, .ref m5, .ref m6, .ref m7, .int wi, .int wst, .int 1])), (qe, .inl (cZ, 2000, .inl g_9))] := hD
        refine W.widen (k := 0) (n := 0) (by decide) (by decide) ?_
        exact x_vret (ws := [(h0, .inr (10, [.ref qc, .ref qm, .ref qe])), (qm, .inr (2, [.ref m0, .ref m1, .ref m2, .ref m3, .ref m4, .ref m5, .ref m6, .ref m7, .int wi, .int wst, .int 1])), (qe, .inl (cZ, 2000, .inl g_9))]) E hr hlocks (hP.sub [0, 1, 2] rfl) (hD.sub [0, 1, 2] (by decide) rfl) hS ⟨1, g_9, rfl⟩ d_Grammar_openBlock_34
set_option maxHeartbeats 4000000 in
set_option maxRecDepth 100000 in
theorem c_Grammar_labels (l : Launch) (D : va_G) (cB cI cJ cZ : ClassId) (sz : Nat) (h0 : Nat) (qc : Nat) (qm : Nat) (qe : Nat) (qb : Nat) (ln : Int32) (a : Nat) (b : Nat) (ml : Int32) (f : Nat → Int32) (m0 : Nat) (m1 : Nat) (m2 : Nat) (m3 : Nat) (m4 : Nat) (m5 : Nat) (m6 : Nat) (m7 : Nat) (wi : Int32) (wst : Int32) (wpt : Int32) (hab : a ≤ b) (hb4 : b ≤ 4000) : Met l y_Grammar_labels (Cond.code y_Grammar_labels prog_6_method_27_code 3 none :: xtb) ({ frames := 3, cells := 0, slots := 0, locals := 67 }) (xP D [(cB, .byte), (cI, .int), (cJ, .long), (cZ, .boolean)] [.ref h0] [(h0, .inr (10, [.ref qc, .ref qm, .ref qe])), (qc, .inr (1, [.ref qb, .int ln, .int (nI a), .int (nI b), .int ml])), (qb, .inl (cB, 4000, .inl f)), (qm, .inr (2, [.ref m0, .ref m1, .ref m2, .ref m3, .ref m4, .ref m5, .ref m6, .ref m7, .int wi, .int wst, .int wpt]))] sz) (xQv D [(cB, .byte), (cI, .int), (cJ, .long), (cZ, .boolean)] [(h0, .inr (10, [.ref qc, .ref qm, .ref qe])), (qc, .inr (1, [.ref qb, .int ln, .int (nI a), .int (nI b), .int ml])), (qb, .inl (cB, 4000, .inl f)), (qm, .inr (2, [.ref m0, .ref m1, .ref m2, .ref m3, .ref m4, .ref m5, .ref m6, .ref m7, .int wi, .int wst, .int wpt]))] sz (fun u => ∃ (a2 : Nat), ∃ (ml2 : Int32), ∃ (wp2 : Int32), (a ≤ a2) ∧ (a2 ≤ b) ∧ u = [(h0, .inr (10, [.ref qc, .ref qm, .ref qe])), (qc, .inr (1, [.ref qb, .int ln, .int (nI a2), .int (nI b), .int ml2])), (qb, .inl (cB, 4000, .inl f)), (qm, .inr (2, [.ref m0, .ref m1, .ref m2, .ref m3, .ref m4, .ref m5, .ref m6, .ref m7, .int wi, .int wst, .int wp2]))])) 0 0 (va_A [(h0, .inr (10, [.ref qc, .ref qm, .ref qe])), (qc, .inr (1, [.ref qb, .int ln, .int (nI a), .int (nI b), .int ml])), (qb, .inl (cB, 4000, .inl f)), (qm, .inr (2, [.ref m0, .ref m1, .ref m2, .ref m3, .ref m4, .ref m5, .ref m6, .ref m7, .int wi, .int wst, .int wpt]))] sz) := by
  refine x_met (Qc := fun s => xQv D [(cB, .byte), (cI, .int), (cJ, .long), (cZ, .boolean)] [(h0, .inr (10, [.ref qc, .ref qm, .ref qe])), (qc, .inr (1, [.ref qb, .int ln, .int (nI a), .int (nI b), .int ml])), (qb, .inl (cB, 4000, .inl f)), (qm, .inr (2, [.ref m0, .ref m1, .ref m2, .ref m3, .ref m4, .ref m5, .ref m6, .ref m7, .int wi, .int wst, .int wpt]))] s.heap.size (fun u => ∃ (a2 : Nat), ∃ (ml2 : Int32), ∃ (wp2 : Int32), (a ≤ a2) ∧ (a2 ≤ b) ∧ u = [(h0, .inr (10, [.ref qc, .ref qm, .ref qe])), (qc, .inr (1, [.ref qb, .int ln, .int (nI a2), .int (nI b), .int ml2])), (qb, .inl (cB, 4000, .inl f)), (qm, .inr (2, [.ref m0, .ref m1, .ref m2, .ref m3, .ref m4, .ref m5, .ref m6, .ref m7, .int wi, .int wst, .int wp2]))])) (fr := fun s => va_A [(h0, .inr (10, [.ref qc, .ref qm, .ref qe])), (qc, .inr (1, [.ref qb, .int ln, .int (nI a), .int (nI b), .int ml])), (qb, .inl (cB, 4000, .inl f)), (qm, .inr (2, [.ref m0, .ref m1, .ref m2, .ref m3, .ref m4, .ref m5, .ref m6, .ref m7, .int wi, .int wst, .int wpt]))] s.heap.size) "WasmReader$Grammar" (by decide +kernel) rfl (Nat.le_of_ble_eq_true rfl) (fun s h => by rw [h]) (fun s h => by rw [h]) ?_
  intro p e s m below meth c ls E hr hlocks hinit hl hP hD hA hS hZ hadm
  have hl : lv_has ls 3 [(0, .ref h0)] := hl
  refine lv_aload_n E.1 E.2.1 d_Grammar_labels_0 rfl (lv_at hl 0 rfl) ?_
  refine x_get E hP (C := "WasmReader$Grammar") (T := T_Grammar) (N := 3) (ci := 10) 0 (v := .ref qc) 0 in_Grammar rfl rfl (by decide) m_179 rfl d_Grammar_labels_1 ?_
  have hPc := hP.sub (ws' := [(qc, .inr (1, [.ref qb, .int ln, .int (nI a), .int (nI b), .int ml])), (qb, .inl (cB, 4000, .inl f))]) [1, 2] rfl
  have hDc := hD.sub (ws' := [(qc, .inr (1, [.ref qb, .int ln, .int (nI a), .int (nI b), .int ml])), (qb, .inl (cB, 4000, .inl f))]) [1, 2] (by decide) rfl
  have hFc := va_free (wc := [(qc, .inr (1, [.ref qb, .int ln, .int (nI a), .int (nI b), .int ml])), (qb, .inl (cB, 4000, .inl f))]) hD hS hA [1, 2] rfl
  refine x_ri (ws := [(h0, .inr (10, [.ref qc, .ref qm, .ref qe])), (qc, .inr (1, [.ref qb, .int ln, .int (nI a), .int (nI b), .int ml])), (qb, .inl (cB, 4000, .inl f)), (qm, .inr (2, [.ref m0, .ref m1, .ref m2, .ref m3, .ref m4, .ref m5, .ref m6, .ref m7, .int wi, .int wst, .int wpt]))]) (wc := [(qc, .inr (1, [.ref qb, .int ln, .int (nI a), .int (nI b), .int ml])), (qb, .inl (cB, 4000, .inl f))]) (wr := [(h0, .inr (10, [.ref qc, .ref qm, .ref qe])), (qm, .inr (2, [.ref m0, .ref m1, .ref m2, .ref m3, .ref m4, .ref m5, .ref m6, .ref m7, .int wi, .int wst, .int wpt]))]) (x_V (As := []) (C := "WasmReader$Cursor") E (c_Cursor_vector l D cB cI cJ cZ s.heap.size qc qb ln a b ml f (by omega) (by omega)) m_246 m_94 m_280 m_247 m_248 nm_Cursor_vector hPc hDc hZ hS hFc rfl rfl rfl hl.1 rfl (Nat.le_of_ble_eq_true rfl) d_Grammar_labels_4 rfl rfl (by decide) (by decide) (by decide) (by decide)) hP hD hS hA [1, 2] [0, 3] rfl rfl (by decide) (by decide) (fun r_9 u H locs hw hP hD hS => ?_)
  obtain ⟨a2_4, ml2_5, k_6, er_7, hf_1, hf_2, hf_3, rfl⟩ := hw
  have er_7 := er_7.symm
  subst er_7
  have hP : va_P D classes [(h0, .inr (10, [.ref qc, .ref qm, .ref qe])), (qm, .inr (2, [.ref m0, .ref m1, .ref m2, .ref m3, .ref m4, .ref m5, .ref m6, .ref m7, .int wi, .int wst, .int wpt])), (qc, .inr (1, [.ref qb, .int ln, .int (nI a2_4), .int (nI b), .int ml2_5])), (qb, .inl (cB, 4000, .inl f))] H := hP
  have hD : va_D (va_A [(h0, .inr (10, [.ref qc, .ref qm, .ref qe])), (qc, .inr (1, [.ref qb, .int ln, .int (nI a), .int (nI b), .int ml])), (qb, .inl (cB, 4000, .inl f)), (qm, .inr (2, [.ref m0, .ref m1, .ref m2, .ref m3, .ref m4, .ref m5, .ref m6, .ref m7, .int wi, .int wst, .int wpt]))] s.heap.size) [(h0, .inr (10, [.ref qc, .ref qm, .ref qe])), (qm, .inr (2, [.ref m0, .ref m1, .ref m2, .ref m3, .ref m4, .ref m5, .ref m6, .ref m7, .int wi, .int wst, .int wpt])), (qc, .inr (1, [.ref qb, .int ln, .int (nI a2_4), .int (nI b), .int ml2_5])), (qb, .inl (cB, 4000, .inl f))] := hD
  refine lv_istore_n (lv' := [(1, .int (nI k_6)), (0, .ref h0)]) E.1 E.2.1 d_Grammar_labels_7 rfl hl (by decide) rfl (fun ls hl => ?_)
  refine lv_iload_n E.1 E.2.1 d_Grammar_labels_8 rfl (lv_at hl 0 rfl) ?_
  refine lv_bipush (v := 20) E.1 E.2.1 d_Grammar_labels_9 (by decide) ?_
  refine lv_icmp_le (tgt := 22) E.1 E.2.1 d_Grammar_labels_11 (by decide) (fun hc_10 => ?_) (fun hc_10 => ?_)
  ·
    have hc_10 : k_6 ≤ 20 := (nI_leI (a := k_6) (b := 20) (by omega) (by omega)).mp hc_10
    refine lv_iconst (v := 0) E.1 E.2.1 d_Grammar_labels_22 (by decide) ?_
    refine lv_istore_n (lv' := [(2, .int 0), (1, .int (nI k_6)), (0, .ref h0)]) E.1 E.2.1 d_Grammar_labels_23 rfl hl (by decide) rfl (fun ls hl => ?_)
    have hl : lv_has ls 3 [(2, .int (nI 0)), (1, .int (nI k_6)), (0, .ref h0)] := hl
    have loop_11 : ∀ (j1 : Nat) (i : Nat) (aa : Nat) (mm : Int32) (ha1 : a ≤ aa) (ha2 : aa ≤ b) (hi : i ≤ k_6) (hj1 : k_6 + 1 ≤ i + j1) (H : Heap) (locs : List Loc) (ls : Array Slot), va_P D classes [(h0, .inr (10, [.ref qc, .ref qm, .ref qe])), (qm, .inr (2, [.ref m0, .ref m1, .ref m2, .ref m3, .ref m4, .ref m5, .ref m6, .ref m7, .int wi, .int wst, .int wpt])), (qc, .inr (1, [.ref qb, .int ln, .int (nI aa), .int (nI b), .int mm])), (qb, .inl (cB, 4000, .inl f))] H → va_D (va_A [(h0, .inr (10, [.ref qc, .ref qm, .ref qe])), (qc, .inr (1, [.ref qb, .int ln, .int (nI a), .int (nI b), .int ml])), (qb, .inl (cB, 4000, .inl f)), (qm, .inr (2, [.ref m0, .ref m1, .ref m2, .ref m3, .ref m4, .ref m5, .ref m6, .ref m7, .int wi, .int wst, .int wpt]))] s.heap.size) [(h0, .inr (10, [.ref qc, .ref qm, .ref qe])), (qm, .inr (2, [.ref m0, .ref m1, .ref m2, .ref m3, .ref m4, .ref m5, .ref m6, .ref m7, .int wi, .int wst, .int wpt])), (qc, .inr (1, [.ref qb, .int ln, .int (nI aa), .int (nI b), .int mm])), (qb, .inl (cB, 4000, .inl f))] → va_S (va_A [(h0, .inr (10, [.ref qc, .ref qm, .ref qe])), (qc, .inr (1, [.ref qb, .int ln, .int (nI a), .int (nI b), .int ml])), (qb, .inl (cB, 4000, .inl f)), (qm, .inr (2, [.ref m0, .ref m1, .ref m2, .ref m3, .ref m4, .ref m5, .ref m6, .ref m7, .int wi, .int wst, .int wpt]))] s.heap.size) s.heap H locs → lv_has ls 3 [(2, .int (nI i)), (1, .int (nI k_6)), (0, .ref h0)] → W p l e (({ frames := 3, cells := 0, slots := 0, locals := 67 }) : Room) s m ([.ref h0] : List Value).toArray below meth c H locs 0 0 (MQ below (xQv D [(cB, .byte), (cI, .int), (cJ, .long), (cZ, .boolean)] [(h0, .inr (10, [.ref qc, .ref qm, .ref qe])), (qc, .inr (1, [.ref qb, .int ln, .int (nI a), .int (nI b), .int ml])), (qb, .inl (cB, 4000, .inl f)), (qm, .inr (2, [.ref m0, .ref m1, .ref m2, .ref m3, .ref m4, .ref m5, .ref m6, .ref m7, .int wi, .int wst, .int wpt]))] s.heap.size (fun u => ∃ (a2 : Nat), ∃ (ml2 : Int32), ∃ (wp2 : Int32), (a ≤ a2) ∧ (a2 ≤ b) ∧ u = [(h0, .inr (10, [.ref qc, .ref qm, .ref qe])), (qc, .inr (1, [.ref qb, .int ln, .int (nI a2), .int (nI b), .int ml2])), (qb, .inl (cB, 4000, .inl f)), (qm, .inr (2, [.ref m0, .ref m1, .ref m2, .ref m3, .ref m4, .ref m5, .ref m6, .ref m7, .int wi, .int wst, .int wp2]))])) ([.ref h0] : List Value).toArray s 0 0 (va_A [(h0, .inr (10, [.ref qc, .ref qm, .ref qe])), (qc, .inr (1, [.ref qb, .int ln, .int (nI a), .int (nI b), .int ml])), (qb, .inl (cB, 4000, .inl f)), (qm, .inr (2, [.ref m0, .ref m1, .ref m2, .ref m3, .ref m4, .ref m5, .ref m6, .ref m7, .int wi, .int wst, .int wpt]))] s.heap.size)) (F0 m 24 ls []) := by
      intro j1
      induction j1 with
      | zero =>
        intro i aa mm ha1 ha2 hi hj1
        exact absurd hj1 (by omega)
      | succ j1 ih_j1 =>
        intro i aa mm ha1 ha2 hi hj1 H locs ls hP hD hS hl
        refine lv_iload_n E.1 E.2.1 d_Grammar_labels_24 rfl (lv_at hl 0 rfl) ?_
        refine lv_iload_n E.1 E.2.1 d_Grammar_labels_25 rfl (lv_at hl 1 rfl) ?_
        refine lv_icmp_ge (tgt := 53) E.1 E.2.1 d_Grammar_labels_26 (by decide) (fun hc_12 => ?_) (fun hc_12 => ?_)
        ·
          have hc_12 : k_6 ≤ i := (nI_leI (a := k_6) (b := i) (by omega) (by omega)).mp hc_12
          refine lv_aload_n E.1 E.2.1 d_Grammar_labels_53 rfl (lv_at hl 2 rfl) ?_
          refine x_get E hP (C := "WasmReader$Grammar") (T := T_Grammar) (N := 3) (ci := 10) 0 (v := .ref qc) 0 in_Grammar rfl rfl (by decide) m_179 rfl d_Grammar_labels_54 ?_
          have hPc := hP.sub (ws' := [(qc, .inr (1, [.ref qb, .int ln, .int (nI aa), .int (nI b), .int mm])), (qb, .inl (cB, 4000, .inl f))]) [2, 3] rfl
          have hDc := hD.sub (ws' := [(qc, .inr (1, [.ref qb, .int ln, .int (nI aa), .int (nI b), .int mm])), (qb, .inl (cB, 4000, .inl f))]) [2, 3] (by decide) rfl
          have hFc := va_free (wc := [(qc, .inr (1, [.ref qb, .int ln, .int (nI aa), .int (nI b), .int mm])), (qb, .inl (cB, 4000, .inl f))]) hD hS hA [2, 3] rfl
          refine x_rl (ws := [(h0, .inr (10, [.ref qc, .ref qm, .ref qe])), (qm, .inr (2, [.ref m0, .ref m1, .ref m2, .ref m3, .ref m4, .ref m5, .ref m6, .ref m7, .int wi, .int wst, .int wpt])), (qc, .inr (1, [.ref qb, .int ln, .int (nI aa), .int (nI b), .int mm])), (qb, .inl (cB, 4000, .inl f))]) (wc := [(qc, .inr (1, [.ref qb, .int ln, .int (nI aa), .int (nI b), .int mm])), (qb, .inl (cB, 4000, .inl f))]) (wr := [(h0, .inr (10, [.ref qc, .ref qm, .ref qe])), (qm, .inr (2, [.ref m0, .ref m1, .ref m2, .ref m3, .ref m4, .ref m5, .ref m6, .ref m7, .int wi, .int wst, .int wpt]))]) (x_V (As := []) (C := "WasmReader$Cursor") E (c_Cursor_unsigned l D cB cI cJ cZ H.size qc qb ln aa b mm f (by omega) (by omega)) m_233 m_94 m_392 m_234 m_235 nm_Cursor_unsigned hPc hDc hZ hS hFc rfl rfl rfl hl.1 rfl (Nat.le_of_ble_eq_true rfl) d_Grammar_labels_57 rfl rfl (by decide) (by decide) (by decide) (by decide)) hP hD hS hA [2, 3] [0, 1] rfl rfl (by decide) (by decide) (fun r_19 u H locs hw hP hD hS => ?_)
          obtain ⟨a2_16, ml2_17, hf_13, hf_14, hf_15, rfl⟩ := hw
          have hP : va_P D classes [(h0, .inr (10, [.ref qc, .ref qm, .ref qe])), (qm, .inr (2, [.ref m0, .ref m1, .ref m2, .ref m3, .ref m4, .ref m5, .ref m6, .ref m7, .int wi, .int wst, .int wpt])), (qc, .inr (1, [.ref qb, .int ln, .int (nI a2_16), .int (nI b), .int ml2_17])), (qb, .inl (cB, 4000, .inl f))] H := hP
          have hD : va_D (va_A [(h0, .inr (10, [.ref qc, .ref qm, .ref qe])), (qc, .inr (1, [.ref qb, .int ln, .int (nI a), .int (nI b), .int ml])), (qb, .inl (cB, 4000, .inl f)), (qm, .inr (2, [.ref m0, .ref m1, .ref m2, .ref m3, .ref m4, .ref m5, .ref m6, .ref m7, .int wi, .int wst, .int wpt]))] s.heap.size) [(h0, .inr (10, [.ref qc, .ref qm, .ref qe])), (qm, .inr (2, [.ref m0, .ref m1, .ref m2, .ref m3, .ref m4, .ref m5, .ref m6, .ref m7, .int wi, .int wst, .int wpt])), (qc, .inr (1, [.ref qb, .int ln, .int (nI a2_16), .int (nI b), .int ml2_17])), (qb, .inl (cB, 4000, .inl f))] := hD
          refine lv_pop2_2 E.1 E.2.1 d_Grammar_labels_60 rfl ?_
          refine W.widen (k := 0) (n := 0) (by decide) (by decide) ?_
          exact x_vret (ws := [(h0, .inr (10, [.ref qc, .ref qm, .ref qe])), (qc, .inr (1, [.ref qb, .int ln, .int (nI a2_16), .int (nI b), .int ml2_17])), (qb, .inl (cB, 4000, .inl f)), (qm, .inr (2, [.ref m0, .ref m1, .ref m2, .ref m3, .ref m4, .ref m5, .ref m6, .ref m7, .int wi, .int wst, .int wpt]))]) E hr hlocks (hP.sub [0, 2, 3, 1] rfl) (hD.sub [0, 2, 3, 1] (by decide) rfl) hS ⟨a2_16, ml2_17, wpt, (by omega), (by omega), rfl⟩ d_Grammar_labels_61
        ·
          have hc_12 : ¬ (k_6 ≤ i) := fun hq_ => hc_12 ((nI_leI (a := k_6) (b := i) (by omega) (by omega)).mpr hq_)
          refine lv_aload_n E.1 E.2.1 d_Grammar_labels_29 rfl (lv_at hl 2 rfl) ?_
          refine x_get E hP (C := "WasmReader$Grammar") (T := T_Grammar) (N := 3) (ci := 10) 0 (v := .ref qc) 0 in_Grammar rfl rfl (by decide) m_179 rfl d_Grammar_labels_30 ?_
          refine x_get E hP (C := "WasmReader$Cursor") (T := T_Cursor) (N := 5) (ci := 1) 2 (v := .int mm) 4 in_Cursor rfl rfl (by decide) m_294 rfl d_Grammar_labels_33 ?_
          refine lv_if_ne (tgt := 53) E.1 E.2.1 d_Grammar_labels_36 (by decide) (fun hc_20 => ?_) (fun hc_20 => ?_)
          ·
            refine lv_aload_n E.1 E.2.1 d_Grammar_labels_53 rfl (lv_at hl 2 rfl) ?_
            refine x_get E hP (C := "WasmReader$Grammar") (T := T_Grammar) (N := 3) (ci := 10) 0 (v := .ref qc) 0 in_Grammar rfl rfl (by decide) m_179 rfl d_Grammar_labels_54 ?_
            have hPc := hP.sub (ws' := [(qc, .inr (1, [.ref qb, .int ln, .int (nI aa), .int (nI b), .int mm])), (qb, .inl (cB, 4000, .inl f))]) [2, 3] rfl
            have hDc := hD.sub (ws' := [(qc, .inr (1, [.ref qb, .int ln, .int (nI aa), .int (nI b), .int mm])), (qb, .inl (cB, 4000, .inl f))]) [2, 3] (by decide) rfl
            have hFc := va_free (wc := [(qc, .inr (1, [.ref qb, .int ln, .int (nI aa), .int (nI b), .int mm])), (qb, .inl (cB, 4000, .inl f))]) hD hS hA [2, 3] rfl
            refine x_rl (ws := [(h0, .inr (10, [.ref qc, .ref qm, .ref qe])), (qm, .inr (2, [.ref m0, .ref m1, .ref m2, .ref m3, .ref m4, .ref m5, .ref m6, .ref m7, .int wi, .int wst, .int wpt])), (qc, .inr (1, [.ref qb, .int ln, .int (nI aa), .int (nI b), .int mm])), (qb, .inl (cB, 4000, .inl f))]) (wc := [(qc, .inr (1, [.ref qb, .int ln, .int (nI aa), .int (nI b), .int mm])), (qb, .inl (cB, 4000, .inl f))]) (wr := [(h0, .inr (10, [.ref qc, .ref qm, .ref qe])), (qm, .inr (2, [.ref m0, .ref m1, .ref m2, .ref m3, .ref m4, .ref m5, .ref m6, .ref m7, .int wi, .int wst, .int wpt]))]) (x_V (As := []) (C := "WasmReader$Cursor") E (c_Cursor_unsigned l D cB cI cJ cZ H.size qc qb ln aa b mm f (by omega) (by omega)) m_233 m_94 m_392 m_234 m_235 nm_Cursor_unsigned hPc hDc hZ hS hFc rfl rfl rfl hl.1 rfl (Nat.le_of_ble_eq_true rfl) d_Grammar_labels_57 rfl rfl (by decide) (by decide) (by decide) (by decide)) hP hD hS hA [2, 3] [0, 1] rfl rfl (by decide) (by decide) (fun r_27 u H locs hw hP hD hS => ?_)
            obtain ⟨a2_24, ml2_25, hf_21, hf_22, hf_23, rfl⟩ := hw
            have hP : va_P D classes [(h0, .inr (10, [.ref qc, .ref qm, .ref qe])), (qm, .inr (2, [.ref m0, .ref m1, .ref m2, .ref m3, .ref m4, .ref m5, .ref m6, .ref m7, .int wi, .int wst, .int wpt])), (qc, .inr (1, [.ref qb, .int ln, .int (nI a2_24), .int (nI b), .int ml2_25])), (qb, .inl (cB, 4000, .inl f))] H := hP
            have hD : va_D (va_A [(h0, .inr (10, [.ref qc, .ref qm, .ref qe])), (qc, .inr (1, [.ref qb, .int ln, .int (nI a), .int (nI b), .int ml])), (qb, .inl (cB, 4000, .inl f)), (qm, .inr (2, [.ref m0, .ref m1, .ref m2, .ref m3, .ref m4, .ref m5, .ref m6, .ref m7, .int wi, .int wst, .int wpt]))] s.heap.size) [(h0, .inr (10, [.ref qc, .ref qm, .ref qe])), (qm, .inr (2, [.ref m0, .ref m1, .ref m2, .ref m3, .ref m4, .ref m5, .ref m6, .ref m7, .int wi, .int wst, .int wpt])), (qc, .inr (1, [.ref qb, .int ln, .int (nI a2_24), .int (nI b), .int ml2_25])), (qb, .inl (cB, 4000, .inl f))] := hD
            refine lv_pop2_2 E.1 E.2.1 d_Grammar_labels_60 rfl ?_
            refine W.widen (k := 0) (n := 0) (by decide) (by decide) ?_
            exact x_vret (ws := [(h0, .inr (10, [.ref qc, .ref qm, .ref qe])), (qc, .inr (1, [.ref qb, .int ln, .int (nI a2_24), .int (nI b), .int ml2_25])), (qb, .inl (cB, 4000, .inl f)), (qm, .inr (2, [.ref m0, .ref m1, .ref m2, .ref m3, .ref m4, .ref m5, .ref m6, .ref m7, .int wi, .int wst, .int wpt]))]) E hr hlocks (hP.sub [0, 2, 3, 1] rfl) (hD.sub [0, 2, 3, 1] (by decide) rfl) hS ⟨a2_24, ml2_25, wpt, (by omega), (by omega), rfl⟩ d_Grammar_labels_61
          ·
            refine lv_aload_n E.1 E.2.1 d_Grammar_labels_39 rfl (lv_at hl 2 rfl) ?_
            refine x_get E hP (C := "WasmReader$Grammar") (T := T_Grammar) (N := 3) (ci := 10) 0 (v := .ref qc) 0 in_Grammar rfl rfl (by decide) m_179 rfl d_Grammar_labels_40 ?_
            have hPc := hP.sub (ws' := [(qc, .inr (1, [.ref qb, .int ln, .int (nI aa), .int (nI b), .int mm])), (qb, .inl (cB, 4000, .inl f))]) [2, 3] rfl
            have hDc := hD.sub (ws' := [(qc, .inr (1, [.ref qb, .int ln, .int (nI aa), .int (nI b), .int mm])), (qb, .inl (cB, 4000, .inl f))]) [2, 3] (by decide) rfl
            have hFc := va_free (wc := [(qc, .inr (1, [.ref qb, .int ln, .int (nI aa), .int (nI b), .int mm])), (qb, .inl (cB, 4000, .inl f))]) hD hS hA [2, 3] rfl
            refine x_rl (ws := [(h0, .inr (10, [.ref qc, .ref qm, .ref qe])), (qm, .inr (2, [.ref m0, .ref m1, .ref m2, .ref m3, .ref m4, .ref m5, .ref m6, .ref m7, .int wi, .int wst, .int wpt])), (qc, .inr (1, [.ref qb, .int ln, .int (nI aa), .int (nI b), .int mm])), (qb, .inl (cB, 4000, .inl f))]) (wc := [(qc, .inr (1, [.ref qb, .int ln, .int (nI aa), .int (nI b), .int mm])), (qb, .inl (cB, 4000, .inl f))]) (wr := [(h0, .inr (10, [.ref qc, .ref qm, .ref qe])), (qm, .inr (2, [.ref m0, .ref m1, .ref m2, .ref m3, .ref m4, .ref m5, .ref m6, .ref m7, .int wi, .int wst, .int wpt]))]) (x_V (As := []) (C := "WasmReader$Cursor") E (c_Cursor_unsigned l D cB cI cJ cZ H.size qc qb ln aa b mm f (by omega) (by omega)) m_233 m_94 m_392 m_234 m_235 nm_Cursor_unsigned hPc hDc hZ hS hFc rfl rfl rfl hl.1 rfl (Nat.le_of_ble_eq_true rfl) d_Grammar_labels_43 rfl rfl (by decide) (by decide) (by decide) (by decide)) hP hD hS hA [2, 3] [0, 1] rfl rfl (by decide) (by decide) (fun r_34 u H locs hw hP hD hS => ?_)
            obtain ⟨a2_31, ml2_32, hf_28, hf_29, hf_30, rfl⟩ := hw
            have hP : va_P D classes [(h0, .inr (10, [.ref qc, .ref qm, .ref qe])), (qm, .inr (2, [.ref m0, .ref m1, .ref m2, .ref m3, .ref m4, .ref m5, .ref m6, .ref m7, .int wi, .int wst, .int wpt])), (qc, .inr (1, [.ref qb, .int ln, .int (nI a2_31), .int (nI b), .int ml2_32])), (qb, .inl (cB, 4000, .inl f))] H := hP
            have hD : va_D (va_A [(h0, .inr (10, [.ref qc, .ref qm, .ref qe])), (qc, .inr (1, [.ref qb, .int ln, .int (nI a), .int (nI b), .int ml])), (qb, .inl (cB, 4000, .inl f)), (qm, .inr (2, [.ref m0, .ref m1, .ref m2, .ref m3, .ref m4, .ref m5, .ref m6, .ref m7, .int wi, .int wst, .int wpt]))] s.heap.size) [(h0, .inr (10, [.ref qc, .ref qm, .ref qe])), (qm, .inr (2, [.ref m0, .ref m1, .ref m2, .ref m3, .ref m4, .ref m5, .ref m6, .ref m7, .int wi, .int wst, .int wpt])), (qc, .inr (1, [.ref qb, .int ln, .int (nI a2_31), .int (nI b), .int ml2_32])), (qb, .inl (cB, 4000, .inl f))] := hD
            refine lv_pop2_2 E.1 E.2.1 d_Grammar_labels_46 rfl ?_
            refine lv_iinc (v := nI (i + 1)) (lv' := [(2, .int (nI (i + 1))), (1, .int (nI k_6)), (0, .ref h0)]) E.1 E.2.1 d_Grammar_labels_47 hl (k := 0) rfl (nI_add i 1) (by decide) rfl (fun ls hl => ?_)
            refine lv_goto (tgt := 24) E.1 E.2.1 d_Grammar_labels_50 (by decide) ?_
            exact ih_j1 (i + 1) a2_31 ml2_32 (by omega) (by omega) (by omega) (by omega) _ _ _ (hP.sub [0, 1, 2, 3] rfl) (hD.sub [0, 1, 2, 3] (by decide) rfl) hS (lv_sub hl [0, 1, 2] rfl)
    exact loop_11 (k_6 + 1) 0 a2_4 ml2_5 (by omega) (by omega) (by omega) (by omega) _ _ _ (hP.sub [0, 1, 2, 3] rfl) (hD.sub [0, 1, 2, 3] (by decide) rfl) hS (lv_sub hl [0, 1, 2] rfl)
  ·
    have hc_10 : ¬ (k_6 ≤ 20) := fun hq_ => hc_10 ((nI_leI (a := k_6) (b := 20) (by omega) (by omega)).mpr hq_)
    refine lv_aload_n E.1 E.2.1 d_Grammar_labels_14 rfl (lv_at hl 1 rfl) ?_
    refine x_get E hP (C := "WasmReader$Grammar") (T := T_Grammar) (N := 3) (ci := 10) 0 (v := .ref qm) 1 in_Grammar rfl rfl (by decide) m_180 rfl d_Grammar_labels_15 ?_
    refine lv_iconst (v := 1) E.1 E.2.1 d_Grammar_labels_18 (by decide) ?_
    refine x_put E hP hD hS (C := "WasmReader$WasmModule") (T := T_WasmModule) (N := 11) (ci := 2) 1 (v := .int 1) 10 (t0 := t_WasmModule) (tk := .boolean) in_WasmModule tok_WasmModule nok_WasmModule rfl rfl (by decide) m_293 rfl rfl (by decide) (by decide) (Nat.le_of_ble_eq_true rfl) d_Grammar_labels_19 (fun H locs hP hD hS => ?_)
    have hP : va_P D classes [(h0, .inr (10, [.ref qc, .ref qm, .ref qe])), (qm, .inr (2, [.ref m0, .ref m1, .ref m2, .ref m3, .ref m4, .ref m5, .ref m6, .ref m7, .int wi, .int wst, .int 1])), (qc, .inr (1, [.ref qb, .int ln, .int (nI a2_4), .int (nI b), .int ml2_5])), (qb, .inl (cB, 4000, .inl f))] H := hP
    have hD : va_D (va_A [(h0, .inr (10, [.ref qc, .ref qm, .ref qe])), (qc, .inr (1, [.ref qb, .int ln, .int (nI a), .int (nI b), .int ml])), (qb, .inl (cB, 4000, .inl f)), (qm, .inr (2, [.ref m0, .ref m1, .ref m2, .ref m3, .ref m4, .ref m5, .ref m6, .ref m7, .int wi, .int wst, .int wpt]))] s.heap.size) [(h0, .inr (10, [.ref qc, .ref qm, .ref qe])), (qm, .inr (2, [.ref m0, .ref m1, .ref m2, .ref m3, .ref m4, .ref m5, .ref m6, .ref m7, .int wi, .int wst, .int 1])), (qc, .inr (1, [.ref qb, .int ln, .int (nI a2_4), .int (nI b), .int ml2_5])), (qb, .inl (cB, 4000, .inl f))] := hD
    refine lv_iconst (v := 0) E.1 E.2.1 d_Grammar_labels_22 (by decide) ?_
    refine lv_istore_n (lv' := [(2, .int 0), (1, .int (nI k_6)), (0, .ref h0)]) E.1 E.2.1 d_Grammar_labels_23 rfl hl (by decide) rfl (fun ls hl => ?_)
    have hl : lv_has ls 3 [(2, .int (nI 0)), (1, .int (nI k_6)), (0, .ref h0)] := hl
    have loop_35 : ∀ (j1 : Nat) (i : Nat) (aa : Nat) (mm : Int32) (ha1 : a ≤ aa) (ha2 : aa ≤ b) (hi : i ≤ k_6) (hj1 : k_6 + 1 ≤ i + j1) (H : Heap) (locs : List Loc) (ls : Array Slot), va_P D classes [(h0, .inr (10, [.ref qc, .ref qm, .ref qe])), (qm, .inr (2, [.ref m0, .ref m1, .ref m2, .ref m3, .ref m4, .ref m5, .ref m6, .ref m7, .int wi, .int wst, .int 1])), (qc, .inr (1, [.ref qb, .int ln, .int (nI aa), .int (nI b), .int mm])), (qb, .inl (cB, 4000, .inl f))] H → va_D (va_A [(h0, .inr (10, [.ref qc, .ref qm, .ref qe])), (qc, .inr (1, [.ref qb, .int ln, .int (nI a), .int (nI b), .int ml])), (qb, .inl (cB, 4000, .inl f)), (qm, .inr (2, [.ref m0, .ref m1, .ref m2, .ref m3, .ref m4, .ref m5, .ref m6, .ref m7, .int wi, .int wst, .int wpt]))] s.heap.size) [(h0, .inr (10, [.ref qc, .ref qm, .ref qe])), (qm, .inr (2, [.ref m0, .ref m1, .ref m2, .ref m3, .ref m4, .ref m5, .ref m6, .ref m7, .int wi, .int wst, .int 1])), (qc, .inr (1, [.ref qb, .int ln, .int (nI aa), .int (nI b), .int mm])), (qb, .inl (cB, 4000, .inl f))] → va_S (va_A [(h0, .inr (10, [.ref qc, .ref qm, .ref qe])), (qc, .inr (1, [.ref qb, .int ln, .int (nI a), .int (nI b), .int ml])), (qb, .inl (cB, 4000, .inl f)), (qm, .inr (2, [.ref m0, .ref m1, .ref m2, .ref m3, .ref m4, .ref m5, .ref m6, .ref m7, .int wi, .int wst, .int wpt]))] s.heap.size) s.heap H locs → lv_has ls 3 [(2, .int (nI i)), (1, .int (nI k_6)), (0, .ref h0)] → W p l e (({ frames := 3, cells := 0, slots := 0, locals := 67 }) : Room) s m ([.ref h0] : List Value).toArray below meth c H locs 0 0 (MQ below (xQv D [(cB, .byte), (cI, .int), (cJ, .long), (cZ, .boolean)] [(h0, .inr (10, [.ref qc, .ref qm, .ref qe])), (qc, .inr (1, [.ref qb, .int ln, .int (nI a), .int (nI b), .int ml])), (qb, .inl (cB, 4000, .inl f)), (qm, .inr (2, [.ref m0, .ref m1, .ref m2, .ref m3, .ref m4, .ref m5, .ref m6, .ref m7, .int wi, .int wst, .int wpt]))] s.heap.size (fun u => ∃ (a2 : Nat), ∃ (ml2 : Int32), ∃ (wp2 : Int32), (a ≤ a2) ∧ (a2 ≤ b) ∧ u = [(h0, .inr (10, [.ref qc, .ref qm, .ref qe])), (qc, .inr (1, [.ref qb, .int ln, .int (nI a2), .int (nI b), .int ml2])), (qb, .inl (cB, 4000, .inl f)), (qm, .inr (2, [.ref m0, .ref m1, .ref m2, .ref m3, .ref m4, .ref m5, .ref m6, .ref m7, .int wi, .int wst, .int wp2]))])) ([.ref h0] : List Value).toArray s 0 0 (va_A [(h0, .inr (10, [.ref qc, .ref qm, .ref qe])), (qc, .inr (1, [.ref qb, .int ln, .int (nI a), .int (nI b), .int ml])), (qb, .inl (cB, 4000, .inl f)), (qm, .inr (2, [.ref m0, .ref m1, .ref m2, .ref m3, .ref m4, .ref m5, .ref m6, .ref m7, .int wi, .int wst, .int wpt]))] s.heap.size)) (F0 m 24 ls []) := by
      intro j1
      induction j1 with
      | zero =>
        intro i aa mm ha1 ha2 hi hj1
        exact absurd hj1 (by omega)
      | succ j1 ih_j1 =>
        intro i aa mm ha1 ha2 hi hj1 H locs ls hP hD hS hl
        refine lv_iload_n E.1 E.2.1 d_Grammar_labels_24 rfl (lv_at hl 0 rfl) ?_
        refine lv_iload_n E.1 E.2.1 d_Grammar_labels_25 rfl (lv_at hl 1 rfl) ?_
        refine lv_icmp_ge (tgt := 53) E.1 E.2.1 d_Grammar_labels_26 (by decide) (fun hc_36 => ?_) (fun hc_36 => ?_)
        ·
          have hc_36 : k_6 ≤ i := (nI_leI (a := k_6) (b := i) (by omega) (by omega)).mp hc_36
          refine lv_aload_n E.1 E.2.1 d_Grammar_labels_53 rfl (lv_at hl 2 rfl) ?_
          refine x_get E hP (C := "WasmReader$Grammar") (T := T_Grammar) (N := 3) (ci := 10) 0 (v := .ref qc) 0 in_Grammar rfl rfl (by decide) m_179 rfl d_Grammar_labels_54 ?_
          have hPc := hP.sub (ws' := [(qc, .inr (1, [.ref qb, .int ln, .int (nI aa), .int (nI b), .int mm])), (qb, .inl (cB, 4000, .inl f))]) [2, 3] rfl
          have hDc := hD.sub (ws' := [(qc, .inr (1, [.ref qb, .int ln, .int (nI aa), .int (nI b), .int mm])), (qb, .inl (cB, 4000, .inl f))]) [2, 3] (by decide) rfl
          have hFc := va_free (wc := [(qc, .inr (1, [.ref qb, .int ln, .int (nI aa), .int (nI b), .int mm])), (qb, .inl (cB, 4000, .inl f))]) hD hS hA [2, 3] rfl
          refine x_rl (ws := [(h0, .inr (10, [.ref qc, .ref qm, .ref qe])), (qm, .inr (2, [.ref m0, .ref m1, .ref m2, .ref m3, .ref m4, .ref m5, .ref m6, .ref m7, .int wi, .int wst, .int 1])), (qc, .inr (1, [.ref qb, .int ln, .int (nI aa), .int (nI b), .int mm])), (qb, .inl (cB, 4000, .inl f))]) (wc := [(qc, .inr (1, [.ref qb, .int ln, .int (nI aa), .int (nI b), .int mm])), (qb, .inl (cB, 4000, .inl f))]) (wr := [(h0, .inr (10, [.ref qc, .ref qm, .ref qe])), (qm, .inr (2, [.ref m0, .ref m1, .ref m2, .ref m3, .ref m4, .ref m5, .ref m6, .ref m7, .int wi, .int wst, .int 1]))]) (x_V (As := []) (C := "WasmReader$Cursor") E (c_Cursor_unsigned l D cB cI cJ cZ H.size qc qb ln aa b mm f (by omega) (by omega)) m_233 m_94 m_392 m_234 m_235 nm_Cursor_unsigned hPc hDc hZ hS hFc rfl rfl rfl hl.1 rfl (Nat.le_of_ble_eq_true rfl) d_Grammar_labels_57 rfl rfl (by decide) (by decide) (by decide) (by decide)) hP hD hS hA [2, 3] [0, 1] rfl rfl (by decide) (by decide) (fun r_43 u H locs hw hP hD hS => ?_)
          obtain ⟨a2_40, ml2_41, hf_37, hf_38, hf_39, rfl⟩ := hw
          have hP : va_P D classes [(h0, .inr (10, [.ref qc, .ref qm, .ref qe])), (qm, .inr (2, [.ref m0, .ref m1, .ref m2, .ref m3, .ref m4, .ref m5, .ref m6, .ref m7, .int wi, .int wst, .int 1])), (qc, .inr (1, [.ref qb, .int ln, .int (nI a2_40), .int (nI b), .int ml2_41])), (qb, .inl (cB, 4000, .inl f))] H := hP
          have hD : va_D (va_A [(h0, .inr (10, [.ref qc, .ref qm, .ref qe])), (qc, .inr (1, [.ref qb, .int ln, .int (nI a), .int (nI b), .int ml])), (qb, .inl (cB, 4000, .inl f)), (qm, .inr (2, [.ref m0, .ref m1, .ref m2, .ref m3, .ref m4, .ref m5, .ref m6, .ref m7, .int wi, .int wst, .int wpt]))] s.heap.size) [(h0, .inr (10, [.ref qc, .ref qm, .ref qe])), (qm, .inr (2, [.ref m0, .ref m1, .ref m2, .ref m3, .ref m4, .ref m5, .ref m6, .ref m7, .int wi, .int wst, .int 1])), (qc, .inr (1, [.ref qb, .int ln, .int (nI a2_40), .int (nI b), .int ml2_41])), (qb, .inl (cB, 4000, .inl f))] := hD
          refine lv_pop2_2 E.1 E.2.1 d_Grammar_labels_60 rfl ?_
          refine W.widen (k := 0) (n := 0) (by decide) (by decide) ?_
          exact x_vret (ws := [(h0, .inr (10, [.ref qc, .ref qm, .ref qe])), (qc, .inr (1, [.ref qb, .int ln, .int (nI a2_40), .int (nI b), .int ml2_41])), (qb, .inl (cB, 4000, .inl f)), (qm, .inr (2, [.ref m0, .ref m1, .ref m2, .ref m3, .ref m4, .ref m5, .ref m6, .ref m7, .int wi, .int wst, .int 1]))]) E hr hlocks (hP.sub [0, 2, 3, 1] rfl) (hD.sub [0, 2, 3, 1] (by decide) rfl) hS ⟨a2_40, ml2_41, 1, (by omega), (by omega), rfl⟩ d_Grammar_labels_61
        ·
          have hc_36 : ¬ (k_6 ≤ i) := fun hq_ => hc_36 ((nI_leI (a := k_6) (b := i) (by omega) (by omega)).mpr hq_)
          refine lv_aload_n E.1 E.2.1 d_Grammar_labels_29 rfl (lv_at hl 2 rfl) ?_
          refine x_get E hP (C := "WasmReader$Grammar") (T := T_Grammar) (N := 3) (ci := 10) 0 (v := .ref qc) 0 in_Grammar rfl rfl (by decide) m_179 rfl d_Grammar_labels_30 ?_
          refine x_get E hP (C := "WasmReader$Cursor") (T := T_Cursor) (N := 5) (ci := 1) 2 (v := .int mm) 4 in_Cursor rfl rfl (by decide) m_294 rfl d_Grammar_labels_33 ?_
          refine lv_if_ne (tgt := 53) E.1 E.2.1 d_Grammar_labels_36 (by decide) (fun hc_44 => ?_) (fun hc_44 => ?_)
          ·
            refine lv_aload_n E.1 E.2.1 d_Grammar_labels_53 rfl (lv_at hl 2 rfl) ?_
            refine x_get E hP (C := "WasmReader$Grammar") (T := T_Grammar) (N := 3) (ci := 10) 0 (v := .ref qc) 0 in_Grammar rfl rfl (by decide) m_179 rfl d_Grammar_labels_54 ?_
            have hPc := hP.sub (ws' := [(qc, .inr (1, [.ref qb, .int ln, .int (nI aa), .int (nI b), .int mm])), (qb, .inl (cB, 4000, .inl f))]) [2, 3] rfl
            have hDc := hD.sub (ws' := [(qc, .inr (1, [.ref qb, .int ln, .int (nI aa), .int (nI b), .int mm])), (qb, .inl (cB, 4000, .inl f))]) [2, 3] (by decide) rfl
            have hFc := va_free (wc := [(qc, .inr (1, [.ref qb, .int ln, .int (nI aa), .int (nI b), .int mm])), (qb, .inl (cB, 4000, .inl f))]) hD hS hA [2, 3] rfl
            refine x_rl (ws := [(h0, .inr (10, [.ref qc, .ref qm, .ref qe])), (qm, .inr (2, [.ref m0, .ref m1, .ref m2, .ref m3, .ref m4, .ref m5, .ref m6, .ref m7, .int wi, .int wst, .int 1])), (qc, .inr (1, [.ref qb, .int ln, .int (nI aa), .int (nI b), .int mm])), (qb, .inl (cB, 4000, .inl f))]) (wc := [(qc, .inr (1, [.ref qb, .int ln, .int (nI aa), .int (nI b), .int mm])), (qb, .inl (cB, 4000, .inl f))]) (wr := [(h0, .inr (10, [.ref qc, .ref qm, .ref qe])), (qm, .inr (2, [.ref m0, .ref m1, .ref m2, .ref m3, .ref m4, .ref m5, .ref m6, .ref m7, .int wi, .int wst, .int 1]))]) (x_V (As := []) (C := "WasmReader$Cursor") E (c_Cursor_unsigned l D cB cI cJ cZ H.size qc qb ln aa b mm f (by omega) (by omega)) m_233 m_94 m_392 m_234 m_235 nm_Cursor_unsigned hPc hDc hZ hS hFc rfl rfl rfl hl.1 rfl (Nat.le_of_ble_eq_true rfl) d_Grammar_labels_57 rfl rfl (by decide) (by decide) (by decide) (by decide)) hP hD hS hA [2, 3] [0, 1] rfl rfl (by decide) (by decide) (fun r_51 u H locs hw hP hD hS => ?_)
            obtain ⟨a2_48, ml2_49, hf_45, hf_46, hf_47, rfl⟩ := hw
            have hP : va_P D classes [(h0, .inr (10, [.ref qc, .ref qm, .ref qe])), (qm, .inr (2, [.ref m0, .ref m1, .ref m2, .ref m3, .ref m4, .ref m5, .ref m6, .ref m7, .int wi, .int wst, .int 1])), (qc, .inr (1, [.ref qb, .int ln, .int (nI a2_48), .int (nI b), .int ml2_49])), (qb, .inl (cB, 4000, .inl f))] H := hP
            have hD : va_D (va_A [(h0, .inr (10, [.ref qc, .ref qm, .ref qe])), (qc, .inr (1, [.ref qb, .int ln, .int (nI a), .int (nI b), .int ml])), (qb, .inl (cB, 4000, .inl f)), (qm, .inr (2, [.ref m0, .ref m1, .ref m2, .ref m3, .ref m4, .ref m5, .ref m6, .ref m7, .int wi, .int wst, .int wpt]))] s.heap.size) [(h0, .inr (10, [.ref qc, .ref qm, .ref qe])), (qm, .inr (2, [.ref m0, .ref m1, .ref m2, .ref m3, .ref m4, .ref m5, .ref m6, .ref m7, .int wi, .int wst, .int 1])), (qc, .inr (1, [.ref qb, .int ln, .int (nI a2_48), .int (nI b), .int ml2_49])), (qb, .inl (cB, 4000, .inl f))] := hD
            refine lv_pop2_2 E.1 E.2.1 d_Grammar_labels_60 rfl ?_
            refine W.widen (k := 0) (n := 0) (by decide) (by decide) ?_
            exact x_vret (ws := [(h0, .inr (10, [.ref qc, .ref qm, .ref qe])), (qc, .inr (1, [.ref qb, .int ln, .int (nI a2_48), .int (nI b), .int ml2_49])), (qb, .inl (cB, 4000, .inl f)), (qm, .inr (2, [.ref m0, .ref m1, .ref m2, .ref m3, .ref m4, .ref m5, .ref m6, .ref m7, .int wi, .int wst, .int 1]))]) E hr hlocks (hP.sub [0, 2, 3, 1] rfl) (hD.sub [0, 2, 3, 1] (by decide) rfl) hS ⟨a2_48, ml2_49, 1, (by omega), (by omega), rfl⟩ d_Grammar_labels_61
          ·
            refine lv_aload_n E.1 E.2.1 d_Grammar_labels_39 rfl (lv_at hl 2 rfl) ?_
            refine x_get E hP (C := "WasmReader$Grammar") (T := T_Grammar) (N := 3) (ci := 10) 0 (v := .ref qc) 0 in_Grammar rfl rfl (by decide) m_179 rfl d_Grammar_labels_40 ?_
            have hPc := hP.sub (ws' := [(qc, .inr (1, [.ref qb, .int ln, .int (nI aa), .int (nI b), .int mm])), (qb, .inl (cB, 4000, .inl f))]) [2, 3] rfl
            have hDc := hD.sub (ws' := [(qc, .inr (1, [.ref qb, .int ln, .int (nI aa), .int (nI b), .int mm])), (qb, .inl (cB, 4000, .inl f))]) [2, 3] (by decide) rfl
            have hFc := va_free (wc := [(qc, .inr (1, [.ref qb, .int ln, .int (nI aa), .int (nI b), .int mm])), (qb, .inl (cB, 4000, .inl f))]) hD hS hA [2, 3] rfl
            refine x_rl (ws := [(h0, .inr (10, [.ref qc, .ref qm, .ref qe])), (qm, .inr (2, [.ref m0, .ref m1, .ref m2, .ref m3, .ref m4, .ref m5, .ref m6, .ref m7, .int wi, .int wst, .int 1])), (qc, .inr (1, [.ref qb, .int ln, .int (nI aa), .int (nI b), .int mm])), (qb, .inl (cB, 4000, .inl f))]) (wc := [(qc, .inr (1, [.ref qb, .int ln, .int (nI aa), .int (nI b), .int mm])), (qb, .inl (cB, 4000, .inl f))]) (wr := [(h0, .inr (10, [.ref qc, .ref qm, .ref qe])), (qm, .inr (2, [.ref m0, .ref m1, .ref m2, .ref m3, .ref m4, .ref m5, .ref m6, .ref m7, .int wi, .int wst, .int 1]))]) (x_V (As := []) (C := "WasmReader$Cursor") E (c_Cursor_unsigned l D cB cI cJ cZ H.size qc qb ln aa b mm f (by omega) (by omega)) m_233 m_94 m_392 m_234 m_235 nm_Cursor_unsigned hPc hDc hZ hS hFc rfl rfl rfl hl.1 rfl (Nat.le_of_ble_eq_true rfl) d_Grammar_labels_43 rfl rfl (by decide) (by decide) (by decide) (by decide)) hP hD hS hA [2, 3] [0, 1] rfl rfl (by decide) (by decide) (fun r_58 u H locs hw hP hD hS => ?_)
            obtain ⟨a2_55, ml2_56, hf_52, hf_53, hf_54, rfl⟩ := hw
            have hP : va_P D classes [(h0, .inr (10, [.ref qc, .ref qm, .ref qe])), (qm, .inr (2, [.ref m0, .ref m1, .ref m2, .ref m3, .ref m4, .ref m5, .ref m6, .ref m7, .int wi, .int wst, .int 1])), (qc, .inr (1, [.ref qb, .int ln, .int (nI a2_55), .int (nI b), .int ml2_56])), (qb, .inl (cB, 4000, .inl f))] H := hP
            have hD : va_D (va_A [(h0, .inr (10, [.ref qc, .ref qm, .ref qe])), (qc, .inr (1, [.ref qb, .int ln, .int (nI a), .int (nI b), .int ml])), (qb, .inl (cB, 4000, .inl f)), (qm, .inr (2, [.ref m0, .ref m1, .ref m2, .ref m3, .ref m4, .ref m5, .ref m6, .ref m7, .int wi, .int wst, .int wpt]))] s.heap.size) [(h0, .inr (10, [.ref qc, .ref qm, .ref qe])), (qm, .inr (2, [.ref m0, .ref m1, .ref m2, .ref m3, .ref m4, .ref m5, .ref m6, .ref m7, .int wi, .int wst, .int 1])), (qc, .inr (1, [.ref qb, .int ln, .int (nI a2_55), .int (nI b), .int ml2_56])), (qb, .inl (cB, 4000, .inl f))] := hD
            refine lv_pop2_2 E.1 E.2.1 d_Grammar_labels_46 rfl ?_
            refine lv_iinc (v := nI (i + 1)) (lv' := [(2, .int (nI (i + 1))), (1, .int (nI k_6)), (0, .ref h0)]) E.1 E.2.1 d_Grammar_labels_47 hl (k := 0) rfl (nI_add i 1) (by decide) rfl (fun ls hl => ?_)
            refine lv_goto (tgt := 24) E.1 E.2.1 d_Grammar_labels_50 (by decide) ?_
            exact ih_j1 (i + 1) a2_55 ml2_56 (by omega) (by omega) (by omega) (by omega) _ _ _ (hP.sub [0, 1, 2, 3] rfl) (hD.sub [0, 1, 2, 3] (by decide) rfl) hS (lv_sub hl [0, 1, 2] rfl)
    exact loop_35 (k_6 + 1) 0 a2_4 ml2_5 (by omega) (by omega) (by omega) (by omega) _ _ _ (hP.sub [0, 1, 2, 3] rfl) (hD.sub [0, 1, 2, 3] (by decide) rfl) hS (lv_sub hl [0, 1, 2] rfl)
set_option maxHeartbeats 4000000 in
set_option maxRecDepth 100000 in
theorem c_Grammar_operands (l : Launch) (D : va_G) (cB cI cJ cZ : ClassId) (sz : Nat) (h0 : Nat) (qc : Nat) (qm : Nat) (qe : Nat) (qb : Nat) (ln : Int32) (a : Nat) (b : Nat) (ml : Int32) (f : Nat → Int32) (x : Int32) (hab : a ≤ b) (hb4 : b ≤ 4000) : Met l y_Grammar_operands (Cond.code y_Grammar_operands prog_6_method_28_code 2 none :: xtb) ({ frames := 3, cells := 0, slots := 0, locals := 72 }) (xP D [(cB, .byte), (cI, .int), (cJ, .long), (cZ, .boolean)] [.ref h0, .int x] [(h0, .inr (10, [.ref qc, .ref qm, .ref qe])), (qc, .inr (1, [.ref qb, .int ln, .int (nI a), .int (nI b), .int ml])), (qb, .inl (cB, 4000, .inl f))] sz) (xQv D [(cB, .byte), (cI, .int), (cJ, .long), (cZ, .boolean)] [(h0, .inr (10, [.ref qc, .ref qm, .ref qe])), (qc, .inr (1, [.ref qb, .int ln, .int (nI a), .int (nI b), .int ml])), (qb, .inl (cB, 4000, .inl f))] sz (fun u => ∃ (a2 : Nat), ∃ (ml2 : Int32), (a ≤ a2) ∧ (a2 ≤ b) ∧ u = [(h0, .inr (10, [.ref qc, .ref qm, .ref qe])), (qc, .inr (1, [.ref qb, .int ln, .int (nI a2), .int (nI b), .int ml2])), (qb, .inl (cB, 4000, .inl f))])) 0 0 (va_A [(h0, .inr (10, [.ref qc, .ref qm, .ref qe])), (qc, .inr (1, [.ref qb, .int ln, .int (nI a), .int (nI b), .int ml])), (qb, .inl (cB, 4000, .inl f))] sz) := by
  refine x_met (Qc := fun s => xQv D [(cB, .byte), (cI, .int), (cJ, .long), (cZ, .boolean)] [(h0, .inr (10, [.ref qc, .ref qm, .ref qe])), (qc, .inr (1, [.ref qb, .int ln, .int (nI a), .int (nI b), .int ml])), (qb, .inl (cB, 4000, .inl f))] s.heap.size (fun u => ∃ (a2 : Nat), ∃ (ml2 : Int32), (a ≤ a2) ∧ (a2 ≤ b) ∧ u = [(h0, .inr (10, [.ref qc, .ref qm, .ref qe])), (qc, .inr (1, [.ref qb, .int ln, .int (nI a2), .int (nI b), .int ml2])), (qb, .inl (cB, 4000, .inl f))])) (fr := fun s => va_A [(h0, .inr (10, [.ref qc, .ref qm, .ref qe])), (qc, .inr (1, [.ref qb, .int ln, .int (nI a), .int (nI b), .int ml])), (qb, .inl (cB, 4000, .inl f))] s.heap.size) "WasmReader$Grammar" (by decide +kernel) rfl (Nat.le_of_ble_eq_true rfl) (fun s h => by rw [h]) (fun s h => by rw [h]) ?_
  intro p e s m below meth c ls E hr hlocks hinit hl hP hD hA hS hZ hadm
  have hl : lv_has ls 2 [(0, .ref h0), (1, .int x)] := hl
  refine lv_iload_n E.1 E.2.1 d_Grammar_operands_0 rfl (lv_at hl 1 rfl) ?_
  refine x_table (x := x) E.1 E.2.1 d_Grammar_operands_1 (tgs := [284, 354, 287, 298, 317, 328, 341]) (by decide) (by decide) ⟨fun hs_1 => ?_, fun hs_1 => ?_, fun hs_1 => ?_, fun hs_1 => ?_, fun hs_1 => ?_, fun hs_1 => ?_, fun hs_1 => ?_, trivial⟩
  ·
    refine lv_goto (tgt := 394) E.1 E.2.1 d_Grammar_operands_284 (by decide) ?_
    refine W.widen (k := 0) (n := 0) (by decide) (by decide) ?_
    exact x_vret (ws := [(h0, .inr (10, [.ref qc, .ref qm, .ref qe])), (qc, .inr (1, [.ref qb, .int ln, .int (nI a), .int (nI b), .int ml])), (qb, .inl (cB, 4000, .inl f))]) E hr hlocks (hP.sub [0, 1, 2] rfl) (hD.sub [0, 1, 2] (by decide) rfl) hS ⟨a, ml, (by omega), (by omega), rfl⟩ d_Grammar_operands_394
  ·
    refine lv_iload_n E.1 E.2.1 d_Grammar_operands_354 rfl (lv_at hl 1 rfl) ?_
    have hPc := hP.sub (ws' := []) [] rfl
    have hDc := hD.sub (ws' := []) [] (by decide) rfl
    have hFc := va_free (wc := []) hD hS hA [] rfl
    refine x_ri (ws := [(h0, .inr (10, [.ref qc, .ref qm, .ref qe])), (qc, .inr (1, [.ref qb, .int ln, .int (nI a), .int (nI b), .int ml])), (qb, .inl (cB, 4000, .inl f))]) (wc := []) (wr := [(h0, .inr (10, [.ref qc, .ref qm, .ref qe])), (qc, .inr (1, [.ref qb, .int ln, .int (nI a), .int (nI b), .int ml])), (qb, .inl (cB, 4000, .inl f))]) (x_SN (As := [.int x]) E (c_Reader_isAccess l D cB cI cJ cZ s.heap.size x ) m_394 m_285 m_393 m_395 nm_Reader_isAccess hPc hDc hZ hS hFc hl.1 rfl (Nat.le_of_ble_eq_true rfl) d_Grammar_operands_355 rfl rfl (by decide) (by decide) (by decide) (by decide)) hP hD hS hA [] [0, 1, 2] rfl rfl (by decide) (by decide) (fun r_4 u H locs hw hP hD hS => ?_)
    obtain ⟨hal_2, rfl⟩ := hw
    have hP : va_P D classes [(h0, .inr (10, [.ref qc, .ref qm, .ref qe])), (qc, .inr (1, [.ref qb, .int ln, .int (nI a), .int (nI b), .int ml])), (qb, .inl (cB, 4000, .inl f))] H := hP
    have hD : va_D (va_A [(h0, .inr (10, [.ref qc, .ref qm, .ref qe])), (qc, .inr (1, [.ref qb, .int ln, .int (nI a), .int (nI b), .int ml])), (qb, .inl (cB, 4000, .inl f))] s.heap.size) [(h0, .inr (10, [.ref qc, .ref qm, .ref qe])), (qc, .inr (1, [.ref qb, .int ln, .int (nI a), .int (nI b), .int ml])), (qb, .inl (cB, 4000, .inl f))] := hD
    rcases hal_2 with ha_5 | ⟨k_6, ha_7, hb_8, hb_9⟩
    ·
      subst ha_5
      refine lv_if_eq (tgt := 380) E.1 E.2.1 d_Grammar_operands_358 (by decide) (fun _ => ?_) (fun hc => absurd (by decide) hc)
      refine lv_iload_n E.1 E.2.1 d_Grammar_operands_380 rfl (lv_at hl 1 rfl) ?_
      have hPc := hP.sub (ws' := []) [] rfl
      have hDc := hD.sub (ws' := []) [] (by decide) rfl
      have hFc := va_free (wc := []) hD hS hA [] rfl
      refine x_ri (ws := [(h0, .inr (10, [.ref qc, .ref qm, .ref qe])), (qc, .inr (1, [.ref qb, .int ln, .int (nI a), .int (nI b), .int ml])), (qb, .inl (cB, 4000, .inl f))]) (wc := []) (wr := [(h0, .inr (10, [.ref qc, .ref qm, .ref qe])), (qc, .inr (1, [.ref qb, .int ln, .int (nI a), .int (nI b), .int ml])), (qb, .inl (cB, 4000, .inl f))]) (x_SN (As := [.int x]) E (c_Reader_numericRow l D cB cI cJ cZ H.size x ) m_397 m_285 m_396 m_398 nm_Reader_numericRow hPc hDc hZ hS hFc hl.1 rfl (Nat.le_of_ble_eq_true rfl) d_Grammar_operands_381 rfl rfl (by decide) (by decide) (by decide) (by decide)) hP hD hS hA [] [0, 1, 2] rfl rfl (by decide) (by decide) (fun r_12 u H locs hw hP hD hS => ?_)
      obtain ⟨hal_10, rfl⟩ := hw
      have hP : va_P D classes [(h0, .inr (10, [.ref qc, .ref qm, .ref qe])), (qc, .inr (1, [.ref qb, .int ln, .int (nI a), .int (nI b), .int ml])), (qb, .inl (cB, 4000, .inl f))] H := hP
      have hD : va_D (va_A [(h0, .inr (10, [.ref qc, .ref qm, .ref qe])), (qc, .inr (1, [.ref qb, .int ln, .int (nI a), .int (nI b), .int ml])), (qb, .inl (cB, 4000, .inl f))] s.heap.size) [(h0, .inr (10, [.ref qc, .ref qm, .ref qe])), (qc, .inr (1, [.ref qb, .int ln, .int (nI a), .int (nI b), .int ml])), (qb, .inl (cB, 4000, .inl f))] := hD
      rcases hal_10 with ha_13 | ⟨k_14, ha_15, hb_16⟩
      ·
        subst ha_13
        refine lv_if_ge (tgt := 394) E.1 E.2.1 d_Grammar_operands_384 (by decide) (fun hc => absurd hc (by decide)) (fun _ => ?_)
        refine lv_aload_n E.1 E.2.1 d_Grammar_operands_387 rfl (lv_at hl 0 rfl) ?_
        refine x_get E hP (C := "WasmReader$Grammar") (T := T_Grammar) (N := 3) (ci := 10) 0 (v := .ref qc) 0 in_Grammar rfl rfl (by decide) m_179 rfl d_Grammar_operands_388 ?_
        have hPc := hP.sub (ws' := [(qc, .inr (1, [.ref qb, .int ln, .int (nI a), .int (nI b), .int ml]))]) [1] rfl
        have hDc := hD.sub (ws' := [(qc, .inr (1, [.ref qb, .int ln, .int (nI a), .int (nI b), .int ml]))]) [1] (by decide) rfl
        have hFc := va_free (wc := [(qc, .inr (1, [.ref qb, .int ln, .int (nI a), .int (nI b), .int ml]))]) hD hS hA [1] rfl
        refine x_rv (ws := [(h0, .inr (10, [.ref qc, .ref qm, .ref qe])), (qc, .inr (1, [.ref qb, .int ln, .int (nI a), .int (nI b), .int ml])), (qb, .inl (cB, 4000, .inl f))]) (wc := [(qc, .inr (1, [.ref qb, .int ln, .int (nI a), .int (nI b), .int ml]))]) (wr := [(h0, .inr (10, [.ref qc, .ref qm, .ref qe])), (qb, .inl (cB, 4000, .inl f))]) (x_V (As := []) (C := "WasmReader$Cursor") E (c_Cursor_fail l D cB cI cJ cZ H.size qc qb ln (nI a) (nI b) ml ) m_175 m_94 m_281 m_176 m_177 nm_Cursor_fail hPc hDc hZ hS hFc rfl rfl rfl hl.1 rfl (Nat.le_of_ble_eq_true rfl) d_Grammar_operands_391 rfl rfl (by decide) (by decide) (by decide) (by decide)) hP hD hS hA [1] [0, 2] rfl rfl (by decide) (by decide) (fun u H locs hw hP hD hS => ?_)
        obtain rfl := hw
        have hP : va_P D classes [(h0, .inr (10, [.ref qc, .ref qm, .ref qe])), (qb, .inl (cB, 4000, .inl f)), (qc, .inr (1, [.ref qb, .int ln, .int (nI a), .int (nI b), .int 1]))] H := hP
        have hD : va_D (va_A [(h0, .inr (10, [.ref qc, .ref qm, .ref qe])), (qc, .inr (1, [.ref qb, .int ln, .int (nI a), .int (nI b), .int ml])), (qb, .inl (cB, 4000, .inl f))] s.heap.size) [(h0, .inr (10, [.ref qc, .ref qm, .ref qe])), (qb, .inl (cB, 4000, .inl f)), (qc, .inr (1, [.ref qb, .int ln, .int (nI a), .int (nI b), .int 1]))] := hD
        refine W.widen (k := 0) (n := 0) (by decide) (by decide) ?_
        exact x_vret (ws := [(h0, .inr (10, [.ref qc, .ref qm, .ref qe])), (qc, .inr (1, [.ref qb, .int ln, .int (nI a), .int (nI b), .int 1])), (qb, .inl (cB, 4000, .inl f))]) E hr hlocks (hP.sub [0, 2, 1] rfl) (hD.sub [0, 2, 1] (by decide) rfl) hS ⟨a, 1, (by omega), (by omega), rfl⟩ d_Grammar_operands_394
      ·
        subst ha_15
        refine lv_if_ge (tgt := 394) E.1 E.2.1 d_Grammar_operands_384 (by decide) (fun _ => ?_) (fun hc => absurd (nI_pos' (n := k_14) (by omega)) hc)
        refine W.widen (k := 0) (n := 0) (by decide) (by decide) ?_
        exact x_vret (ws := [(h0, .inr (10, [.ref qc, .ref qm, .ref qe])), (qc, .inr (1, [.ref qb, .int ln, .int (nI a), .int (nI b), .int ml])), (qb, .inl (cB, 4000, .inl f))]) E hr hlocks (hP.sub [0, 1, 2] rfl) (hD.sub [0, 1, 2] (by decide) rfl) hS ⟨a, ml, (by omega), (by omega), rfl⟩ d_Grammar_operands_394
    ·
      subst ha_7
      refine lv_if_eq (tgt := 380) E.1 E.2.1 d_Grammar_operands_358 (by decide) (fun hc => absurd hc (by decide)) (fun _ => ?_)
      refine lv_aload_n E.1 E.2.1 d_Grammar_operands_361 rfl (lv_at hl 0 rfl) ?_
      refine x_get E hP (C := "WasmReader$Grammar") (T := T_Grammar) (N := 3) (ci := 10) 0 (v := .ref qc) 0 in_Grammar rfl rfl (by decide) m_179 rfl d_Grammar_operands_362 ?_
      have hPc := hP.sub (ws' := [(qc, .inr (1, [.ref qb, .int ln, .int (nI a), .int (nI b), .int ml])), (qb, .inl (cB, 4000, .inl f))]) [1, 2] rfl
      have hDc := hD.sub (ws' := [(qc, .inr (1, [.ref qb, .int ln, .int (nI a), .int (nI b), .int ml])), (qb, .inl (cB, 4000, .inl f))]) [1, 2] (by decide) rfl
      have hFc := va_free (wc := [(qc, .inr (1, [.ref qb, .int ln, .int (nI a), .int (nI b), .int ml])), (qb, .inl (cB, 4000, .inl f))]) hD hS hA [1, 2] rfl
      refine x_rl (ws := [(h0, .inr (10, [.ref qc, .ref qm, .ref qe])), (qc, .inr (1, [.ref qb, .int ln, .int (nI a), .int (nI b), .int ml])), (qb, .inl (cB, 4000, .inl f))]) (wc := [(qc, .inr (1, [.ref qb, .int ln, .int (nI a), .int (nI b), .int ml])), (qb, .inl (cB, 4000, .inl f))]) (wr := [(h0, .inr (10, [.ref qc, .ref qm, .ref qe]))]) (x_V (As := []) (C := "WasmReader$Cursor") E (c_Cursor_unsigned l D cB cI cJ cZ H.size qc qb ln a b ml f (by omega) (by omega)) m_233 m_94 m_392 m_234 m_235 nm_Cursor_unsigned hPc hDc hZ hS hFc rfl rfl rfl hl.1 rfl (Nat.le_of_ble_eq_true rfl) d_Grammar_operands_365 rfl rfl (by decide) (by decide) (by decide) (by decide)) hP hD hS hA [1, 2] [0] rfl rfl (by decide) (by decide) (fun r_23 u H locs hw hP hD hS => ?_)
      obtain ⟨a2_20, ml2_21, hf_17, hf_18, hf_19, rfl⟩ := hw
      have hP : va_P D classes [(h0, .inr (10, [.ref qc, .ref qm, .ref qe])), (qc, .inr (1, [.ref qb, .int ln, .int (nI a2_20), .int (nI b), .int ml2_21])), (qb, .inl (cB, 4000, .inl f))] H := hP
      have hD : va_D (va_A [(h0, .inr (10, [.ref qc, .ref qm, .ref qe])), (qc, .inr (1, [.ref qb, .int ln, .int (nI a), .int (nI b), .int ml])), (qb, .inl (cB, 4000, .inl f))] s.heap.size) [(h0, .inr (10, [.ref qc, .ref qm, .ref qe])), (qc, .inr (1, [.ref qb, .int ln, .int (nI a2_20), .int (nI b), .int ml2_21])), (qb, .inl (cB, 4000, .inl f))] := hD
      refine lv_pop2_2 E.1 E.2.1 d_Grammar_operands_368 rfl ?_
      refine lv_aload_n E.1 E.2.1 d_Grammar_operands_369 rfl (lv_at hl 0 rfl) ?_
      refine x_get E hP (C := "WasmReader$Grammar") (T := T_Grammar) (N := 3) (ci := 10) 0 (v := .ref qc) 0 in_Grammar rfl rfl (by decide) m_179 rfl d_Grammar_operands_370 ?_
      have hPc := hP.sub (ws' := [(qc, .inr (1, [.ref qb, .int ln, .int (nI a2_20), .int (nI b), .int ml2_21])), (qb, .inl (cB, 4000, .inl f))]) [1, 2] rfl
      have hDc := hD.sub (ws' := [(qc, .inr (1, [.ref qb, .int ln, .int (nI a2_20), .int (nI b), .int ml2_21])), (qb, .inl (cB, 4000, .inl f))]) [1, 2] (by decide) rfl
      have hFc := va_free (wc := [(qc, .inr (1, [.ref qb, .int ln, .int (nI a2_20), .int (nI b), .int ml2_21])), (qb, .inl (cB, 4000, .inl f))]) hD hS hA [1, 2] rfl
      refine x_rl (ws := [(h0, .inr (10, [.ref qc, .ref qm, .ref qe])), (qc, .inr (1, [.ref qb, .int ln, .int (nI a2_20), .int (nI b), .int ml2_21])), (qb, .inl (cB, 4000, .inl f))]) (wc := [(qc, .inr (1, [.ref qb, .int ln, .int (nI a2_20), .int (nI b), .int ml2_21])), (qb, .inl (cB, 4000, .inl f))]) (wr := [(h0, .inr (10, [.ref qc, .ref qm, .ref qe]))]) (x_V (As := []) (C := "WasmReader$Cursor") E (c_Cursor_unsigned l D cB cI cJ cZ H.size qc qb ln a2_20 b ml2_21 f (by omega) (by omega)) m_233 m_94 m_392 m_234 m_235 nm_Cursor_unsigned hPc hDc hZ hS hFc rfl rfl rfl hl.1 rfl (Nat.le_of_ble_eq_true rfl) d_Grammar_operands_373 rfl rfl (by decide) (by decide) (by decide) (by decide)) hP hD hS hA [1, 2] [0] rfl rfl (by decide) (by decide) (fun r_30 u H locs hw hP hD hS => ?_)
      obtain ⟨a2_27, ml2_28, hf_24, hf_25, hf_26, rfl⟩ := hw
      have hP : va_P D classes [(h0, .inr (10, [.ref qc, .ref qm, .ref qe])), (qc, .inr (1, [.ref qb, .int ln, .int (nI a2_27), .int (nI b), .int ml2_28])), (qb, .inl (cB, 4000, .inl f))] H := hP
      have hD : va_D (va_A [(h0, .inr (10, [.ref qc, .ref qm, .ref qe])), (qc, .inr (1, [.ref qb, .int ln, .int (nI a), .int (nI b), .int ml])), (qb, .inl (cB, 4000, .inl f))] s.heap.size) [(h0, .inr (10, [.ref qc, .ref qm, .ref qe])), (qc, .inr (1, [.ref qb, .int ln, .int (nI a2_27), .int (nI b), .int ml2_28])), (qb, .inl (cB, 4000, .inl f))] := hD
      refine lv_pop2_2 E.1 E.2.1 d_Grammar_operands_376 rfl ?_
      refine lv_goto (tgt := 394) E.1 E.2.1 d_Grammar_operands_377 (by decide) ?_
      refine W.widen (k := 0) (n := 0) (by decide) (by decide) ?_
      exact x_vret (ws := [(h0, .inr (10, [.ref qc, .ref qm, .ref qe])), (qc, .inr (1, [.ref qb, .int ln, .int (nI a2_27), .int (nI b), .int ml2_28])), (qb, .inl (cB, 4000, .inl f))]) E hr hlocks (hP.sub [0, 1, 2] rfl) (hD.sub [0, 1, 2] (by decide) rfl) hS ⟨a2_27, ml2_28, (by omega), (by omega), rfl⟩ d_Grammar_operands_394
  ·
    refine lv_aload_n E.1 E.2.1 d_Grammar_operands_287 rfl (lv_at hl 0 rfl) ?_
    refine x_get E hP (C := "WasmReader$Grammar") (T := T_Grammar) (N := 3) (ci := 10) 0 (v := .ref qc) 0 in_Grammar rfl rfl (by decide) m_179 rfl d_Grammar_operands_288 ?_
    have hPc := hP.sub (ws' := [(qc, .inr (1, [.ref qb, .int ln, .int (nI a), .int (nI b), .int ml])), (qb, .inl (cB, 4000, .inl f))]) [1, 2] rfl
    have hDc := hD.sub (ws' := [(qc, .inr (1, [.ref qb, .int ln, .int (nI a), .int (nI b), .int ml])), (qb, .inl (cB, 4000, .inl f))]) [1, 2] (by decide) rfl
    have hFc := va_free (wc := [(qc, .inr (1, [.ref qb, .int ln, .int (nI a), .int (nI b), .int ml])), (qb, .inl (cB, 4000, .inl f))]) hD hS hA [1, 2] rfl
    refine x_rl (ws := [(h0, .inr (10, [.ref qc, .ref qm, .ref qe])), (qc, .inr (1, [.ref qb, .int ln, .int (nI a), .int (nI b), .int ml])), (qb, .inl (cB, 4000, .inl f))]) (wc := [(qc, .inr (1, [.ref qb, .int ln, .int (nI a), .int (nI b), .int ml])), (qb, .inl (cB, 4000, .inl f))]) (wr := [(h0, .inr (10, [.ref qc, .ref qm, .ref qe]))]) (x_V (As := []) (C := "WasmReader$Cursor") E (c_Cursor_unsigned l D cB cI cJ cZ s.heap.size qc qb ln a b ml f (by omega) (by omega)) m_233 m_94 m_392 m_234 m_235 nm_Cursor_unsigned hPc hDc hZ hS hFc rfl rfl rfl hl.1 rfl (Nat.le_of_ble_eq_true rfl) d_Grammar_operands_291 rfl rfl (by decide) (by decide) (by decide) (by decide)) hP hD hS hA [1, 2] [0] rfl rfl (by decide) (by decide) (fun r_37 u H locs hw hP hD hS => ?_)
    obtain ⟨a2_34, ml2_35, hf_31, hf_32, hf_33, rfl⟩ := hw
    have hP : va_P D classes [(h0, .inr (10, [.ref qc, .ref qm, .ref qe])), (qc, .inr (1, [.ref qb, .int ln, .int (nI a2_34), .int (nI b), .int ml2_35])), (qb, .inl (cB, 4000, .inl f))] H := hP
    have hD : va_D (va_A [(h0, .inr (10, [.ref qc, .ref qm, .ref qe])), (qc, .inr (1, [.ref qb, .int ln, .int (nI a), .int (nI b), .int ml])), (qb, .inl (cB, 4000, .inl f))] s.heap.size) [(h0, .inr (10, [.ref qc, .ref qm, .ref qe])), (qc, .inr (1, [.ref qb, .int ln, .int (nI a2_34), .int (nI b), .int ml2_35])), (qb, .inl (cB, 4000, .inl f))] := hD
    refine lv_pop2_2 E.1 E.2.1 d_Grammar_operands_294 rfl ?_
    refine lv_goto (tgt := 394) E.1 E.2.1 d_Grammar_operands_295 (by decide) ?_
    refine W.widen (k := 0) (n := 0) (by decide) (by decide) ?_
    exact x_vret (ws := [(h0, .inr (10, [.ref qc, .ref qm, .ref qe])), (qc, .inr (1, [.ref qb, .int ln, .int (nI a2_34), .int (nI b), .int ml2_35])), (qb, .inl (cB, 4000, .inl f))]) E hr hlocks (hP.sub [0, 1, 2] rfl) (hD.sub [0, 1, 2] (by decide) rfl) hS ⟨a2_34, ml2_35, (by omega), (by omega), rfl⟩ d_Grammar_operands_394
  ·
    refine lv_aload_n E.1 E.2.1 d_Grammar_operands_298 rfl (lv_at hl 0 rfl) ?_
    refine x_get E hP (C := "WasmReader$Grammar") (T := T_Grammar) (N := 3) (ci := 10) 0 (v := .ref qc) 0 in_Grammar rfl rfl (by decide) m_179 rfl d_Grammar_operands_299 ?_
    have hPc := hP.sub (ws' := [(qc, .inr (1, [.ref qb, .int ln, .int (nI a), .int (nI b), .int ml])), (qb, .inl (cB, 4000, .inl f))]) [1, 2] rfl
    have hDc := hD.sub (ws' := [(qc, .inr (1, [.ref qb, .int ln, .int (nI a), .int (nI b), .int ml])), (qb, .inl (cB, 4000, .inl f))]) [1, 2] (by decide) rfl
    have hFc := va_free (wc := [(qc, .inr (1, [.ref qb, .int ln, .int (nI a), .int (nI b), .int ml])), (qb, .inl (cB, 4000, .inl f))]) hD hS hA [1, 2] rfl
    refine x_rl (ws := [(h0, .inr (10, [.ref qc, .ref qm, .ref qe])), (qc, .inr (1, [.ref qb, .int ln, .int (nI a), .int (nI b), .int ml])), (qb, .inl (cB, 4000, .inl f))]) (wc := [(qc, .inr (1, [.ref qb, .int ln, .int (nI a), .int (nI b), .int ml])), (qb, .inl (cB, 4000, .inl f))]) (wr := [(h0, .inr (10, [.ref qc, .ref qm, .ref qe]))]) (x_V (As := []) (C := "WasmReader$Cursor") E (c_Cursor_unsigned l D cB cI cJ cZ s.heap.size qc qb ln a b ml f (by omega) (by omega)) m_233 m_94 m_392 m_234 m_235 nm_Cursor_unsigned hPc hDc hZ hS hFc rfl rfl rfl hl.1 rfl (Nat.le_of_ble_eq_true rfl) d_Grammar_operands_302 rfl rfl (by decide) (by decide) (by decide) (by decide)) hP hD hS hA [1, 2] [0] rfl rfl (by decide) (by decide) (fun r_44 u H locs hw hP hD hS => ?_)
    obtain ⟨a2_41, ml2_42, hf_38, hf_39, hf_40, rfl⟩ := hw
    have hP : va_P D classes [(h0, .inr (10, [.ref qc, .ref qm, .ref qe])), (qc, .inr (1, [.ref qb, .int ln, .int (nI a2_41), .int (nI b), .int ml2_42])), (qb, .inl (cB, 4000, .inl f))] H := hP
    have hD : va_D (va_A [(h0, .inr (10, [.ref qc, .ref qm, .ref qe])), (qc, .inr (1, [.ref qb, .int ln, .int (nI a), .int (nI b), .int ml])), (qb, .inl (cB, 4000, .inl f))] s.heap.size) [(h0, .inr (10, [.ref qc, .ref qm, .ref qe])), (qc, .inr (1, [.ref qb, .int ln, .int (nI a2_41), .int (nI b), .int ml2_42])), (qb, .inl (cB, 4000, .inl f))] := hD
    refine lv_pop2_2 E.1 E.2.1 d_Grammar_operands_305 rfl ?_
    refine lv_aload_n E.1 E.2.1 d_Grammar_operands_306 rfl (lv_at hl 0 rfl) ?_
    refine x_get E hP (C := "WasmReader$Grammar") (T := T_Grammar) (N := 3) (ci := 10) 0 (v := .ref qc) 0 in_Grammar rfl rfl (by decide) m_179 rfl d_Grammar_operands_307 ?_
    refine lv_iconst (v := 0) E.1 E.2.1 d_Grammar_operands_310 (by decide) ?_
    have hPc := hP.sub (ws' := [(qc, .inr (1, [.ref qb, .int ln, .int (nI a2_41), .int (nI b), .int ml2_42])), (qb, .inl (cB, 4000, .inl f))]) [1, 2] rfl
    have hDc := hD.sub (ws' := [(qc, .inr (1, [.ref qb, .int ln, .int (nI a2_41), .int (nI b), .int ml2_42])), (qb, .inl (cB, 4000, .inl f))]) [1, 2] (by decide) rfl
    have hFc := va_free (wc := [(qc, .inr (1, [.ref qb, .int ln, .int (nI a2_41), .int (nI b), .int ml2_42])), (qb, .inl (cB, 4000, .inl f))]) hD hS hA [1, 2] rfl
    refine x_rv (ws := [(h0, .inr (10, [.ref qc, .ref qm, .ref qe])), (qc, .inr (1, [.ref qb, .int ln, .int (nI a2_41), .int (nI b), .int ml2_42])), (qb, .inl (cB, 4000, .inl f))]) (wc := [(qc, .inr (1, [.ref qb, .int ln, .int (nI a2_41), .int (nI b), .int ml2_42])), (qb, .inl (cB, 4000, .inl f))]) (wr := [(h0, .inr (10, [.ref qc, .ref qm, .ref qe]))]) (x_V (As := [.int 0]) (C := "WasmReader$Cursor") E (c_Cursor_expect l D cB cI cJ cZ H.size qc qb ln a2_41 b ml2_42 f 0 (by omega) (by omega)) m_183 m_94 m_182 m_184 m_185 nm_Cursor_expect hPc hDc hZ hS hFc rfl rfl rfl hl.1 rfl (Nat.le_of_ble_eq_true rfl) d_Grammar_operands_311 rfl rfl (by decide) (by decide) (by decide) (by decide)) hP hD hS hA [1, 2] [0] rfl rfl (by decide) (by decide) (fun u H locs hw hP hD hS => ?_)
    obtain ⟨a2_47, ml2_48, hf_45, hf_46, rfl⟩ := hw
    have hP : va_P D classes [(h0, .inr (10, [.ref qc, .ref qm, .ref qe])), (qc, .inr (1, [.ref qb, .int ln, .int (nI a2_47), .int (nI b), .int ml2_48])), (qb, .inl (cB, 4000, .inl f))] H := hP
    have hD : va_D (va_A [(h0, .inr (10, [.ref qc, .ref qm, .ref qe])), (qc, .inr (1, [.ref qb, .int ln, .int (nI a), .int (nI b), .int ml])), (qb, .inl (cB, 4000, .inl f))] s.heap.size) [(h0, .inr (10, [.ref qc, .ref qm, .ref qe])), (qc, .inr (1, [.ref qb, .int ln, .int (nI a2_47), .int (nI b), .int ml2_48])), (qb, .inl (cB, 4000, .inl f))] := hD
    refine lv_goto (tgt := 394) E.1 E.2.1 d_Grammar_operands_314 (by decide) ?_
    refine W.widen (k := 0) (n := 0) (by decide) (by decide) ?_
    exact x_vret (ws := [(h0, .inr (10, [.ref qc, .ref qm, .ref qe])), (qc, .inr (1, [.ref qb, .int ln, .int (nI a2_47), .int (nI b), .int ml2_48])), (qb, .inl (cB, 4000, .inl f))]) E hr hlocks (hP.sub [0, 1, 2] rfl) (hD.sub [0, 1, 2] (by decide) rfl) hS ⟨a2_47, ml2_48, (by omega), (by omega), rfl⟩ d_Grammar_operands_394
  ·
    refine lv_aload_n E.1 E.2.1 d_Grammar_operands_317 rfl (lv_at hl 0 rfl) ?_
    refine x_get E hP (C := "WasmReader$Grammar") (T := T_Grammar) (N := 3) (ci := 10) 0 (v := .ref qc) 0 in_Grammar rfl rfl (by decide) m_179 rfl d_Grammar_operands_318 ?_
    refine lv_iconst (v := 0) E.1 E.2.1 d_Grammar_operands_321 (by decide) ?_
    have hPc := hP.sub (ws' := [(qc, .inr (1, [.ref qb, .int ln, .int (nI a), .int (nI b), .int ml])), (qb, .inl (cB, 4000, .inl f))]) [1, 2] rfl
    have hDc := hD.sub (ws' := [(qc, .inr (1, [.ref qb, .int ln, .int (nI a), .int (nI b), .int ml])), (qb, .inl (cB, 4000, .inl f))]) [1, 2] (by decide) rfl
    have hFc := va_free (wc := [(qc, .inr (1, [.ref qb, .int ln, .int (nI a), .int (nI b), .int ml])), (qb, .inl (cB, 4000, .inl f))]) hD hS hA [1, 2] rfl
    refine x_rv (ws := [(h0, .inr (10, [.ref qc, .ref qm, .ref qe])), (qc, .inr (1, [.ref qb, .int ln, .int (nI a), .int (nI b), .int ml])), (qb, .inl (cB, 4000, .inl f))]) (wc := [(qc, .inr (1, [.ref qb, .int ln, .int (nI a), .int (nI b), .int ml])), (qb, .inl (cB, 4000, .inl f))]) (wr := [(h0, .inr (10, [.ref qc, .ref qm, .ref qe]))]) (x_V (As := [.int 0]) (C := "WasmReader$Cursor") E (c_Cursor_expect l D cB cI cJ cZ s.heap.size qc qb ln a b ml f 0 (by omega) (by omega)) m_183 m_94 m_182 m_184 m_185 nm_Cursor_expect hPc hDc hZ hS hFc rfl rfl rfl hl.1 rfl (Nat.le_of_ble_eq_true rfl) d_Grammar_operands_322 rfl rfl (by decide) (by decide) (by decide) (by decide)) hP hD hS hA [1, 2] [0] rfl rfl (by decide) (by decide) (fun u H locs hw hP hD hS => ?_)
    obtain ⟨a2_52, ml2_53, hf_50, hf_51, rfl⟩ := hw
    have hP : va_P D classes [(h0, .inr (10, [.ref qc, .ref qm, .ref qe])), (qc, .inr (1, [.ref qb, .int ln, .int (nI a2_52), .int (nI b), .int ml2_53])), (qb, .inl (cB, 4000, .inl f))] H := hP
    have hD : va_D (va_A [(h0, .inr (10, [.ref qc, .ref qm, .ref qe])), (qc, .inr (1, [.ref qb, .int ln, .int (nI a), .int (nI b), .int ml])), (qb, .inl (cB, 4000, .inl f))] s.heap.size) [(h0, .inr (10, [.ref qc, .ref qm, .ref qe])), (qc, .inr (1, [.ref qb, .int ln, .int (nI a2_52), .int (nI b), .int ml2_53])), (qb, .inl (cB, 4000, .inl f))] := hD
    refine lv_goto (tgt := 394) E.1 E.2.1 d_Grammar_operands_325 (by decide) ?_
    refine W.widen (k := 0) (n := 0) (by decide) (by decide) ?_
    exact x_vret (ws := [(h0, .inr (10, [.ref qc, .ref qm, .ref qe])), (qc, .inr (1, [.ref qb, .int ln, .int (nI a2_52), .int (nI b), .int ml2_53])), (qb, .inl (cB, 4000, .inl f))]) E hr hlocks (hP.sub [0, 1, 2] rfl) (hD.sub [0, 1, 2] (by decide) rfl) hS ⟨a2_52, ml2_53, (by omega), (by omega), rfl⟩ d_Grammar_operands_394
  ·
    refine lv_aload_n E.1 E.2.1 d_Grammar_operands_328 rfl (lv_at hl 0 rfl) ?_
    refine x_get E hP (C := "WasmReader$Grammar") (T := T_Grammar) (N := 3) (ci := 10) 0 (v := .ref qc) 0 in_Grammar rfl rfl (by decide) m_179 rfl d_Grammar_operands_329 ?_
    refine lv_bipush (v := 32) E.1 E.2.1 d_Grammar_operands_332 (by decide) ?_
    have hPc := hP.sub (ws' := [(qc, .inr (1, [.ref qb, .int ln, .int (nI a), .int (nI b), .int ml])), (qb, .inl (cB, 4000, .inl f))]) [1, 2] rfl
    have hDc := hD.sub (ws' := [(qc, .inr (1, [.ref qb, .int ln, .int (nI a), .int (nI b), .int ml])), (qb, .inl (cB, 4000, .inl f))]) [1, 2] (by decide) rfl
    have hFc := va_free (wc := [(qc, .inr (1, [.ref qb, .int ln, .int (nI a), .int (nI b), .int ml])), (qb, .inl (cB, 4000, .inl f))]) hD hS hA [1, 2] rfl
    refine x_rl (ws := [(h0, .inr (10, [.ref qc, .ref qm, .ref qe])), (qc, .inr (1, [.ref qb, .int ln, .int (nI a), .int (nI b), .int ml])), (qb, .inl (cB, 4000, .inl f))]) (wc := [(qc, .inr (1, [.ref qb, .int ln, .int (nI a), .int (nI b), .int ml])), (qb, .inl (cB, 4000, .inl f))]) (wr := [(h0, .inr (10, [.ref qc, .ref qm, .ref qe]))]) (x_V (As := [.int 32]) (C := "WasmReader$Cursor") E (c_Cursor_signed32 l D cB cI cJ cZ s.heap.size qc qb ln a b ml f (by omega) (by omega)) m_335 m_94 m_334 m_336 m_337 nm_Cursor_signed hPc hDc hZ hS hFc rfl rfl rfl hl.1 rfl (Nat.le_of_ble_eq_true rfl) d_Grammar_operands_334 rfl rfl (by decide) (by decide) (by decide) (by decide)) hP hD hS hA [1, 2] [0] rfl rfl (by decide) (by decide) (fun r_60 u H locs hw hP hD hS => ?_)
    obtain ⟨a2_57, ml2_58, hf_55, hf_56, rfl⟩ := hw
    have hP : va_P D classes [(h0, .inr (10, [.ref qc, .ref qm, .ref qe])), (qc, .inr (1, [.ref qb, .int ln, .int (nI a2_57), .int (nI b), .int ml2_58])), (qb, .inl (cB, 4000, .inl f))] H := hP
    have hD : va_D (va_A [(h0, .inr (10, [.ref qc, .ref qm, .ref qe])), (qc, .inr (1, [.ref qb, .int ln, .int (nI a), .int (nI b), .int ml])), (qb, .inl (cB, 4000, .inl f))] s.heap.size) [(h0, .inr (10, [.ref qc, .ref qm, .ref qe])), (qc, .inr (1, [.ref qb, .int ln, .int (nI a2_57), .int (nI b), .int ml2_58])), (qb, .inl (cB, 4000, .inl f))] := hD
    refine lv_pop2_2 E.1 E.2.1 d_Grammar_operands_337 rfl ?_
    refine lv_goto (tgt := 394) E.1 E.2.1 d_Grammar_operands_338 (by decide) ?_
    refine W.widen (k := 0) (n := 0) (by decide) (by decide) ?_
    exact x_vret (ws := [(h0, .inr (10, [.ref qc, .ref qm, .ref qe])), (qc, .inr (1, [.ref qb, .int ln, .int (nI a2_57), .int (nI b), .int ml2_58])), (qb, .inl (cB, 4000, .inl f))]) E hr hlocks (hP.sub [0, 1, 2] rfl) (hD.sub [0, 1, 2] (by decide) rfl) hS ⟨a2_57, ml2_58, (by omega), (by omega), rfl⟩ d_Grammar_operands_394
  ·
    refine lv_aload_n E.1 E.2.1 d_Grammar_operands_341 rfl (lv_at hl 0 rfl) ?_
    refine x_get E hP (C := "WasmReader$Grammar") (T := T_Grammar) (N := 3) (ci := 10) 0 (v := .ref qc) 0 in_Grammar rfl rfl (by decide) m_179 rfl d_Grammar_operands_342 ?_
    refine lv_bipush (v := 64) E.1 E.2.1 d_Grammar_operands_345 (by decide) ?_
    have hPc := hP.sub (ws' := [(qc, .inr (1, [.ref qb, .int ln, .int (nI a), .int (nI b), .int ml])), (qb, .inl (cB, 4000, .inl f))]) [1, 2] rfl
    have hDc := hD.sub (ws' := [(qc, .inr (1, [.ref qb, .int ln, .int (nI a), .int (nI b), .int ml])), (qb, .inl (cB, 4000, .inl f))]) [1, 2] (by decide) rfl
    have hFc := va_free (wc := [(qc, .inr (1, [.ref qb, .int ln, .int (nI a), .int (nI b), .int ml])), (qb, .inl (cB, 4000, .inl f))]) hD hS hA [1, 2] rfl
    refine x_rl (ws := [(h0, .inr (10, [.ref qc, .ref qm, .ref qe])), (qc, .inr (1, [.ref qb, .int ln, .int (nI a), .int (nI b), .int ml])), (qb, .inl (cB, 4000, .inl f))]) (wc := [(qc, .inr (1, [.ref qb, .int ln, .int (nI a), .int (nI b), .int ml])), (qb, .inl (cB, 4000, .inl f))]) (wr := [(h0, .inr (10, [.ref qc, .ref qm, .ref qe]))]) (x_V (As := [.int 64]) (C := "WasmReader$Cursor") E (c_Cursor_signed64 l D cB cI cJ cZ s.heap.size qc qb ln a b ml f (by omega) (by omega)) m_335 m_94 m_334 m_336 m_337 nm_Cursor_signed hPc hDc hZ hS hFc rfl rfl rfl hl.1 rfl (Nat.le_of_ble_eq_true rfl) d_Grammar_operands_347 rfl rfl (by decide) (by decide) (by decide) (by decide)) hP hD hS hA [1, 2] [0] rfl rfl (by decide) (by decide) (fun r_66 u H locs hw hP hD hS => ?_)
    obtain ⟨a2_63, ml2_64, hf_61, hf_62, rfl⟩ := hw
    have hP : va_P D classes [(h0, .inr (10, [.ref qc, .ref qm, .ref qe])), (qc, .inr (1, [.ref qb, .int ln, .int (nI a2_63), .int (nI b), .int ml2_64])), (qb, .inl (cB, 4000, .inl f))] H := hP
    have hD : va_D (va_A [(h0, .inr (10, [.ref qc, .ref qm, .ref qe])), (qc, .inr (1, [.ref qb, .int ln, .int (nI a), .int (nI b), .int ml])), (qb, .inl (cB, 4000, .inl f))] s.heap.size) [(h0, .inr (10, [.ref qc, .ref qm, .ref qe])), (qc, .inr (1, [.ref qb, .int ln, .int (nI a2_63), .int (nI b), .int ml2_64])), (qb, .inl (cB, 4000, .inl f))] := hD
    refine lv_pop2_2 E.1 E.2.1 d_Grammar_operands_350 rfl ?_
    refine lv_goto (tgt := 394) E.1 E.2.1 d_Grammar_operands_351 (by decide) ?_
    refine W.widen (k := 0) (n := 0) (by decide) (by decide) ?_
    exact x_vret (ws := [(h0, .inr (10, [.ref qc, .ref qm, .ref qe])), (qc, .inr (1, [.ref qb, .int ln, .int (nI a2_63), .int (nI b), .int ml2_64])), (qb, .inl (cB, 4000, .inl f))]) E hr hlocks (hP.sub [0, 1, 2] rfl) (hD.sub [0, 1, 2] (by decide) rfl) hS ⟨a2_63, ml2_64, (by omega), (by omega), rfl⟩ d_Grammar_operands_394
