set_option maxHeartbeats 4000000 in
set_option maxRecDepth 100000 in
theorem c_Cursor_span (l : Launch) (D : va_G) (cB cI cJ cZ : ClassId) (sz : Nat) (h0 : Nat) (qb : Nat) (ln : Int32) (pos : Int32) (lim : Int32) (ml : Int32) (x : Int32) (y : Int32)  : Met l y_Cursor_span (Cond.code y_Cursor_span prog_2_method_3_code 3 none :: xtb) ({ frames := 0, cells := 0, slots := 0, locals := 0 }) (xP D [(cB, .byte), (cI, .int), (cJ, .long), (cZ, .boolean)] [.ref h0, .int x, .int y] [(h0, .inr (1, [.ref qb, .int ln, .int pos, .int lim, .int ml]))] sz) (xQv D [(cB, .byte), (cI, .int), (cJ, .long), (cZ, .boolean)] [(h0, .inr (1, [.ref qb, .int ln, .int pos, .int lim, .int ml]))] sz (fun u => u = [(h0, .inr (1, [.ref qb, .int ln, .int x, .int y, .int ml]))])) 0 0 (va_A [(h0, .inr (1, [.ref qb, .int ln, .int pos, .int lim, .int ml]))] sz) := by
  refine x_met (Qc := fun s => xQv D [(cB, .byte), (cI, .int), (cJ, .long), (cZ, .boolean)] [(h0, .inr (1, [.ref qb, .int ln, .int pos, .int lim, .int ml]))] s.heap.size (fun u => u = [(h0, .inr (1, [.ref qb, .int ln, .int x, .int y, .int ml]))])) (fr := fun s => va_A [(h0, .inr (1, [.ref qb, .int ln, .int pos, .int lim, .int ml]))] s.heap.size) "WasmReader$Cursor" (by decide +kernel) rfl (Nat.le_of_ble_eq_true rfl) (fun s h => by rw [h]) (fun s h => by rw [h]) ?_
  intro p e s m below meth c ls E hr hlocks hinit hl hP hD hA hS hZ hadm
  have hl : lv_has ls 3 [(0, .ref h0), (1, .int x), (2, .int y)] := hl
  refine lv_aload_n E.1 E.2.1 d_Cursor_span_0 rfl (lv_at hl 0 rfl) ?_
  refine lv_iload_n E.1 E.2.1 d_Cursor_span_1 rfl (lv_at hl 1 rfl) ?_
  refine x_put E hP hD hS (C := "WasmReader$Cursor") (T := T_Cursor) (N := 5) (ci := 1) 0 (v := .int x) 2 (t0 := t_Cursor) (tk := .int) in_Cursor tok_Cursor nok_Cursor rfl rfl (by decide) m_167 rfl rfl rfl rfl (Nat.le_of_ble_eq_true rfl) d_Cursor_span_2 (fun H locs hP hD hS => ?_)
  have hP : va_P D classes [(h0, .inr (1, [.ref qb, .int ln, .int x, .int lim, .int ml]))] H := hP
  have hD : va_D (va_A [(h0, .inr (1, [.ref qb, .int ln, .int pos, .int lim, .int ml]))] s.heap.size) [(h0, .inr (1, [.ref qb, .int ln, .int x, .int lim, .int ml]))] := hD
  refine lv_aload_n E.1 E.2.1 d_Cursor_span_5 rfl (lv_at hl 0 rfl) ?_
  refine lv_iload_n E.1 E.2.1 d_Cursor_span_6 rfl (lv_at hl 2 rfl) ?_
  refine x_put E hP hD hS (C := "WasmReader$Cursor") (T := T_Cursor) (N := 5) (ci := 1) 0 (v := .int y) 3 (t0 := t_Cursor) (tk := .int) in_Cursor tok_Cursor nok_Cursor rfl rfl (by decide) m_168 rfl rfl rfl rfl (Nat.le_of_ble_eq_true rfl) d_Cursor_span_7 (fun H locs hP hD hS => ?_)
  have hP : va_P D classes [(h0, .inr (1, [.ref qb, .int ln, .int x, .int y, .int ml]))] H := hP
  have hD : va_D (va_A [(h0, .inr (1, [.ref qb, .int ln, .int pos, .int lim, .int ml]))] s.heap.size) [(h0, .inr (1, [.ref qb, .int ln, .int x, .int y, .int ml]))] := hD
  refine W.widen (k := 0) (n := 0) (by decide) (by decide) ?_
  exact x_vret (ws := [(h0, .inr (1, [.ref qb, .int ln, .int x, .int y, .int ml]))]) E hr hlocks (hP.sub [0] rfl) (hD.sub [0] (by decide) rfl) hS rfl d_Cursor_span_10
set_option maxHeartbeats 4000000 in
set_option maxRecDepth 100000 in
theorem c_Cursor_fail (l : Launch) (D : va_G) (cB cI cJ cZ : ClassId) (sz : Nat) (h0 : Nat) (qb : Nat) (ln : Int32) (pos : Int32) (lim : Int32) (ml : Int32)  : Met l y_Cursor_fail (Cond.code y_Cursor_fail prog_2_method_5_code 1 none :: xtb) ({ frames := 0, cells := 0, slots := 0, locals := 0 }) (xP D [(cB, .byte), (cI, .int), (cJ, .long), (cZ, .boolean)] [.ref h0] [(h0, .inr (1, [.ref qb, .int ln, .int pos, .int lim, .int ml]))] sz) (xQv D [(cB, .byte), (cI, .int), (cJ, .long), (cZ, .boolean)] [(h0, .inr (1, [.ref qb, .int ln, .int pos, .int lim, .int ml]))] sz (fun u => u = [(h0, .inr (1, [.ref qb, .int ln, .int pos, .int lim, .int 1]))])) 0 0 (va_A [(h0, .inr (1, [.ref qb, .int ln, .int pos, .int lim, .int ml]))] sz) := by
  refine x_met (Qc := fun s => xQv D [(cB, .byte), (cI, .int), (cJ, .long), (cZ, .boolean)] [(h0, .inr (1, [.ref qb, .int ln, .int pos, .int lim, .int ml]))] s.heap.size (fun u => u = [(h0, .inr (1, [.ref qb, .int ln, .int pos, .int lim, .int 1]))])) (fr := fun s => va_A [(h0, .inr (1, [.ref qb, .int ln, .int pos, .int lim, .int ml]))] s.heap.size) "WasmReader$Cursor" (by decide +kernel) rfl (Nat.le_of_ble_eq_true rfl) (fun s h => by rw [h]) (fun s h => by rw [h]) ?_
  intro p e s m below meth c ls E hr hlocks hinit hl hP hD hA hS hZ hadm
  have hl : lv_has ls 1 [(0, .ref h0)] := hl
  refine lv_aload_n E.1 E.2.1 d_Cursor_fail_0 rfl (lv_at hl 0 rfl) ?_
  refine lv_iconst (v := 1) E.1 E.2.1 d_Cursor_fail_1 (by decide) ?_
  refine x_put E hP hD hS (C := "WasmReader$Cursor") (T := T_Cursor) (N := 5) (ci := 1) 0 (v := .int 1) 4 (t0 := t_Cursor) (tk := .boolean) in_Cursor tok_Cursor nok_Cursor rfl rfl (by decide) m_169 rfl rfl (by decide) (by decide) (Nat.le_of_ble_eq_true rfl) d_Cursor_fail_2 (fun H locs hP hD hS => ?_)
  have hP : va_P D classes [(h0, .inr (1, [.ref qb, .int ln, .int pos, .int lim, .int 1]))] H := hP
  have hD : va_D (va_A [(h0, .inr (1, [.ref qb, .int ln, .int pos, .int lim, .int ml]))] s.heap.size) [(h0, .inr (1, [.ref qb, .int ln, .int pos, .int lim, .int 1]))] := hD
  refine W.widen (k := 0) (n := 0) (by decide) (by decide) ?_
  exact x_vret (ws := [(h0, .inr (1, [.ref qb, .int ln, .int pos, .int lim, .int 1]))]) E hr hlocks (hP.sub [0] rfl) (hD.sub [0] (by decide) rfl) hS rfl d_Cursor_fail_5
set_option maxHeartbeats 4000000 in
set_option maxRecDepth 100000 in
theorem c_Cursor_more (l : Launch) (D : va_G) (cB cI cJ cZ : ClassId) (sz : Nat) (h0 : Nat) (qb : Nat) (ln : Int32) (pos : Int32) (lim : Int32) (ml : Int32)  : Met l y_Cursor_more (Cond.code y_Cursor_more prog_2_method_4_code 1 (some .boolean) :: xtb) ({ frames := 0, cells := 0, slots := 0, locals := 0 }) (xP D [(cB, .byte), (cI, .int), (cJ, .long), (cZ, .boolean)] [.ref h0] [(h0, .inr (1, [.ref qb, .int ln, .int pos, .int lim, .int ml]))] sz) (xQi D [(cB, .byte), (cI, .int), (cJ, .long), (cZ, .boolean)] [(h0, .inr (1, [.ref qb, .int ln, .int pos, .int lim, .int ml]))] sz (fun r u => u = [(h0, .inr (1, [.ref qb, .int ln, .int pos, .int lim, .int ml]))])) 0 0 (va_A [(h0, .inr (1, [.ref qb, .int ln, .int pos, .int lim, .int ml]))] sz) := by
  refine x_met (Qc := fun s => xQi D [(cB, .byte), (cI, .int), (cJ, .long), (cZ, .boolean)] [(h0, .inr (1, [.ref qb, .int ln, .int pos, .int lim, .int ml]))] s.heap.size (fun r u => u = [(h0, .inr (1, [.ref qb, .int ln, .int pos, .int lim, .int ml]))])) (fr := fun s => va_A [(h0, .inr (1, [.ref qb, .int ln, .int pos, .int lim, .int ml]))] s.heap.size) "WasmReader$Cursor" (by decide +kernel) rfl (Nat.le_of_ble_eq_true rfl) (fun s h => by rw [h]) (fun s h => by rw [h]) ?_
  intro p e s m below meth c ls E hr hlocks hinit hl hP hD hA hS hZ hadm
  have hl : lv_has ls 1 [(0, .ref h0)] := hl
  refine lv_aload_n E.1 E.2.1 d_Cursor_more_0 rfl (lv_at hl 0 rfl) ?_
  refine x_get E hP (C := "WasmReader$Cursor") (T := T_Cursor) (N := 5) (ci := 1) 0 (v := .int ml) 4 in_Cursor rfl rfl (by decide) m_169 rfl d_Cursor_more_1 ?_
  refine lv_if_ne (tgt := 22) E.1 E.2.1 d_Cursor_more_4 (by decide) (fun hc_1 => ?_) (fun hc_1 => ?_)
  ·
    refine lv_iconst (v := 0) E.1 E.2.1 d_Cursor_more_22 (by decide) ?_
    refine W.widen (k := 0) (n := 0) (by decide) (by decide) ?_
    exact x_zret (ws := [(h0, .inr (1, [.ref qb, .int ln, .int pos, .int lim, .int ml]))]) E hr (by decide) hlocks (hP.sub [0] rfl) (hD.sub [0] (by decide) rfl) hS rfl d_Cursor_more_23
  ·
    refine lv_aload_n E.1 E.2.1 d_Cursor_more_7 rfl (lv_at hl 0 rfl) ?_
    refine x_get E hP (C := "WasmReader$Cursor") (T := T_Cursor) (N := 5) (ci := 1) 0 (v := .int pos) 2 in_Cursor rfl rfl (by decide) m_167 rfl d_Cursor_more_8 ?_
    refine lv_aload_n E.1 E.2.1 d_Cursor_more_11 rfl (lv_at hl 0 rfl) ?_
    refine x_get E hP (C := "WasmReader$Cursor") (T := T_Cursor) (N := 5) (ci := 1) 0 (v := .int lim) 3 in_Cursor rfl rfl (by decide) m_168 rfl d_Cursor_more_12 ?_
    refine lv_icmp_ge (tgt := 22) E.1 E.2.1 d_Cursor_more_15 (by decide) (fun hc_2 => ?_) (fun hc_2 => ?_)
    ·
      refine lv_iconst (v := 0) E.1 E.2.1 d_Cursor_more_22 (by decide) ?_
      refine W.widen (k := 0) (n := 0) (by decide) (by decide) ?_
      exact x_zret (ws := [(h0, .inr (1, [.ref qb, .int ln, .int pos, .int lim, .int ml]))]) E hr (by decide) hlocks (hP.sub [0] rfl) (hD.sub [0] (by decide) rfl) hS rfl d_Cursor_more_23
    ·
      refine lv_iconst (v := 1) E.1 E.2.1 d_Cursor_more_18 (by decide) ?_
      refine lv_goto (tgt := 23) E.1 E.2.1 d_Cursor_more_19 (by decide) ?_
      refine W.widen (k := 0) (n := 0) (by decide) (by decide) ?_
      exact x_zret (ws := [(h0, .inr (1, [.ref qb, .int ln, .int pos, .int lim, .int ml]))]) E hr (by decide) hlocks (hP.sub [0] rfl) (hD.sub [0] (by decide) rfl) hS rfl d_Cursor_more_23
set_option maxHeartbeats 4000000 in
set_option maxRecDepth 100000 in
theorem c_Cursor_nextByte (l : Launch) (D : va_G) (cB cI cJ cZ : ClassId) (sz : Nat) (h0 : Nat) (qb : Nat) (ln : Int32) (a : Nat) (b : Nat) (ml : Int32) (f : Nat → Int32) (hab : a ≤ b) (hb4 : b ≤ 4000) : Met l y_Cursor_nextByte (Cond.code y_Cursor_nextByte prog_2_method_6_code 2 (some .int) :: xtb) ({ frames := 0, cells := 0, slots := 0, locals := 0 }) (xP D [(cB, .byte), (cI, .int), (cJ, .long), (cZ, .boolean)] [.ref h0] [(h0, .inr (1, [.ref qb, .int ln, .int (nI a), .int (nI b), .int ml])), (qb, .inl (cB, 4000, .inl f))] sz) (xQi D [(cB, .byte), (cI, .int), (cJ, .long), (cZ, .boolean)] [(h0, .inr (1, [.ref qb, .int ln, .int (nI a), .int (nI b), .int ml])), (qb, .inl (cB, 4000, .inl f))] sz (fun r u => ∃ (a2 : Nat), ∃ (ml2 : Int32), (a ≤ a2) ∧ (a2 ≤ b) ∧ u = [(h0, .inr (1, [.ref qb, .int ln, .int (nI a2), .int (nI b), .int ml2])), (qb, .inl (cB, 4000, .inl f))])) 0 0 (va_A [(h0, .inr (1, [.ref qb, .int ln, .int (nI a), .int (nI b), .int ml])), (qb, .inl (cB, 4000, .inl f))] sz) := by
  refine x_met (Qc := fun s => xQi D [(cB, .byte), (cI, .int), (cJ, .long), (cZ, .boolean)] [(h0, .inr (1, [.ref qb, .int ln, .int (nI a), .int (nI b), .int ml])), (qb, .inl (cB, 4000, .inl f))] s.heap.size (fun r u => ∃ (a2 : Nat), ∃ (ml2 : Int32), (a ≤ a2) ∧ (a2 ≤ b) ∧ u = [(h0, .inr (1, [.ref qb, .int ln, .int (nI a2), .int (nI b), .int ml2])), (qb, .inl (cB, 4000, .inl f))])) (fr := fun s => va_A [(h0, .inr (1, [.ref qb, .int ln, .int (nI a), .int (nI b), .int ml])), (qb, .inl (cB, 4000, .inl f))] s.heap.size) "WasmReader$Cursor" (by decide +kernel) rfl (Nat.le_of_ble_eq_true rfl) (fun s h => by rw [h]) (fun s h => by rw [h]) ?_
  intro p e s m below meth c ls E hr hlocks hinit hl hP hD hA hS hZ hadm
  have hl : lv_has ls 2 [(0, .ref h0)] := hl
  refine lv_aload_n E.1 E.2.1 d_Cursor_nextByte_0 rfl (lv_at hl 0 rfl) ?_
  refine x_get E hP (C := "WasmReader$Cursor") (T := T_Cursor) (N := 5) (ci := 1) 0 (v := .int (nI a)) 2 in_Cursor rfl rfl (by decide) m_167 rfl d_Cursor_nextByte_1 ?_
  refine lv_if_lt (tgt := 30) E.1 E.2.1 d_Cursor_nextByte_4 (by decide) (fun hc => absurd hc (nI_pos (n := a) (by omega))) (fun _ => ?_)
  refine lv_aload_n E.1 E.2.1 d_Cursor_nextByte_7 rfl (lv_at hl 0 rfl) ?_
  refine x_get E hP (C := "WasmReader$Cursor") (T := T_Cursor) (N := 5) (ci := 1) 0 (v := .int (nI a)) 2 in_Cursor rfl rfl (by decide) m_167 rfl d_Cursor_nextByte_8 ?_
  refine lv_aload_n E.1 E.2.1 d_Cursor_nextByte_11 rfl (lv_at hl 0 rfl) ?_
  refine x_get E hP (C := "WasmReader$Cursor") (T := T_Cursor) (N := 5) (ci := 1) 0 (v := .int (nI b)) 3 in_Cursor rfl rfl (by decide) m_168 rfl d_Cursor_nextByte_12 ?_
  refine lv_icmp_ge (tgt := 30) E.1 E.2.1 d_Cursor_nextByte_15 (by decide) (fun hc_1 => ?_) (fun hc_1 => ?_)
  ·
    have hc_1 : b ≤ a := (nI_leI (a := b) (b := a) (by omega) (by omega)).mp hc_1
    refine lv_aload_n E.1 E.2.1 d_Cursor_nextByte_30 rfl (lv_at hl 0 rfl) ?_
    refine lv_iconst (v := 1) E.1 E.2.1 d_Cursor_nextByte_31 (by decide) ?_
    refine x_put E hP hD hS (C := "WasmReader$Cursor") (T := T_Cursor) (N := 5) (ci := 1) 0 (v := .int 1) 4 (t0 := t_Cursor) (tk := .boolean) in_Cursor tok_Cursor nok_Cursor rfl rfl (by decide) m_169 rfl rfl (by decide) (by decide) (Nat.le_of_ble_eq_true rfl) d_Cursor_nextByte_32 (fun H locs hP hD hS => ?_)
    have hP : va_P D classes [(h0, .inr (1, [.ref qb, .int ln, .int (nI a), .int (nI b), .int 1])), (qb, .inl (cB, 4000, .inl f))] H := hP
    have hD : va_D (va_A [(h0, .inr (1, [.ref qb, .int ln, .int (nI a), .int (nI b), .int ml])), (qb, .inl (cB, 4000, .inl f))] s.heap.size) [(h0, .inr (1, [.ref qb, .int ln, .int (nI a), .int (nI b), .int 1])), (qb, .inl (cB, 4000, .inl f))] := hD
    refine lv_iconst (v := 0) E.1 E.2.1 d_Cursor_nextByte_35 (by decide) ?_
    refine W.widen (k := 0) (n := 0) (by decide) (by decide) ?_
    exact x_iret (ws := [(h0, .inr (1, [.ref qb, .int ln, .int (nI a), .int (nI b), .int 1])), (qb, .inl (cB, 4000, .inl f))]) E hr hlocks (hP.sub [0, 1] rfl) (hD.sub [0, 1] (by decide) rfl) hS ⟨a, 1, (by omega), (by omega), rfl⟩ d_Cursor_nextByte_36
  ·
    have hc_1 : ¬ (b ≤ a) := fun hq_ => hc_1 ((nI_leI (a := b) (b := a) (by omega) (by omega)).mpr hq_)
    refine lv_aload_n E.1 E.2.1 d_Cursor_nextByte_18 rfl (lv_at hl 0 rfl) ?_
    refine x_get E hP (C := "WasmReader$Cursor") (T := T_Cursor) (N := 5) (ci := 1) 0 (v := .int (nI a)) 2 in_Cursor rfl rfl (by decide) m_167 rfl d_Cursor_nextByte_19 ?_
    refine lv_aload_n E.1 E.2.1 d_Cursor_nextByte_22 rfl (lv_at hl 0 rfl) ?_
    refine x_get E hP (C := "WasmReader$Cursor") (T := T_Cursor) (N := 5) (ci := 1) 0 (v := .ref qb) 0 in_Cursor rfl rfl (by decide) m_0 rfl d_Cursor_nextByte_23 ?_
    refine va_alen E.1 E.2.1 E.2.2.2.2.2 hP 1 0 rfl rfl (v := 4000) rfl d_Cursor_nextByte_26 ?_
    refine lv_icmp_lt (tgt := 37) E.1 E.2.1 d_Cursor_nextByte_27 (by decide) (fun hc_2 => ?_) (fun hc_2 => ?_)
    ·
      have hc_2 : a < 4000 := (nI_ltI (a := a) (b := 4000) (by omega) (by omega)).mp hc_2
      refine lv_aload_n E.1 E.2.1 d_Cursor_nextByte_37 rfl (lv_at hl 0 rfl) ?_
      refine x_get E hP (C := "WasmReader$Cursor") (T := T_Cursor) (N := 5) (ci := 1) 0 (v := .ref qb) 0 in_Cursor rfl rfl (by decide) m_0 rfl d_Cursor_nextByte_38 ?_
      refine lv_aload_n E.1 E.2.1 d_Cursor_nextByte_41 rfl (lv_at hl 0 rfl) ?_
      refine x_get E hP (C := "WasmReader$Cursor") (T := T_Cursor) (N := 5) (ci := 1) 0 (v := .int (nI a)) 2 in_Cursor rfl rfl (by decide) m_167 rfl d_Cursor_nextByte_42 ?_
      refine va_bald E.1 E.2.1 E.2.2.2.2.2 hP 1 0 rfl rfl (i := nI a) (vp_in_nI (n := a) (by omega) (by decide)) d_Cursor_nextByte_45 ?_
      refine lv_topi (fun v_3 ev_3 => ?_)
      refine lv_sipush (v := 255) E.1 E.2.1 d_Cursor_nextByte_46 (by decide) ?_
      refine lv_iand E.1 E.2.1 d_Cursor_nextByte_49 ?_
      refine lv_topi (fun v_4 ev_4 => ?_)
      refine lv_istore_n (lv' := [(1, .int v_4), (0, .ref h0)]) E.1 E.2.1 d_Cursor_nextByte_50 rfl hl (by decide) rfl (fun ls hl => ?_)
      refine lv_aload_n E.1 E.2.1 d_Cursor_nextByte_51 rfl (lv_at hl 1 rfl) ?_
      refine lv_dup E.1 E.2.1 d_Cursor_nextByte_52 rfl ?_
      refine x_get E hP (C := "WasmReader$Cursor") (T := T_Cursor) (N := 5) (ci := 1) 0 (v := .int (nI a)) 2 in_Cursor rfl rfl (by decide) m_167 rfl d_Cursor_nextByte_53 ?_
      refine lv_iconst (v := 1) E.1 E.2.1 d_Cursor_nextByte_56 (by decide) ?_
      refine lv_iadd E.1 E.2.1 d_Cursor_nextByte_57 ?_
      refine lv_topi (fun vt_5 evt_5 => ?_)
      obtain rfl : vt_5 = nI (a + 1) := evt_5.trans (nI_add a 1)
      refine x_put E hP hD hS (C := "WasmReader$Cursor") (T := T_Cursor) (N := 5) (ci := 1) 0 (v := .int (nI (a + 1))) 2 (t0 := t_Cursor) (tk := .int) in_Cursor tok_Cursor nok_Cursor rfl rfl (by decide) m_167 rfl rfl rfl rfl (Nat.le_of_ble_eq_true rfl) d_Cursor_nextByte_58 (fun H locs hP hD hS => ?_)
      have hP : va_P D classes [(h0, .inr (1, [.ref qb, .int ln, .int (nI (a + 1)), .int (nI b), .int ml])), (qb, .inl (cB, 4000, .inl f))] H := hP
      have hD : va_D (va_A [(h0, .inr (1, [.ref qb, .int ln, .int (nI a), .int (nI b), .int ml])), (qb, .inl (cB, 4000, .inl f))] s.heap.size) [(h0, .inr (1, [.ref qb, .int ln, .int (nI (a + 1)), .int (nI b), .int ml])), (qb, .inl (cB, 4000, .inl f))] := hD
      refine lv_iload_n E.1 E.2.1 d_Cursor_nextByte_61 rfl (lv_at hl 0 rfl) ?_
      refine W.widen (k := 0) (n := 0) (by decide) (by decide) ?_
      exact x_iret (ws := [(h0, .inr (1, [.ref qb, .int ln, .int (nI (a + 1)), .int (nI b), .int ml])), (qb, .inl (cB, 4000, .inl f))]) E hr hlocks (hP.sub [0, 1] rfl) (hD.sub [0, 1] (by decide) rfl) hS ⟨(a + 1), ml, (by omega), (by omega), rfl⟩ d_Cursor_nextByte_62
    ·
      have hc_2 : ¬ (a < 4000) := fun hq_ => hc_2 ((nI_ltI (a := a) (b := 4000) (by omega) (by omega)).mpr hq_)
      refine lv_aload_n E.1 E.2.1 d_Cursor_nextByte_30 rfl (lv_at hl 0 rfl) ?_
      refine lv_iconst (v := 1) E.1 E.2.1 d_Cursor_nextByte_31 (by decide) ?_
      refine x_put E hP hD hS (C := "WasmReader$Cursor") (T := T_Cursor) (N := 5) (ci := 1) 0 (v := .int 1) 4 (t0 := t_Cursor) (tk := .boolean) in_Cursor tok_Cursor nok_Cursor rfl rfl (by decide) m_169 rfl rfl (by decide) (by decide) (Nat.le_of_ble_eq_true rfl) d_Cursor_nextByte_32 (fun H locs hP hD hS => ?_)
      have hP : va_P D classes [(h0, .inr (1, [.ref qb, .int ln, .int (nI a), .int (nI b), .int 1])), (qb, .inl (cB, 4000, .inl f))] H := hP
      have hD : va_D (va_A [(h0, .inr (1, [.ref qb, .int ln, .int (nI a), .int (nI b), .int ml])), (qb, .inl (cB, 4000, .inl f))] s.heap.size) [(h0, .inr (1, [.ref qb, .int ln, .int (nI a), .int (nI b), .int 1])), (qb, .inl (cB, 4000, .inl f))] := hD
      refine lv_iconst (v := 0) E.1 E.2.1 d_Cursor_nextByte_35 (by decide) ?_
      refine W.widen (k := 0) (n := 0) (by decide) (by decide) ?_
      exact x_iret (ws := [(h0, .inr (1, [.ref qb, .int ln, .int (nI a), .int (nI b), .int 1])), (qb, .inl (cB, 4000, .inl f))]) E hr hlocks (hP.sub [0, 1] rfl) (hD.sub [0, 1] (by decide) rfl) hS ⟨a, 1, (by omega), (by omega), rfl⟩ d_Cursor_nextByte_36
set_option maxHeartbeats 4000000 in
set_option maxRecDepth 100000 in
theorem c_Cursor_expect (l : Launch) (D : va_G) (cB cI cJ cZ : ClassId) (sz : Nat) (h0 : Nat) (qb : Nat) (ln : Int32) (a : Nat) (b : Nat) (ml : Int32) (f : Nat → Int32) (due : Int32) (hab : a ≤ b) (hb4 : b ≤ 4000) : Met l y_Cursor_expect (Cond.code y_Cursor_expect prog_2_method_7_code 2 none :: xtb) ({ frames := 1, cells := 0, slots := 0, locals := 21 }) (xP D [(cB, .byte), (cI, .int), (cJ, .long), (cZ, .boolean)] [.ref h0, .int due] [(h0, .inr (1, [.ref qb, .int ln, .int (nI a), .int (nI b), .int ml])), (qb, .inl (cB, 4000, .inl f))] sz) (xQv D [(cB, .byte), (cI, .int), (cJ, .long), (cZ, .boolean)] [(h0, .inr (1, [.ref qb, .int ln, .int (nI a), .int (nI b), .int ml])), (qb, .inl (cB, 4000, .inl f))] sz (fun u => ∃ (a2 : Nat), ∃ (ml2 : Int32), (a ≤ a2) ∧ (a2 ≤ b) ∧ u = [(h0, .inr (1, [.ref qb, .int ln, .int (nI a2), .int (nI b), .int ml2])), (qb, .inl (cB, 4000, .inl f))])) 0 0 (va_A [(h0, .inr (1, [.ref qb, .int ln, .int (nI a), .int (nI b), .int ml])), (qb, .inl (cB, 4000, .inl f))] sz) := by
  refine x_met (Qc := fun s => xQv D [(cB, .byte), (cI, .int), (cJ, .long), (cZ, .boolean)] [(h0, .inr (1, [.ref qb, .int ln, .int (nI a), .int (nI b), .int ml])), (qb, .inl (cB, 4000, .inl f))] s.heap.size (fun u => ∃ (a2 : Nat), ∃ (ml2 : Int32), (a ≤ a2) ∧ (a2 ≤ b) ∧ u = [(h0, .inr (1, [.ref qb, .int ln, .int (nI a2), .int (nI b), .int ml2])), (qb, .inl (cB, 4000, .inl f))])) (fr := fun s => va_A [(h0, .inr (1, [.ref qb, .int ln, .int (nI a), .int (nI b), .int ml])), (qb, .inl (cB, 4000, .inl f))] s.heap.size) "WasmReader$Cursor" (by decide +kernel) rfl (Nat.le_of_ble_eq_true rfl) (fun s h => by rw [h]) (fun s h => by rw [h]) ?_
  intro p e s m below meth c ls E hr hlocks hinit hl hP hD hA hS hZ hadm
  have hl : lv_has ls 2 [(0, .ref h0), (1, .int due)] := hl
  refine lv_aload_n E.1 E.2.1 d_Cursor_expect_0 rfl (lv_at hl 0 rfl) ?_
  have hPc := hP.sub (ws' := [(h0, .inr (1, [.ref qb, .int ln, .int (nI a), .int (nI b), .int ml])), (qb, .inl (cB, 4000, .inl f))]) [0, 1] rfl
  have hDc := hD.sub (ws' := [(h0, .inr (1, [.ref qb, .int ln, .int (nI a), .int (nI b), .int ml])), (qb, .inl (cB, 4000, .inl f))]) [0, 1] (by decide) rfl
  have hFc := va_free (wc := [(h0, .inr (1, [.ref qb, .int ln, .int (nI a), .int (nI b), .int ml])), (qb, .inl (cB, 4000, .inl f))]) hD hS hA [0, 1] rfl
  refine x_ri (ws := [(h0, .inr (1, [.ref qb, .int ln, .int (nI a), .int (nI b), .int ml])), (qb, .inl (cB, 4000, .inl f))]) (wc := [(h0, .inr (1, [.ref qb, .int ln, .int (nI a), .int (nI b), .int ml])), (qb, .inl (cB, 4000, .inl f))]) (wr := []) (x_V (As := []) (C := "WasmReader$Cursor") E (c_Cursor_nextByte l D cB cI cJ cZ s.heap.size h0 qb ln a b ml f (by omega) (by omega)) m_171 m_94 m_170 m_172 m_173 nm_Cursor_nextByte hPc hDc hZ hS hFc rfl rfl rfl hl.1 rfl (Nat.le_of_ble_eq_true rfl) d_Cursor_expect_1 rfl rfl (by decide) (by decide) (by decide) (by decide)) hP hD hS hA [0, 1] [] rfl rfl (by decide) (by decide) (fun r_8 u H locs hw hP hD hS => ?_)
  obtain ⟨a2_5, ml2_6, hf_3, hf_4, rfl⟩ := hw
  have hP : va_P D classes [(h0, .inr (1, [.ref qb, .int ln, .int (nI a2_5), .int (nI b), .int ml2_6])), (qb, .inl (cB, 4000, .inl f))] H := hP
  have hD : va_D (va_A [(h0, .inr (1, [.ref qb, .int ln, .int (nI a), .int (nI b), .int ml])), (qb, .inl (cB, 4000, .inl f))] s.heap.size) [(h0, .inr (1, [.ref qb, .int ln, .int (nI a2_5), .int (nI b), .int ml2_6])), (qb, .inl (cB, 4000, .inl f))] := hD
  refine lv_iload_n E.1 E.2.1 d_Cursor_expect_4 rfl (lv_at hl 1 rfl) ?_
  refine lv_icmp_eq (tgt := 12) E.1 E.2.1 d_Cursor_expect_5 (by decide) (fun hc_9 => ?_) (fun hc_9 => ?_)
  ·
    refine W.widen (k := 0) (n := 0) (by decide) (by decide) ?_
    exact x_vret (ws := [(h0, .inr (1, [.ref qb, .int ln, .int (nI a2_5), .int (nI b), .int ml2_6])), (qb, .inl (cB, 4000, .inl f))]) E hr hlocks (hP.sub [0, 1] rfl) (hD.sub [0, 1] (by decide) rfl) hS ⟨a2_5, ml2_6, (by omega), (by omega), rfl⟩ d_Cursor_expect_12
  ·
    refine lv_aload_n E.1 E.2.1 d_Cursor_expect_8 rfl (lv_at hl 0 rfl) ?_
    have hPc := hP.sub (ws' := [(h0, .inr (1, [.ref qb, .int ln, .int (nI a2_5), .int (nI b), .int ml2_6]))]) [0] rfl
    have hDc := hD.sub (ws' := [(h0, .inr (1, [.ref qb, .int ln, .int (nI a2_5), .int (nI b), .int ml2_6]))]) [0] (by decide) rfl
    have hFc := va_free (wc := [(h0, .inr (1, [.ref qb, .int ln, .int (nI a2_5), .int (nI b), .int ml2_6]))]) hD hS hA [0] rfl
    refine x_rv (ws := [(h0, .inr (1, [.ref qb, .int ln, .int (nI a2_5), .int (nI b), .int ml2_6])), (qb, .inl (cB, 4000, .inl f))]) (wc := [(h0, .inr (1, [.ref qb, .int ln, .int (nI a2_5), .int (nI b), .int ml2_6]))]) (wr := [(qb, .inl (cB, 4000, .inl f))]) (x_V (As := []) (C := "WasmReader$Cursor") E (c_Cursor_fail l D cB cI cJ cZ H.size h0 qb ln (nI a2_5) (nI b) ml2_6 ) m_175 m_94 m_174 m_176 m_177 nm_Cursor_fail hPc hDc hZ hS hFc rfl rfl rfl hl.1 rfl (Nat.le_of_ble_eq_true rfl) d_Cursor_expect_9 rfl rfl (by decide) (by decide) (by decide) (by decide)) hP hD hS hA [0] [1] rfl rfl (by decide) (by decide) (fun u H locs hw hP hD hS => ?_)
    obtain rfl := hw
    have hP : va_P D classes [(qb, .inl (cB, 4000, .inl f)), (h0, .inr (1, [.ref qb, .int ln, .int (nI a2_5), .int (nI b), .int 1]))] H := hP
    have hD : va_D (va_A [(h0, .inr (1, [.ref qb, .int ln, .int (nI a), .int (nI b), .int ml])), (qb, .inl (cB, 4000, .inl f))] s.heap.size) [(qb, .inl (cB, 4000, .inl f)), (h0, .inr (1, [.ref qb, .int ln, .int (nI a2_5), .int (nI b), .int 1]))] := hD
    refine W.widen (k := 0) (n := 0) (by decide) (by decide) ?_
    exact x_vret (ws := [(h0, .inr (1, [.ref qb, .int ln, .int (nI a2_5), .int (nI b), .int 1])), (qb, .inl (cB, 4000, .inl f))]) E hr hlocks (hP.sub [1, 0] rfl) (hD.sub [1, 0] (by decide) rfl) hS ⟨a2_5, 1, (by omega), (by omega), rfl⟩ d_Cursor_expect_12
set_option maxHeartbeats 4000000 in
set_option maxRecDepth 100000 in
theorem c_Cursor_unsigned (l : Launch) (D : va_G) (cB cI cJ cZ : ClassId) (sz : Nat) (h0 : Nat) (qb : Nat) (ln : Int32) (a : Nat) (b : Nat) (ml : Int32) (f : Nat → Int32) (hab : a ≤ b) (hb4 : b ≤ 4000) : Met l y_Cursor_unsigned (Cond.code y_Cursor_unsigned prog_2_method_8_code 5 (some .long) :: xtb) ({ frames := 1, cells := 0, slots := 0, locals := 21 }) (xP D [(cB, .byte), (cI, .int), (cJ, .long), (cZ, .boolean)] [.ref h0] [(h0, .inr (1, [.ref qb, .int ln, .int (nI a), .int (nI b), .int ml])), (qb, .inl (cB, 4000, .inl f))] sz) (xQl D [(cB, .byte), (cI, .int), (cJ, .long), (cZ, .boolean)] [(h0, .inr (1, [.ref qb, .int ln, .int (nI a), .int (nI b), .int ml])), (qb, .inl (cB, 4000, .inl f))] sz (fun r u => ∃ (a2 : Nat), ∃ (ml2 : Int32), (a ≤ a2) ∧ (a2 ≤ b) ∧ (0 ≤ r) ∧ u = [(h0, .inr (1, [.ref qb, .int ln, .int (nI a2), .int (nI b), .int ml2])), (qb, .inl (cB, 4000, .inl f))])) 0 0 (va_A [(h0, .inr (1, [.ref qb, .int ln, .int (nI a), .int (nI b), .int ml])), (qb, .inl (cB, 4000, .inl f))] sz) := by
  refine x_met (Qc := fun s => xQl D [(cB, .byte), (cI, .int), (cJ, .long), (cZ, .boolean)] [(h0, .inr (1, [.ref qb, .int ln, .int (nI a), .int (nI b), .int ml])), (qb, .inl (cB, 4000, .inl f))] s.heap.size (fun r u => ∃ (a2 : Nat), ∃ (ml2 : Int32), (a ≤ a2) ∧ (a2 ≤ b) ∧ (0 ≤ r) ∧ u = [(h0, .inr (1, [.ref qb, .int ln, .int (nI a2), .int (nI b), .int ml2])), (qb, .inl (cB, 4000, .inl f))])) (fr := fun s => va_A [(h0, .inr (1, [.ref qb, .int ln, .int (nI a), .int (nI b), .int ml])), (qb, .inl (cB, 4000, .inl f))] s.heap.size) "WasmReader$Cursor" (by decide +kernel) rfl (Nat.le_of_ble_eq_true rfl) (fun s h => by rw [h]) (fun s h => by rw [h]) ?_
  intro p e s m below meth c ls E hr hlocks hinit hl hP hD hA hS hZ hadm
  have hl : lv_has ls 5 [(0, .ref h0)] := hl
  refine lv_lconst (v := 0) E.1 E.2.1 d_Cursor_unsigned_0 (by decide) ?_
  refine lv_lstore_n (lv' := [(1, .long 0), (0, .ref h0)]) E.1 E.2.1 d_Cursor_unsigned_1 rfl hl (by decide) rfl (fun ls hl => ?_)
  refine lv_iconst (v := 0) E.1 E.2.1 d_Cursor_unsigned_2 (by decide) ?_
  refine lv_istore_n (lv' := [(3, .int 0), (1, .long 0), (0, .ref h0)]) E.1 E.2.1 d_Cursor_unsigned_3 rfl hl (by decide) rfl (fun ls hl => ?_)
  refine lv_iload_n E.1 E.2.1 d_Cursor_unsigned_4 rfl (lv_at hl 0 rfl) ?_
  refine lv_bipush (v := 32) E.1 E.2.1 d_Cursor_unsigned_5 (by decide) ?_
  refine lv_icmp_ge (tgt := 55) E.1 E.2.1 d_Cursor_unsigned_7 (by decide) (fun hc => absurd hc (by decide)) (fun _ => ?_)
  refine lv_aload_n E.1 E.2.1 d_Cursor_unsigned_10 rfl (lv_at hl 2 rfl) ?_
  have hPc := hP.sub (ws' := [(h0, .inr (1, [.ref qb, .int ln, .int (nI a), .int (nI b), .int ml])), (qb, .inl (cB, 4000, .inl f))]) [0, 1] rfl
  have hDc := hD.sub (ws' := [(h0, .inr (1, [.ref qb, .int ln, .int (nI a), .int (nI b), .int ml])), (qb, .inl (cB, 4000, .inl f))]) [0, 1] (by decide) rfl
  have hFc := va_free (wc := [(h0, .inr (1, [.ref qb, .int ln, .int (nI a), .int (nI b), .int ml])), (qb, .inl (cB, 4000, .inl f))]) hD hS hA [0, 1] rfl
  refine x_ri (ws := [(h0, .inr (1, [.ref qb, .int ln, .int (nI a), .int (nI b), .int ml])), (qb, .inl (cB, 4000, .inl f))]) (wc := [(h0, .inr (1, [.ref qb, .int ln, .int (nI a), .int (nI b), .int ml])), (qb, .inl (cB, 4000, .inl f))]) (wr := []) (x_V (As := []) (C := "WasmReader$Cursor") E (c_Cursor_nextByte l D cB cI cJ cZ s.heap.size h0 qb ln a b ml f (by omega) (by omega)) m_171 m_94 m_170 m_172 m_173 nm_Cursor_nextByte hPc hDc hZ hS hFc rfl rfl rfl hl.1 rfl (Nat.le_of_ble_eq_true rfl) d_Cursor_unsigned_11 rfl rfl (by decide) (by decide) (by decide) (by decide)) hP hD hS hA [0, 1] [] rfl rfl (by decide) (by decide) (fun r_6 u H locs hw hP hD hS => ?_)
  obtain ⟨a2_3, ml2_4, hf_1, hf_2, rfl⟩ := hw
  have hP : va_P D classes [(h0, .inr (1, [.ref qb, .int ln, .int (nI a2_3), .int (nI b), .int ml2_4])), (qb, .inl (cB, 4000, .inl f))] H := hP
  have hD : va_D (va_A [(h0, .inr (1, [.ref qb, .int ln, .int (nI a), .int (nI b), .int ml])), (qb, .inl (cB, 4000, .inl f))] s.heap.size) [(h0, .inr (1, [.ref qb, .int ln, .int (nI a2_3), .int (nI b), .int ml2_4])), (qb, .inl (cB, 4000, .inl f))] := hD
  refine lv_istore (lv' := [(4, .int r_6), (3, .int 0), (1, .long 0), (0, .ref h0)]) E.1 E.2.1 d_Cursor_unsigned_14 hl (by decide) rfl (fun ls hl => ?_)
  refine lv_lload_n E.1 E.2.1 d_Cursor_unsigned_16 rfl (lv_at hl 2 rfl) ?_
  refine lv_iload E.1 E.2.1 d_Cursor_unsigned_17 (lv_at hl 0 rfl) ?_
  refine lv_bipush (v := 127) E.1 E.2.1 d_Cursor_unsigned_19 (by decide) ?_
  refine lv_iand E.1 E.2.1 d_Cursor_unsigned_21 ?_
  refine lv_topi (fun v_7 ev_7 => ?_)
  refine lv_i2l (v := (v_7 : Int32).toInt64) E.1 E.2.1 d_Cursor_unsigned_22 rfl ?_
  refine lv_iload_n E.1 E.2.1 d_Cursor_unsigned_23 rfl (lv_at hl 1 rfl) ?_
  obtain ⟨v_8, ev_8⟩ : ∃ z : Int64, z = ((v_7 : Int32).toInt64) <<< ((0 : Int32).toInt64 &&& 63) := ⟨_, rfl⟩
  refine lv_lshl (v := v_8) E.1 E.2.1 d_Cursor_unsigned_24 ev_8.symm ?_
  refine lv_lor E.1 E.2.1 d_Cursor_unsigned_25 ?_
  refine lv_topl (fun v_9 ev_9 => ?_)
  have hn_v_9 : 0 ≤ v_9 := by
    rw [ev_9]
    refine x_or0 (by decide) ?_
    obtain ⟨j, hj, ej⟩ := x_low ev_7
    rw [ev_8, ej]
    exact x_sh0 j hj
  refine lv_lstore_n (lv' := [(1, .long v_9), (4, .int r_6), (3, .int 0), (0, .ref h0)]) E.1 E.2.1 d_Cursor_unsigned_26 rfl hl (by decide) rfl (fun ls hl => ?_)
  refine lv_iload E.1 E.2.1 d_Cursor_unsigned_27 (lv_at hl 1 rfl) ?_
  refine lv_sipush (v := 128) E.1 E.2.1 d_Cursor_unsigned_29 (by decide) ?_
  refine lv_icmp_ge (tgt := 49) E.1 E.2.1 d_Cursor_unsigned_32 (by decide) (fun hc_10 => ?_) (fun hc_10 => ?_)
  ·
    refine lv_iinc (v := 7) (lv' := [(3, .int 7), (1, .long v_9), (4, .int r_6), (0, .ref h0)]) E.1 E.2.1 d_Cursor_unsigned_49 hl (k := 2) rfl (by decide) (by decide) rfl (fun ls hl => ?_)
    refine lv_goto (tgt := 4) E.1 E.2.1 d_Cursor_unsigned_52 (by decide) ?_
    refine lv_iload_n E.1 E.2.1 d_Cursor_unsigned_4 rfl (lv_at hl 0 rfl) ?_
    refine lv_bipush (v := 32) E.1 E.2.1 d_Cursor_unsigned_5 (by decide) ?_
    refine lv_icmp_ge (tgt := 55) E.1 E.2.1 d_Cursor_unsigned_7 (by decide) (fun hc => absurd hc (by decide)) (fun _ => ?_)
    refine lv_aload_n E.1 E.2.1 d_Cursor_unsigned_10 rfl (lv_at hl 3 rfl) ?_
    have hPc := hP.sub (ws' := [(h0, .inr (1, [.ref qb, .int ln, .int (nI a2_3), .int (nI b), .int ml2_4])), (qb, .inl (cB, 4000, .inl f))]) [0, 1] rfl
    have hDc := hD.sub (ws' := [(h0, .inr (1, [.ref qb, .int ln, .int (nI a2_3), .int (nI b), .int ml2_4])), (qb, .inl (cB, 4000, .inl f))]) [0, 1] (by decide) rfl
    have hFc := va_free (wc := [(h0, .inr (1, [.ref qb, .int ln, .int (nI a2_3), .int (nI b), .int ml2_4])), (qb, .inl (cB, 4000, .inl f))]) hD hS hA [0, 1] rfl
    refine x_ri (ws := [(h0, .inr (1, [.ref qb, .int ln, .int (nI a2_3), .int (nI b), .int ml2_4])), (qb, .inl (cB, 4000, .inl f))]) (wc := [(h0, .inr (1, [.ref qb, .int ln, .int (nI a2_3), .int (nI b), .int ml2_4])), (qb, .inl (cB, 4000, .inl f))]) (wr := []) (x_V (As := []) (C := "WasmReader$Cursor") E (c_Cursor_nextByte l D cB cI cJ cZ H.size h0 qb ln a2_3 b ml2_4 f (by omega) (by omega)) m_171 m_94 m_170 m_172 m_173 nm_Cursor_nextByte hPc hDc hZ hS hFc rfl rfl rfl hl.1 rfl (Nat.le_of_ble_eq_true rfl) d_Cursor_unsigned_11 rfl rfl (by decide) (by decide) (by decide) (by decide)) hP hD hS hA [0, 1] [] rfl rfl (by decide) (by decide) (fun r_16 u H locs hw hP hD hS => ?_)
    obtain ⟨a2_13, ml2_14, hf_11, hf_12, rfl⟩ := hw
    have hP : va_P D classes [(h0, .inr (1, [.ref qb, .int ln, .int (nI a2_13), .int (nI b), .int ml2_14])), (qb, .inl (cB, 4000, .inl f))] H := hP
    have hD : va_D (va_A [(h0, .inr (1, [.ref qb, .int ln, .int (nI a), .int (nI b), .int ml])), (qb, .inl (cB, 4000, .inl f))] s.heap.size) [(h0, .inr (1, [.ref qb, .int ln, .int (nI a2_13), .int (nI b), .int ml2_14])), (qb, .inl (cB, 4000, .inl f))] := hD
    refine lv_istore (lv' := [(4, .int r_16), (3, .int 7), (1, .long v_9), (0, .ref h0)]) E.1 E.2.1 d_Cursor_unsigned_14 hl (by decide) rfl (fun ls hl => ?_)
    refine lv_lload_n E.1 E.2.1 d_Cursor_unsigned_16 rfl (lv_at hl 2 rfl) ?_
    refine lv_iload E.1 E.2.1 d_Cursor_unsigned_17 (lv_at hl 0 rfl) ?_
    refine lv_bipush (v := 127) E.1 E.2.1 d_Cursor_unsigned_19 (by decide) ?_
    refine lv_iand E.1 E.2.1 d_Cursor_unsigned_21 ?_
    refine lv_topi (fun v_17 ev_17 => ?_)
    refine lv_i2l (v := (v_17 : Int32).toInt64) E.1 E.2.1 d_Cursor_unsigned_22 rfl ?_
    refine lv_iload_n E.1 E.2.1 d_Cursor_unsigned_23 rfl (lv_at hl 1 rfl) ?_
    obtain ⟨v_18, ev_18⟩ : ∃ z : Int64, z = ((v_17 : Int32).toInt64) <<< ((7 : Int32).toInt64 &&& 63) := ⟨_, rfl⟩
    refine lv_lshl (v := v_18) E.1 E.2.1 d_Cursor_unsigned_24 ev_18.symm ?_
    refine lv_lor E.1 E.2.1 d_Cursor_unsigned_25 ?_
    refine lv_topl (fun v_19 ev_19 => ?_)
    have hn_v_19 : 0 ≤ v_19 := by
      rw [ev_19]
      refine x_or0 hn_v_9 ?_
      obtain ⟨j, hj, ej⟩ := x_low ev_17
      rw [ev_18, ej]
      exact x_sh7 j hj
    refine lv_lstore_n (lv' := [(1, .long v_19), (4, .int r_16), (3, .int 7), (0, .ref h0)]) E.1 E.2.1 d_Cursor_unsigned_26 rfl hl (by decide) rfl (fun ls hl => ?_)
    refine lv_iload E.1 E.2.1 d_Cursor_unsigned_27 (lv_at hl 1 rfl) ?_
    refine lv_sipush (v := 128) E.1 E.2.1 d_Cursor_unsigned_29 (by decide) ?_
    refine lv_icmp_ge (tgt := 49) E.1 E.2.1 d_Cursor_unsigned_32 (by decide) (fun hc_20 => ?_) (fun hc_20 => ?_)
    ·
      refine lv_iinc (v := 14) (lv' := [(3, .int 14), (1, .long v_19), (4, .int r_16), (0, .ref h0)]) E.1 E.2.1 d_Cursor_unsigned_49 hl (k := 2) rfl (by decide) (by decide) rfl (fun ls hl => ?_)
      refine lv_goto (tgt := 4) E.1 E.2.1 d_Cursor_unsigned_52 (by decide) ?_
      refine lv_iload_n E.1 E.2.1 d_Cursor_unsigned_4 rfl (lv_at hl 0 rfl) ?_
      refine lv_bipush (v := 32) E.1 E.2.1 d_Cursor_unsigned_5 (by decide) ?_
      refine lv_icmp_ge (tgt := 55) E.1 E.2.1 d_Cursor_unsigned_7 (by decide) (fun hc => absurd hc (by decide)) (fun _ => ?_)
      refine lv_aload_n E.1 E.2.1 d_Cursor_unsigned_10 rfl (lv_at hl 3 rfl) ?_
      have hPc := hP.sub (ws' := [(h0, .inr (1, [.ref qb, .int ln, .int (nI a2_13), .int (nI b), .int ml2_14])), (qb, .inl (cB, 4000, .inl f))]) [0, 1] rfl
      have hDc := hD.sub (ws' := [(h0, .inr (1, [.ref qb, .int ln, .int (nI a2_13), .int (nI b), .int ml2_14])), (qb, .inl (cB, 4000, .inl f))]) [0, 1] (by decide) rfl
      have hFc := va_free (wc := [(h0, .inr (1, [.ref qb, .int ln, .int (nI a2_13), .int (nI b), .int ml2_14])), (qb, .inl (cB, 4000, .inl f))]) hD hS hA [0, 1] rfl
      refine x_ri (ws := [(h0, .inr (1, [.ref qb, .int ln, .int (nI a2_13), .int (nI b), .int ml2_14])), (qb, .inl (cB, 4000, .inl f))]) (wc := [(h0, .inr (1, [.ref qb, .int ln, .int (nI a2_13), .int (nI b), .int ml2_14])), (qb, .inl (cB, 4000, .inl f))]) (wr := []) (x_V (As := []) (C := "WasmReader$Cursor") E (c_Cursor_nextByte l D cB cI cJ cZ H.size h0 qb ln a2_13 b ml2_14 f (by omega) (by omega)) m_171 m_94 m_170 m_172 m_173 nm_Cursor_nextByte hPc hDc hZ hS hFc rfl rfl rfl hl.1 rfl (Nat.le_of_ble_eq_true rfl) d_Cursor_unsigned_11 rfl rfl (by decide) (by decide) (by decide) (by decide)) hP hD hS hA [0, 1] [] rfl rfl (by decide) (by decide) (fun r_26 u H locs hw hP hD hS => ?_)
      obtain ⟨a2_23, ml2_24, hf_21, hf_22, rfl⟩ := hw
      have hP : va_P D classes [(h0, .inr (1, [.ref qb, .int ln, .int (nI a2_23), .int (nI b), .int ml2_24])), (qb, .inl (cB, 4000, .inl f))] H := hP
      have hD : va_D (va_A [(h0, .inr (1, [.ref qb, .int ln, .int (nI a), .int (nI b), .int ml])), (qb, .inl (cB, 4000, .inl f))] s.heap.size) [(h0, .inr (1, [.ref qb, .int ln, .int (nI a2_23), .int (nI b), .int ml2_24])), (qb, .inl (cB, 4000, .inl f))] := hD
      refine lv_istore (lv' := [(4, .int r_26), (3, .int 14), (1, .long v_19), (0, .ref h0)]) E.1 E.2.1 d_Cursor_unsigned_14 hl (by decide) rfl (fun ls hl => ?_)
      refine lv_lload_n E.1 E.2.1 d_Cursor_unsigned_16 rfl (lv_at hl 2 rfl) ?_
      refine lv_iload E.1 E.2.1 d_Cursor_unsigned_17 (lv_at hl 0 rfl) ?_
      refine lv_bipush (v := 127) E.1 E.2.1 d_Cursor_unsigned_19 (by decide) ?_
      refine lv_iand E.1 E.2.1 d_Cursor_unsigned_21 ?_
      refine lv_topi (fun v_27 ev_27 => ?_)
      refine lv_i2l (v := (v_27 : Int32).toInt64) E.1 E.2.1 d_Cursor_unsigned_22 rfl ?_
      refine lv_iload_n E.1 E.2.1 d_Cursor_unsigned_23 rfl (lv_at hl 1 rfl) ?_
      obtain ⟨v_28, ev_28⟩ : ∃ z : Int64, z = ((v_27 : Int32).toInt64) <<< ((14 : Int32).toInt64 &&& 63) := ⟨_, rfl⟩
      refine lv_lshl (v := v_28) E.1 E.2.1 d_Cursor_unsigned_24 ev_28.symm ?_
      refine lv_lor E.1 E.2.1 d_Cursor_unsigned_25 ?_
      refine lv_topl (fun v_29 ev_29 => ?_)
      have hn_v_29 : 0 ≤ v_29 := by
        rw [ev_29]
        refine x_or0 hn_v_19 ?_
        obtain ⟨j, hj, ej⟩ := x_low ev_27
        rw [ev_28, ej]
        exact x_sh14 j hj
      refine lv_lstore_n (lv' := [(1, .long v_29), (4, .int r_26), (3, .int 14), (0, .ref h0)]) E.1 E.2.1 d_Cursor_unsigned_26 rfl hl (by decide) rfl (fun ls hl => ?_)
      refine lv_iload E.1 E.2.1 d_Cursor_unsigned_27 (lv_at hl 1 rfl) ?_
      refine lv_sipush (v := 128) E.1 E.2.1 d_Cursor_unsigned_29 (by decide) ?_
      refine lv_icmp_ge (tgt := 49) E.1 E.2.1 d_Cursor_unsigned_32 (by decide) (fun hc_30 => ?_) (fun hc_30 => ?_)
      ·
        refine lv_iinc (v := 21) (lv' := [(3, .int 21), (1, .long v_29), (4, .int r_26), (0, .ref h0)]) E.1 E.2.1 d_Cursor_unsigned_49 hl (k := 2) rfl (by decide) (by decide) rfl (fun ls hl => ?_)
        refine lv_goto (tgt := 4) E.1 E.2.1 d_Cursor_unsigned_52 (by decide) ?_
        refine lv_iload_n E.1 E.2.1 d_Cursor_unsigned_4 rfl (lv_at hl 0 rfl) ?_
        refine lv_bipush (v := 32) E.1 E.2.1 d_Cursor_unsigned_5 (by decide) ?_
        refine lv_icmp_ge (tgt := 55) E.1 E.2.1 d_Cursor_unsigned_7 (by decide) (fun hc => absurd hc (by decide)) (fun _ => ?_)
        refine lv_aload_n E.1 E.2.1 d_Cursor_unsigned_10 rfl (lv_at hl 3 rfl) ?_
        have hPc := hP.sub (ws' := [(h0, .inr (1, [.ref qb, .int ln, .int (nI a2_23), .int (nI b), .int ml2_24])), (qb, .inl (cB, 4000, .inl f))]) [0, 1] rfl
        have hDc := hD.sub (ws' := [(h0, .inr (1, [.ref qb, .int ln, .int (nI a2_23), .int (nI b), .int ml2_24])), (qb, .inl (cB, 4000, .inl f))]) [0, 1] (by decide) rfl
        have hFc := va_free (wc := [(h0, .inr (1, [.ref qb, .int ln, .int (nI a2_23), .int (nI b), .int ml2_24])), (qb, .inl (cB, 4000, .inl f))]) hD hS hA [0, 1] rfl
        refine x_ri (ws := [(h0, .inr (1, [.ref qb, .int ln, .int (nI a2_23), .int (nI b), .int ml2_24])), (qb, .inl (cB, 4000, .inl f))]) (wc := [(h0, .inr (1, [.ref qb, .int ln, .int (nI a2_23), .int (nI b), .int ml2_24])), (qb, .inl (cB, 4000, .inl f))]) (wr := []) (x_V (As := []) (C := "WasmReader$Cursor") E (c_Cursor_nextByte l D cB cI cJ cZ H.size h0 qb ln a2_23 b ml2_24 f (by omega) (by omega)) m_171 m_94 m_170 m_172 m_173 nm_Cursor_nextByte hPc hDc hZ hS hFc rfl rfl rfl hl.1 rfl (Nat.le_of_ble_eq_true rfl) d_Cursor_unsigned_11 rfl rfl (by decide) (by decide) (by decide) (by decide)) hP hD hS hA [0, 1] [] rfl rfl (by decide) (by decide) (fun r_36 u H locs hw hP hD hS => ?_)
        obtain ⟨a2_33, ml2_34, hf_31, hf_32, rfl⟩ := hw
        have hP : va_P D classes [(h0, .inr (1, [.ref qb, .int ln, .int (nI a2_33), .int (nI b), .int ml2_34])), (qb, .inl (cB, 4000, .inl f))] H := hP
        have hD : va_D (va_A [(h0, .inr (1, [.ref qb, .int ln, .int (nI a), .int (nI b), .int ml])), (qb, .inl (cB, 4000, .inl f))] s.heap.size) [(h0, .inr (1, [.ref qb, .int ln, .int (nI a2_33), .int (nI b), .int ml2_34])), (qb, .inl (cB, 4000, .inl f))] := hD
        refine lv_istore (lv' := [(4, .int r_36), (3, .int 21), (1, .long v_29), (0, .ref h0)]) E.1 E.2.1 d_Cursor_unsigned_14 hl (by decide) rfl (fun ls hl => ?_)
        refine lv_lload_n E.1 E.2.1 d_Cursor_unsigned_16 rfl (lv_at hl 2 rfl) ?_
        refine lv_iload E.1 E.2.1 d_Cursor_unsigned_17 (lv_at hl 0 rfl) ?_
        refine lv_bipush (v := 127) E.1 E.2.1 d_Cursor_unsigned_19 (by decide) ?_
        refine lv_iand E.1 E.2.1 d_Cursor_unsigned_21 ?_
        refine lv_topi (fun v_37 ev_37 => ?_)
        refine lv_i2l (v := (v_37 : Int32).toInt64) E.1 E.2.1 d_Cursor_unsigned_22 rfl ?_
        refine lv_iload_n E.1 E.2.1 d_Cursor_unsigned_23 rfl (lv_at hl 1 rfl) ?_
        obtain ⟨v_38, ev_38⟩ : ∃ z : Int64, z = ((v_37 : Int32).toInt64) <<< ((21 : Int32).toInt64 &&& 63) := ⟨_, rfl⟩
        refine lv_lshl (v := v_38) E.1 E.2.1 d_Cursor_unsigned_24 ev_38.symm ?_
        refine lv_lor E.1 E.2.1 d_Cursor_unsigned_25 ?_
        refine lv_topl (fun v_39 ev_39 => ?_)
        have hn_v_39 : 0 ≤ v_39 := by
          rw [ev_39]
          refine x_or0 hn_v_29 ?_
          obtain ⟨j, hj, ej⟩ := x_low ev_37
          rw [ev_38, ej]
          exact x_sh21 j hj
        refine lv_lstore_n (lv' := [(1, .long v_39), (4, .int r_36), (3, .int 21), (0, .ref h0)]) E.1 E.2.1 d_Cursor_unsigned_26 rfl hl (by decide) rfl (fun ls hl => ?_)
        refine lv_iload E.1 E.2.1 d_Cursor_unsigned_27 (lv_at hl 1 rfl) ?_
        refine lv_sipush (v := 128) E.1 E.2.1 d_Cursor_unsigned_29 (by decide) ?_
        refine lv_icmp_ge (tgt := 49) E.1 E.2.1 d_Cursor_unsigned_32 (by decide) (fun hc_40 => ?_) (fun hc_40 => ?_)
        ·
          refine lv_iinc (v := 28) (lv' := [(3, .int 28), (1, .long v_39), (4, .int r_36), (0, .ref h0)]) E.1 E.2.1 d_Cursor_unsigned_49 hl (k := 2) rfl (by decide) (by decide) rfl (fun ls hl => ?_)
          refine lv_goto (tgt := 4) E.1 E.2.1 d_Cursor_unsigned_52 (by decide) ?_
          refine lv_iload_n E.1 E.2.1 d_Cursor_unsigned_4 rfl (lv_at hl 0 rfl) ?_
          refine lv_bipush (v := 32) E.1 E.2.1 d_Cursor_unsigned_5 (by decide) ?_
          refine lv_icmp_ge (tgt := 55) E.1 E.2.1 d_Cursor_unsigned_7 (by decide) (fun hc => absurd hc (by decide)) (fun _ => ?_)
          refine lv_aload_n E.1 E.2.1 d_Cursor_unsigned_10 rfl (lv_at hl 3 rfl) ?_
          have hPc := hP.sub (ws' := [(h0, .inr (1, [.ref qb, .int ln, .int (nI a2_33), .int (nI b), .int ml2_34])), (qb, .inl (cB, 4000, .inl f))]) [0, 1] rfl
          have hDc := hD.sub (ws' := [(h0, .inr (1, [.ref qb, .int ln, .int (nI a2_33), .int (nI b), .int ml2_34])), (qb, .inl (cB, 4000, .inl f))]) [0, 1] (by decide) rfl
          have hFc := va_free (wc := [(h0, .inr (1, [.ref qb, .int ln, .int (nI a2_33), .int (nI b), .int ml2_34])), (qb, .inl (cB, 4000, .inl f))]) hD hS hA [0, 1] rfl
          refine x_ri (ws := [(h0, .inr (1, [.ref qb, .int ln, .int (nI a2_33), .int (nI b), .int ml2_34])), (qb, .inl (cB, 4000, .inl f))]) (wc := [(h0, .inr (1, [.ref qb, .int ln, .int (nI a2_33), .int (nI b), .int ml2_34])), (qb, .inl (cB, 4000, .inl f))]) (wr := []) (x_V (As := []) (C := "WasmReader$Cursor") E (c_Cursor_nextByte l D cB cI cJ cZ H.size h0 qb ln a2_33 b ml2_34 f (by omega) (by omega)) m_171 m_94 m_170 m_172 m_173 nm_Cursor_nextByte hPc hDc hZ hS hFc rfl rfl rfl hl.1 rfl (Nat.le_of_ble_eq_true rfl) d_Cursor_unsigned_11 rfl rfl (by decide) (by decide) (by decide) (by decide)) hP hD hS hA [0, 1] [] rfl rfl (by decide) (by decide) (fun r_46 u H locs hw hP hD hS => ?_)
          obtain ⟨a2_43, ml2_44, hf_41, hf_42, rfl⟩ := hw
          have hP : va_P D classes [(h0, .inr (1, [.ref qb, .int ln, .int (nI a2_43), .int (nI b), .int ml2_44])), (qb, .inl (cB, 4000, .inl f))] H := hP
          have hD : va_D (va_A [(h0, .inr (1, [.ref qb, .int ln, .int (nI a), .int (nI b), .int ml])), (qb, .inl (cB, 4000, .inl f))] s.heap.size) [(h0, .inr (1, [.ref qb, .int ln, .int (nI a2_43), .int (nI b), .int ml2_44])), (qb, .inl (cB, 4000, .inl f))] := hD
          refine lv_istore (lv' := [(4, .int r_46), (3, .int 28), (1, .long v_39), (0, .ref h0)]) E.1 E.2.1 d_Cursor_unsigned_14 hl (by decide) rfl (fun ls hl => ?_)
          refine lv_lload_n E.1 E.2.1 d_Cursor_unsigned_16 rfl (lv_at hl 2 rfl) ?_
          refine lv_iload E.1 E.2.1 d_Cursor_unsigned_17 (lv_at hl 0 rfl) ?_
          refine lv_bipush (v := 127) E.1 E.2.1 d_Cursor_unsigned_19 (by decide) ?_
          refine lv_iand E.1 E.2.1 d_Cursor_unsigned_21 ?_
          refine lv_topi (fun v_47 ev_47 => ?_)
          refine lv_i2l (v := (v_47 : Int32).toInt64) E.1 E.2.1 d_Cursor_unsigned_22 rfl ?_
          refine lv_iload_n E.1 E.2.1 d_Cursor_unsigned_23 rfl (lv_at hl 1 rfl) ?_
          obtain ⟨v_48, ev_48⟩ : ∃ z : Int64, z = ((v_47 : Int32).toInt64) <<< ((28 : Int32).toInt64 &&& 63) := ⟨_, rfl⟩
          refine lv_lshl (v := v_48) E.1 E.2.1 d_Cursor_unsigned_24 ev_48.symm ?_
          refine lv_lor E.1 E.2.1 d_Cursor_unsigned_25 ?_
          refine lv_topl (fun v_49 ev_49 => ?_)
          have hn_v_49 : 0 ≤ v_49 := by
            rw [ev_49]
            refine x_or0 hn_v_39 ?_
            obtain ⟨j, hj, ej⟩ := x_low ev_47
            rw [ev_48, ej]
            exact x_sh28 j hj
          refine lv_lstore_n (lv' := [(1, .long v_49), (4, .int r_46), (3, .int 28), (0, .ref h0)]) E.1 E.2.1 d_Cursor_unsigned_26 rfl hl (by decide) rfl (fun ls hl => ?_)
          refine lv_iload E.1 E.2.1 d_Cursor_unsigned_27 (lv_at hl 1 rfl) ?_
          refine lv_sipush (v := 128) E.1 E.2.1 d_Cursor_unsigned_29 (by decide) ?_
          refine lv_icmp_ge (tgt := 49) E.1 E.2.1 d_Cursor_unsigned_32 (by decide) (fun hc_50 => ?_) (fun hc_50 => ?_)
          ·
            refine lv_iinc (v := 35) (lv' := [(3, .int 35), (1, .long v_49), (4, .int r_46), (0, .ref h0)]) E.1 E.2.1 d_Cursor_unsigned_49 hl (k := 2) rfl (by decide) (by decide) rfl (fun ls hl => ?_)
            refine lv_goto (tgt := 4) E.1 E.2.1 d_Cursor_unsigned_52 (by decide) ?_
            refine lv_iload_n E.1 E.2.1 d_Cursor_unsigned_4 rfl (lv_at hl 0 rfl) ?_
            refine lv_bipush (v := 32) E.1 E.2.1 d_Cursor_unsigned_5 (by decide) ?_
            refine lv_icmp_ge (tgt := 55) E.1 E.2.1 d_Cursor_unsigned_7 (by decide) (fun _ => ?_) (fun hc => absurd (by decide) hc)
            refine lv_aload_n E.1 E.2.1 d_Cursor_unsigned_55 rfl (lv_at hl 3 rfl) ?_
            have hPc := hP.sub (ws' := [(h0, .inr (1, [.ref qb, .int ln, .int (nI a2_43), .int (nI b), .int ml2_44]))]) [0] rfl
            have hDc := hD.sub (ws' := [(h0, .inr (1, [.ref qb, .int ln, .int (nI a2_43), .int (nI b), .int ml2_44]))]) [0] (by decide) rfl
            have hFc := va_free (wc := [(h0, .inr (1, [.ref qb, .int ln, .int (nI a2_43), .int (nI b), .int ml2_44]))]) hD hS hA [0] rfl
            refine x_rv (ws := [(h0, .inr (1, [.ref qb, .int ln, .int (nI a2_43), .int (nI b), .int ml2_44])), (qb, .inl (cB, 4000, .inl f))]) (wc := [(h0, .inr (1, [.ref qb, .int ln, .int (nI a2_43), .int (nI b), .int ml2_44]))]) (wr := [(qb, .inl (cB, 4000, .inl f))]) (x_V (As := []) (C := "WasmReader$Cursor") E (c_Cursor_fail l D cB cI cJ cZ H.size h0 qb ln (nI a2_43) (nI b) ml2_44 ) m_175 m_94 m_174 m_176 m_177 nm_Cursor_fail hPc hDc hZ hS hFc rfl rfl rfl hl.1 rfl (Nat.le_of_ble_eq_true rfl) d_Cursor_unsigned_56 rfl rfl (by decide) (by decide) (by decide) (by decide)) hP hD hS hA [0] [1] rfl rfl (by decide) (by decide) (fun u H locs hw hP hD hS => ?_)
            obtain rfl := hw
            have hP : va_P D classes [(qb, .inl (cB, 4000, .inl f)), (h0, .inr (1, [.ref qb, .int ln, .int (nI a2_43), .int (nI b), .int 1]))] H := hP
            have hD : va_D (va_A [(h0, .inr (1, [.ref qb, .int ln, .int (nI a), .int (nI b), .int ml])), (qb, .inl (cB, 4000, .inl f))] s.heap.size) [(qb, .inl (cB, 4000, .inl f)), (h0, .inr (1, [.ref qb, .int ln, .int (nI a2_43), .int (nI b), .int 1]))] := hD
            refine lv_lconst (v := 0) E.1 E.2.1 d_Cursor_unsigned_59 (by decide) ?_
            refine W.widen (k := 0) (n := 0) (by decide) (by decide) ?_
            exact x_lret (ws := [(h0, .inr (1, [.ref qb, .int ln, .int (nI a2_43), .int (nI b), .int 1])), (qb, .inl (cB, 4000, .inl f))]) E hr hlocks (hP.sub [1, 0] rfl) (hD.sub [1, 0] (by decide) rfl) hS ⟨a2_43, 1, (by omega), (by omega), (by decide), rfl⟩ d_Cursor_unsigned_60
          ·
            refine lv_lload_n E.1 E.2.1 d_Cursor_unsigned_35 rfl (lv_at hl 0 rfl) ?_
            refine lv_ldc2 (v := 4294967295) E.1 E.2.1 E.2.2.2.2.1 (E.2.2.2.1 _ m_231) d_Cursor_unsigned_36 ?_
            refine W.lcmp E.1 E.2.1 d_Cursor_unsigned_39 ?_
            refine lv_if_le (tgt := 47) E.1 E.2.1 d_Cursor_unsigned_40 (by decide) (fun hc_51 => ?_) (fun hc_51 => ?_)
            ·
              refine lv_lload_n E.1 E.2.1 d_Cursor_unsigned_47 rfl (lv_at hl 0 rfl) ?_
              refine W.widen (k := 0) (n := 0) (by decide) (by decide) ?_
              exact x_lret (ws := [(h0, .inr (1, [.ref qb, .int ln, .int (nI a2_43), .int (nI b), .int ml2_44])), (qb, .inl (cB, 4000, .inl f))]) E hr hlocks (hP.sub [0, 1] rfl) (hD.sub [0, 1] (by decide) rfl) hS ⟨a2_43, ml2_44, (by omega), (by omega), hn_v_49, rfl⟩ d_Cursor_unsigned_48
            ·
              refine lv_aload_n E.1 E.2.1 d_Cursor_unsigned_43 rfl (lv_at hl 3 rfl) ?_
              have hPc := hP.sub (ws' := [(h0, .inr (1, [.ref qb, .int ln, .int (nI a2_43), .int (nI b), .int ml2_44]))]) [0] rfl
              have hDc := hD.sub (ws' := [(h0, .inr (1, [.ref qb, .int ln, .int (nI a2_43), .int (nI b), .int ml2_44]))]) [0] (by decide) rfl
              have hFc := va_free (wc := [(h0, .inr (1, [.ref qb, .int ln, .int (nI a2_43), .int (nI b), .int ml2_44]))]) hD hS hA [0] rfl
              refine x_rv (ws := [(h0, .inr (1, [.ref qb, .int ln, .int (nI a2_43), .int (nI b), .int ml2_44])), (qb, .inl (cB, 4000, .inl f))]) (wc := [(h0, .inr (1, [.ref qb, .int ln, .int (nI a2_43), .int (nI b), .int ml2_44]))]) (wr := [(qb, .inl (cB, 4000, .inl f))]) (x_V (As := []) (C := "WasmReader$Cursor") E (c_Cursor_fail l D cB cI cJ cZ H.size h0 qb ln (nI a2_43) (nI b) ml2_44 ) m_175 m_94 m_174 m_176 m_177 nm_Cursor_fail hPc hDc hZ hS hFc rfl rfl rfl hl.1 rfl (Nat.le_of_ble_eq_true rfl) d_Cursor_unsigned_44 rfl rfl (by decide) (by decide) (by decide) (by decide)) hP hD hS hA [0] [1] rfl rfl (by decide) (by decide) (fun u H locs hw hP hD hS => ?_)
              obtain rfl := hw
              have hP : va_P D classes [(qb, .inl (cB, 4000, .inl f)), (h0, .inr (1, [.ref qb, .int ln, .int (nI a2_43), .int (nI b), .int 1]))] H := hP
              have hD : va_D (va_A [(h0, .inr (1, [.ref qb, .int ln, .int (nI a), .int (nI b), .int ml])), (qb, .inl (cB, 4000, .inl f))] s.heap.size) [(qb, .inl (cB, 4000, .inl f)), (h0, .inr (1, [.ref qb, .int ln, .int (nI a2_43), .int (nI b), .int 1]))] := hD
              refine lv_lload_n E.1 E.2.1 d_Cursor_unsigned_47 rfl (lv_at hl 0 rfl) ?_
              refine W.widen (k := 0) (n := 0) (by decide) (by decide) ?_
              exact x_lret (ws := [(h0, .inr (1, [.ref qb, .int ln, .int (nI a2_43), .int (nI b), .int 1])), (qb, .inl (cB, 4000, .inl f))]) E hr hlocks (hP.sub [1, 0] rfl) (hD.sub [1, 0] (by decide) rfl) hS ⟨a2_43, 1, (by omega), (by omega), hn_v_49, rfl⟩ d_Cursor_unsigned_48
        ·
          refine lv_lload_n E.1 E.2.1 d_Cursor_unsigned_35 rfl (lv_at hl 0 rfl) ?_
          refine lv_ldc2 (v := 4294967295) E.1 E.2.1 E.2.2.2.2.1 (E.2.2.2.1 _ m_231) d_Cursor_unsigned_36 ?_
          refine W.lcmp E.1 E.2.1 d_Cursor_unsigned_39 ?_
          refine lv_if_le (tgt := 47) E.1 E.2.1 d_Cursor_unsigned_40 (by decide) (fun hc_52 => ?_) (fun hc_52 => ?_)
          ·
            refine lv_lload_n E.1 E.2.1 d_Cursor_unsigned_47 rfl (lv_at hl 0 rfl) ?_
            refine W.widen (k := 0) (n := 0) (by decide) (by decide) ?_
            exact x_lret (ws := [(h0, .inr (1, [.ref qb, .int ln, .int (nI a2_33), .int (nI b), .int ml2_34])), (qb, .inl (cB, 4000, .inl f))]) E hr hlocks (hP.sub [0, 1] rfl) (hD.sub [0, 1] (by decide) rfl) hS ⟨a2_33, ml2_34, (by omega), (by omega), hn_v_39, rfl⟩ d_Cursor_unsigned_48
          ·
            refine lv_aload_n E.1 E.2.1 d_Cursor_unsigned_43 rfl (lv_at hl 3 rfl) ?_
            have hPc := hP.sub (ws' := [(h0, .inr (1, [.ref qb, .int ln, .int (nI a2_33), .int (nI b), .int ml2_34]))]) [0] rfl
            have hDc := hD.sub (ws' := [(h0, .inr (1, [.ref qb, .int ln, .int (nI a2_33), .int (nI b), .int ml2_34]))]) [0] (by decide) rfl
            have hFc := va_free (wc := [(h0, .inr (1, [.ref qb, .int ln, .int (nI a2_33), .int (nI b), .int ml2_34]))]) hD hS hA [0] rfl
            refine x_rv (ws := [(h0, .inr (1, [.ref qb, .int ln, .int (nI a2_33), .int (nI b), .int ml2_34])), (qb, .inl (cB, 4000, .inl f))]) (wc := [(h0, .inr (1, [.ref qb, .int ln, .int (nI a2_33), .int (nI b), .int ml2_34]))]) (wr := [(qb, .inl (cB, 4000, .inl f))]) (x_V (As := []) (C := "WasmReader$Cursor") E (c_Cursor_fail l D cB cI cJ cZ H.size h0 qb ln (nI a2_33) (nI b) ml2_34 ) m_175 m_94 m_174 m_176 m_177 nm_Cursor_fail hPc hDc hZ hS hFc rfl rfl rfl hl.1 rfl (Nat.le_of_ble_eq_true rfl) d_Cursor_unsigned_44 rfl rfl (by decide) (by decide) (by decide) (by decide)) hP hD hS hA [0] [1] rfl rfl (by decide) (by decide) (fun u H locs hw hP hD hS => ?_)
            obtain rfl := hw
            have hP : va_P D classes [(qb, .inl (cB, 4000, .inl f)), (h0, .inr (1, [.ref qb, .int ln, .int (nI a2_33), .int (nI b), .int 1]))] H := hP
            have hD : va_D (va_A [(h0, .inr (1, [.ref qb, .int ln, .int (nI a), .int (nI b), .int ml])), (qb, .inl (cB, 4000, .inl f))] s.heap.size) [(qb, .inl (cB, 4000, .inl f)), (h0, .inr (1, [.ref qb, .int ln, .int (nI a2_33), .int (nI b), .int 1]))] := hD
            refine lv_lload_n E.1 E.2.1 d_Cursor_unsigned_47 rfl (lv_at hl 0 rfl) ?_
            refine W.widen (k := 0) (n := 0) (by decide) (by decide) ?_
            exact x_lret (ws := [(h0, .inr (1, [.ref qb, .int ln, .int (nI a2_33), .int (nI b), .int 1])), (qb, .inl (cB, 4000, .inl f))]) E hr hlocks (hP.sub [1, 0] rfl) (hD.sub [1, 0] (by decide) rfl) hS ⟨a2_33, 1, (by omega), (by omega), hn_v_39, rfl⟩ d_Cursor_unsigned_48
      ·
        refine lv_lload_n E.1 E.2.1 d_Cursor_unsigned_35 rfl (lv_at hl 0 rfl) ?_
        refine lv_ldc2 (v := 4294967295) E.1 E.2.1 E.2.2.2.2.1 (E.2.2.2.1 _ m_231) d_Cursor_unsigned_36 ?_
        refine W.lcmp E.1 E.2.1 d_Cursor_unsigned_39 ?_
        refine lv_if_le (tgt := 47) E.1 E.2.1 d_Cursor_unsigned_40 (by decide) (fun hc_53 => ?_) (fun hc_53 => ?_)
        ·
          refine lv_lload_n E.1 E.2.1 d_Cursor_unsigned_47 rfl (lv_at hl 0 rfl) ?_
          refine W.widen (k := 0) (n := 0) (by decide) (by decide) ?_
          exact x_lret (ws := [(h0, .inr (1, [.ref qb, .int ln, .int (nI a2_23), .int (nI b), .int ml2_24])), (qb, .inl (cB, 4000, .inl f))]) E hr hlocks (hP.sub [0, 1] rfl) (hD.sub [0, 1] (by decide) rfl) hS ⟨a2_23, ml2_24, (by omega), (by omega), hn_v_29, rfl⟩ d_Cursor_unsigned_48
        ·
          refine lv_aload_n E.1 E.2.1 d_Cursor_unsigned_43 rfl (lv_at hl 3 rfl) ?_
          have hPc := hP.sub (ws' := [(h0, .inr (1, [.ref qb, .int ln, .int (nI a2_23), .int (nI b), .int ml2_24]))]) [0] rfl
          have hDc := hD.sub (ws' := [(h0, .inr (1, [.ref qb, .int ln, .int (nI a2_23), .int (nI b), .int ml2_24]))]) [0] (by decide) rfl
          have hFc := va_free (wc := [(h0, .inr (1, [.ref qb, .int ln, .int (nI a2_23), .int (nI b), .int ml2_24]))]) hD hS hA [0] rfl
          refine x_rv (ws := [(h0, .inr (1, [.ref qb, .int ln, .int (nI a2_23), .int (nI b), .int ml2_24])), (qb, .inl (cB, 4000, .inl f))]) (wc := [(h0, .inr (1, [.ref qb, .int ln, .int (nI a2_23), .int (nI b), .int ml2_24]))]) (wr := [(qb, .inl (cB, 4000, .inl f))]) (x_V (As := []) (C := "WasmReader$Cursor") E (c_Cursor_fail l D cB cI cJ cZ H.size h0 qb ln (nI a2_23) (nI b) ml2_24 ) m_175 m_94 m_174 m_176 m_177 nm_Cursor_fail hPc hDc hZ hS hFc rfl rfl rfl hl.1 rfl (Nat.le_of_ble_eq_true rfl) d_Cursor_unsigned_44 rfl rfl (by decide) (by decide) (by decide) (by decide)) hP hD hS hA [0] [1] rfl rfl (by decide) (by decide) (fun u H locs hw hP hD hS => ?_)
          obtain rfl := hw
          have hP : va_P D classes [(qb, .inl (cB, 4000, .inl f)), (h0, .inr (1, [.ref qb, .int ln, .int (nI a2_23), .int (nI b), .int 1]))] H := hP
          have hD : va_D (va_A [(h0, .inr (1, [.ref qb, .int ln, .int (nI a), .int (nI b), .int ml])), (qb, .inl (cB, 4000, .inl f))] s.heap.size) [(qb, .inl (cB, 4000, .inl f)), (h0, .inr (1, [.ref qb, .int ln, .int (nI a2_23), .int (nI b), .int 1]))] := hD
          refine lv_lload_n E.1 E.2.1 d_Cursor_unsigned_47 rfl (lv_at hl 0 rfl) ?_
          refine W.widen (k := 0) (n := 0) (by decide) (by decide) ?_
          exact x_lret (ws := [(h0, .inr (1, [.ref qb, .int ln, .int (nI a2_23), .int (nI b), .int 1])), (qb, .inl (cB, 4000, .inl f))]) E hr hlocks (hP.sub [1, 0] rfl) (hD.sub [1, 0] (by decide) rfl) hS ⟨a2_23, 1, (by omega), (by omega), hn_v_29, rfl⟩ d_Cursor_unsigned_48
    ·
      refine lv_lload_n E.1 E.2.1 d_Cursor_unsigned_35 rfl (lv_at hl 0 rfl) ?_
      refine lv_ldc2 (v := 4294967295) E.1 E.2.1 E.2.2.2.2.1 (E.2.2.2.1 _ m_231) d_Cursor_unsigned_36 ?_
      refine W.lcmp E.1 E.2.1 d_Cursor_unsigned_39 ?_
      refine lv_if_le (tgt := 47) E.1 E.2.1 d_Cursor_unsigned_40 (by decide) (fun hc_54 => ?_) (fun hc_54 => ?_)
      ·
        refine lv_lload_n E.1 E.2.1 d_Cursor_unsigned_47 rfl (lv_at hl 0 rfl) ?_
        refine W.widen (k := 0) (n := 0) (by decide) (by decide) ?_
        exact x_lret (ws := [(h0, .inr (1, [.ref qb, .int ln, .int (nI a2_13), .int (nI b), .int ml2_14])), (qb, .inl (cB, 4000, .inl f))]) E hr hlocks (hP.sub [0, 1] rfl) (hD.sub [0, 1] (by decide) rfl) hS ⟨a2_13, ml2_14, (by omega), (by omega), hn_v_19, rfl⟩ d_Cursor_unsigned_48
      ·
        refine lv_aload_n E.1 E.2.1 d_Cursor_unsigned_43 rfl (lv_at hl 3 rfl) ?_
        have hPc := hP.sub (ws' := [(h0, .inr (1, [.ref qb, .int ln, .int (nI a2_13), .int (nI b), .int ml2_14]))]) [0] rfl
        have hDc := hD.sub (ws' := [(h0, .inr (1, [.ref qb, .int ln, .int (nI a2_13), .int (nI b), .int ml2_14]))]) [0] (by decide) rfl
        have hFc := va_free (wc := [(h0, .inr (1, [.ref qb, .int ln, .int (nI a2_13), .int (nI b), .int ml2_14]))]) hD hS hA [0] rfl
        refine x_rv (ws := [(h0, .inr (1, [.ref qb, .int ln, .int (nI a2_13), .int (nI b), .int ml2_14])), (qb, .inl (cB, 4000, .inl f))]) (wc := [(h0, .inr (1, [.ref qb, .int ln, .int (nI a2_13), .int (nI b), .int ml2_14]))]) (wr := [(qb, .inl (cB, 4000, .inl f))]) (x_V (As := []) (C := "WasmReader$Cursor") E (c_Cursor_fail l D cB cI cJ cZ H.size h0 qb ln (nI a2_13) (nI b) ml2_14 ) m_175 m_94 m_174 m_176 m_177 nm_Cursor_fail hPc hDc hZ hS hFc rfl rfl rfl hl.1 rfl (Nat.le_of_ble_eq_true rfl) d_Cursor_unsigned_44 rfl rfl (by decide) (by decide) (by decide) (by decide)) hP hD hS hA [0] [1] rfl rfl (by decide) (by decide) (fun u H locs hw hP hD hS => ?_)
        obtain rfl := hw
        have hP : va_P D classes [(qb, .inl (cB, 4000, .inl f)), (h0, .inr (1, [.ref qb, .int ln, .int (nI a2_13), .int (nI b), .int 1]))] H := hP
        have hD : va_D (va_A [(h0, .inr (1, [.ref qb, .int ln, .int (nI a), .int (nI b), .int ml])), (qb, .inl (cB, 4000, .inl f))] s.heap.size) [(qb, .inl (cB, 4000, .inl f)), (h0, .inr (1, [.ref qb, .int ln, .int (nI a2_13), .int (nI b), .int 1]))] := hD
        refine lv_lload_n E.1 E.2.1 d_Cursor_unsigned_47 rfl (lv_at hl 0 rfl) ?_
        refine W.widen (k := 0) (n := 0) (by decide) (by decide) ?_
        exact x_lret (ws := [(h0, .inr (1, [.ref qb, .int ln, .int (nI a2_13), .int (nI b), .int 1])), (qb, .inl (cB, 4000, .inl f))]) E hr hlocks (hP.sub [1, 0] rfl) (hD.sub [1, 0] (by decide) rfl) hS ⟨a2_13, 1, (by omega), (by omega), hn_v_19, rfl⟩ d_Cursor_unsigned_48
  ·
    refine lv_lload_n E.1 E.2.1 d_Cursor_unsigned_35 rfl (lv_at hl 0 rfl) ?_
    refine lv_ldc2 (v := 4294967295) E.1 E.2.1 E.2.2.2.2.1 (E.2.2.2.1 _ m_231) d_Cursor_unsigned_36 ?_
    refine W.lcmp E.1 E.2.1 d_Cursor_unsigned_39 ?_
    refine lv_if_le (tgt := 47) E.1 E.2.1 d_Cursor_unsigned_40 (by decide) (fun hc_55 => ?_) (fun hc_55 => ?_)
    ·
      refine lv_lload_n E.1 E.2.1 d_Cursor_unsigned_47 rfl (lv_at hl 0 rfl) ?_
      refine W.widen (k := 0) (n := 0) (by decide) (by decide) ?_
      exact x_lret (ws := [(h0, .inr (1, [.ref qb, .int ln, .int (nI a2_3), .int (nI b), .int ml2_4])), (qb, .inl (cB, 4000, .inl f))]) E hr hlocks (hP.sub [0, 1] rfl) (hD.sub [0, 1] (by decide) rfl) hS ⟨a2_3, ml2_4, (by omega), (by omega), hn_v_9, rfl⟩ d_Cursor_unsigned_48
    ·
      refine lv_aload_n E.1 E.2.1 d_Cursor_unsigned_43 rfl (lv_at hl 3 rfl) ?_
      have hPc := hP.sub (ws' := [(h0, .inr (1, [.ref qb, .int ln, .int (nI a2_3), .int (nI b), .int ml2_4]))]) [0] rfl
      have hDc := hD.sub (ws' := [(h0, .inr (1, [.ref qb, .int ln, .int (nI a2_3), .int (nI b), .int ml2_4]))]) [0] (by decide) rfl
      have hFc := va_free (wc := [(h0, .inr (1, [.ref qb, .int ln, .int (nI a2_3), .int (nI b), .int ml2_4]))]) hD hS hA [0] rfl
      refine x_rv (ws := [(h0, .inr (1, [.ref qb, .int ln, .int (nI a2_3), .int (nI b), .int ml2_4])), (qb, .inl (cB, 4000, .inl f))]) (wc := [(h0, .inr (1, [.ref qb, .int ln, .int (nI a2_3), .int (nI b), .int ml2_4]))]) (wr := [(qb, .inl (cB, 4000, .inl f))]) (x_V (As := []) (C := "WasmReader$Cursor") E (c_Cursor_fail l D cB cI cJ cZ H.size h0 qb ln (nI a2_3) (nI b) ml2_4 ) m_175 m_94 m_174 m_176 m_177 nm_Cursor_fail hPc hDc hZ hS hFc rfl rfl rfl hl.1 rfl (Nat.le_of_ble_eq_true rfl) d_Cursor_unsigned_44 rfl rfl (by decide) (by decide) (by decide) (by decide)) hP hD hS hA [0] [1] rfl rfl (by decide) (by decide) (fun u H locs hw hP hD hS => ?_)
      obtain rfl := hw
      have hP : va_P D classes [(qb, .inl (cB, 4000, .inl f)), (h0, .inr (1, [.ref qb, .int ln, .int (nI a2_3), .int (nI b), .int 1]))] H := hP
      have hD : va_D (va_A [(h0, .inr (1, [.ref qb, .int ln, .int (nI a), .int (nI b), .int ml])), (qb, .inl (cB, 4000, .inl f))] s.heap.size) [(qb, .inl (cB, 4000, .inl f)), (h0, .inr (1, [.ref qb, .int ln, .int (nI a2_3), .int (nI b), .int 1]))] := hD
      refine lv_lload_n E.1 E.2.1 d_Cursor_unsigned_47 rfl (lv_at hl 0 rfl) ?_
      refine W.widen (k := 0) (n := 0) (by decide) (by decide) ?_
      exact x_lret (ws := [(h0, .inr (1, [.ref qb, .int ln, .int (nI a2_3), .int (nI b), .int 1])), (qb, .inl (cB, 4000, .inl f))]) E hr hlocks (hP.sub [1, 0] rfl) (hD.sub [1, 0] (by decide) rfl) hS ⟨a2_3, 1, (by omega), (by omega), hn_v_9, rfl⟩ d_Cursor_unsigned_48
set_option maxHeartbeats 4000000 in
set_option maxRecDepth 100000 in
theorem c_Cursor_index (l : Launch) (D : va_G) (cB cI cJ cZ : ClassId) (sz : Nat) (h0 : Nat) (qb : Nat) (ln : Int32) (a : Nat) (b : Nat) (ml : Int32) (f : Nat → Int32) (hab : a ≤ b) (hb4 : b ≤ 4000) : Met l y_Cursor_index (Cond.code y_Cursor_index prog_2_method_9_code 1 (some .int) :: xtb) ({ frames := 2, cells := 0, slots := 0, locals := 60 }) (xP D [(cB, .byte), (cI, .int), (cJ, .long), (cZ, .boolean)] [.ref h0] [(h0, .inr (1, [.ref qb, .int ln, .int (nI a), .int (nI b), .int ml])), (qb, .inl (cB, 4000, .inl f))] sz) (xQi D [(cB, .byte), (cI, .int), (cJ, .long), (cZ, .boolean)] [(h0, .inr (1, [.ref qb, .int ln, .int (nI a), .int (nI b), .int ml])), (qb, .inl (cB, 4000, .inl f))] sz (fun r u => ∃ (a2 : Nat), ∃ (ml2 : Int32), (a ≤ a2) ∧ (a2 ≤ b) ∧ u = [(h0, .inr (1, [.ref qb, .int ln, .int (nI a2), .int (nI b), .int ml2])), (qb, .inl (cB, 4000, .inl f))])) 0 0 (va_A [(h0, .inr (1, [.ref qb, .int ln, .int (nI a), .int (nI b), .int ml])), (qb, .inl (cB, 4000, .inl f))] sz) := by
  refine x_met (Qc := fun s => xQi D [(cB, .byte), (cI, .int), (cJ, .long), (cZ, .boolean)] [(h0, .inr (1, [.ref qb, .int ln, .int (nI a), .int (nI b), .int ml])), (qb, .inl (cB, 4000, .inl f))] s.heap.size (fun r u => ∃ (a2 : Nat), ∃ (ml2 : Int32), (a ≤ a2) ∧ (a2 ≤ b) ∧ u = [(h0, .inr (1, [.ref qb, .int ln, .int (nI a2), .int (nI b), .int ml2])), (qb, .inl (cB, 4000, .inl f))])) (fr := fun s => va_A [(h0, .inr (1, [.ref qb, .int ln, .int (nI a), .int (nI b), .int ml])), (qb, .inl (cB, 4000, .inl f))] s.heap.size) "WasmReader$Cursor" (by decide +kernel) rfl (Nat.le_of_ble_eq_true rfl) (fun s h => by rw [h]) (fun s h => by rw [h]) ?_
  intro p e s m below meth c ls E hr hlocks hinit hl hP hD hA hS hZ hadm
  have hl : lv_has ls 1 [(0, .ref h0)] := hl
  refine lv_aload_n E.1 E.2.1 d_Cursor_index_0 rfl (lv_at hl 0 rfl) ?_
  have hPc := hP.sub (ws' := [(h0, .inr (1, [.ref qb, .int ln, .int (nI a), .int (nI b), .int ml])), (qb, .inl (cB, 4000, .inl f))]) [0, 1] rfl
  have hDc := hD.sub (ws' := [(h0, .inr (1, [.ref qb, .int ln, .int (nI a), .int (nI b), .int ml])), (qb, .inl (cB, 4000, .inl f))]) [0, 1] (by decide) rfl
  have hFc := va_free (wc := [(h0, .inr (1, [.ref qb, .int ln, .int (nI a), .int (nI b), .int ml])), (qb, .inl (cB, 4000, .inl f))]) hD hS hA [0, 1] rfl
  refine x_rl (ws := [(h0, .inr (1, [.ref qb, .int ln, .int (nI a), .int (nI b), .int ml])), (qb, .inl (cB, 4000, .inl f))]) (wc := [(h0, .inr (1, [.ref qb, .int ln, .int (nI a), .int (nI b), .int ml])), (qb, .inl (cB, 4000, .inl f))]) (wr := []) (x_V (As := []) (C := "WasmReader$Cursor") E (c_Cursor_unsigned l D cB cI cJ cZ s.heap.size h0 qb ln a b ml f (by omega) (by omega)) m_233 m_94 m_232 m_234 m_235 nm_Cursor_unsigned hPc hDc hZ hS hFc rfl rfl rfl hl.1 rfl (Nat.le_of_ble_eq_true rfl) d_Cursor_index_1 rfl rfl (by decide) (by decide) (by decide) (by decide)) hP hD hS hA [0, 1] [] rfl rfl (by decide) (by decide) (fun r_7 u H locs hw hP hD hS => ?_)
  obtain ⟨a2_4, ml2_5, hf_1, hf_2, hf_3, rfl⟩ := hw
  have hP : va_P D classes [(h0, .inr (1, [.ref qb, .int ln, .int (nI a2_4), .int (nI b), .int ml2_5])), (qb, .inl (cB, 4000, .inl f))] H := hP
  have hD : va_D (va_A [(h0, .inr (1, [.ref qb, .int ln, .int (nI a), .int (nI b), .int ml])), (qb, .inl (cB, 4000, .inl f))] s.heap.size) [(h0, .inr (1, [.ref qb, .int ln, .int (nI a2_4), .int (nI b), .int ml2_5])), (qb, .inl (cB, 4000, .inl f))] := hD
  refine lv_ldc2 (v := 2147483647) E.1 E.2.1 E.2.2.2.2.1 (E.2.2.2.1 _ m_236) d_Cursor_index_4 ?_
  refine va_mmin_long E.1 E.2.1 (by rw [E.2.2.1]; exact hl.1.symm) E.2.2.2.2.1 (E.2.2.2.1 _ m_238) (E.2.2.2.1 _ m_239) (E.2.2.2.1 _ m_240) (E.2.2.2.1 _ m_237) (Nat.le_of_ble_eq_true rfl) (Nat.le_of_ble_eq_true rfl) (Nat.le_of_ble_eq_true rfl) (Nat.le_of_ble_eq_true rfl) d_Cursor_index_7 ?_
  refine lv_topl (fun v_8 ev_8 => ?_)
  refine lv_l2i (v := (v_8 : Int64).toInt32) E.1 E.2.1 d_Cursor_index_10 rfl ?_
  refine lv_topi (fun v_9 ev_9 => ?_)
  refine W.widen (k := 0) (n := 0) (by decide) (by decide) ?_
  exact x_iret (ws := [(h0, .inr (1, [.ref qb, .int ln, .int (nI a2_4), .int (nI b), .int ml2_5])), (qb, .inl (cB, 4000, .inl f))]) E hr hlocks (hP.sub [0, 1] rfl) (hD.sub [0, 1] (by decide) rfl) hS ⟨a2_4, ml2_5, (by omega), (by omega), rfl⟩ d_Cursor_index_11
set_option maxHeartbeats 4000000 in
set_option maxRecDepth 100000 in
theorem c_Cursor_withSign (l : Launch) (D : va_G) (cB cI cJ cZ : ClassId) (sz : Nat) (h0 : Nat) (qb : Nat) (ln : Int32) (pos : Int32) (lim : Int32) (ml : Int32) (v0 : Int64) (x3 : Int32) (x4 : Int32) (x5 : Int32)  : Met l y_Cursor_withSign (Cond.code y_Cursor_withSign prog_2_method_11_code 8 (some .long) :: xtb) ({ frames := 1, cells := 0, slots := 0, locals := 20 }) (xP D [(cB, .byte), (cI, .int), (cJ, .long), (cZ, .boolean)] [.ref h0, .long v0, .int x3, .int x4, .int x5] [(h0, .inr (1, [.ref qb, .int ln, .int pos, .int lim, .int ml]))] sz) (xQl D [(cB, .byte), (cI, .int), (cJ, .long), (cZ, .boolean)] [(h0, .inr (1, [.ref qb, .int ln, .int pos, .int lim, .int ml]))] sz (fun r u => ∃ (ml2 : Int32), u = [(h0, .inr (1, [.ref qb, .int ln, .int pos, .int lim, .int ml2]))])) 0 0 (va_A [(h0, .inr (1, [.ref qb, .int ln, .int pos, .int lim, .int ml]))] sz) := by
  refine x_met (Qc := fun s => xQl D [(cB, .byte), (cI, .int), (cJ, .long), (cZ, .boolean)] [(h0, .inr (1, [.ref qb, .int ln, .int pos, .int lim, .int ml]))] s.heap.size (fun r u => ∃ (ml2 : Int32), u = [(h0, .inr (1, [.ref qb, .int ln, .int pos, .int lim, .int ml2]))])) (fr := fun s => va_A [(h0, .inr (1, [.ref qb, .int ln, .int pos, .int lim, .int ml]))] s.heap.size) "WasmReader$Cursor" (by decide +kernel) rfl (Nat.le_of_ble_eq_true rfl) (fun s h => by rw [h]) (fun s h => by rw [h]) ?_
  intro p e s m below meth c ls E hr hlocks hinit hl hP hD hA hS hZ hadm
  have hl : lv_has ls 8 [(0, .ref h0), (1, .long v0), (3, .int x3), (4, .int x4), (5, .int x5)] := hl
  refine lv_lload_n E.1 E.2.1 d_Cursor_withSign_0 rfl (lv_at hl 1 rfl) ?_
  refine lv_lstore (lv' := [(6, .long v0), (0, .ref h0), (1, .long v0), (3, .int x3), (4, .int x4), (5, .int x5)]) E.1 E.2.1 d_Cursor_withSign_1 hl (by decide) rfl (fun ls hl => ?_)
  refine lv_iload_n E.1 E.2.1 d_Cursor_withSign_3 rfl (lv_at hl 3 rfl) ?_
  refine lv_bipush (v := 64) E.1 E.2.1 d_Cursor_withSign_4 (by decide) ?_
  refine lv_icmp_ge (tgt := 25) E.1 E.2.1 d_Cursor_withSign_6 (by decide) (fun hc_1 => ?_) (fun hc_1 => ?_)
  ·
    refine lv_iload E.1 E.2.1 d_Cursor_withSign_25 (lv_at hl 5 rfl) ?_
    refine lv_if_eq (tgt := 41) E.1 E.2.1 d_Cursor_withSign_27 (by decide) (fun hc_2 => ?_) (fun hc_2 => ?_)
    ·
      refine lv_iload E.1 E.2.1 d_Cursor_withSign_41 (lv_at hl 4 rfl) ?_
      refine lv_bipush (v := 32) E.1 E.2.1 d_Cursor_withSign_43 (by decide) ?_
      refine lv_icmp_ne (tgt := 62) E.1 E.2.1 d_Cursor_withSign_45 (by decide) (fun hc_3 => ?_) (fun hc_3 => ?_)
      ·
        refine lv_lload E.1 E.2.1 d_Cursor_withSign_62 (lv_at hl 0 rfl) ?_
        refine W.widen (k := 0) (n := 0) (by decide) (by decide) ?_
        exact x_lret (ws := [(h0, .inr (1, [.ref qb, .int ln, .int pos, .int lim, .int ml]))]) E hr hlocks (hP.sub [0] rfl) (hD.sub [0] (by decide) rfl) hS ⟨ml, rfl⟩ d_Cursor_withSign_64
      ·
        refine lv_lload E.1 E.2.1 d_Cursor_withSign_48 (lv_at hl 0 rfl) ?_
        refine lv_lload E.1 E.2.1 d_Cursor_withSign_50 (lv_at hl 0 rfl) ?_
        refine lv_l2i (v := (v0 : Int64).toInt32) E.1 E.2.1 d_Cursor_withSign_52 rfl ?_
        refine lv_topi (fun v_4 ev_4 => ?_)
        refine lv_i2l (v := (v_4 : Int32).toInt64) E.1 E.2.1 d_Cursor_withSign_53 rfl ?_
        refine W.lcmp E.1 E.2.1 d_Cursor_withSign_54 ?_
        refine lv_if_eq (tgt := 62) E.1 E.2.1 d_Cursor_withSign_55 (by decide) (fun hc_5 => ?_) (fun hc_5 => ?_)
        ·
          refine lv_lload E.1 E.2.1 d_Cursor_withSign_62 (lv_at hl 0 rfl) ?_
          refine W.widen (k := 0) (n := 0) (by decide) (by decide) ?_
          exact x_lret (ws := [(h0, .inr (1, [.ref qb, .int ln, .int pos, .int lim, .int ml]))]) E hr hlocks (hP.sub [0] rfl) (hD.sub [0] (by decide) rfl) hS ⟨ml, rfl⟩ d_Cursor_withSign_64
        ·
          refine lv_aload_n E.1 E.2.1 d_Cursor_withSign_58 rfl (lv_at hl 1 rfl) ?_
          have hPc := hP.sub (ws' := [(h0, .inr (1, [.ref qb, .int ln, .int pos, .int lim, .int ml]))]) [0] rfl
          have hDc := hD.sub (ws' := [(h0, .inr (1, [.ref qb, .int ln, .int pos, .int lim, .int ml]))]) [0] (by decide) rfl
          have hFc := va_free (wc := [(h0, .inr (1, [.ref qb, .int ln, .int pos, .int lim, .int ml]))]) hD hS hA [0] rfl
          refine x_rv (ws := [(h0, .inr (1, [.ref qb, .int ln, .int pos, .int lim, .int ml]))]) (wc := [(h0, .inr (1, [.ref qb, .int ln, .int pos, .int lim, .int ml]))]) (wr := []) (x_V (As := []) (C := "WasmReader$Cursor") E (c_Cursor_fail l D cB cI cJ cZ s.heap.size h0 qb ln pos lim ml ) m_175 m_94 m_174 m_176 m_177 nm_Cursor_fail hPc hDc hZ hS hFc rfl rfl rfl hl.1 rfl (Nat.le_of_ble_eq_true rfl) d_Cursor_withSign_59 rfl rfl (by decide) (by decide) (by decide) (by decide)) hP hD hS hA [0] [] rfl rfl (by decide) (by decide) (fun u H locs hw hP hD hS => ?_)
          obtain rfl := hw
          have hP : va_P D classes [(h0, .inr (1, [.ref qb, .int ln, .int pos, .int lim, .int 1]))] H := hP
          have hD : va_D (va_A [(h0, .inr (1, [.ref qb, .int ln, .int pos, .int lim, .int ml]))] s.heap.size) [(h0, .inr (1, [.ref qb, .int ln, .int pos, .int lim, .int 1]))] := hD
          refine lv_lload E.1 E.2.1 d_Cursor_withSign_62 (lv_at hl 0 rfl) ?_
          refine W.widen (k := 0) (n := 0) (by decide) (by decide) ?_
          exact x_lret (ws := [(h0, .inr (1, [.ref qb, .int ln, .int pos, .int lim, .int 1]))]) E hr hlocks (hP.sub [0] rfl) (hD.sub [0] (by decide) rfl) hS ⟨1, rfl⟩ d_Cursor_withSign_64
    ·
      refine lv_iload E.1 E.2.1 d_Cursor_withSign_30 (lv_at hl 5 rfl) ?_
      refine lv_bipush (v := 127) E.1 E.2.1 d_Cursor_withSign_32 (by decide) ?_
      refine lv_icmp_eq (tgt := 41) E.1 E.2.1 d_Cursor_withSign_34 (by decide) (fun hc_6 => ?_) (fun hc_6 => ?_)
      ·
        refine lv_iload E.1 E.2.1 d_Cursor_withSign_41 (lv_at hl 4 rfl) ?_
        refine lv_bipush (v := 32) E.1 E.2.1 d_Cursor_withSign_43 (by decide) ?_
        refine lv_icmp_ne (tgt := 62) E.1 E.2.1 d_Cursor_withSign_45 (by decide) (fun hc_7 => ?_) (fun hc_7 => ?_)
        ·
          refine lv_lload E.1 E.2.1 d_Cursor_withSign_62 (lv_at hl 0 rfl) ?_
          refine W.widen (k := 0) (n := 0) (by decide) (by decide) ?_
          exact x_lret (ws := [(h0, .inr (1, [.ref qb, .int ln, .int pos, .int lim, .int ml]))]) E hr hlocks (hP.sub [0] rfl) (hD.sub [0] (by decide) rfl) hS ⟨ml, rfl⟩ d_Cursor_withSign_64
        ·
          refine lv_lload E.1 E.2.1 d_Cursor_withSign_48 (lv_at hl 0 rfl) ?_
          refine lv_lload E.1 E.2.1 d_Cursor_withSign_50 (lv_at hl 0 rfl) ?_
          refine lv_l2i (v := (v0 : Int64).toInt32) E.1 E.2.1 d_Cursor_withSign_52 rfl ?_
          refine lv_topi (fun v_8 ev_8 => ?_)
          refine lv_i2l (v := (v_8 : Int32).toInt64) E.1 E.2.1 d_Cursor_withSign_53 rfl ?_
          refine W.lcmp E.1 E.2.1 d_Cursor_withSign_54 ?_
          refine lv_if_eq (tgt := 62) E.1 E.2.1 d_Cursor_withSign_55 (by decide) (fun hc_9 => ?_) (fun hc_9 => ?_)
          ·
            refine lv_lload E.1 E.2.1 d_Cursor_withSign_62 (lv_at hl 0 rfl) ?_
            refine W.widen (k := 0) (n := 0) (by decide) (by decide) ?_
            exact x_lret (ws := [(h0, .inr (1, [.ref qb, .int ln, .int pos, .int lim, .int ml]))]) E hr hlocks (hP.sub [0] rfl) (hD.sub [0] (by decide) rfl) hS ⟨ml, rfl⟩ d_Cursor_withSign_64
          ·
            refine lv_aload_n E.1 E.2.1 d_Cursor_withSign_58 rfl (lv_at hl 1 rfl) ?_
            have hPc := hP.sub (ws' := [(h0, .inr (1, [.ref qb, .int ln, .int pos, .int lim, .int ml]))]) [0] rfl
            have hDc := hD.sub (ws' := [(h0, .inr (1, [.ref qb, .int ln, .int pos, .int lim, .int ml]))]) [0] (by decide) rfl
            have hFc := va_free (wc := [(h0, .inr (1, [.ref qb, .int ln, .int pos, .int lim, .int ml]))]) hD hS hA [0] rfl
            refine x_rv (ws := [(h0, .inr (1, [.ref qb, .int ln, .int pos, .int lim, .int ml]))]) (wc := [(h0, .inr (1, [.ref qb, .int ln, .int pos, .int lim, .int ml]))]) (wr := []) (x_V (As := []) (C := "WasmReader$Cursor") E (c_Cursor_fail l D cB cI cJ cZ s.heap.size h0 qb ln pos lim ml ) m_175 m_94 m_174 m_176 m_177 nm_Cursor_fail hPc hDc hZ hS hFc rfl rfl rfl hl.1 rfl (Nat.le_of_ble_eq_true rfl) d_Cursor_withSign_59 rfl rfl (by decide) (by decide) (by decide) (by decide)) hP hD hS hA [0] [] rfl rfl (by decide) (by decide) (fun u H locs hw hP hD hS => ?_)
            obtain rfl := hw
            have hP : va_P D classes [(h0, .inr (1, [.ref qb, .int ln, .int pos, .int lim, .int 1]))] H := hP
            have hD : va_D (va_A [(h0, .inr (1, [.ref qb, .int ln, .int pos, .int lim, .int ml]))] s.heap.size) [(h0, .inr (1, [.ref qb, .int ln, .int pos, .int lim, .int 1]))] := hD
            refine lv_lload E.1 E.2.1 d_Cursor_withSign_62 (lv_at hl 0 rfl) ?_
            refine W.widen (k := 0) (n := 0) (by decide) (by decide) ?_
            exact x_lret (ws := [(h0, .inr (1, [.ref qb, .int ln, .int pos, .int lim, .int 1]))]) E hr hlocks (hP.sub [0] rfl) (hD.sub [0] (by decide) rfl) hS ⟨1, rfl⟩ d_Cursor_withSign_64
      ·
        refine lv_aload_n E.1 E.2.1 d_Cursor_withSign_37 rfl (lv_at hl 1 rfl) ?_
        have hPc := hP.sub (ws' := [(h0, .inr (1, [.ref qb, .int ln, .int pos, .int lim, .int ml]))]) [0] rfl
        have hDc := hD.sub (ws' := [(h0, .inr (1, [.ref qb, .int ln, .int pos, .int lim, .int ml]))]) [0] (by decide) rfl
        have hFc := va_free (wc := [(h0, .inr (1, [.ref qb, .int ln, .int pos, .int lim, .int ml]))]) hD hS hA [0] rfl
        refine x_rv (ws := [(h0, .inr (1, [.ref qb, .int ln, .int pos, .int lim, .int ml]))]) (wc := [(h0, .inr (1, [.ref qb, .int ln, .int pos, .int lim, .int ml]))]) (wr := []) (x_V (As := []) (C := "WasmReader$Cursor") E (c_Cursor_fail l D cB cI cJ cZ s.heap.size h0 qb ln pos lim ml ) m_175 m_94 m_174 m_176 m_177 nm_Cursor_fail hPc hDc hZ hS hFc rfl rfl rfl hl.1 rfl (Nat.le_of_ble_eq_true rfl) d_Cursor_withSign_38 rfl rfl (by decide) (by decide) (by decide) (by decide)) hP hD hS hA [0] [] rfl rfl (by decide) (by decide) (fun u H locs hw hP hD hS => ?_)
        obtain rfl := hw
        have hP : va_P D classes [(h0, .inr (1, [.ref qb, .int ln, .int pos, .int lim, .int 1]))] H := hP
        have hD : va_D (va_A [(h0, .inr (1, [.ref qb, .int ln, .int pos, .int lim, .int ml]))] s.heap.size) [(h0, .inr (1, [.ref qb, .int ln, .int pos, .int lim, .int 1]))] := hD
        refine lv_iload E.1 E.2.1 d_Cursor_withSign_41 (lv_at hl 4 rfl) ?_
        refine lv_bipush (v := 32) E.1 E.2.1 d_Cursor_withSign_43 (by decide) ?_
        refine lv_icmp_ne (tgt := 62) E.1 E.2.1 d_Cursor_withSign_45 (by decide) (fun hc_10 => ?_) (fun hc_10 => ?_)
        ·
          refine lv_lload E.1 E.2.1 d_Cursor_withSign_62 (lv_at hl 0 rfl) ?_
          refine W.widen (k := 0) (n := 0) (by decide) (by decide) ?_
          exact x_lret (ws := [(h0, .inr (1, [.ref qb, .int ln, .int pos, .int lim, .int 1]))]) E hr hlocks (hP.sub [0] rfl) (hD.sub [0] (by decide) rfl) hS ⟨1, rfl⟩ d_Cursor_withSign_64
        ·
          refine lv_lload E.1 E.2.1 d_Cursor_withSign_48 (lv_at hl 0 rfl) ?_
          refine lv_lload E.1 E.2.1 d_Cursor_withSign_50 (lv_at hl 0 rfl) ?_
          refine lv_l2i (v := (v0 : Int64).toInt32) E.1 E.2.1 d_Cursor_withSign_52 rfl ?_
          refine lv_topi (fun v_11 ev_11 => ?_)
          refine lv_i2l (v := (v_11 : Int32).toInt64) E.1 E.2.1 d_Cursor_withSign_53 rfl ?_
          refine W.lcmp E.1 E.2.1 d_Cursor_withSign_54 ?_
          refine lv_if_eq (tgt := 62) E.1 E.2.1 d_Cursor_withSign_55 (by decide) (fun hc_12 => ?_) (fun hc_12 => ?_)
          ·
            refine lv_lload E.1 E.2.1 d_Cursor_withSign_62 (lv_at hl 0 rfl) ?_
            refine W.widen (k := 0) (n := 0) (by decide) (by decide) ?_
            exact x_lret (ws := [(h0, .inr (1, [.ref qb, .int ln, .int pos, .int lim, .int 1]))]) E hr hlocks (hP.sub [0] rfl) (hD.sub [0] (by decide) rfl) hS ⟨1, rfl⟩ d_Cursor_withSign_64
          ·
            refine lv_aload_n E.1 E.2.1 d_Cursor_withSign_58 rfl (lv_at hl 1 rfl) ?_
            have hPc := hP.sub (ws' := [(h0, .inr (1, [.ref qb, .int ln, .int pos, .int lim, .int 1]))]) [0] rfl
            have hDc := hD.sub (ws' := [(h0, .inr (1, [.ref qb, .int ln, .int pos, .int lim, .int 1]))]) [0] (by decide) rfl
            have hFc := va_free (wc := [(h0, .inr (1, [.ref qb, .int ln, .int pos, .int lim, .int 1]))]) hD hS hA [0] rfl
            refine x_rv (ws := [(h0, .inr (1, [.ref qb, .int ln, .int pos, .int lim, .int 1]))]) (wc := [(h0, .inr (1, [.ref qb, .int ln, .int pos, .int lim, .int 1]))]) (wr := []) (x_V (As := []) (C := "WasmReader$Cursor") E (c_Cursor_fail l D cB cI cJ cZ H.size h0 qb ln pos lim 1 ) m_175 m_94 m_174 m_176 m_177 nm_Cursor_fail hPc hDc hZ hS hFc rfl rfl rfl hl.1 rfl (Nat.le_of_ble_eq_true rfl) d_Cursor_withSign_59 rfl rfl (by decide) (by decide) (by decide) (by decide)) hP hD hS hA [0] [] rfl rfl (by decide) (by decide) (fun u H locs hw hP hD hS => ?_)
            obtain rfl := hw
            have hP : va_P D classes [(h0, .inr (1, [.ref qb, .int ln, .int pos, .int lim, .int 1]))] H := hP
            have hD : va_D (va_A [(h0, .inr (1, [.ref qb, .int ln, .int pos, .int lim, .int ml]))] s.heap.size) [(h0, .inr (1, [.ref qb, .int ln, .int pos, .int lim, .int 1]))] := hD
            refine lv_lload E.1 E.2.1 d_Cursor_withSign_62 (lv_at hl 0 rfl) ?_
            refine W.widen (k := 0) (n := 0) (by decide) (by decide) ?_
            exact x_lret (ws := [(h0, .inr (1, [.ref qb, .int ln, .int pos, .int lim, .int 1]))]) E hr hlocks (hP.sub [0] rfl) (hD.sub [0] (by decide) rfl) hS ⟨1, rfl⟩ d_Cursor_withSign_64
  ·
    refine lv_lload_n E.1 E.2.1 d_Cursor_withSign_9 rfl (lv_at hl 2 rfl) ?_
    refine lv_bipush (v := 64) E.1 E.2.1 d_Cursor_withSign_10 (by decide) ?_
    refine lv_iload_n E.1 E.2.1 d_Cursor_withSign_12 rfl (lv_at hl 3 rfl) ?_
    refine lv_isub E.1 E.2.1 d_Cursor_withSign_13 ?_
    refine lv_topi (fun v_13 ev_13 => ?_)
    obtain ⟨v_14, ev_14⟩ : ∃ z : Int64, z = (v0) <<< ((v_13 : Int32).toInt64 &&& 63) := ⟨_, rfl⟩
    refine lv_lshl (v := v_14) E.1 E.2.1 d_Cursor_withSign_14 ev_14.symm ?_
    refine lv_bipush (v := 64) E.1 E.2.1 d_Cursor_withSign_15 (by decide) ?_
    refine lv_iload_n E.1 E.2.1 d_Cursor_withSign_17 rfl (lv_at hl 3 rfl) ?_
    refine lv_isub E.1 E.2.1 d_Cursor_withSign_18 ?_
    refine lv_topi (fun v_15 ev_15 => ?_)
    obtain ⟨v_16, ev_16⟩ : ∃ z : Int64, z = (v_14) >>> ((v_15 : Int32).toInt64 &&& 63) := ⟨_, rfl⟩
    refine lv_lshr (v := v_16) E.1 E.2.1 d_Cursor_withSign_19 ev_16.symm ?_
    refine lv_lstore (lv' := [(6, .long v_16), (0, .ref h0), (1, .long v0), (3, .int x3), (4, .int x4), (5, .int x5)]) E.1 E.2.1 d_Cursor_withSign_20 hl (by decide) rfl (fun ls hl => ?_)
    refine lv_goto (tgt := 41) E.1 E.2.1 d_Cursor_withSign_22 (by decide) ?_
    refine lv_iload E.1 E.2.1 d_Cursor_withSign_41 (lv_at hl 4 rfl) ?_
    refine lv_bipush (v := 32) E.1 E.2.1 d_Cursor_withSign_43 (by decide) ?_
    refine lv_icmp_ne (tgt := 62) E.1 E.2.1 d_Cursor_withSign_45 (by decide) (fun hc_17 => ?_) (fun hc_17 => ?_)
    ·
      refine lv_lload E.1 E.2.1 d_Cursor_withSign_62 (lv_at hl 0 rfl) ?_
      refine W.widen (k := 0) (n := 0) (by decide) (by decide) ?_
      exact x_lret (ws := [(h0, .inr (1, [.ref qb, .int ln, .int pos, .int lim, .int ml]))]) E hr hlocks (hP.sub [0] rfl) (hD.sub [0] (by decide) rfl) hS ⟨ml, rfl⟩ d_Cursor_withSign_64
    ·
      refine lv_lload E.1 E.2.1 d_Cursor_withSign_48 (lv_at hl 0 rfl) ?_
      refine lv_lload E.1 E.2.1 d_Cursor_withSign_50 (lv_at hl 0 rfl) ?_
      refine lv_l2i (v := (v_16 : Int64).toInt32) E.1 E.2.1 d_Cursor_withSign_52 rfl ?_
      refine lv_topi (fun v_18 ev_18 => ?_)
      refine lv_i2l (v := (v_18 : Int32).toInt64) E.1 E.2.1 d_Cursor_withSign_53 rfl ?_
      refine W.lcmp E.1 E.2.1 d_Cursor_withSign_54 ?_
      refine lv_if_eq (tgt := 62) E.1 E.2.1 d_Cursor_withSign_55 (by decide) (fun hc_19 => ?_) (fun hc_19 => ?_)
      ·
        refine lv_lload E.1 E.2.1 d_Cursor_withSign_62 (lv_at hl 0 rfl) ?_
        refine W.widen (k := 0) (n := 0) (by decide) (by decide) ?_
        exact x_lret (ws := [(h0, .inr (1, [.ref qb, .int ln, .int pos, .int lim, .int ml]))]) E hr hlocks (hP.sub [0] rfl) (hD.sub [0] (by decide) rfl) hS ⟨ml, rfl⟩ d_Cursor_withSign_64
      ·
        refine lv_aload_n E.1 E.2.1 d_Cursor_withSign_58 rfl (lv_at hl 1 rfl) ?_
        have hPc := hP.sub (ws' := [(h0, .inr (1, [.ref qb, .int ln, .int pos, .int lim, .int ml]))]) [0] rfl
        have hDc := hD.sub (ws' := [(h0, .inr (1, [.ref qb, .int ln, .int pos, .int lim, .int ml]))]) [0] (by decide) rfl
        have hFc := va_free (wc := [(h0, .inr (1, [.ref qb, .int ln, .int pos, .int lim, .int ml]))]) hD hS hA [0] rfl
        refine x_rv (ws := [(h0, .inr (1, [.ref qb, .int ln, .int pos, .int lim, .int ml]))]) (wc := [(h0, .inr (1, [.ref qb, .int ln, .int pos, .int lim, .int ml]))]) (wr := []) (x_V (As := []) (C := "WasmReader$Cursor") E (c_Cursor_fail l D cB cI cJ cZ s.heap.size h0 qb ln pos lim ml ) m_175 m_94 m_174 m_176 m_177 nm_Cursor_fail hPc hDc hZ hS hFc rfl rfl rfl hl.1 rfl (Nat.le_of_ble_eq_true rfl) d_Cursor_withSign_59 rfl rfl (by decide) (by decide) (by decide) (by decide)) hP hD hS hA [0] [] rfl rfl (by decide) (by decide) (fun u H locs hw hP hD hS => ?_)
        obtain rfl := hw
        have hP : va_P D classes [(h0, .inr (1, [.ref qb, .int ln, .int pos, .int lim, .int 1]))] H := hP
        have hD : va_D (va_A [(h0, .inr (1, [.ref qb, .int ln, .int pos, .int lim, .int ml]))] s.heap.size) [(h0, .inr (1, [.ref qb, .int ln, .int pos, .int lim, .int 1]))] := hD
        refine lv_lload E.1 E.2.1 d_Cursor_withSign_62 (lv_at hl 0 rfl) ?_
        refine W.widen (k := 0) (n := 0) (by decide) (by decide) ?_
        exact x_lret (ws := [(h0, .inr (1, [.ref qb, .int ln, .int pos, .int lim, .int 1]))]) E hr hlocks (hP.sub [0] rfl) (hD.sub [0] (by decide) rfl) hS ⟨1, rfl⟩ d_Cursor_withSign_64
