set_option maxHeartbeats 4000000 in
set_option maxRecDepth 100000 in
theorem c_Cursor_nextByteG (l : Launch) (D : va_G) (cB cI cJ cZ : ClassId) (sz : Nat) (h0 : Nat) (qb : Nat) (ln : Int32) (pos : Int32) (lim : Int32) (ml : Int32) (f : Nat → Int32)  : Met l y_Cursor_nextByte (Cond.code y_Cursor_nextByte prog_2_method_6_code 2 (some .int) :: xtb) ({ frames := 0, cells := 0, slots := 0, locals := 0 }) (xP D [(cB, .byte), (cI, .int), (cJ, .long), (cZ, .boolean)] [.ref h0] [(h0, .inr (1, [.ref qb, .int ln, .int pos, .int lim, .int ml])), (qb, .inl (cB, 4000, .inl f))] sz) (xQi D [(cB, .byte), (cI, .int), (cJ, .long), (cZ, .boolean)] [(h0, .inr (1, [.ref qb, .int ln, .int pos, .int lim, .int ml])), (qb, .inl (cB, 4000, .inl f))] sz (fun r u => ∃ (pos2 : Int32), ∃ (ml2 : Int32), u = [(h0, .inr (1, [.ref qb, .int ln, .int pos2, .int lim, .int ml2])), (qb, .inl (cB, 4000, .inl f))])) 0 0 (va_A [(h0, .inr (1, [.ref qb, .int ln, .int pos, .int lim, .int ml])), (qb, .inl (cB, 4000, .inl f))] sz) := by
  refine x_met (Qc := fun s => xQi D [(cB, .byte), (cI, .int), (cJ, .long), (cZ, .boolean)] [(h0, .inr (1, [.ref qb, .int ln, .int pos, .int lim, .int ml])), (qb, .inl (cB, 4000, .inl f))] s.heap.size (fun r u => ∃ (pos2 : Int32), ∃ (ml2 : Int32), u = [(h0, .inr (1, [.ref qb, .int ln, .int pos2, .int lim, .int ml2])), (qb, .inl (cB, 4000, .inl f))])) (fr := fun s => va_A [(h0, .inr (1, [.ref qb, .int ln, .int pos, .int lim, .int ml])), (qb, .inl (cB, 4000, .inl f))] s.heap.size) "WasmReader$Cursor" (by decide +kernel) rfl (Nat.le_of_ble_eq_true rfl) (fun s h => by rw [h]) (fun s h => by rw [h]) ?_
  intro p e s m below meth c ls E hr hlocks hinit hl hP hD hA hS hZ hadm
  have hl : lv_has ls 2 [(0, .ref h0)] := hl
  refine lv_aload_n E.1 E.2.1 d_Cursor_nextByte_0 rfl (lv_at hl 0 rfl) ?_
  refine x_get E hP (C := "WasmReader$Cursor") (T := T_Cursor) (N := 5) (ci := 1) 0 (v := .int pos) 2 in_Cursor rfl rfl (by decide) m_167 rfl d_Cursor_nextByte_1 ?_
  refine lv_if_lt (tgt := 30) E.1 E.2.1 d_Cursor_nextByte_4 (by decide) (fun hc_6 => ?_) (fun hc_6 => ?_)
  ·
    refine lv_aload_n E.1 E.2.1 d_Cursor_nextByte_30 rfl (lv_at hl 0 rfl) ?_
    refine lv_iconst (v := 1) E.1 E.2.1 d_Cursor_nextByte_31 (by decide) ?_
    refine x_put E hP hD hS (C := "WasmReader$Cursor") (T := T_Cursor) (N := 5) (ci := 1) 0 (v := .int 1) 4 (t0 := t_Cursor) (tk := .boolean) in_Cursor tok_Cursor nok_Cursor rfl rfl (by decide) m_169 rfl rfl (by decide) (by decide) (Nat.le_of_ble_eq_true rfl) d_Cursor_nextByte_32 (fun H locs hP hD hS => ?_)
    have hP : va_P D classes [(h0, .inr (1, [.ref qb, .int ln, .int pos, .int lim, .int 1])), (qb, .inl (cB, 4000, .inl f))] H := hP
    have hD : va_D (va_A [(h0, .inr (1, [.ref qb, .int ln, .int pos, .int lim, .int ml])), (qb, .inl (cB, 4000, .inl f))] s.heap.size) [(h0, .inr (1, [.ref qb, .int ln, .int pos, .int lim, .int 1])), (qb, .inl (cB, 4000, .inl f))] := hD
    refine lv_iconst (v := 0) E.1 E.2.1 d_Cursor_nextByte_35 (by decide) ?_
    refine W.widen (k := 0) (n := 0) (by decide) (by decide) ?_
    exact x_iret (ws := [(h0, .inr (1, [.ref qb, .int ln, .int pos, .int lim, .int 1])), (qb, .inl (cB, 4000, .inl f))]) E hr hlocks (hP.sub [0, 1] rfl) (hD.sub [0, 1] (by decide) rfl) hS ⟨pos, 1, rfl⟩ d_Cursor_nextByte_36
  ·
    obtain ⟨jv, hjv, ejv⟩ := nI_of hc_6
    refine lv_aload_n E.1 E.2.1 d_Cursor_nextByte_7 rfl (lv_at hl 0 rfl) ?_
    refine x_get E hP (C := "WasmReader$Cursor") (T := T_Cursor) (N := 5) (ci := 1) 0 (v := .int pos) 2 in_Cursor rfl rfl (by decide) m_167 rfl d_Cursor_nextByte_8 ?_
    refine lv_aload_n E.1 E.2.1 d_Cursor_nextByte_11 rfl (lv_at hl 0 rfl) ?_
    refine x_get E hP (C := "WasmReader$Cursor") (T := T_Cursor) (N := 5) (ci := 1) 0 (v := .int lim) 3 in_Cursor rfl rfl (by decide) m_168 rfl d_Cursor_nextByte_12 ?_
    refine lv_icmp_ge (tgt := 30) E.1 E.2.1 d_Cursor_nextByte_15 (by decide) (fun hc_7 => ?_) (fun hc_7 => ?_)
    ·
      refine lv_aload_n E.1 E.2.1 d_Cursor_nextByte_30 rfl (lv_at hl 0 rfl) ?_
      refine lv_iconst (v := 1) E.1 E.2.1 d_Cursor_nextByte_31 (by decide) ?_
      refine x_put E hP hD hS (C := "WasmReader$Cursor") (T := T_Cursor) (N := 5) (ci := 1) 0 (v := .int 1) 4 (t0 := t_Cursor) (tk := .boolean) in_Cursor tok_Cursor nok_Cursor rfl rfl (by decide) m_169 rfl rfl (by decide) (by decide) (Nat.le_of_ble_eq_true rfl) d_Cursor_nextByte_32 (fun H locs hP hD hS => ?_)
      have hP : va_P D classes [(h0, .inr (1, [.ref qb, .int ln, .int pos, .int lim, .int 1])), (qb, .inl (cB, 4000, .inl f))] H := hP
      have hD : va_D (va_A [(h0, .inr (1, [.ref qb, .int ln, .int pos, .int lim, .int ml])), (qb, .inl (cB, 4000, .inl f))] s.heap.size) [(h0, .inr (1, [.ref qb, .int ln, .int pos, .int lim, .int 1])), (qb, .inl (cB, 4000, .inl f))] := hD
      refine lv_iconst (v := 0) E.1 E.2.1 d_Cursor_nextByte_35 (by decide) ?_
      refine W.widen (k := 0) (n := 0) (by decide) (by decide) ?_
      exact x_iret (ws := [(h0, .inr (1, [.ref qb, .int ln, .int pos, .int lim, .int 1])), (qb, .inl (cB, 4000, .inl f))]) E hr hlocks (hP.sub [0, 1] rfl) (hD.sub [0, 1] (by decide) rfl) hS ⟨pos, 1, rfl⟩ d_Cursor_nextByte_36
    ·
      refine lv_aload_n E.1 E.2.1 d_Cursor_nextByte_18 rfl (lv_at hl 0 rfl) ?_
      refine x_get E hP (C := "WasmReader$Cursor") (T := T_Cursor) (N := 5) (ci := 1) 0 (v := .int pos) 2 in_Cursor rfl rfl (by decide) m_167 rfl d_Cursor_nextByte_19 ?_
      refine lv_aload_n E.1 E.2.1 d_Cursor_nextByte_22 rfl (lv_at hl 0 rfl) ?_
      refine x_get E hP (C := "WasmReader$Cursor") (T := T_Cursor) (N := 5) (ci := 1) 0 (v := .ref qb) 0 in_Cursor rfl rfl (by decide) m_0 rfl d_Cursor_nextByte_23 ?_
      refine va_alen E.1 E.2.1 E.2.2.2.2.2 hP 1 0 rfl rfl (v := 4000) rfl d_Cursor_nextByte_26 ?_
      refine lv_icmp_lt (tgt := 37) E.1 E.2.1 d_Cursor_nextByte_27 (by decide) (fun hc_8 => ?_) (fun hc_8 => ?_)
      ·
        have hjl : jv < 4000 := (nI_ltI (a := jv) (b := 4000) (by omega) (by omega)).mp (ejv ▸ hc_8)
        refine lv_aload_n E.1 E.2.1 d_Cursor_nextByte_37 rfl (lv_at hl 0 rfl) ?_
        refine x_get E hP (C := "WasmReader$Cursor") (T := T_Cursor) (N := 5) (ci := 1) 0 (v := .ref qb) 0 in_Cursor rfl rfl (by decide) m_0 rfl d_Cursor_nextByte_38 ?_
        refine lv_aload_n E.1 E.2.1 d_Cursor_nextByte_41 rfl (lv_at hl 0 rfl) ?_
        refine x_get E hP (C := "WasmReader$Cursor") (T := T_Cursor) (N := 5) (ci := 1) 0 (v := .int pos) 2 in_Cursor rfl rfl (by decide) m_167 rfl d_Cursor_nextByte_42 ?_
        refine va_bald E.1 E.2.1 E.2.2.2.2.2 hP 1 0 rfl rfl (i := pos) (by rw [ejv]; exact vp_in_nI (n := jv) (by omega) (by decide)) d_Cursor_nextByte_45 ?_
        refine lv_topi (fun v_9 ev_9 => ?_)
        refine lv_sipush (v := 255) E.1 E.2.1 d_Cursor_nextByte_46 (by decide) ?_
        refine lv_iand E.1 E.2.1 d_Cursor_nextByte_49 ?_
        refine lv_topi (fun v_10 ev_10 => ?_)
        refine lv_istore_n (lv' := [(1, .int v_10), (0, .ref h0)]) E.1 E.2.1 d_Cursor_nextByte_50 rfl hl (by decide) rfl (fun ls hl => ?_)
        refine lv_aload_n E.1 E.2.1 d_Cursor_nextByte_51 rfl (lv_at hl 1 rfl) ?_
        refine lv_dup E.1 E.2.1 d_Cursor_nextByte_52 rfl ?_
        refine x_get E hP (C := "WasmReader$Cursor") (T := T_Cursor) (N := 5) (ci := 1) 0 (v := .int pos) 2 in_Cursor rfl rfl (by decide) m_167 rfl d_Cursor_nextByte_53 ?_
        refine lv_iconst (v := 1) E.1 E.2.1 d_Cursor_nextByte_56 (by decide) ?_
        refine lv_iadd E.1 E.2.1 d_Cursor_nextByte_57 ?_
        refine lv_topi (fun v_11 ev_11 => ?_)
        refine x_put E hP hD hS (C := "WasmReader$Cursor") (T := T_Cursor) (N := 5) (ci := 1) 0 (v := .int v_11) 2 (t0 := t_Cursor) (tk := .int) in_Cursor tok_Cursor nok_Cursor rfl rfl (by decide) m_167 rfl rfl rfl rfl (Nat.le_of_ble_eq_true rfl) d_Cursor_nextByte_58 (fun H locs hP hD hS => ?_)
        have hP : va_P D classes [(h0, .inr (1, [.ref qb, .int ln, .int v_11, .int lim, .int ml])), (qb, .inl (cB, 4000, .inl f))] H := hP
        have hD : va_D (va_A [(h0, .inr (1, [.ref qb, .int ln, .int pos, .int lim, .int ml])), (qb, .inl (cB, 4000, .inl f))] s.heap.size) [(h0, .inr (1, [.ref qb, .int ln, .int v_11, .int lim, .int ml])), (qb, .inl (cB, 4000, .inl f))] := hD
        refine lv_iload_n E.1 E.2.1 d_Cursor_nextByte_61 rfl (lv_at hl 0 rfl) ?_
        refine W.widen (k := 0) (n := 0) (by decide) (by decide) ?_
        exact x_iret (ws := [(h0, .inr (1, [.ref qb, .int ln, .int v_11, .int lim, .int ml])), (qb, .inl (cB, 4000, .inl f))]) E hr hlocks (hP.sub [0, 1] rfl) (hD.sub [0, 1] (by decide) rfl) hS ⟨v_11, ml, rfl⟩ d_Cursor_nextByte_62
      ·
        refine lv_aload_n E.1 E.2.1 d_Cursor_nextByte_30 rfl (lv_at hl 0 rfl) ?_
        refine lv_iconst (v := 1) E.1 E.2.1 d_Cursor_nextByte_31 (by decide) ?_
        refine x_put E hP hD hS (C := "WasmReader$Cursor") (T := T_Cursor) (N := 5) (ci := 1) 0 (v := .int 1) 4 (t0 := t_Cursor) (tk := .boolean) in_Cursor tok_Cursor nok_Cursor rfl rfl (by decide) m_169 rfl rfl (by decide) (by decide) (Nat.le_of_ble_eq_true rfl) d_Cursor_nextByte_32 (fun H locs hP hD hS => ?_)
        have hP : va_P D classes [(h0, .inr (1, [.ref qb, .int ln, .int pos, .int lim, .int 1])), (qb, .inl (cB, 4000, .inl f))] H := hP
        have hD : va_D (va_A [(h0, .inr (1, [.ref qb, .int ln, .int pos, .int lim, .int ml])), (qb, .inl (cB, 4000, .inl f))] s.heap.size) [(h0, .inr (1, [.ref qb, .int ln, .int pos, .int lim, .int 1])), (qb, .inl (cB, 4000, .inl f))] := hD
        refine lv_iconst (v := 0) E.1 E.2.1 d_Cursor_nextByte_35 (by decide) ?_
        refine W.widen (k := 0) (n := 0) (by decide) (by decide) ?_
        exact x_iret (ws := [(h0, .inr (1, [.ref qb, .int ln, .int pos, .int lim, .int 1])), (qb, .inl (cB, 4000, .inl f))]) E hr hlocks (hP.sub [0, 1] rfl) (hD.sub [0, 1] (by decide) rfl) hS ⟨pos, 1, rfl⟩ d_Cursor_nextByte_36
set_option maxHeartbeats 4000000 in
set_option maxRecDepth 100000 in
theorem c_Cursor_expectG (l : Launch) (D : va_G) (cB cI cJ cZ : ClassId) (sz : Nat) (h0 : Nat) (qb : Nat) (ln : Int32) (pos : Int32) (lim : Int32) (ml : Int32) (f : Nat → Int32) (due : Int32)  : Met l y_Cursor_expect (Cond.code y_Cursor_expect prog_2_method_7_code 2 none :: xtb) ({ frames := 1, cells := 0, slots := 0, locals := 21 }) (xP D [(cB, .byte), (cI, .int), (cJ, .long), (cZ, .boolean)] [.ref h0, .int due] [(h0, .inr (1, [.ref qb, .int ln, .int pos, .int lim, .int ml])), (qb, .inl (cB, 4000, .inl f))] sz) (xQv D [(cB, .byte), (cI, .int), (cJ, .long), (cZ, .boolean)] [(h0, .inr (1, [.ref qb, .int ln, .int pos, .int lim, .int ml])), (qb, .inl (cB, 4000, .inl f))] sz (fun u => ∃ (pos2 : Int32), ∃ (ml2 : Int32), u = [(h0, .inr (1, [.ref qb, .int ln, .int pos2, .int lim, .int ml2])), (qb, .inl (cB, 4000, .inl f))])) 0 0 (va_A [(h0, .inr (1, [.ref qb, .int ln, .int pos, .int lim, .int ml])), (qb, .inl (cB, 4000, .inl f))] sz) := by
  refine x_met (Qc := fun s => xQv D [(cB, .byte), (cI, .int), (cJ, .long), (cZ, .boolean)] [(h0, .inr (1, [.ref qb, .int ln, .int pos, .int lim, .int ml])), (qb, .inl (cB, 4000, .inl f))] s.heap.size (fun u => ∃ (pos2 : Int32), ∃ (ml2 : Int32), u = [(h0, .inr (1, [.ref qb, .int ln, .int pos2, .int lim, .int ml2])), (qb, .inl (cB, 4000, .inl f))])) (fr := fun s => va_A [(h0, .inr (1, [.ref qb, .int ln, .int pos, .int lim, .int ml])), (qb, .inl (cB, 4000, .inl f))] s.heap.size) "WasmReader$Cursor" (by decide +kernel) rfl (Nat.le_of_ble_eq_true rfl) (fun s h => by rw [h]) (fun s h => by rw [h]) ?_
  intro p e s m below meth c ls E hr hlocks hinit hl hP hD hA hS hZ hadm
  have hl : lv_has ls 2 [(0, .ref h0), (1, .int due)] := hl
  refine lv_aload_n E.1 E.2.1 d_Cursor_expect_0 rfl (lv_at hl 0 rfl) ?_
  have hPc := hP.sub (ws' := [(h0, .inr (1, [.ref qb, .int ln, .int pos, .int lim, .int ml])), (qb, .inl (cB, 4000, .inl f))]) [0, 1] rfl
  have hDc := hD.sub (ws' := [(h0, .inr (1, [.ref qb, .int ln, .int pos, .int lim, .int ml])), (qb, .inl (cB, 4000, .inl f))]) [0, 1] (by decide) rfl
  have hFc := va_free (wc := [(h0, .inr (1, [.ref qb, .int ln, .int pos, .int lim, .int ml])), (qb, .inl (cB, 4000, .inl f))]) hD hS hA [0, 1] rfl
  refine x_ri (ws := [(h0, .inr (1, [.ref qb, .int ln, .int pos, .int lim, .int ml])), (qb, .inl (cB, 4000, .inl f))]) (wc := [(h0, .inr (1, [.ref qb, .int ln, .int pos, .int lim, .int ml])), (qb, .inl (cB, 4000, .inl f))]) (wr := []) (x_V (As := []) (C := "WasmReader$Cursor") E (c_Cursor_nextByteG l D cB cI cJ cZ s.heap.size h0 qb ln pos lim ml f ) m_171 m_94 m_170 m_172 m_173 nm_Cursor_nextByte hPc hDc hZ hS hFc rfl rfl rfl hl.1 rfl (Nat.le_of_ble_eq_true rfl) d_Cursor_expect_1 rfl rfl (by decide) (by decide) (by decide) (by decide)) hP hD hS hA [0, 1] [] rfl rfl (by decide) (by decide) (fun r_12 u H locs hw hP hD hS => ?_)
  obtain ⟨pos2_10, ml2_11, rfl⟩ := hw
  have hP : va_P D classes [(h0, .inr (1, [.ref qb, .int ln, .int pos2_10, .int lim, .int ml2_11])), (qb, .inl (cB, 4000, .inl f))] H := hP
  have hD : va_D (va_A [(h0, .inr (1, [.ref qb, .int ln, .int pos, .int lim, .int ml])), (qb, .inl (cB, 4000, .inl f))] s.heap.size) [(h0, .inr (1, [.ref qb, .int ln, .int pos2_10, .int lim, .int ml2_11])), (qb, .inl (cB, 4000, .inl f))] := hD
  refine lv_iload_n E.1 E.2.1 d_Cursor_expect_4 rfl (lv_at hl 1 rfl) ?_
  refine lv_icmp_eq (tgt := 12) E.1 E.2.1 d_Cursor_expect_5 (by decide) (fun hc_13 => ?_) (fun hc_13 => ?_)
  ·
    refine W.widen (k := 0) (n := 0) (by decide) (by decide) ?_
    exact x_vret (ws := [(h0, .inr (1, [.ref qb, .int ln, .int pos2_10, .int lim, .int ml2_11])), (qb, .inl (cB, 4000, .inl f))]) E hr hlocks (hP.sub [0, 1] rfl) (hD.sub [0, 1] (by decide) rfl) hS ⟨pos2_10, ml2_11, rfl⟩ d_Cursor_expect_12
  ·
    refine lv_aload_n E.1 E.2.1 d_Cursor_expect_8 rfl (lv_at hl 0 rfl) ?_
    have hPc := hP.sub (ws' := [(h0, .inr (1, [.ref qb, .int ln, .int pos2_10, .int lim, .int ml2_11]))]) [0] rfl
    have hDc := hD.sub (ws' := [(h0, .inr (1, [.ref qb, .int ln, .int pos2_10, .int lim, .int ml2_11]))]) [0] (by decide) rfl
    have hFc := va_free (wc := [(h0, .inr (1, [.ref qb, .int ln, .int pos2_10, .int lim, .int ml2_11]))]) hD hS hA [0] rfl
    refine x_rv (ws := [(h0, .inr (1, [.ref qb, .int ln, .int pos2_10, .int lim, .int ml2_11])), (qb, .inl (cB, 4000, .inl f))]) (wc := [(h0, .inr (1, [.ref qb, .int ln, .int pos2_10, .int lim, .int ml2_11]))]) (wr := [(qb, .inl (cB, 4000, .inl f))]) (x_V (As := []) (C := "WasmReader$Cursor") E (c_Cursor_fail l D cB cI cJ cZ H.size h0 qb ln pos2_10 lim ml2_11 ) m_175 m_94 m_174 m_176 m_177 nm_Cursor_fail hPc hDc hZ hS hFc rfl rfl rfl hl.1 rfl (Nat.le_of_ble_eq_true rfl) d_Cursor_expect_9 rfl rfl (by decide) (by decide) (by decide) (by decide)) hP hD hS hA [0] [1] rfl rfl (by decide) (by decide) (fun u H locs hw hP hD hS => ?_)
    obtain rfl := hw
    have hP : va_P D classes [(qb, .inl (cB, 4000, .inl f)), (h0, .inr (1, [.ref qb, .int ln, .int pos2_10, .int lim, .int 1]))] H := hP
    have hD : va_D (va_A [(h0, .inr (1, [.ref qb, .int ln, .int pos, .int lim, .int ml])), (qb, .inl (cB, 4000, .inl f))] s.heap.size) [(qb, .inl (cB, 4000, .inl f)), (h0, .inr (1, [.ref qb, .int ln, .int pos2_10, .int lim, .int 1]))] := hD
    refine W.widen (k := 0) (n := 0) (by decide) (by decide) ?_
    exact x_vret (ws := [(h0, .inr (1, [.ref qb, .int ln, .int pos2_10, .int lim, .int 1])), (qb, .inl (cB, 4000, .inl f))]) E hr hlocks (hP.sub [1, 0] rfl) (hD.sub [1, 0] (by decide) rfl) hS ⟨pos2_10, 1, rfl⟩ d_Cursor_expect_12
set_option maxHeartbeats 4000000 in
set_option maxRecDepth 100000 in
theorem c_Cursor_unsignedG (l : Launch) (D : va_G) (cB cI cJ cZ : ClassId) (sz : Nat) (h0 : Nat) (qb : Nat) (ln : Int32) (pos : Int32) (lim : Int32) (ml : Int32) (f : Nat → Int32)  : Met l y_Cursor_unsigned (Cond.code y_Cursor_unsigned prog_2_method_8_code 5 (some .long) :: xtb) ({ frames := 1, cells := 0, slots := 0, locals := 21 }) (xP D [(cB, .byte), (cI, .int), (cJ, .long), (cZ, .boolean)] [.ref h0] [(h0, .inr (1, [.ref qb, .int ln, .int pos, .int lim, .int ml])), (qb, .inl (cB, 4000, .inl f))] sz) (xQl D [(cB, .byte), (cI, .int), (cJ, .long), (cZ, .boolean)] [(h0, .inr (1, [.ref qb, .int ln, .int pos, .int lim, .int ml])), (qb, .inl (cB, 4000, .inl f))] sz (fun r u => ∃ (pos2 : Int32), ∃ (ml2 : Int32), u = [(h0, .inr (1, [.ref qb, .int ln, .int pos2, .int lim, .int ml2])), (qb, .inl (cB, 4000, .inl f))])) 0 0 (va_A [(h0, .inr (1, [.ref qb, .int ln, .int pos, .int lim, .int ml])), (qb, .inl (cB, 4000, .inl f))] sz) := by
  refine x_met (Qc := fun s => xQl D [(cB, .byte), (cI, .int), (cJ, .long), (cZ, .boolean)] [(h0, .inr (1, [.ref qb, .int ln, .int pos, .int lim, .int ml])), (qb, .inl (cB, 4000, .inl f))] s.heap.size (fun r u => ∃ (pos2 : Int32), ∃ (ml2 : Int32), u = [(h0, .inr (1, [.ref qb, .int ln, .int pos2, .int lim, .int ml2])), (qb, .inl (cB, 4000, .inl f))])) (fr := fun s => va_A [(h0, .inr (1, [.ref qb, .int ln, .int pos, .int lim, .int ml])), (qb, .inl (cB, 4000, .inl f))] s.heap.size) "WasmReader$Cursor" (by decide +kernel) rfl (Nat.le_of_ble_eq_true rfl) (fun s h => by rw [h]) (fun s h => by rw [h]) ?_
  intro p e s m below meth c ls E hr hlocks hinit hl hP hD hA hS hZ hadm
  have hl : lv_has ls 5 [(0, .ref h0)] := hl
  refine lv_lconst (v := 0) E.1 E.2.1 d_Cursor_unsigned_0 (by decide) ?_
  refine lv_lstore_n (lv' := [(1, .long 0), (0, .ref h0)]) E.1 E.2.1 d_Cursor_unsigned_1 rfl hl (by decide) rfl (fun ls hl => ?_)
  refine lv_iconst (v := 0) E.1 E.2.1 d_Cursor_unsigned_2 (by decide) ?_
  refine lv_istore_n (lv' := [(3, .int 0), (1, .long 0), (0, .ref h0)]) E.1 E.2.1 d_Cursor_unsigned_3 rfl hl (by decide) rfl (fun ls hl => ?_)
  refine lv_iload_n E.1 E.2.1 d_Cursor_unsigned_4 rfl (lv_at hl 0 rfl) ?_
  refine lv_bipush (v := 32) E.1 E.2.1 d_Cursor_unsigned_5 (by decide) ?_
  refine lv_icmp_ge (tgt := 55) E.1 E.2.1 d_Cursor_unsigned_7 (by decide) (fun hc => absurd hc (by decide)) (fun _ => ?_)
  refine lv_aload_n E.1 E.2.1 d_Cursor_unsigned_10 rfl (lv_at hl 2 rfl) ?_
  have hPc := hP.sub (ws' := [(h0, .inr (1, [.ref qb, .int ln, .int pos, .int lim, .int ml])), (qb, .inl (cB, 4000, .inl f))]) [0, 1] rfl
  have hDc := hD.sub (ws' := [(h0, .inr (1, [.ref qb, .int ln, .int pos, .int lim, .int ml])), (qb, .inl (cB, 4000, .inl f))]) [0, 1] (by decide) rfl
  have hFc := va_free (wc := [(h0, .inr (1, [.ref qb, .int ln, .int pos, .int lim, .int ml])), (qb, .inl (cB, 4000, .inl f))]) hD hS hA [0, 1] rfl
  refine x_ri (ws := [(h0, .inr (1, [.ref qb, .int ln, .int pos, .int lim, .int ml])), (qb, .inl (cB, 4000, .inl f))]) (wc := [(h0, .inr (1, [.ref qb, .int ln, .int pos, .int lim, .int ml])), (qb, .inl (cB, 4000, .inl f))]) (wr := []) (x_V (As := []) (C := "WasmReader$Cursor") E (c_Cursor_nextByteG l D cB cI cJ cZ s.heap.size h0 qb ln pos lim ml f ) m_171 m_94 m_170 m_172 m_173 nm_Cursor_nextByte hPc hDc hZ hS hFc rfl rfl rfl hl.1 rfl (Nat.le_of_ble_eq_true rfl) d_Cursor_unsigned_11 rfl rfl (by decide) (by decide) (by decide) (by decide)) hP hD hS hA [0, 1] [] rfl rfl (by decide) (by decide) (fun r_58 u H locs hw hP hD hS => ?_)
  obtain ⟨pos2_56, ml2_57, rfl⟩ := hw
  have hP : va_P D classes [(h0, .inr (1, [.ref qb, .int ln, .int pos2_56, .int lim, .int ml2_57])), (qb, .inl (cB, 4000, .inl f))] H := hP
  have hD : va_D (va_A [(h0, .inr (1, [.ref qb, .int ln, .int pos, .int lim, .int ml])), (qb, .inl (cB, 4000, .inl f))] s.heap.size) [(h0, .inr (1, [.ref qb, .int ln, .int pos2_56, .int lim, .int ml2_57])), (qb, .inl (cB, 4000, .inl f))] := hD
  refine lv_istore (lv' := [(4, .int r_58), (3, .int 0), (1, .long 0), (0, .ref h0)]) E.1 E.2.1 d_Cursor_unsigned_14 hl (by decide) rfl (fun ls hl => ?_)
  refine lv_lload_n E.1 E.2.1 d_Cursor_unsigned_16 rfl (lv_at hl 2 rfl) ?_
  refine lv_iload E.1 E.2.1 d_Cursor_unsigned_17 (lv_at hl 0 rfl) ?_
  refine lv_bipush (v := 127) E.1 E.2.1 d_Cursor_unsigned_19 (by decide) ?_
  refine lv_iand E.1 E.2.1 d_Cursor_unsigned_21 ?_
  refine lv_topi (fun v_59 ev_59 => ?_)
  refine lv_i2l (v := (v_59 : Int32).toInt64) E.1 E.2.1 d_Cursor_unsigned_22 rfl ?_
  refine lv_iload_n E.1 E.2.1 d_Cursor_unsigned_23 rfl (lv_at hl 1 rfl) ?_
  obtain ⟨v_60, ev_60⟩ : ∃ z : Int64, z = ((v_59 : Int32).toInt64) <<< ((0 : Int32).toInt64 &&& 63) := ⟨_, rfl⟩
  refine lv_lshl (v := v_60) E.1 E.2.1 d_Cursor_unsigned_24 ev_60.symm ?_
  refine lv_lor E.1 E.2.1 d_Cursor_unsigned_25 ?_
  refine lv_topl (fun v_61 ev_61 => ?_)
  refine lv_lstore_n (lv' := [(1, .long v_61), (4, .int r_58), (3, .int 0), (0, .ref h0)]) E.1 E.2.1 d_Cursor_unsigned_26 rfl hl (by decide) rfl (fun ls hl => ?_)
  refine lv_iload E.1 E.2.1 d_Cursor_unsigned_27 (lv_at hl 1 rfl) ?_
  refine lv_sipush (v := 128) E.1 E.2.1 d_Cursor_unsigned_29 (by decide) ?_
  refine lv_icmp_ge (tgt := 49) E.1 E.2.1 d_Cursor_unsigned_32 (by decide) (fun hc_62 => ?_) (fun hc_62 => ?_)
  ·
    refine lv_iinc (v := 7) (lv' := [(3, .int 7), (1, .long v_61), (4, .int r_58), (0, .ref h0)]) E.1 E.2.1 d_Cursor_unsigned_49 hl (k := 2) rfl (by decide) (by decide) rfl (fun ls hl => ?_)
    refine lv_goto (tgt := 4) E.1 E.2.1 d_Cursor_unsigned_52 (by decide) ?_
    refine lv_iload_n E.1 E.2.1 d_Cursor_unsigned_4 rfl (lv_at hl 0 rfl) ?_
    refine lv_bipush (v := 32) E.1 E.2.1 d_Cursor_unsigned_5 (by decide) ?_
    refine lv_icmp_ge (tgt := 55) E.1 E.2.1 d_Cursor_unsigned_7 (by decide) (fun hc => absurd hc (by decide)) (fun _ => ?_)
    refine lv_aload_n E.1 E.2.1 d_Cursor_unsigned_10 rfl (lv_at hl 3 rfl) ?_
    have hPc := hP.sub (ws' := [(h0, .inr (1, [.ref qb, .int ln, .int pos2_56, .int lim, .int ml2_57])), (qb, .inl (cB, 4000, .inl f))]) [0, 1] rfl
    have hDc := hD.sub (ws' := [(h0, .inr (1, [.ref qb, .int ln, .int pos2_56, .int lim, .int ml2_57])), (qb, .inl (cB, 4000, .inl f))]) [0, 1] (by decide) rfl
    have hFc := va_free (wc := [(h0, .inr (1, [.ref qb, .int ln, .int pos2_56, .int lim, .int ml2_57])), (qb, .inl (cB, 4000, .inl f))]) hD hS hA [0, 1] rfl
    refine x_ri (ws := [(h0, .inr (1, [.ref qb, .int ln, .int pos2_56, .int lim, .int ml2_57])), (qb, .inl (cB, 4000, .inl f))]) (wc := [(h0, .inr (1, [.ref qb, .int ln, .int pos2_56, .int lim, .int ml2_57])), (qb, .inl (cB, 4000, .inl f))]) (wr := []) (x_V (As := []) (C := "WasmReader$Cursor") E (c_Cursor_nextByteG l D cB cI cJ cZ H.size h0 qb ln pos2_56 lim ml2_57 f ) m_171 m_94 m_170 m_172 m_173 nm_Cursor_nextByte hPc hDc hZ hS hFc rfl rfl rfl hl.1 rfl (Nat.le_of_ble_eq_true rfl) d_Cursor_unsigned_11 rfl rfl (by decide) (by decide) (by decide) (by decide)) hP hD hS hA [0, 1] [] rfl rfl (by decide) (by decide) (fun r_65 u H locs hw hP hD hS => ?_)
    obtain ⟨pos2_63, ml2_64, rfl⟩ := hw
    have hP : va_P D classes [(h0, .inr (1, [.ref qb, .int ln, .int pos2_63, .int lim, .int ml2_64])), (qb, .inl (cB, 4000, .inl f))] H := hP
    have hD : va_D (va_A [(h0, .inr (1, [.ref qb, .int ln, .int pos, .int lim, .int ml])), (qb, .inl (cB, 4000, .inl f))] s.heap.size) [(h0, .inr (1, [.ref qb, .int ln, .int pos2_63, .int lim, .int ml2_64])), (qb, .inl (cB, 4000, .inl f))] := hD
    refine lv_istore (lv' := [(4, .int r_65), (3, .int 7), (1, .long v_61), (0, .ref h0)]) E.1 E.2.1 d_Cursor_unsigned_14 hl (by decide) rfl (fun ls hl => ?_)
    refine lv_lload_n E.1 E.2.1 d_Cursor_unsigned_16 rfl (lv_at hl 2 rfl) ?_
    refine lv_iload E.1 E.2.1 d_Cursor_unsigned_17 (lv_at hl 0 rfl) ?_
    refine lv_bipush (v := 127) E.1 E.2.1 d_Cursor_unsigned_19 (by decide) ?_
    refine lv_iand E.1 E.2.1 d_Cursor_unsigned_21 ?_
    refine lv_topi (fun v_66 ev_66 => ?_)
    refine lv_i2l (v := (v_66 : Int32).toInt64) E.1 E.2.1 d_Cursor_unsigned_22 rfl ?_
    refine lv_iload_n E.1 E.2.1 d_Cursor_unsigned_23 rfl (lv_at hl 1 rfl) ?_
    obtain ⟨v_67, ev_67⟩ : ∃ z : Int64, z = ((v_66 : Int32).toInt64) <<< ((7 : Int32).toInt64 &&& 63) := ⟨_, rfl⟩
    refine lv_lshl (v := v_67) E.1 E.2.1 d_Cursor_unsigned_24 ev_67.symm ?_
    refine lv_lor E.1 E.2.1 d_Cursor_unsigned_25 ?_
    refine lv_topl (fun v_68 ev_68 => ?_)
    refine lv_lstore_n (lv' := [(1, .long v_68), (4, .int r_65), (3, .int 7), (0, .ref h0)]) E.1 E.2.1 d_Cursor_unsigned_26 rfl hl (by decide) rfl (fun ls hl => ?_)
    refine lv_iload E.1 E.2.1 d_Cursor_unsigned_27 (lv_at hl 1 rfl) ?_
    refine lv_sipush (v := 128) E.1 E.2.1 d_Cursor_unsigned_29 (by decide) ?_
    refine lv_icmp_ge (tgt := 49) E.1 E.2.1 d_Cursor_unsigned_32 (by decide) (fun hc_69 => ?_) (fun hc_69 => ?_)
    ·
      refine lv_iinc (v := 14) (lv' := [(3, .int 14), (1, .long v_68), (4, .int r_65), (0, .ref h0)]) E.1 E.2.1 d_Cursor_unsigned_49 hl (k := 2) rfl (by decide) (by decide) rfl (fun ls hl => ?_)
      refine lv_goto (tgt := 4) E.1 E.2.1 d_Cursor_unsigned_52 (by decide) ?_
      refine lv_iload_n E.1 E.2.1 d_Cursor_unsigned_4 rfl (lv_at hl 0 rfl) ?_
      refine lv_bipush (v := 32) E.1 E.2.1 d_Cursor_unsigned_5 (by decide) ?_
      refine lv_icmp_ge (tgt := 55) E.1 E.2.1 d_Cursor_unsigned_7 (by decide) (fun hc => absurd hc (by decide)) (fun _ => ?_)
      refine lv_aload_n E.1 E.2.1 d_Cursor_unsigned_10 rfl (lv_at hl 3 rfl) ?_
      have hPc := hP.sub (ws' := [(h0, .inr (1, [.ref qb, .int ln, .int pos2_63, .int lim, .int ml2_64])), (qb, .inl (cB, 4000, .inl f))]) [0, 1] rfl
      have hDc := hD.sub (ws' := [(h0, .inr (1, [.ref qb, .int ln, .int pos2_63, .int lim, .int ml2_64])), (qb, .inl (cB, 4000, .inl f))]) [0, 1] (by decide) rfl
      have hFc := va_free (wc := [(h0, .inr (1, [.ref qb, .int ln, .int pos2_63, .int lim, .int ml2_64])), (qb, .inl (cB, 4000, .inl f))]) hD hS hA [0, 1] rfl
      refine x_ri (ws := [(h0, .inr (1, [.ref qb, .int ln, .int pos2_63, .int lim, .int ml2_64])), (qb, .inl (cB, 4000, .inl f))]) (wc := [(h0, .inr (1, [.ref qb, .int ln, .int pos2_63, .int lim, .int ml2_64])), (qb, .inl (cB, 4000, .inl f))]) (wr := []) (x_V (As := []) (C := "WasmReader$Cursor") E (c_Cursor_nextByteG l D cB cI cJ cZ H.size h0 qb ln pos2_63 lim ml2_64 f ) m_171 m_94 m_170 m_172 m_173 nm_Cursor_nextByte hPc hDc hZ hS hFc rfl rfl rfl hl.1 rfl (Nat.le_of_ble_eq_true rfl) d_Cursor_unsigned_11 rfl rfl (by decide) (by decide) (by decide) (by decide)) hP hD hS hA [0, 1] [] rfl rfl (by decide) (by decide) (fun r_72 u H locs hw hP hD hS => ?_)
      obtain ⟨pos2_70, ml2_71, rfl⟩ := hw
      have hP : va_P D classes [(h0, .inr (1, [.ref qb, .int ln, .int pos2_70, .int lim, .int ml2_71])), (qb, .inl (cB, 4000, .inl f))] H := hP
      have hD : va_D (va_A [(h0, .inr (1, [.ref qb, .int ln, .int pos, .int lim, .int ml])), (qb, .inl (cB, 4000, .inl f))] s.heap.size) [(h0, .inr (1, [.ref qb, .int ln, .int pos2_70, .int lim, .int ml2_71])), (qb, .inl (cB, 4000, .inl f))] := hD
      refine lv_istore (lv' := [(4, .int r_72), (3, .int 14), (1, .long v_68), (0, .ref h0)]) E.1 E.2.1 d_Cursor_unsigned_14 hl (by decide) rfl (fun ls hl => ?_)
      refine lv_lload_n E.1 E.2.1 d_Cursor_unsigned_16 rfl (lv_at hl 2 rfl) ?_
      refine lv_iload E.1 E.2.1 d_Cursor_unsigned_17 (lv_at hl 0 rfl) ?_
      refine lv_bipush (v := 127) E.1 E.2.1 d_Cursor_unsigned_19 (by decide) ?_
      refine lv_iand E.1 E.2.1 d_Cursor_unsigned_21 ?_
      refine lv_topi (fun v_73 ev_73 => ?_)
      refine lv_i2l (v := (v_73 : Int32).toInt64) E.1 E.2.1 d_Cursor_unsigned_22 rfl ?_
      refine lv_iload_n E.1 E.2.1 d_Cursor_unsigned_23 rfl (lv_at hl 1 rfl) ?_
      obtain ⟨v_74, ev_74⟩ : ∃ z : Int64, z = ((v_73 : Int32).toInt64) <<< ((14 : Int32).toInt64 &&& 63) := ⟨_, rfl⟩
      refine lv_lshl (v := v_74) E.1 E.2.1 d_Cursor_unsigned_24 ev_74.symm ?_
      refine lv_lor E.1 E.2.1 d_Cursor_unsigned_25 ?_
      refine lv_topl (fun v_75 ev_75 => ?_)
      refine lv_lstore_n (lv' := [(1, .long v_75), (4, .int r_72), (3, .int 14), (0, .ref h0)]) E.1 E.2.1 d_Cursor_unsigned_26 rfl hl (by decide) rfl (fun ls hl => ?_)
      refine lv_iload E.1 E.2.1 d_Cursor_unsigned_27 (lv_at hl 1 rfl) ?_
      refine lv_sipush (v := 128) E.1 E.2.1 d_Cursor_unsigned_29 (by decide) ?_
      refine lv_icmp_ge (tgt := 49) E.1 E.2.1 d_Cursor_unsigned_32 (by decide) (fun hc_76 => ?_) (fun hc_76 => ?_)
      ·
        refine lv_iinc (v := 21) (lv' := [(3, .int 21), (1, .long v_75), (4, .int r_72), (0, .ref h0)]) E.1 E.2.1 d_Cursor_unsigned_49 hl (k := 2) rfl (by decide) (by decide) rfl (fun ls hl => ?_)
        refine lv_goto (tgt := 4) E.1 E.2.1 d_Cursor_unsigned_52 (by decide) ?_
        refine lv_iload_n E.1 E.2.1 d_Cursor_unsigned_4 rfl (lv_at hl 0 rfl) ?_
        refine lv_bipush (v := 32) E.1 E.2.1 d_Cursor_unsigned_5 (by decide) ?_
        refine lv_icmp_ge (tgt := 55) E.1 E.2.1 d_Cursor_unsigned_7 (by decide) (fun hc => absurd hc (by decide)) (fun _ => ?_)
        refine lv_aload_n E.1 E.2.1 d_Cursor_unsigned_10 rfl (lv_at hl 3 rfl) ?_
        have hPc := hP.sub (ws' := [(h0, .inr (1, [.ref qb, .int ln, .int pos2_70, .int lim, .int ml2_71])), (qb, .inl (cB, 4000, .inl f))]) [0, 1] rfl
        have hDc := hD.sub (ws' := [(h0, .inr (1, [.ref qb, .int ln, .int pos2_70, .int lim, .int ml2_71])), (qb, .inl (cB, 4000, .inl f))]) [0, 1] (by decide) rfl
        have hFc := va_free (wc := [(h0, .inr (1, [.ref qb, .int ln, .int pos2_70, .int lim, .int ml2_71])), (qb, .inl (cB, 4000, .inl f))]) hD hS hA [0, 1] rfl
        refine x_ri (ws := [(h0, .inr (1, [.ref qb, .int ln, .int pos2_70, .int lim, .int ml2_71])), (qb, .inl (cB, 4000, .inl f))]) (wc := [(h0, .inr (1, [.ref qb, .int ln, .int pos2_70, .int lim, .int ml2_71])), (qb, .inl (cB, 4000, .inl f))]) (wr := []) (x_V (As := []) (C := "WasmReader$Cursor") E (c_Cursor_nextByteG l D cB cI cJ cZ H.size h0 qb ln pos2_70 lim ml2_71 f ) m_171 m_94 m_170 m_172 m_173 nm_Cursor_nextByte hPc hDc hZ hS hFc rfl rfl rfl hl.1 rfl (Nat.le_of_ble_eq_true rfl) d_Cursor_unsigned_11 rfl rfl (by decide) (by decide) (by decide) (by decide)) hP hD hS hA [0, 1] [] rfl rfl (by decide) (by decide) (fun r_79 u H locs hw hP hD hS => ?_)
        obtain ⟨pos2_77, ml2_78, rfl⟩ := hw
        have hP : va_P D classes [(h0, .inr (1, [.ref qb, .int ln, .int pos2_77, .int lim, .int ml2_78])), (qb, .inl (cB, 4000, .inl f))] H := hP
        have hD : va_D (va_A [(h0, .inr (1, [.ref qb, .int ln, .int pos, .int lim, .int ml])), (qb, .inl (cB, 4000, .inl f))] s.heap.size) [(h0, .inr (1, [.ref qb, .int ln, .int pos2_77, .int lim, .int ml2_78])), (qb, .inl (cB, 4000, .inl f))] := hD
        refine lv_istore (lv' := [(4, .int r_79), (3, .int 21), (1, .long v_75), (0, .ref h0)]) E.1 E.2.1 d_Cursor_unsigned_14 hl (by decide) rfl (fun ls hl => ?_)
        refine lv_lload_n E.1 E.2.1 d_Cursor_unsigned_16 rfl (lv_at hl 2 rfl) ?_
        refine lv_iload E.1 E.2.1 d_Cursor_unsigned_17 (lv_at hl 0 rfl) ?_
        refine lv_bipush (v := 127) E.1 E.2.1 d_Cursor_unsigned_19 (by decide) ?_
        refine lv_iand E.1 E.2.1 d_Cursor_unsigned_21 ?_
        refine lv_topi (fun v_80 ev_80 => ?_)
        refine lv_i2l (v := (v_80 : Int32).toInt64) E.1 E.2.1 d_Cursor_unsigned_22 rfl ?_
        refine lv_iload_n E.1 E.2.1 d_Cursor_unsigned_23 rfl (lv_at hl 1 rfl) ?_
        obtain ⟨v_81, ev_81⟩ : ∃ z : Int64, z = ((v_80 : Int32).toInt64) <<< ((21 : Int32).toInt64 &&& 63) := ⟨_, rfl⟩
        refine lv_lshl (v := v_81) E.1 E.2.1 d_Cursor_unsigned_24 ev_81.symm ?_
        refine lv_lor E.1 E.2.1 d_Cursor_unsigned_25 ?_
        refine lv_topl (fun v_82 ev_82 => ?_)
        refine lv_lstore_n (lv' := [(1, .long v_82), (4, .int r_79), (3, .int 21), (0, .ref h0)]) E.1 E.2.1 d_Cursor_unsigned_26 rfl hl (by decide) rfl (fun ls hl => ?_)
        refine lv_iload E.1 E.2.1 d_Cursor_unsigned_27 (lv_at hl 1 rfl) ?_
        refine lv_sipush (v := 128) E.1 E.2.1 d_Cursor_unsigned_29 (by decide) ?_
        refine lv_icmp_ge (tgt := 49) E.1 E.2.1 d_Cursor_unsigned_32 (by decide) (fun hc_83 => ?_) (fun hc_83 => ?_)
        ·
          refine lv_iinc (v := 28) (lv' := [(3, .int 28), (1, .long v_82), (4, .int r_79), (0, .ref h0)]) E.1 E.2.1 d_Cursor_unsigned_49 hl (k := 2) rfl (by decide) (by decide) rfl (fun ls hl => ?_)
          refine lv_goto (tgt := 4) E.1 E.2.1 d_Cursor_unsigned_52 (by decide) ?_
          refine lv_iload_n E.1 E.2.1 d_Cursor_unsigned_4 rfl (lv_at hl 0 rfl) ?_
          refine lv_bipush (v := 32) E.1 E.2.1 d_Cursor_unsigned_5 (by decide) ?_
          refine lv_icmp_ge (tgt := 55) E.1 E.2.1 d_Cursor_unsigned_7 (by decide) (fun hc => absurd hc (by decide)) (fun _ => ?_)
          refine lv_aload_n E.1 E.2.1 d_Cursor_unsigned_10 rfl (lv_at hl 3 rfl) ?_
          have hPc := hP.sub (ws' := [(h0, .inr (1, [.ref qb, .int ln, .int pos2_77, .int lim, .int ml2_78])), (qb, .inl (cB, 4000, .inl f))]) [0, 1] rfl
          have hDc := hD.sub (ws' := [(h0, .inr (1, [.ref qb, .int ln, .int pos2_77, .int lim, .int ml2_78])), (qb, .inl (cB, 4000, .inl f))]) [0, 1] (by decide) rfl
          have hFc := va_free (wc := [(h0, .inr (1, [.ref qb, .int ln, .int pos2_77, .int lim, .int ml2_78])), (qb, .inl (cB, 4000, .inl f))]) hD hS hA [0, 1] rfl
          refine x_ri (ws := [(h0, .inr (1, [.ref qb, .int ln, .int pos2_77, .int lim, .int ml2_78])), (qb, .inl (cB, 4000, .inl f))]) (wc := [(h0, .inr (1, [.ref qb, .int ln, .int pos2_77, .int lim, .int ml2_78])), (qb, .inl (cB, 4000, .inl f))]) (wr := []) (x_V (As := []) (C := "WasmReader$Cursor") E (c_Cursor_nextByteG l D cB cI cJ cZ H.size h0 qb ln pos2_77 lim ml2_78 f ) m_171 m_94 m_170 m_172 m_173 nm_Cursor_nextByte hPc hDc hZ hS hFc rfl rfl rfl hl.1 rfl (Nat.le_of_ble_eq_true rfl) d_Cursor_unsigned_11 rfl rfl (by decide) (by decide) (by decide) (by decide)) hP hD hS hA [0, 1] [] rfl rfl (by decide) (by decide) (fun r_86 u H locs hw hP hD hS => ?_)
          obtain ⟨pos2_84, ml2_85, rfl⟩ := hw
          have hP : va_P D classes [(h0, .inr (1, [.ref qb, .int ln, .int pos2_84, .int lim, .int ml2_85])), (qb, .inl (cB, 4000, .inl f))] H := hP
          have hD : va_D (va_A [(h0, .inr (1, [.ref qb, .int ln, .int pos, .int lim, .int ml])), (qb, .inl (cB, 4000, .inl f))] s.heap.size) [(h0, .inr (1, [.ref qb, .int ln, .int pos2_84, .int lim, .int ml2_85])), (qb, .inl (cB, 4000, .inl f))] := hD
          refine lv_istore (lv' := [(4, .int r_86), (3, .int 28), (1, .long v_82), (0, .ref h0)]) E.1 E.2.1 d_Cursor_unsigned_14 hl (by decide) rfl (fun ls hl => ?_)
          refine lv_lload_n E.1 E.2.1 d_Cursor_unsigned_16 rfl (lv_at hl 2 rfl) ?_
          refine lv_iload E.1 E.2.1 d_Cursor_unsigned_17 (lv_at hl 0 rfl) ?_
          refine lv_bipush (v := 127) E.1 E.2.1 d_Cursor_unsigned_19 (by decide) ?_
          refine lv_iand E.1 E.2.1 d_Cursor_unsigned_21 ?_
          refine lv_topi (fun v_87 ev_87 => ?_)
          refine lv_i2l (v := (v_87 : Int32).toInt64) E.1 E.2.1 d_Cursor_unsigned_22 rfl ?_
          refine lv_iload_n E.1 E.2.1 d_Cursor_unsigned_23 rfl (lv_at hl 1 rfl) ?_
          obtain ⟨v_88, ev_88⟩ : ∃ z : Int64, z = ((v_87 : Int32).toInt64) <<< ((28 : Int32).toInt64 &&& 63) := ⟨_, rfl⟩
          refine lv_lshl (v := v_88) E.1 E.2.1 d_Cursor_unsigned_24 ev_88.symm ?_
          refine lv_lor E.1 E.2.1 d_Cursor_unsigned_25 ?_
          refine lv_topl (fun v_89 ev_89 => ?_)
          refine lv_lstore_n (lv' := [(1, .long v_89), (4, .int r_86), (3, .int 28), (0, .ref h0)]) E.1 E.2.1 d_Cursor_unsigned_26 rfl hl (by decide) rfl (fun ls hl => ?_)
          refine lv_iload E.1 E.2.1 d_Cursor_unsigned_27 (lv_at hl 1 rfl) ?_
          refine lv_sipush (v := 128) E.1 E.2.1 d_Cursor_unsigned_29 (by decide) ?_
          refine lv_icmp_ge (tgt := 49) E.1 E.2.1 d_Cursor_unsigned_32 (by decide) (fun hc_90 => ?_) (fun hc_90 => ?_)
          ·
            refine lv_iinc (v := 35) (lv' := [(3, .int 35), (1, .long v_89), (4, .int r_86), (0, .ref h0)]) E.1 E.2.1 d_Cursor_unsigned_49 hl (k := 2) rfl (by decide) (by decide) rfl (fun ls hl => ?_)
            refine lv_goto (tgt := 4) E.1 E.2.1 d_Cursor_unsigned_52 (by decide) ?_
            refine lv_iload_n E.1 E.2.1 d_Cursor_unsigned_4 rfl (lv_at hl 0 rfl) ?_
            refine lv_bipush (v := 32) E.1 E.2.1 d_Cursor_unsigned_5 (by decide) ?_
            refine lv_icmp_ge (tgt := 55) E.1 E.2.1 d_Cursor_unsigned_7 (by decide) (fun _ => ?_) (fun hc => absurd (by decide) hc)
            refine lv_aload_n E.1 E.2.1 d_Cursor_unsigned_55 rfl (lv_at hl 3 rfl) ?_
            have hPc := hP.sub (ws' := [(h0, .inr (1, [.ref qb, .int ln, .int pos2_84, .int lim, .int ml2_85]))]) [0] rfl
            have hDc := hD.sub (ws' := [(h0, .inr (1, [.ref qb, .int ln, .int pos2_84, .int lim, .int ml2_85]))]) [0] (by decide) rfl
            have hFc := va_free (wc := [(h0, .inr (1, [.ref qb, .int ln, .int pos2_84, .int lim, .int ml2_85]))]) hD hS hA [0] rfl
            refine x_rv (ws := [(h0, .inr (1, [.ref qb, .int ln, .int pos2_84, .int lim, .int ml2_85])), (qb, .inl (cB, 4000, .inl f))]) (wc := [(h0, .inr (1, [.ref qb, .int ln, .int pos2_84, .int lim, .int ml2_85]))]) (wr := [(qb, .inl (cB, 4000, .inl f))]) (x_V (As := []) (C := "WasmReader$Cursor") E (c_Cursor_fail l D cB cI cJ cZ H.size h0 qb ln pos2_84 lim ml2_85 ) m_175 m_94 m_174 m_176 m_177 nm_Cursor_fail hPc hDc hZ hS hFc rfl rfl rfl hl.1 rfl (Nat.le_of_ble_eq_true rfl) d_Cursor_unsigned_56 rfl rfl (by decide) (by decide) (by decide) (by decide)) hP hD hS hA [0] [1] rfl rfl (by decide) (by decide) (fun u H locs hw hP hD hS => ?_)
            obtain rfl := hw
            have hP : va_P D classes [(qb, .inl (cB, 4000, .inl f)), (h0, .inr (1, [.ref qb, .int ln, .int pos2_84, .int lim, .int 1]))] H := hP
            have hD : va_D (va_A [(h0, .inr (1, [.ref qb, .int ln, .int pos, .int lim, .int ml])), (qb, .inl (cB, 4000, .inl f))] s.heap.size) [(qb, .inl (cB, 4000, .inl f)), (h0, .inr (1, [.ref qb, .int ln, .int pos2_84, .int lim, .int 1]))] := hD
            refine lv_lconst (v := 0) E.1 E.2.1 d_Cursor_unsigned_59 (by decide) ?_
            refine W.widen (k := 0) (n := 0) (by decide) (by decide) ?_
            exact x_lret (ws := [(h0, .inr (1, [.ref qb, .int ln, .int pos2_84, .int lim, .int 1])), (qb, .inl (cB, 4000, .inl f))]) E hr hlocks (hP.sub [1, 0] rfl) (hD.sub [1, 0] (by decide) rfl) hS ⟨pos2_84, 1, rfl⟩ d_Cursor_unsigned_60
          ·
            refine lv_lload_n E.1 E.2.1 d_Cursor_unsigned_35 rfl (lv_at hl 0 rfl) ?_
            refine lv_ldc2 (v := 4294967295) E.1 E.2.1 E.2.2.2.2.1 (E.2.2.2.1 _ m_231) d_Cursor_unsigned_36 ?_
            refine W.lcmp E.1 E.2.1 d_Cursor_unsigned_39 ?_
            refine lv_if_le (tgt := 47) E.1 E.2.1 d_Cursor_unsigned_40 (by decide) (fun hc_91 => ?_) (fun hc_91 => ?_)
            ·
              refine lv_lload_n E.1 E.2.1 d_Cursor_unsigned_47 rfl (lv_at hl 0 rfl) ?_
              refine W.widen (k := 0) (n := 0) (by decide) (by decide) ?_
              exact x_lret (ws := [(h0, .inr (1, [.ref qb, .int ln, .int pos2_84, .int lim, .int ml2_85])), (qb, .inl (cB, 4000, .inl f))]) E hr hlocks (hP.sub [0, 1] rfl) (hD.sub [0, 1] (by decide) rfl) hS ⟨pos2_84, ml2_85, rfl⟩ d_Cursor_unsigned_48
            ·
              refine lv_aload_n E.1 E.2.1 d_Cursor_unsigned_43 rfl (lv_at hl 3 rfl) ?_
              have hPc := hP.sub (ws' := [(h0, .inr (1, [.ref qb, .int ln, .int pos2_84, .int lim, .int ml2_85]))]) [0] rfl
              have hDc := hD.sub (ws' := [(h0, .inr (1, [.ref qb, .int ln, .int pos2_84, .int lim, .int ml2_85]))]) [0] (by decide) rfl
              have hFc := va_free (wc := [(h0, .inr (1, [.ref qb, .int ln, .int pos2_84, .int lim, .int ml2_85]))]) hD hS hA [0] rfl
              refine x_rv (ws := [(h0, .inr (1, [.ref qb, .int ln, .int pos2_84, .int lim, .int ml2_85])), (qb, .inl (cB, 4000, .inl f))]) (wc := [(h0, .inr (1, [.ref qb, .int ln, .int pos2_84, .int lim, .int ml2_85]))]) (wr := [(qb, .inl (cB, 4000, .inl f))]) (x_V (As := []) (C := "WasmReader$Cursor") E (c_Cursor_fail l D cB cI cJ cZ H.size h0 qb ln pos2_84 lim ml2_85 ) m_175 m_94 m_174 m_176 m_177 nm_Cursor_fail hPc hDc hZ hS hFc rfl rfl rfl hl.1 rfl (Nat.le_of_ble_eq_true rfl) d_Cursor_unsigned_44 rfl rfl (by decide) (by decide) (by decide) (by decide)) hP hD hS hA [0] [1] rfl rfl (by decide) (by decide) (fun u H locs hw hP hD hS => ?_)
              obtain rfl := hw
              have hP : va_P D classes [(qb, .inl (cB, 4000, .inl f)), (h0, .inr (1, [.ref qb, .int ln, .int pos2_84, .int lim, .int 1]))] H := hP
              have hD : va_D (va_A [(h0, .inr (1, [.ref qb, .int ln, .int pos, .int lim, .int ml])), (qb, .inl (cB, 4000, .inl f))] s.heap.size) [(qb, .inl (cB, 4000, .inl f)), (h0, .inr (1, [.ref qb, .int ln, .int pos2_84, .int lim, .int 1]))] := hD
              refine lv_lload_n E.1 E.2.1 d_Cursor_unsigned_47 rfl (lv_at hl 0 rfl) ?_
              refine W.widen (k := 0) (n := 0) (by decide) (by decide) ?_
              exact x_lret (ws := [(h0, .inr (1, [.ref qb, .int ln, .int pos2_84, .int lim, .int 1])), (qb, .inl (cB, 4000, .inl f))]) E hr hlocks (hP.sub [1, 0] rfl) (hD.sub [1, 0] (by decide) rfl) hS ⟨pos2_84, 1, rfl⟩ d_Cursor_unsigned_48
        ·
          refine lv_lload_n E.1 E.2.1 d_Cursor_unsigned_35 rfl (lv_at hl 0 rfl) ?_
          refine lv_ldc2 (v := 4294967295) E.1 E.2.1 E.2.2.2.2.1 (E.2.2.2.1 _ m_231) d_Cursor_unsigned_36 ?_
          refine W.lcmp E.1 E.2.1 d_Cursor_unsigned_39 ?_
          refine lv_if_le (tgt := 47) E.1 E.2.1 d_Cursor_unsigned_40 (by decide) (fun hc_92 => ?_) (fun hc_92 => ?_)
          ·
            refine lv_lload_n E.1 E.2.1 d_Cursor_unsigned_47 rfl (lv_at hl 0 rfl) ?_
            refine W.widen (k := 0) (n := 0) (by decide) (by decide) ?_
            exact x_lret (ws := [(h0, .inr (1, [.ref qb, .int ln, .int pos2_77, .int lim, .int ml2_78])), (qb, .inl (cB, 4000, .inl f))]) E hr hlocks (hP.sub [0, 1] rfl) (hD.sub [0, 1] (by decide) rfl) hS ⟨pos2_77, ml2_78, rfl⟩ d_Cursor_unsigned_48
          ·
            refine lv_aload_n E.1 E.2.1 d_Cursor_unsigned_43 rfl (lv_at hl 3 rfl) ?_
            have hPc := hP.sub (ws' := [(h0, .inr (1, [.ref qb, .int ln, .int pos2_77, .int lim, .int ml2_78]))]) [0] rfl
            have hDc := hD.sub (ws' := [(h0, .inr (1, [.ref qb, .int ln, .int pos2_77, .int lim, .int ml2_78]))]) [0] (by decide) rfl
            have hFc := va_free (wc := [(h0, .inr (1, [.ref qb, .int ln, .int pos2_77, .int lim, .int ml2_78]))]) hD hS hA [0] rfl
            refine x_rv (ws := [(h0, .inr (1, [.ref qb, .int ln, .int pos2_77, .int lim, .int ml2_78])), (qb, .inl (cB, 4000, .inl f))]) (wc := [(h0, .inr (1, [.ref qb, .int ln, .int pos2_77, .int lim, .int ml2_78]))]) (wr := [(qb, .inl (cB, 4000, .inl f))]) (x_V (As := []) (C := "WasmReader$Cursor") E (c_Cursor_fail l D cB cI cJ cZ H.size h0 qb ln pos2_77 lim ml2_78 ) m_175 m_94 m_174 m_176 m_177 nm_Cursor_fail hPc hDc hZ hS hFc rfl rfl rfl hl.1 rfl (Nat.le_of_ble_eq_true rfl) d_Cursor_unsigned_44 rfl rfl (by decide) (by decide) (by decide) (by decide)) hP hD hS hA [0] [1] rfl rfl (by decide) (by decide) (fun u H locs hw hP hD hS => ?_)
            obtain rfl := hw
            have hP : va_P D classes [(qb, .inl (cB, 4000, .inl f)), (h0, .inr (1, [.ref qb, .int ln, .int pos2_77, .int lim, .int 1]))] H := hP
            have hD : va_D (va_A [(h0, .inr (1, [.ref qb, .int ln, .int pos, .int lim, .int ml])), (qb, .inl (cB, 4000, .inl f))] s.heap.size) [(qb, .inl (cB, 4000, .inl f)), (h0, .inr (1, [.ref qb, .int ln, .int pos2_77, .int lim, .int 1]))] := hD
            refine lv_lload_n E.1 E.2.1 d_Cursor_unsigned_47 rfl (lv_at hl 0 rfl) ?_
            refine W.widen (k := 0) (n := 0) (by decide) (by decide) ?_
            exact x_lret (ws := [(h0, .inr (1, [.ref qb, .int ln, .int pos2_77, .int lim, .int 1])), (qb, .inl (cB, 4000, .inl f))]) E hr hlocks (hP.sub [1, 0] rfl) (hD.sub [1, 0] (by decide) rfl) hS ⟨pos2_77, 1, rfl⟩ d_Cursor_unsigned_48
      ·
        refine lv_lload_n E.1 E.2.1 d_Cursor_unsigned_35 rfl (lv_at hl 0 rfl) ?_
        refine lv_ldc2 (v := 4294967295) E.1 E.2.1 E.2.2.2.2.1 (E.2.2.2.1 _ m_231) d_Cursor_unsigned_36 ?_
        refine W.lcmp E.1 E.2.1 d_Cursor_unsigned_39 ?_
        refine lv_if_le (tgt := 47) E.1 E.2.1 d_Cursor_unsigned_40 (by decide) (fun hc_93 => ?_) (fun hc_93 => ?_)
        ·
          refine lv_lload_n E.1 E.2.1 d_Cursor_unsigned_47 rfl (lv_at hl 0 rfl) ?_
          refine W.widen (k := 0) (n := 0) (by decide) (by decide) ?_
          exact x_lret (ws := [(h0, .inr (1, [.ref qb, .int ln, .int pos2_70, .int lim, .int ml2_71])), (qb, .inl (cB, 4000, .inl f))]) E hr hlocks (hP.sub [0, 1] rfl) (hD.sub [0, 1] (by decide) rfl) hS ⟨pos2_70, ml2_71, rfl⟩ d_Cursor_unsigned_48
        ·
          refine lv_aload_n E.1 E.2.1 d_Cursor_unsigned_43 rfl (lv_at hl 3 rfl) ?_
          have hPc := hP.sub (ws' := [(h0, .inr (1, [.ref qb, .int ln, .int pos2_70, .int lim, .int ml2_71]))]) [0] rfl
          have hDc := hD.sub (ws' := [(h0, .inr (1, [.ref qb, .int ln, .int pos2_70, .int lim, .int ml2_71]))]) [0] (by decide) rfl
          have hFc := va_free (wc := [(h0, .inr (1, [.ref qb, .int ln, .int pos2_70, .int lim, .int ml2_71]))]) hD hS hA [0] rfl
          refine x_rv (ws := [(h0, .inr (1, [.ref qb, .int ln, .int pos2_70, .int lim, .int ml2_71])), (qb, .inl (cB, 4000, .inl f))]) (wc := [(h0, .inr (1, [.ref qb, .int ln, .int pos2_70, .int lim, .int ml2_71]))]) (wr := [(qb, .inl (cB, 4000, .inl f))]) (x_V (As := []) (C := "WasmReader$Cursor") E (c_Cursor_fail l D cB cI cJ cZ H.size h0 qb ln pos2_70 lim ml2_71 ) m_175 m_94 m_174 m_176 m_177 nm_Cursor_fail hPc hDc hZ hS hFc rfl rfl rfl hl.1 rfl (Nat.le_of_ble_eq_true rfl) d_Cursor_unsigned_44 rfl rfl (by decide) (by decide) (by decide) (by decide)) hP hD hS hA [0] [1] rfl rfl (by decide) (by decide) (fun u H locs hw hP hD hS => ?_)
          obtain rfl := hw
          have hP : va_P D classes [(qb, .inl (cB, 4000, .inl f)), (h0, .inr (1, [.ref qb, .int ln, .int pos2_70, .int lim, .int 1]))] H := hP
          have hD : va_D (va_A [(h0, .inr (1, [.ref qb, .int ln, .int pos, .int lim, .int ml])), (qb, .inl (cB, 4000, .inl f))] s.heap.size) [(qb, .inl (cB, 4000, .inl f)), (h0, .inr (1, [.ref qb, .int ln, .int pos2_70, .int lim, .int 1]))] := hD
          refine lv_lload_n E.1 E.2.1 d_Cursor_unsigned_47 rfl (lv_at hl 0 rfl) ?_
          refine W.widen (k := 0) (n := 0) (by decide) (by decide) ?_
          exact x_lret (ws := [(h0, .inr (1, [.ref qb, .int ln, .int pos2_70, .int lim, .int 1])), (qb, .inl (cB, 4000, .inl f))]) E hr hlocks (hP.sub [1, 0] rfl) (hD.sub [1, 0] (by decide) rfl) hS ⟨pos2_70, 1, rfl⟩ d_Cursor_unsigned_48
    ·
      refine lv_lload_n E.1 E.2.1 d_Cursor_unsigned_35 rfl (lv_at hl 0 rfl) ?_
      refine lv_ldc2 (v := 4294967295) E.1 E.2.1 E.2.2.2.2.1 (E.2.2.2.1 _ m_231) d_Cursor_unsigned_36 ?_
      refine W.lcmp E.1 E.2.1 d_Cursor_unsigned_39 ?_
      refine lv_if_le (tgt := 47) E.1 E.2.1 d_Cursor_unsigned_40 (by decide) (fun hc_94 => ?_) (fun hc_94 => ?_)
      ·
        refine lv_lload_n E.1 E.2.1 d_Cursor_unsigned_47 rfl (lv_at hl 0 rfl) ?_
        refine W.widen (k := 0) (n := 0) (by decide) (by decide) ?_
        exact x_lret (ws := [(h0, .inr (1, [.ref qb, .int ln, .int pos2_63, .int lim, .int ml2_64])), (qb, .inl (cB, 4000, .inl f))]) E hr hlocks (hP.sub [0, 1] rfl) (hD.sub [0, 1] (by decide) rfl) hS ⟨pos2_63, ml2_64, rfl⟩ d_Cursor_unsigned_48
      ·
        refine lv_aload_n E.1 E.2.1 d_Cursor_unsigned_43 rfl (lv_at hl 3 rfl) ?_
        have hPc := hP.sub (ws' := [(h0, .inr (1, [.ref qb, .int ln, .int pos2_63, .int lim, .int ml2_64]))]) [0] rfl
        have hDc := hD.sub (ws' := [(h0, .inr (1, [.ref qb, .int ln, .int pos2_63, .int lim, .int ml2_64]))]) [0] (by decide) rfl
        have hFc := va_free (wc := [(h0, .inr (1, [.ref qb, .int ln, .int pos2_63, .int lim, .int ml2_64]))]) hD hS hA [0] rfl
        refine x_rv (ws := [(h0, .inr (1, [.ref qb, .int ln, .int pos2_63, .int lim, .int ml2_64])), (qb, .inl (cB, 4000, .inl f))]) (wc := [(h0, .inr (1, [.ref qb, .int ln, .int pos2_63, .int lim, .int ml2_64]))]) (wr := [(qb, .inl (cB, 4000, .inl f))]) (x_V (As := []) (C := "WasmReader$Cursor") E (c_Cursor_fail l D cB cI cJ cZ H.size h0 qb ln pos2_63 lim ml2_64 ) m_175 m_94 m_174 m_176 m_177 nm_Cursor_fail hPc hDc hZ hS hFc rfl rfl rfl hl.1 rfl (Nat.le_of_ble_eq_true rfl) d_Cursor_unsigned_44 rfl rfl (by decide) (by decide) (by decide) (by decide)) hP hD hS hA [0] [1] rfl rfl (by decide) (by decide) (fun u H locs hw hP hD hS => ?_)
        obtain rfl := hw
        have hP : va_P D classes [(qb, .inl (cB, 4000, .inl f)), (h0, .inr (1, [.ref qb, .int ln, .int pos2_63, .int lim, .int 1]))] H := hP
        have hD : va_D (va_A [(h0, .inr (1, [.ref qb, .int ln, .int pos, .int lim, .int ml])), (qb, .inl (cB, 4000, .inl f))] s.heap.size) [(qb, .inl (cB, 4000, .inl f)), (h0, .inr (1, [.ref qb, .int ln, .int pos2_63, .int lim, .int 1]))] := hD
        refine lv_lload_n E.1 E.2.1 d_Cursor_unsigned_47 rfl (lv_at hl 0 rfl) ?_
        refine W.widen (k := 0) (n := 0) (by decide) (by decide) ?_
        exact x_lret (ws := [(h0, .inr (1, [.ref qb, .int ln, .int pos2_63, .int lim, .int 1])), (qb, .inl (cB, 4000, .inl f))]) E hr hlocks (hP.sub [1, 0] rfl) (hD.sub [1, 0] (by decide) rfl) hS ⟨pos2_63, 1, rfl⟩ d_Cursor_unsigned_48
  ·
    refine lv_lload_n E.1 E.2.1 d_Cursor_unsigned_35 rfl (lv_at hl 0 rfl) ?_
    refine lv_ldc2 (v := 4294967295) E.1 E.2.1 E.2.2.2.2.1 (E.2.2.2.1 _ m_231) d_Cursor_unsigned_36 ?_
    refine W.lcmp E.1 E.2.1 d_Cursor_unsigned_39 ?_
    refine lv_if_le (tgt := 47) E.1 E.2.1 d_Cursor_unsigned_40 (by decide) (fun hc_95 => ?_) (fun hc_95 => ?_)
    ·
      refine lv_lload_n E.1 E.2.1 d_Cursor_unsigned_47 rfl (lv_at hl 0 rfl) ?_
      refine W.widen (k := 0) (n := 0) (by decide) (by decide) ?_
      exact x_lret (ws := [(h0, .inr (1, [.ref qb, .int ln, .int pos2_56, .int lim, .int ml2_57])), (qb, .inl (cB, 4000, .inl f))]) E hr hlocks (hP.sub [0, 1] rfl) (hD.sub [0, 1] (by decide) rfl) hS ⟨pos2_56, ml2_57, rfl⟩ d_Cursor_unsigned_48
    ·
      refine lv_aload_n E.1 E.2.1 d_Cursor_unsigned_43 rfl (lv_at hl 3 rfl) ?_
      have hPc := hP.sub (ws' := [(h0, .inr (1, [.ref qb, .int ln, .int pos2_56, .int lim, .int ml2_57]))]) [0] rfl
      have hDc := hD.sub (ws' := [(h0, .inr (1, [.ref qb, .int ln, .int pos2_56, .int lim, .int ml2_57]))]) [0] (by decide) rfl
      have hFc := va_free (wc := [(h0, .inr (1, [.ref qb, .int ln, .int pos2_56, .int lim, .int ml2_57]))]) hD hS hA [0] rfl
      refine x_rv (ws := [(h0, .inr (1, [.ref qb, .int ln, .int pos2_56, .int lim, .int ml2_57])), (qb, .inl (cB, 4000, .inl f))]) (wc := [(h0, .inr (1, [.ref qb, .int ln, .int pos2_56, .int lim, .int ml2_57]))]) (wr := [(qb, .inl (cB, 4000, .inl f))]) (x_V (As := []) (C := "WasmReader$Cursor") E (c_Cursor_fail l D cB cI cJ cZ H.size h0 qb ln pos2_56 lim ml2_57 ) m_175 m_94 m_174 m_176 m_177 nm_Cursor_fail hPc hDc hZ hS hFc rfl rfl rfl hl.1 rfl (Nat.le_of_ble_eq_true rfl) d_Cursor_unsigned_44 rfl rfl (by decide) (by decide) (by decide) (by decide)) hP hD hS hA [0] [1] rfl rfl (by decide) (by decide) (fun u H locs hw hP hD hS => ?_)
      obtain rfl := hw
      have hP : va_P D classes [(qb, .inl (cB, 4000, .inl f)), (h0, .inr (1, [.ref qb, .int ln, .int pos2_56, .int lim, .int 1]))] H := hP
      have hD : va_D (va_A [(h0, .inr (1, [.ref qb, .int ln, .int pos, .int lim, .int ml])), (qb, .inl (cB, 4000, .inl f))] s.heap.size) [(qb, .inl (cB, 4000, .inl f)), (h0, .inr (1, [.ref qb, .int ln, .int pos2_56, .int lim, .int 1]))] := hD
      refine lv_lload_n E.1 E.2.1 d_Cursor_unsigned_47 rfl (lv_at hl 0 rfl) ?_
      refine W.widen (k := 0) (n := 0) (by decide) (by decide) ?_
      exact x_lret (ws := [(h0, .inr (1, [.ref qb, .int ln, .int pos2_56, .int lim, .int 1])), (qb, .inl (cB, 4000, .inl f))]) E hr hlocks (hP.sub [1, 0] rfl) (hD.sub [1, 0] (by decide) rfl) hS ⟨pos2_56, 1, rfl⟩ d_Cursor_unsigned_48
set_option maxHeartbeats 4000000 in
set_option maxRecDepth 100000 in
theorem c_Cursor_indexG (l : Launch) (D : va_G) (cB cI cJ cZ : ClassId) (sz : Nat) (h0 : Nat) (qb : Nat) (ln : Int32) (pos : Int32) (lim : Int32) (ml : Int32) (f : Nat → Int32)  : Met l y_Cursor_index (Cond.code y_Cursor_index prog_2_method_9_code 1 (some .int) :: xtb) ({ frames := 2, cells := 0, slots := 0, locals := 60 }) (xP D [(cB, .byte), (cI, .int), (cJ, .long), (cZ, .boolean)] [.ref h0] [(h0, .inr (1, [.ref qb, .int ln, .int pos, .int lim, .int ml])), (qb, .inl (cB, 4000, .inl f))] sz) (xQi D [(cB, .byte), (cI, .int), (cJ, .long), (cZ, .boolean)] [(h0, .inr (1, [.ref qb, .int ln, .int pos, .int lim, .int ml])), (qb, .inl (cB, 4000, .inl f))] sz (fun r u => ∃ (pos2 : Int32), ∃ (ml2 : Int32), u = [(h0, .inr (1, [.ref qb, .int ln, .int pos2, .int lim, .int ml2])), (qb, .inl (cB, 4000, .inl f))])) 0 0 (va_A [(h0, .inr (1, [.ref qb, .int ln, .int pos, .int lim, .int ml])), (qb, .inl (cB, 4000, .inl f))] sz) := by
  refine x_met (Qc := fun s => xQi D [(cB, .byte), (cI, .int), (cJ, .long), (cZ, .boolean)] [(h0, .inr (1, [.ref qb, .int ln, .int pos, .int lim, .int ml])), (qb, .inl (cB, 4000, .inl f))] s.heap.size (fun r u => ∃ (pos2 : Int32), ∃ (ml2 : Int32), u = [(h0, .inr (1, [.ref qb, .int ln, .int pos2, .int lim, .int ml2])), (qb, .inl (cB, 4000, .inl f))])) (fr := fun s => va_A [(h0, .inr (1, [.ref qb, .int ln, .int pos, .int lim, .int ml])), (qb, .inl (cB, 4000, .inl f))] s.heap.size) "WasmReader$Cursor" (by decide +kernel) rfl (Nat.le_of_ble_eq_true rfl) (fun s h => by rw [h]) (fun s h => by rw [h]) ?_
  intro p e s m below meth c ls E hr hlocks hinit hl hP hD hA hS hZ hadm
  have hl : lv_has ls 1 [(0, .ref h0)] := hl
  refine lv_aload_n E.1 E.2.1 d_Cursor_index_0 rfl (lv_at hl 0 rfl) ?_
  have hPc := hP.sub (ws' := [(h0, .inr (1, [.ref qb, .int ln, .int pos, .int lim, .int ml])), (qb, .inl (cB, 4000, .inl f))]) [0, 1] rfl
  have hDc := hD.sub (ws' := [(h0, .inr (1, [.ref qb, .int ln, .int pos, .int lim, .int ml])), (qb, .inl (cB, 4000, .inl f))]) [0, 1] (by decide) rfl
  have hFc := va_free (wc := [(h0, .inr (1, [.ref qb, .int ln, .int pos, .int lim, .int ml])), (qb, .inl (cB, 4000, .inl f))]) hD hS hA [0, 1] rfl
  refine x_rl (ws := [(h0, .inr (1, [.ref qb, .int ln, .int pos, .int lim, .int ml])), (qb, .inl (cB, 4000, .inl f))]) (wc := [(h0, .inr (1, [.ref qb, .int ln, .int pos, .int lim, .int ml])), (qb, .inl (cB, 4000, .inl f))]) (wr := []) (x_V (As := []) (C := "WasmReader$Cursor") E (c_Cursor_unsignedG l D cB cI cJ cZ s.heap.size h0 qb ln pos lim ml f ) m_233 m_94 m_232 m_234 m_235 nm_Cursor_unsigned hPc hDc hZ hS hFc rfl rfl rfl hl.1 rfl (Nat.le_of_ble_eq_true rfl) d_Cursor_index_1 rfl rfl (by decide) (by decide) (by decide) (by decide)) hP hD hS hA [0, 1] [] rfl rfl (by decide) (by decide) (fun r_12 u H locs hw hP hD hS => ?_)
  obtain ⟨pos2_10, ml2_11, rfl⟩ := hw
  have hP : va_P D classes [(h0, .inr (1, [.ref qb, .int ln, .int pos2_10, .int lim, .int ml2_11])), (qb, .inl (cB, 4000, .inl f))] H := hP
  have hD : va_D (va_A [(h0, .inr (1, [.ref qb, .int ln, .int pos, .int lim, .int ml])), (qb, .inl (cB, 4000, .inl f))] s.heap.size) [(h0, .inr (1, [.ref qb, .int ln, .int pos2_10, .int lim, .int ml2_11])), (qb, .inl (cB, 4000, .inl f))] := hD
  refine lv_ldc2 (v := 2147483647) E.1 E.2.1 E.2.2.2.2.1 (E.2.2.2.1 _ m_236) d_Cursor_index_4 ?_
  refine va_mmin_long E.1 E.2.1 (by rw [E.2.2.1]; exact hl.1.symm) E.2.2.2.2.1 (E.2.2.2.1 _ m_238) (E.2.2.2.1 _ m_239) (E.2.2.2.1 _ m_240) (E.2.2.2.1 _ m_237) (Nat.le_of_ble_eq_true rfl) (Nat.le_of_ble_eq_true rfl) (Nat.le_of_ble_eq_true rfl) (Nat.le_of_ble_eq_true rfl) d_Cursor_index_7 ?_
  refine lv_topl (fun v_13 ev_13 => ?_)
  refine lv_l2i (v := (v_13 : Int64).toInt32) E.1 E.2.1 d_Cursor_index_10 rfl ?_
  refine lv_topi (fun v_14 ev_14 => ?_)
  refine W.widen (k := 0) (n := 0) (by decide) (by decide) ?_
  exact x_iret (ws := [(h0, .inr (1, [.ref qb, .int ln, .int pos2_10, .int lim, .int ml2_11])), (qb, .inl (cB, 4000, .inl f))]) E hr hlocks (hP.sub [0, 1] rfl) (hD.sub [0, 1] (by decide) rfl) hS ⟨pos2_10, ml2_11, rfl⟩ d_Cursor_index_11
set_option maxHeartbeats 4000000 in
set_option maxRecDepth 100000 in
theorem c_Cursor_signed32G (l : Launch) (D : va_G) (cB cI cJ cZ : ClassId) (sz : Nat) (h0 : Nat) (qb : Nat) (ln : Int32) (pos : Int32) (lim : Int32) (ml : Int32) (f : Nat → Int32)  : Met l y_Cursor_signed (Cond.code y_Cursor_signed prog_2_method_10_code 6 (some .long) :: xtb) ({ frames := 2, cells := 0, slots := 0, locals := 47 }) (xP D [(cB, .byte), (cI, .int), (cJ, .long), (cZ, .boolean)] [.ref h0, .int 32] [(h0, .inr (1, [.ref qb, .int ln, .int pos, .int lim, .int ml])), (qb, .inl (cB, 4000, .inl f))] sz) (xQl D [(cB, .byte), (cI, .int), (cJ, .long), (cZ, .boolean)] [(h0, .inr (1, [.ref qb, .int ln, .int pos, .int lim, .int ml])), (qb, .inl (cB, 4000, .inl f))] sz (fun r u => ∃ (pos2 : Int32), ∃ (ml2 : Int32), u = [(h0, .inr (1, [.ref qb, .int ln, .int pos2, .int lim, .int ml2])), (qb, .inl (cB, 4000, .inl f))])) 0 0 (va_A [(h0, .inr (1, [.ref qb, .int ln, .int pos, .int lim, .int ml])), (qb, .inl (cB, 4000, .inl f))] sz) := by
  refine x_met (Qc := fun s => xQl D [(cB, .byte), (cI, .int), (cJ, .long), (cZ, .boolean)] [(h0, .inr (1, [.ref qb, .int ln, .int pos, .int lim, .int ml])), (qb, .inl (cB, 4000, .inl f))] s.heap.size (fun r u => ∃ (pos2 : Int32), ∃ (ml2 : Int32), u = [(h0, .inr (1, [.ref qb, .int ln, .int pos2, .int lim, .int ml2])), (qb, .inl (cB, 4000, .inl f))])) (fr := fun s => va_A [(h0, .inr (1, [.ref qb, .int ln, .int pos, .int lim, .int ml])), (qb, .inl (cB, 4000, .inl f))] s.heap.size) "WasmReader$Cursor" (by decide +kernel) rfl (Nat.le_of_ble_eq_true rfl) (fun s h => by rw [h]) (fun s h => by rw [h]) ?_
  intro p e s m below meth c ls E hr hlocks hinit hl hP hD hA hS hZ hadm
  have hl : lv_has ls 6 [(0, .ref h0), (1, .int 32)] := hl
  refine lv_lconst (v := 0) E.1 E.2.1 d_Cursor_signed_0 (by decide) ?_
  refine lv_lstore_n (lv' := [(2, .long 0), (0, .ref h0), (1, .int 32)]) E.1 E.2.1 d_Cursor_signed_1 rfl hl (by decide) rfl (fun ls hl => ?_)
  refine lv_iconst (v := 0) E.1 E.2.1 d_Cursor_signed_2 (by decide) ?_
  refine lv_istore (lv' := [(4, .int 0), (2, .long 0), (0, .ref h0), (1, .int 32)]) E.1 E.2.1 d_Cursor_signed_3 hl (by decide) rfl (fun ls hl => ?_)
  refine lv_iload E.1 E.2.1 d_Cursor_signed_5 (lv_at hl 0 rfl) ?_
  refine lv_iload_n E.1 E.2.1 d_Cursor_signed_7 rfl (lv_at hl 3 rfl) ?_
  refine lv_icmp_ge (tgt := 57) E.1 E.2.1 d_Cursor_signed_8 (by decide) (fun hc => absurd hc (by decide)) (fun _ => ?_)
  refine lv_aload_n E.1 E.2.1 d_Cursor_signed_11 rfl (lv_at hl 2 rfl) ?_
  have hPc := hP.sub (ws' := [(h0, .inr (1, [.ref qb, .int ln, .int pos, .int lim, .int ml])), (qb, .inl (cB, 4000, .inl f))]) [0, 1] rfl
  have hDc := hD.sub (ws' := [(h0, .inr (1, [.ref qb, .int ln, .int pos, .int lim, .int ml])), (qb, .inl (cB, 4000, .inl f))]) [0, 1] (by decide) rfl
  have hFc := va_free (wc := [(h0, .inr (1, [.ref qb, .int ln, .int pos, .int lim, .int ml])), (qb, .inl (cB, 4000, .inl f))]) hD hS hA [0, 1] rfl
  refine x_ri (ws := [(h0, .inr (1, [.ref qb, .int ln, .int pos, .int lim, .int ml])), (qb, .inl (cB, 4000, .inl f))]) (wc := [(h0, .inr (1, [.ref qb, .int ln, .int pos, .int lim, .int ml])), (qb, .inl (cB, 4000, .inl f))]) (wr := []) (x_V (As := []) (C := "WasmReader$Cursor") E (c_Cursor_nextByteG l D cB cI cJ cZ s.heap.size h0 qb ln pos lim ml f ) m_171 m_94 m_170 m_172 m_173 nm_Cursor_nextByte hPc hDc hZ hS hFc rfl rfl rfl hl.1 rfl (Nat.le_of_ble_eq_true rfl) d_Cursor_signed_12 rfl rfl (by decide) (by decide) (by decide) (by decide)) hP hD hS hA [0, 1] [] rfl rfl (by decide) (by decide) (fun r_198 u H locs hw hP hD hS => ?_)
  obtain ⟨pos2_196, ml2_197, rfl⟩ := hw
  have hP : va_P D classes [(h0, .inr (1, [.ref qb, .int ln, .int pos2_196, .int lim, .int ml2_197])), (qb, .inl (cB, 4000, .inl f))] H := hP
  have hD : va_D (va_A [(h0, .inr (1, [.ref qb, .int ln, .int pos, .int lim, .int ml])), (qb, .inl (cB, 4000, .inl f))] s.heap.size) [(h0, .inr (1, [.ref qb, .int ln, .int pos2_196, .int lim, .int ml2_197])), (qb, .inl (cB, 4000, .inl f))] := hD
  refine lv_istore (lv' := [(5, .int r_198), (4, .int 0), (2, .long 0), (0, .ref h0), (1, .int 32)]) E.1 E.2.1 d_Cursor_signed_15 hl (by decide) rfl (fun ls hl => ?_)
  refine lv_lload_n E.1 E.2.1 d_Cursor_signed_17 rfl (lv_at hl 2 rfl) ?_
  refine lv_iload E.1 E.2.1 d_Cursor_signed_18 (lv_at hl 0 rfl) ?_
  refine lv_bipush (v := 127) E.1 E.2.1 d_Cursor_signed_20 (by decide) ?_
  refine lv_iand E.1 E.2.1 d_Cursor_signed_22 ?_
  refine lv_topi (fun v_199 ev_199 => ?_)
  refine lv_i2l (v := (v_199 : Int32).toInt64) E.1 E.2.1 d_Cursor_signed_23 rfl ?_
  refine lv_iload E.1 E.2.1 d_Cursor_signed_24 (lv_at hl 1 rfl) ?_
  obtain ⟨v_200, ev_200⟩ : ∃ z : Int64, z = ((v_199 : Int32).toInt64) <<< ((0 : Int32).toInt64 &&& 63) := ⟨_, rfl⟩
  refine lv_lshl (v := v_200) E.1 E.2.1 d_Cursor_signed_26 ev_200.symm ?_
  refine lv_lor E.1 E.2.1 d_Cursor_signed_27 ?_
  refine lv_topl (fun v_201 ev_201 => ?_)
  refine lv_lstore_n (lv' := [(2, .long v_201), (5, .int r_198), (4, .int 0), (0, .ref h0), (1, .int 32)]) E.1 E.2.1 d_Cursor_signed_28 rfl hl (by decide) rfl (fun ls hl => ?_)
  refine lv_iload E.1 E.2.1 d_Cursor_signed_29 (lv_at hl 1 rfl) ?_
  refine lv_sipush (v := 128) E.1 E.2.1 d_Cursor_signed_31 (by decide) ?_
  refine lv_icmp_ge (tgt := 51) E.1 E.2.1 d_Cursor_signed_34 (by decide) (fun hc_202 => ?_) (fun hc_202 => ?_)
  ·
    refine lv_iinc (v := 7) (lv' := [(4, .int 7), (2, .long v_201), (5, .int r_198), (0, .ref h0), (1, .int 32)]) E.1 E.2.1 d_Cursor_signed_51 hl (k := 2) rfl (by decide) (by decide) rfl (fun ls hl => ?_)
    refine lv_goto (tgt := 5) E.1 E.2.1 d_Cursor_signed_54 (by decide) ?_
    refine lv_iload E.1 E.2.1 d_Cursor_signed_5 (lv_at hl 0 rfl) ?_
    refine lv_iload_n E.1 E.2.1 d_Cursor_signed_7 rfl (lv_at hl 4 rfl) ?_
    refine lv_icmp_ge (tgt := 57) E.1 E.2.1 d_Cursor_signed_8 (by decide) (fun hc => absurd hc (by decide)) (fun _ => ?_)
    refine lv_aload_n E.1 E.2.1 d_Cursor_signed_11 rfl (lv_at hl 3 rfl) ?_
    have hPc := hP.sub (ws' := [(h0, .inr (1, [.ref qb, .int ln, .int pos2_196, .int lim, .int ml2_197])), (qb, .inl (cB, 4000, .inl f))]) [0, 1] rfl
    have hDc := hD.sub (ws' := [(h0, .inr (1, [.ref qb, .int ln, .int pos2_196, .int lim, .int ml2_197])), (qb, .inl (cB, 4000, .inl f))]) [0, 1] (by decide) rfl
    have hFc := va_free (wc := [(h0, .inr (1, [.ref qb, .int ln, .int pos2_196, .int lim, .int ml2_197])), (qb, .inl (cB, 4000, .inl f))]) hD hS hA [0, 1] rfl
    refine x_ri (ws := [(h0, .inr (1, [.ref qb, .int ln, .int pos2_196, .int lim, .int ml2_197])), (qb, .inl (cB, 4000, .inl f))]) (wc := [(h0, .inr (1, [.ref qb, .int ln, .int pos2_196, .int lim, .int ml2_197])), (qb, .inl (cB, 4000, .inl f))]) (wr := []) (x_V (As := []) (C := "WasmReader$Cursor") E (c_Cursor_nextByteG l D cB cI cJ cZ H.size h0 qb ln pos2_196 lim ml2_197 f ) m_171 m_94 m_170 m_172 m_173 nm_Cursor_nextByte hPc hDc hZ hS hFc rfl rfl rfl hl.1 rfl (Nat.le_of_ble_eq_true rfl) d_Cursor_signed_12 rfl rfl (by decide) (by decide) (by decide) (by decide)) hP hD hS hA [0, 1] [] rfl rfl (by decide) (by decide) (fun r_205 u H locs hw hP hD hS => ?_)
    obtain ⟨pos2_203, ml2_204, rfl⟩ := hw
    have hP : va_P D classes [(h0, .inr (1, [.ref qb, .int ln, .int pos2_203, .int lim, .int ml2_204])), (qb, .inl (cB, 4000, .inl f))] H := hP
    have hD : va_D (va_A [(h0, .inr (1, [.ref qb, .int ln, .int pos, .int lim, .int ml])), (qb, .inl (cB, 4000, .inl f))] s.heap.size) [(h0, .inr (1, [.ref qb, .int ln, .int pos2_203, .int lim, .int ml2_204])), (qb, .inl (cB, 4000, .inl f))] := hD
    refine lv_istore (lv' := [(5, .int r_205), (4, .int 7), (2, .long v_201), (0, .ref h0), (1, .int 32)]) E.1 E.2.1 d_Cursor_signed_15 hl (by decide) rfl (fun ls hl => ?_)
    refine lv_lload_n E.1 E.2.1 d_Cursor_signed_17 rfl (lv_at hl 2 rfl) ?_
    refine lv_iload E.1 E.2.1 d_Cursor_signed_18 (lv_at hl 0 rfl) ?_
    refine lv_bipush (v := 127) E.1 E.2.1 d_Cursor_signed_20 (by decide) ?_
    refine lv_iand E.1 E.2.1 d_Cursor_signed_22 ?_
    refine lv_topi (fun v_206 ev_206 => ?_)
    refine lv_i2l (v := (v_206 : Int32).toInt64) E.1 E.2.1 d_Cursor_signed_23 rfl ?_
    refine lv_iload E.1 E.2.1 d_Cursor_signed_24 (lv_at hl 1 rfl) ?_
    obtain ⟨v_207, ev_207⟩ : ∃ z : Int64, z = ((v_206 : Int32).toInt64) <<< ((7 : Int32).toInt64 &&& 63) := ⟨_, rfl⟩
    refine lv_lshl (v := v_207) E.1 E.2.1 d_Cursor_signed_26 ev_207.symm ?_
    refine lv_lor E.1 E.2.1 d_Cursor_signed_27 ?_
    refine lv_topl (fun v_208 ev_208 => ?_)
    refine lv_lstore_n (lv' := [(2, .long v_208), (5, .int r_205), (4, .int 7), (0, .ref h0), (1, .int 32)]) E.1 E.2.1 d_Cursor_signed_28 rfl hl (by decide) rfl (fun ls hl => ?_)
    refine lv_iload E.1 E.2.1 d_Cursor_signed_29 (lv_at hl 1 rfl) ?_
    refine lv_sipush (v := 128) E.1 E.2.1 d_Cursor_signed_31 (by decide) ?_
    refine lv_icmp_ge (tgt := 51) E.1 E.2.1 d_Cursor_signed_34 (by decide) (fun hc_209 => ?_) (fun hc_209 => ?_)
    ·
      refine lv_iinc (v := 14) (lv' := [(4, .int 14), (2, .long v_208), (5, .int r_205), (0, .ref h0), (1, .int 32)]) E.1 E.2.1 d_Cursor_signed_51 hl (k := 2) rfl (by decide) (by decide) rfl (fun ls hl => ?_)
      refine lv_goto (tgt := 5) E.1 E.2.1 d_Cursor_signed_54 (by decide) ?_
      refine lv_iload E.1 E.2.1 d_Cursor_signed_5 (lv_at hl 0 rfl) ?_
      refine lv_iload_n E.1 E.2.1 d_Cursor_signed_7 rfl (lv_at hl 4 rfl) ?_
      refine lv_icmp_ge (tgt := 57) E.1 E.2.1 d_Cursor_signed_8 (by decide) (fun hc => absurd hc (by decide)) (fun _ => ?_)
      refine lv_aload_n E.1 E.2.1 d_Cursor_signed_11 rfl (lv_at hl 3 rfl) ?_
      have hPc := hP.sub (ws' := [(h0, .inr (1, [.ref qb, .int ln, .int pos2_203, .int lim, .int ml2_204])), (qb, .inl (cB, 4000, .inl f))]) [0, 1] rfl
      have hDc := hD.sub (ws' := [(h0, .inr (1, [.ref qb, .int ln, .int pos2_203, .int lim, .int ml2_204])), (qb, .inl (cB, 4000, .inl f))]) [0, 1] (by decide) rfl
      have hFc := va_free (wc := [(h0, .inr (1, [.ref qb, .int ln, .int pos2_203, .int lim, .int ml2_204])), (qb, .inl (cB, 4000, .inl f))]) hD hS hA [0, 1] rfl
      refine x_ri (ws := [(h0, .inr (1, [.ref qb, .int ln, .int pos2_203, .int lim, .int ml2_204])), (qb, .inl (cB, 4000, .inl f))]) (wc := [(h0, .inr (1, [.ref qb, .int ln, .int pos2_203, .int lim, .int ml2_204])), (qb, .inl (cB, 4000, .inl f))]) (wr := []) (x_V (As := []) (C := "WasmReader$Cursor") E (c_Cursor_nextByteG l D cB cI cJ cZ H.size h0 qb ln pos2_203 lim ml2_204 f ) m_171 m_94 m_170 m_172 m_173 nm_Cursor_nextByte hPc hDc hZ hS hFc rfl rfl rfl hl.1 rfl (Nat.le_of_ble_eq_true rfl) d_Cursor_signed_12 rfl rfl (by decide) (by decide) (by decide) (by decide)) hP hD hS hA [0, 1] [] rfl rfl (by decide) (by decide) (fun r_212 u H locs hw hP hD hS => ?_)
      obtain ⟨pos2_210, ml2_211, rfl⟩ := hw
      have hP : va_P D classes [(h0, .inr (1, [.ref qb, .int ln, .int pos2_210, .int lim, .int ml2_211])), (qb, .inl (cB, 4000, .inl f))] H := hP
      have hD : va_D (va_A [(h0, .inr (1, [.ref qb, .int ln, .int pos, .int lim, .int ml])), (qb, .inl (cB, 4000, .inl f))] s.heap.size) [(h0, .inr (1, [.ref qb, .int ln, .int pos2_210, .int lim, .int ml2_211])), (qb, .inl (cB, 4000, .inl f))] := hD
      refine lv_istore (lv' := [(5, .int r_212), (4, .int 14), (2, .long v_208), (0, .ref h0), (1, .int 32)]) E.1 E.2.1 d_Cursor_signed_15 hl (by decide) rfl (fun ls hl => ?_)
      refine lv_lload_n E.1 E.2.1 d_Cursor_signed_17 rfl (lv_at hl 2 rfl) ?_
      refine lv_iload E.1 E.2.1 d_Cursor_signed_18 (lv_at hl 0 rfl) ?_
      refine lv_bipush (v := 127) E.1 E.2.1 d_Cursor_signed_20 (by decide) ?_
      refine lv_iand E.1 E.2.1 d_Cursor_signed_22 ?_
      refine lv_topi (fun v_213 ev_213 => ?_)
      refine lv_i2l (v := (v_213 : Int32).toInt64) E.1 E.2.1 d_Cursor_signed_23 rfl ?_
      refine lv_iload E.1 E.2.1 d_Cursor_signed_24 (lv_at hl 1 rfl) ?_
      obtain ⟨v_214, ev_214⟩ : ∃ z : Int64, z = ((v_213 : Int32).toInt64) <<< ((14 : Int32).toInt64 &&& 63) := ⟨_, rfl⟩
      refine lv_lshl (v := v_214) E.1 E.2.1 d_Cursor_signed_26 ev_214.symm ?_
      refine lv_lor E.1 E.2.1 d_Cursor_signed_27 ?_
      refine lv_topl (fun v_215 ev_215 => ?_)
      refine lv_lstore_n (lv' := [(2, .long v_215), (5, .int r_212), (4, .int 14), (0, .ref h0), (1, .int 32)]) E.1 E.2.1 d_Cursor_signed_28 rfl hl (by decide) rfl (fun ls hl => ?_)
      refine lv_iload E.1 E.2.1 d_Cursor_signed_29 (lv_at hl 1 rfl) ?_
      refine lv_sipush (v := 128) E.1 E.2.1 d_Cursor_signed_31 (by decide) ?_
      refine lv_icmp_ge (tgt := 51) E.1 E.2.1 d_Cursor_signed_34 (by decide) (fun hc_216 => ?_) (fun hc_216 => ?_)
      ·
        refine lv_iinc (v := 21) (lv' := [(4, .int 21), (2, .long v_215), (5, .int r_212), (0, .ref h0), (1, .int 32)]) E.1 E.2.1 d_Cursor_signed_51 hl (k := 2) rfl (by decide) (by decide) rfl (fun ls hl => ?_)
        refine lv_goto (tgt := 5) E.1 E.2.1 d_Cursor_signed_54 (by decide) ?_
        refine lv_iload E.1 E.2.1 d_Cursor_signed_5 (lv_at hl 0 rfl) ?_
        refine lv_iload_n E.1 E.2.1 d_Cursor_signed_7 rfl (lv_at hl 4 rfl) ?_
        refine lv_icmp_ge (tgt := 57) E.1 E.2.1 d_Cursor_signed_8 (by decide) (fun hc => absurd hc (by decide)) (fun _ => ?_)
        refine lv_aload_n E.1 E.2.1 d_Cursor_signed_11 rfl (lv_at hl 3 rfl) ?_
        have hPc := hP.sub (ws' := [(h0, .inr (1, [.ref qb, .int ln, .int pos2_210, .int lim, .int ml2_211])), (qb, .inl (cB, 4000, .inl f))]) [0, 1] rfl
        have hDc := hD.sub (ws' := [(h0, .inr (1, [.ref qb, .int ln, .int pos2_210, .int lim, .int ml2_211])), (qb, .inl (cB, 4000, .inl f))]) [0, 1] (by decide) rfl
        have hFc := va_free (wc := [(h0, .inr (1, [.ref qb, .int ln, .int pos2_210, .int lim, .int ml2_211])), (qb, .inl (cB, 4000, .inl f))]) hD hS hA [0, 1] rfl
        refine x_ri (ws := [(h0, .inr (1, [.ref qb, .int ln, .int pos2_210, .int lim, .int ml2_211])), (qb, .inl (cB, 4000, .inl f))]) (wc := [(h0, .inr (1, [.ref qb, .int ln, .int pos2_210, .int lim, .int ml2_211])), (qb, .inl (cB, 4000, .inl f))]) (wr := []) (x_V (As := []) (C := "WasmReader$Cursor") E (c_Cursor_nextByteG l D cB cI cJ cZ H.size h0 qb ln pos2_210 lim ml2_211 f ) m_171 m_94 m_170 m_172 m_173 nm_Cursor_nextByte hPc hDc hZ hS hFc rfl rfl rfl hl.1 rfl (Nat.le_of_ble_eq_true rfl) d_Cursor_signed_12 rfl rfl (by decide) (by decide) (by decide) (by decide)) hP hD hS hA [0, 1] [] rfl rfl (by decide) (by decide) (fun r_219 u H locs hw hP hD hS => ?_)
        obtain ⟨pos2_217, ml2_218, rfl⟩ := hw
        have hP : va_P D classes [(h0, .inr (1, [.ref qb, .int ln, .int pos2_217, .int lim, .int ml2_218])), (qb, .inl (cB, 4000, .inl f))] H := hP
        have hD : va_D (va_A [(h0, .inr (1, [.ref qb, .int ln, .int pos, .int lim, .int ml])), (qb, .inl (cB, 4000, .inl f))] s.heap.size) [(h0, .inr (1, [.ref qb, .int ln, .int pos2_217, .int lim, .int ml2_218])), (qb, .inl (cB, 4000, .inl f))] := hD
        refine lv_istore (lv' := [(5, .int r_219), (4, .int 21), (2, .long v_215), (0, .ref h0), (1, .int 32)]) E.1 E.2.1 d_Cursor_signed_15 hl (by decide) rfl (fun ls hl => ?_)
        refine lv_lload_n E.1 E.2.1 d_Cursor_signed_17 rfl (lv_at hl 2 rfl) ?_
        refine lv_iload E.1 E.2.1 d_Cursor_signed_18 (lv_at hl 0 rfl) ?_
        refine lv_bipush (v := 127) E.1 E.2.1 d_Cursor_signed_20 (by decide) ?_
        refine lv_iand E.1 E.2.1 d_Cursor_signed_22 ?_
        refine lv_topi (fun v_220 ev_220 => ?_)
        refine lv_i2l (v := (v_220 : Int32).toInt64) E.1 E.2.1 d_Cursor_signed_23 rfl ?_
        refine lv_iload E.1 E.2.1 d_Cursor_signed_24 (lv_at hl 1 rfl) ?_
        obtain ⟨v_221, ev_221⟩ : ∃ z : Int64, z = ((v_220 : Int32).toInt64) <<< ((21 : Int32).toInt64 &&& 63) := ⟨_, rfl⟩
        refine lv_lshl (v := v_221) E.1 E.2.1 d_Cursor_signed_26 ev_221.symm ?_
        refine lv_lor E.1 E.2.1 d_Cursor_signed_27 ?_
        refine lv_topl (fun v_222 ev_222 => ?_)
        refine lv_lstore_n (lv' := [(2, .long v_222), (5, .int r_219), (4, .int 21), (0, .ref h0), (1, .int 32)]) E.1 E.2.1 d_Cursor_signed_28 rfl hl (by decide) rfl (fun ls hl => ?_)
        refine lv_iload E.1 E.2.1 d_Cursor_signed_29 (lv_at hl 1 rfl) ?_
        refine lv_sipush (v := 128) E.1 E.2.1 d_Cursor_signed_31 (by decide) ?_
        refine lv_icmp_ge (tgt := 51) E.1 E.2.1 d_Cursor_signed_34 (by decide) (fun hc_223 => ?_) (fun hc_223 => ?_)
        ·
          refine lv_iinc (v := 28) (lv' := [(4, .int 28), (2, .long v_222), (5, .int r_219), (0, .ref h0), (1, .int 32)]) E.1 E.2.1 d_Cursor_signed_51 hl (k := 2) rfl (by decide) (by decide) rfl (fun ls hl => ?_)
          refine lv_goto (tgt := 5) E.1 E.2.1 d_Cursor_signed_54 (by decide) ?_
          refine lv_iload E.1 E.2.1 d_Cursor_signed_5 (lv_at hl 0 rfl) ?_
          refine lv_iload_n E.1 E.2.1 d_Cursor_signed_7 rfl (lv_at hl 4 rfl) ?_
          refine lv_icmp_ge (tgt := 57) E.1 E.2.1 d_Cursor_signed_8 (by decide) (fun hc => absurd hc (by decide)) (fun _ => ?_)
          refine lv_aload_n E.1 E.2.1 d_Cursor_signed_11 rfl (lv_at hl 3 rfl) ?_
          have hPc := hP.sub (ws' := [(h0, .inr (1, [.ref qb, .int ln, .int pos2_217, .int lim, .int ml2_218])), (qb, .inl (cB, 4000, .inl f))]) [0, 1] rfl
          have hDc := hD.sub (ws' := [(h0, .inr (1, [.ref qb, .int ln, .int pos2_217, .int lim, .int ml2_218])), (qb, .inl (cB, 4000, .inl f))]) [0, 1] (by decide) rfl
          have hFc := va_free (wc := [(h0, .inr (1, [.ref qb, .int ln, .int pos2_217, .int lim, .int ml2_218])), (qb, .inl (cB, 4000, .inl f))]) hD hS hA [0, 1] rfl
          refine x_ri (ws := [(h0, .inr (1, [.ref qb, .int ln, .int pos2_217, .int lim, .int ml2_218])), (qb, .inl (cB, 4000, .inl f))]) (wc := [(h0, .inr (1, [.ref qb, .int ln, .int pos2_217, .int lim, .int ml2_218])), (qb, .inl (cB, 4000, .inl f))]) (wr := []) (x_V (As := []) (C := "WasmReader$Cursor") E (c_Cursor_nextByteG l D cB cI cJ cZ H.size h0 qb ln pos2_217 lim ml2_218 f ) m_171 m_94 m_170 m_172 m_173 nm_Cursor_nextByte hPc hDc hZ hS hFc rfl rfl rfl hl.1 rfl (Nat.le_of_ble_eq_true rfl) d_Cursor_signed_12 rfl rfl (by decide) (by decide) (by decide) (by decide)) hP hD hS hA [0, 1] [] rfl rfl (by decide) (by decide) (fun r_226 u H locs hw hP hD hS => ?_)
          obtain ⟨pos2_224, ml2_225, rfl⟩ := hw
          have hP : va_P D classes [(h0, .inr (1, [.ref qb, .int ln, .int pos2_224, .int lim, .int ml2_225])), (qb, .inl (cB, 4000, .inl f))] H := hP
          have hD : va_D (va_A [(h0, .inr (1, [.ref qb, .int ln, .int pos, .int lim, .int ml])), (qb, .inl (cB, 4000, .inl f))] s.heap.size) [(h0, .inr (1, [.ref qb, .int ln, .int pos2_224, .int lim, .int ml2_225])), (qb, .inl (cB, 4000, .inl f))] := hD
          refine lv_istore (lv' := [(5, .int r_226), (4, .int 28), (2, .long v_222), (0, .ref h0), (1, .int 32)]) E.1 E.2.1 d_Cursor_signed_15 hl (by decide) rfl (fun ls hl => ?_)
          refine lv_lload_n E.1 E.2.1 d_Cursor_signed_17 rfl (lv_at hl 2 rfl) ?_
          refine lv_iload E.1 E.2.1 d_Cursor_signed_18 (lv_at hl 0 rfl) ?_
          refine lv_bipush (v := 127) E.1 E.2.1 d_Cursor_signed_20 (by decide) ?_
          refine lv_iand E.1 E.2.1 d_Cursor_signed_22 ?_
          refine lv_topi (fun v_227 ev_227 => ?_)
          refine lv_i2l (v := (v_227 : Int32).toInt64) E.1 E.2.1 d_Cursor_signed_23 rfl ?_
          refine lv_iload E.1 E.2.1 d_Cursor_signed_24 (lv_at hl 1 rfl) ?_
          obtain ⟨v_228, ev_228⟩ : ∃ z : Int64, z = ((v_227 : Int32).toInt64) <<< ((28 : Int32).toInt64 &&& 63) := ⟨_, rfl⟩
          refine lv_lshl (v := v_228) E.1 E.2.1 d_Cursor_signed_26 ev_228.symm ?_
          refine lv_lor E.1 E.2.1 d_Cursor_signed_27 ?_
          refine lv_topl (fun v_229 ev_229 => ?_)
          refine lv_lstore_n (lv' := [(2, .long v_229), (5, .int r_226), (4, .int 28), (0, .ref h0), (1, .int 32)]) E.1 E.2.1 d_Cursor_signed_28 rfl hl (by decide) rfl (fun ls hl => ?_)
          refine lv_iload E.1 E.2.1 d_Cursor_signed_29 (lv_at hl 1 rfl) ?_
          refine lv_sipush (v := 128) E.1 E.2.1 d_Cursor_signed_31 (by decide) ?_
          refine lv_icmp_ge (tgt := 51) E.1 E.2.1 d_Cursor_signed_34 (by decide) (fun hc_230 => ?_) (fun hc_230 => ?_)
          ·
            refine lv_iinc (v := 35) (lv' := [(4, .int 35), (2, .long v_229), (5, .int r_226), (0, .ref h0), (1, .int 32)]) E.1 E.2.1 d_Cursor_signed_51 hl (k := 2) rfl (by decide) (by decide) rfl (fun ls hl => ?_)
            refine lv_goto (tgt := 5) E.1 E.2.1 d_Cursor_signed_54 (by decide) ?_
            refine lv_iload E.1 E.2.1 d_Cursor_signed_5 (lv_at hl 0 rfl) ?_
            refine lv_iload_n E.1 E.2.1 d_Cursor_signed_7 rfl (lv_at hl 4 rfl) ?_
            refine lv_icmp_ge (tgt := 57) E.1 E.2.1 d_Cursor_signed_8 (by decide) (fun _ => ?_) (fun hc => absurd (by decide) hc)
            refine lv_aload_n E.1 E.2.1 d_Cursor_signed_57 rfl (lv_at hl 3 rfl) ?_
            have hPc := hP.sub (ws' := [(h0, .inr (1, [.ref qb, .int ln, .int pos2_224, .int lim, .int ml2_225]))]) [0] rfl
            have hDc := hD.sub (ws' := [(h0, .inr (1, [.ref qb, .int ln, .int pos2_224, .int lim, .int ml2_225]))]) [0] (by decide) rfl
            have hFc := va_free (wc := [(h0, .inr (1, [.ref qb, .int ln, .int pos2_224, .int lim, .int ml2_225]))]) hD hS hA [0] rfl
            refine x_rv (ws := [(h0, .inr (1, [.ref qb, .int ln, .int pos2_224, .int lim, .int ml2_225])), (qb, .inl (cB, 4000, .inl f))]) (wc := [(h0, .inr (1, [.ref qb, .int ln, .int pos2_224, .int lim, .int ml2_225]))]) (wr := [(qb, .inl (cB, 4000, .inl f))]) (x_V (As := []) (C := "WasmReader$Cursor") E (c_Cursor_fail l D cB cI cJ cZ H.size h0 qb ln pos2_224 lim ml2_225 ) m_175 m_94 m_174 m_176 m_177 nm_Cursor_fail hPc hDc hZ hS hFc rfl rfl rfl hl.1 rfl (Nat.le_of_ble_eq_true rfl) d_Cursor_signed_58 rfl rfl (by decide) (by decide) (by decide) (by decide)) hP hD hS hA [0] [1] rfl rfl (by decide) (by decide) (fun u H locs hw hP hD hS => ?_)
            obtain rfl := hw
            have hP : va_P D classes [(qb, .inl (cB, 4000, .inl f)), (h0, .inr (1, [.ref qb, .int ln, .int pos2_224, .int lim, .int 1]))] H := hP
            have hD : va_D (va_A [(h0, .inr (1, [.ref qb, .int ln, .int pos, .int lim, .int ml])), (qb, .inl (cB, 4000, .inl f))] s.heap.size) [(qb, .inl (cB, 4000, .inl f)), (h0, .inr (1, [.ref qb, .int ln, .int pos2_224, .int lim, .int 1]))] := hD
            refine lv_lconst (v := 0) E.1 E.2.1 d_Cursor_signed_61 (by decide) ?_
            refine W.widen (k := 0) (n := 0) (by decide) (by decide) ?_
            exact x_lret (ws := [(h0, .inr (1, [.ref qb, .int ln, .int pos2_224, .int lim, .int 1])), (qb, .inl (cB, 4000, .inl f))]) E hr hlocks (hP.sub [1, 0] rfl) (hD.sub [1, 0] (by decide) rfl) hS ⟨pos2_224, 1, rfl⟩ d_Cursor_signed_62
          ·
            refine lv_aload_n E.1 E.2.1 d_Cursor_signed_37 rfl (lv_at hl 3 rfl) ?_
            refine lv_lload_n E.1 E.2.1 d_Cursor_signed_38 rfl (lv_at hl 0 rfl) ?_
            refine lv_iload E.1 E.2.1 d_Cursor_signed_39 (lv_at hl 2 rfl) ?_
            refine lv_bipush (v := 7) E.1 E.2.1 d_Cursor_signed_41 (by decide) ?_
            refine lv_iadd E.1 E.2.1 d_Cursor_signed_43 ?_
            refine lv_topi (fun vt_231 evt_231 => ?_)
            obtain rfl : vt_231 = 35 := evt_231.trans (by decide)
            refine lv_iload_n E.1 E.2.1 d_Cursor_signed_44 rfl (lv_at hl 4 rfl) ?_
            refine lv_iload E.1 E.2.1 d_Cursor_signed_45 (lv_at hl 1 rfl) ?_
            have hPc := hP.sub (ws' := [(h0, .inr (1, [.ref qb, .int ln, .int pos2_224, .int lim, .int ml2_225]))]) [0] rfl
            have hDc := hD.sub (ws' := [(h0, .inr (1, [.ref qb, .int ln, .int pos2_224, .int lim, .int ml2_225]))]) [0] (by decide) rfl
            have hFc := va_free (wc := [(h0, .inr (1, [.ref qb, .int ln, .int pos2_224, .int lim, .int ml2_225]))]) hD hS hA [0] rfl
            refine x_rl (ws := [(h0, .inr (1, [.ref qb, .int ln, .int pos2_224, .int lim, .int ml2_225])), (qb, .inl (cB, 4000, .inl f))]) (wc := [(h0, .inr (1, [.ref qb, .int ln, .int pos2_224, .int lim, .int ml2_225]))]) (wr := [(qb, .inl (cB, 4000, .inl f))]) (x_V (As := [.long v_229, .int 35, .int 32, .int r_226]) (C := "WasmReader$Cursor") E (c_Cursor_withSign l D cB cI cJ cZ H.size h0 qb ln pos2_224 lim ml2_225 v_229 35 32 r_226 ) m_242 m_94 m_241 m_243 m_244 nm_Cursor_withSign hPc hDc hZ hS hFc rfl rfl rfl hl.1 rfl (Nat.le_of_ble_eq_true rfl) d_Cursor_signed_47 rfl rfl (by decide) (by decide) (by decide) (by decide)) hP hD hS hA [0] [1] rfl rfl (by decide) (by decide) (fun r_233 u H locs hw hP hD hS => ?_)
            obtain ⟨ml2_232, rfl⟩ := hw
            have hP : va_P D classes [(qb, .inl (cB, 4000, .inl f)), (h0, .inr (1, [.ref qb, .int ln, .int pos2_224, .int lim, .int ml2_232]))] H := hP
            have hD : va_D (va_A [(h0, .inr (1, [.ref qb, .int ln, .int pos, .int lim, .int ml])), (qb, .inl (cB, 4000, .inl f))] s.heap.size) [(qb, .inl (cB, 4000, .inl f)), (h0, .inr (1, [.ref qb, .int ln, .int pos2_224, .int lim, .int ml2_232]))] := hD
            refine W.widen (k := 0) (n := 0) (by decide) (by decide) ?_
            exact x_lret (ws := [(h0, .inr (1, [.ref qb, .int ln, .int pos2_224, .int lim, .int ml2_232])), (qb, .inl (cB, 4000, .inl f))]) E hr hlocks (hP.sub [1, 0] rfl) (hD.sub [1, 0] (by decide) rfl) hS ⟨pos2_224, ml2_232, rfl⟩ d_Cursor_signed_50
        ·
          refine lv_aload_n E.1 E.2.1 d_Cursor_signed_37 rfl (lv_at hl 3 rfl) ?_
          refine lv_lload_n E.1 E.2.1 d_Cursor_signed_38 rfl (lv_at hl 0 rfl) ?_
          refine lv_iload E.1 E.2.1 d_Cursor_signed_39 (lv_at hl 2 rfl) ?_
          refine lv_bipush (v := 7) E.1 E.2.1 d_Cursor_signed_41 (by decide) ?_
          refine lv_iadd E.1 E.2.1 d_Cursor_signed_43 ?_
          refine lv_topi (fun vt_234 evt_234 => ?_)
          obtain rfl : vt_234 = 28 := evt_234.trans (by decide)
          refine lv_iload_n E.1 E.2.1 d_Cursor_signed_44 rfl (lv_at hl 4 rfl) ?_
          refine lv_iload E.1 E.2.1 d_Cursor_signed_45 (lv_at hl 1 rfl) ?_
          have hPc := hP.sub (ws' := [(h0, .inr (1, [.ref qb, .int ln, .int pos2_217, .int lim, .int ml2_218]))]) [0] rfl
          have hDc := hD.sub (ws' := [(h0, .inr (1, [.ref qb, .int ln, .int pos2_217, .int lim, .int ml2_218]))]) [0] (by decide) rfl
          have hFc := va_free (wc := [(h0, .inr (1, [.ref qb, .int ln, .int pos2_217, .int lim, .int ml2_218]))]) hD hS hA [0] rfl
          refine x_rl (ws := [(h0, .inr (1, [.ref qb, .int ln, .int pos2_217, .int lim, .int ml2_218])), (qb, .inl (cB, 4000, .inl f))]) (wc := [(h0, .inr (1, [.ref qb, .int ln, .int pos2_217, .int lim, .int ml2_218]))]) (wr := [(qb, .inl (cB, 4000, .inl f))]) (x_V (As := [.long v_222, .int 28, .int 32, .int r_219]) (C := "WasmReader$Cursor") E (c_Cursor_withSign l D cB cI cJ cZ H.size h0 qb ln pos2_217 lim ml2_218 v_222 28 32 r_219 ) m_242 m_94 m_241 m_243 m_244 nm_Cursor_withSign hPc hDc hZ hS hFc rfl rfl rfl hl.1 rfl (Nat.le_of_ble_eq_true rfl) d_Cursor_signed_47 rfl rfl (by decide) (by decide) (by decide) (by decide)) hP hD hS hA [0] [1] rfl rfl (by decide) (by decide) (fun r_236 u H locs hw hP hD hS => ?_)
          obtain ⟨ml2_235, rfl⟩ := hw
          have hP : va_P D classes [(qb, .inl (cB, 4000, .inl f)), (h0, .inr (1, [.ref qb, .int ln, .int pos2_217, .int lim, .int ml2_235]))] H := hP
          have hD : va_D (va_A [(h0, .inr (1, [.ref qb, .int ln, .int pos, .int lim, .int ml])), (qb, .inl (cB, 4000, .inl f))] s.heap.size) [(qb, .inl (cB, 4000, .inl f)), (h0, .inr (1, [.ref qb, .int ln, .int pos2_217, .int lim, .int ml2_235]))] := hD
          refine W.widen (k := 0) (n := 0) (by decide) (by decide) ?_
          exact x_lret (ws := [(h0, .inr (1, [.ref qb, .int ln, .int pos2_217, .int lim, .int ml2_235])), (qb, .inl (cB, 4000, .inl f))]) E hr hlocks (hP.sub [1, 0] rfl) (hD.sub [1, 0] (by decide) rfl) hS ⟨pos2_217, ml2_235, rfl⟩ d_Cursor_signed_50
      ·
        refine lv_aload_n E.1 E.2.1 d_Cursor_signed_37 rfl (lv_at hl 3 rfl) ?_
        refine lv_lload_n E.1 E.2.1 d_Cursor_signed_38 rfl (lv_at hl 0 rfl) ?_
        refine lv_iload E.1 E.2.1 d_Cursor_signed_39 (lv_at hl 2 rfl) ?_
        refine lv_bipush (v := 7) E.1 E.2.1 d_Cursor_signed_41 (by decide) ?_
        refine lv_iadd E.1 E.2.1 d_Cursor_signed_43 ?_
        refine lv_topi (fun vt_237 evt_237 => ?_)
        obtain rfl : vt_237 = 21 := evt_237.trans (by decide)
        refine lv_iload_n E.1 E.2.1 d_Cursor_signed_44 rfl (lv_at hl 4 rfl) ?_
        refine lv_iload E.1 E.2.1 d_Cursor_signed_45 (lv_at hl 1 rfl) ?_
        have hPc := hP.sub (ws' := [(h0, .inr (1, [.ref qb, .int ln, .int pos2_210, .int lim, .int ml2_211]))]) [0] rfl
        have hDc := hD.sub (ws' := [(h0, .inr (1, [.ref qb, .int ln, .int pos2_210, .int lim, .int ml2_211]))]) [0] (by decide) rfl
        have hFc := va_free (wc := [(h0, .inr (1, [.ref qb, .int ln, .int pos2_210, .int lim, .int ml2_211]))]) hD hS hA [0] rfl
        refine x_rl (ws := [(h0, .inr (1, [.ref qb, .int ln, .int pos2_210, .int lim, .int ml2_211])), (qb, .inl (cB, 4000, .inl f))]) (wc := [(h0, .inr (1, [.ref qb, .int ln, .int pos2_210, .int lim, .int ml2_211]))]) (wr := [(qb, .inl (cB, 4000, .inl f))]) (x_V (As := [.long v_215, .int 21, .int 32, .int r_212]) (C := "WasmReader$Cursor") E (c_Cursor_withSign l D cB cI cJ cZ H.size h0 qb ln pos2_210 lim ml2_211 v_215 21 32 r_212 ) m_242 m_94 m_241 m_243 m_244 nm_Cursor_withSign hPc hDc hZ hS hFc rfl rfl rfl hl.1 rfl (Nat.le_of_ble_eq_true rfl) d_Cursor_signed_47 rfl rfl (by decide) (by decide) (by decide) (by decide)) hP hD hS hA [0] [1] rfl rfl (by decide) (by decide) (fun r_239 u H locs hw hP hD hS => ?_)
        obtain ⟨ml2_238, rfl⟩ := hw
        have hP : va_P D classes [(qb, .inl (cB, 4000, .inl f)), (h0, .inr (1, [.ref qb, .int ln, .int pos2_210, .int lim, .int ml2_238]))] H := hP
        have hD : va_D (va_A [(h0, .inr (1, [.ref qb, .int ln, .int pos, .int lim, .int ml])), (qb, .inl (cB, 4000, .inl f))] s.heap.size) [(qb, .inl (cB, 4000, .inl f)), (h0, .inr (1, [.ref qb, .int ln, .int pos2_210, .int lim, .int ml2_238]))] := hD
        refine W.widen (k := 0) (n := 0) (by decide) (by decide) ?_
        exact x_lret (ws := [(h0, .inr (1, [.ref qb, .int ln, .int pos2_210, .int lim, .int ml2_238])), (qb, .inl (cB, 4000, .inl f))]) E hr hlocks (hP.sub [1, 0] rfl) (hD.sub [1, 0] (by decide) rfl) hS ⟨pos2_210, ml2_238, rfl⟩ d_Cursor_signed_50
    ·
      refine lv_aload_n E.1 E.2.1 d_Cursor_signed_37 rfl (lv_at hl 3 rfl) ?_
      refine lv_lload_n E.1 E.2.1 d_Cursor_signed_38 rfl (lv_at hl 0 rfl) ?_
      refine lv_iload E.1 E.2.1 d_Cursor_signed_39 (lv_at hl 2 rfl) ?_
      refine lv_bipush (v := 7) E.1 E.2.1 d_Cursor_signed_41 (by decide) ?_
      refine lv_iadd E.1 E.2.1 d_Cursor_signed_43 ?_
      refine lv_topi (fun vt_240 evt_240 => ?_)
      obtain rfl : vt_240 = 14 := evt_240.trans (by decide)
      refine lv_iload_n E.1 E.2.1 d_Cursor_signed_44 rfl (lv_at hl 4 rfl) ?_
      refine lv_iload E.1 E.2.1 d_Cursor_signed_45 (lv_at hl 1 rfl) ?_
      have hPc := hP.sub (ws' := [(h0, .inr (1, [.ref qb, .int ln, .int pos2_203, .int lim, .int ml2_204]))]) [0] rfl
      have hDc := hD.sub (ws' := [(h0, .inr (1, [.ref qb, .int ln, .int pos2_203, .int lim, .int ml2_204]))]) [0] (by decide) rfl
      have hFc := va_free (wc := [(h0, .inr (1, [.ref qb, .int ln, .int pos2_203, .int lim, .int ml2_204]))]) hD hS hA [0] rfl
      refine x_rl (ws := [(h0, .inr (1, [.ref qb, .int ln, .int pos2_203, .int lim, .int ml2_204])), (qb, .inl (cB, 4000, .inl f))]) (wc := [(h0, .inr (1, [.ref qb, .int ln, .int pos2_203, .int lim, .int ml2_204]))]) (wr := [(qb, .inl (cB, 4000, .inl f))]) (x_V (As := [.long v_208, .int 14, .int 32, .int r_205]) (C := "WasmReader$Cursor") E (c_Cursor_withSign l D cB cI cJ cZ H.size h0 qb ln pos2_203 lim ml2_204 v_208 14 32 r_205 ) m_242 m_94 m_241 m_243 m_244 nm_Cursor_withSign hPc hDc hZ hS hFc rfl rfl rfl hl.1 rfl (Nat.le_of_ble_eq_true rfl) d_Cursor_signed_47 rfl rfl (by decide) (by decide) (by decide) (by decide)) hP hD hS hA [0] [1] rfl rfl (by decide) (by decide) (fun r_242 u H locs hw hP hD hS => ?_)
      obtain ⟨ml2_241, rfl⟩ := hw
      have hP : va_P D classes [(qb, .inl (cB, 4000, .inl f)), (h0, .inr (1, [.ref qb, .int ln, .int pos2_203, .int lim, .int ml2_241]))] H := hP
      have hD : va_D (va_A [(h0, .inr (1, [.ref qb, .int ln, .int pos, .int lim, .int ml])), (qb, .inl (cB, 4000, .inl f))] s.heap.size) [(qb, .inl (cB, 4000, .inl f)), (h0, .inr (1, [.ref qb, .int ln, .int pos2_203, .int lim, .int ml2_241]))] := hD
      refine W.widen (k := 0) (n := 0) (by decide) (by decide) ?_
      exact x_lret (ws := [(h0, .inr (1, [.ref qb, .int ln, .int pos2_203, .int lim, .int ml2_241])), (qb, .inl (cB, 4000, .inl f))]) E hr hlocks (hP.sub [1, 0] rfl) (hD.sub [1, 0] (by decide) rfl) hS ⟨pos2_203, ml2_241, rfl⟩ d_Cursor_signed_50
  ·
    refine lv_aload_n E.1 E.2.1 d_Cursor_signed_37 rfl (lv_at hl 3 rfl) ?_
    refine lv_lload_n E.1 E.2.1 d_Cursor_signed_38 rfl (lv_at hl 0 rfl) ?_
    refine lv_iload E.1 E.2.1 d_Cursor_signed_39 (lv_at hl 2 rfl) ?_
    refine lv_bipush (v := 7) E.1 E.2.1 d_Cursor_signed_41 (by decide) ?_
    refine lv_iadd E.1 E.2.1 d_Cursor_signed_43 ?_
    refine lv_topi (fun vt_243 evt_243 => ?_)
    obtain rfl : vt_243 = 7 := evt_243.trans (by decide)
    refine lv_iload_n E.1 E.2.1 d_Cursor_signed_44 rfl (lv_at hl 4 rfl) ?_
    refine lv_iload E.1 E.2.1 d_Cursor_signed_45 (lv_at hl 1 rfl) ?_
    have hPc := hP.sub (ws' := [(h0, .inr (1, [.ref qb, .int ln, .int pos2_196, .int lim, .int ml2_197]))]) [0] rfl
    have hDc := hD.sub (ws' := [(h0, .inr (1, [.ref qb, .int ln, .int pos2_196, .int lim, .int ml2_197]))]) [0] (by decide) rfl
    have hFc := va_free (wc := [(h0, .inr (1, [.ref qb, .int ln, .int pos2_196, .int lim, .int ml2_197]))]) hD hS hA [0] rfl
    refine x_rl (ws := [(h0, .inr (1, [.ref qb, .int ln, .int pos2_196, .int lim, .int ml2_197])), (qb, .inl (cB, 4000, .inl f))]) (wc := [(h0, .inr (1, [.ref qb, .int ln, .int pos2_196, .int lim, .int ml2_197]))]) (wr := [(qb, .inl (cB, 4000, .inl f))]) (x_V (As := [.long v_201, .int 7, .int 32, .int r_198]) (C := "WasmReader$Cursor") E (c_Cursor_withSign l D cB cI cJ cZ H.size h0 qb ln pos2_196 lim ml2_197 v_201 7 32 r_198 ) m_242 m_94 m_241 m_243 m_244 nm_Cursor_withSign hPc hDc hZ hS hFc rfl rfl rfl hl.1 rfl (Nat.le_of_ble_eq_true rfl) d_Cursor_signed_47 rfl rfl (by decide) (by decide) (by decide) (by decide)) hP hD hS hA [0] [1] rfl rfl (by decide) (by decide) (fun r_245 u H locs hw hP hD hS => ?_)
    obtain ⟨ml2_244, rfl⟩ := hw
    have hP : va_P D classes [(qb, .inl (cB, 4000, .inl f)), (h0, .inr (1, [.ref qb, .int ln, .int pos2_196, .int lim, .int ml2_244]))] H := hP
    have hD : va_D (va_A [(h0, .inr (1, [.ref qb, .int ln, .int pos, .int lim, .int ml])), (qb, .inl (cB, 4000, .inl f))] s.heap.size) [(qb, .inl (cB, 4000, .inl f)), (h0, .inr (1, [.ref qb, .int ln, .int pos2_196, .int lim, .int ml2_244]))] := hD
    refine W.widen (k := 0) (n := 0) (by decide) (by decide) ?_
    exact x_lret (ws := [(h0, .inr (1, [.ref qb, .int ln, .int pos2_196, .int lim, .int ml2_244])), (qb, .inl (cB, 4000, .inl f))]) E hr hlocks (hP.sub [1, 0] rfl) (hD.sub [1, 0] (by decide) rfl) hS ⟨pos2_196, ml2_244, rfl⟩ d_Cursor_signed_50
set_option maxHeartbeats 4000000 in
set_option maxRecDepth 100000 in
theorem c_Cursor_signed64G (l : Launch) (D : va_G) (cB cI cJ cZ : ClassId) (sz : Nat) (h0 : Nat) (qb : Nat) (ln : Int32) (pos : Int32) (lim : Int32) (ml : Int32) (f : Nat → Int32)  : Met l y_Cursor_signed (Cond.code y_Cursor_signed prog_2_method_10_code 6 (some .long) :: xtb) ({ frames := 2, cells := 0, slots := 0, locals := 47 }) (xP D [(cB, .byte), (cI, .int), (cJ, .long), (cZ, .boolean)] [.ref h0, .int 64] [(h0, .inr (1, [.ref qb, .int ln, .int pos, .int lim, .int ml])), (qb, .inl (cB, 4000, .inl f))] sz) (xQl D [(cB, .byte), (cI, .int), (cJ, .long), (cZ, .boolean)] [(h0, .inr (1, [.ref qb, .int ln, .int pos, .int lim, .int ml])), (qb, .inl (cB, 4000, .inl f))] sz (fun r u => ∃ (pos2 : Int32), ∃ (ml2 : Int32), u = [(h0, .inr (1, [.ref qb, .int ln, .int pos2, .int lim, .int ml2])), (qb, .inl (cB, 4000, .inl f))])) 0 0 (va_A [(h0, .inr (1, [.ref qb, .int ln, .int pos, .int lim, .int ml])), (qb, .inl (cB, 4000, .inl f))] sz) := by
  refine x_met (Qc := fun s => xQl D [(cB, .byte), (cI, .int), (cJ, .long), (cZ, .boolean)] [(h0, .inr (1, [.ref qb, .int ln, .int pos, .int lim, .int ml])), (qb, .inl (cB, 4000, .inl f))] s.heap.size (fun r u => ∃ (pos2 : Int32), ∃ (ml2 : Int32), u = [(h0, .inr (1, [.ref qb, .int ln, .int pos2, .int lim, .int ml2])), (qb, .inl (cB, 4000, .inl f))])) (fr := fun s => va_A [(h0, .inr (1, [.ref qb, .int ln, .int pos, .int lim, .int ml])), (qb, .inl (cB, 4000, .inl f))] s.heap.size) "WasmReader$Cursor" (by decide +kernel) rfl (Nat.le_of_ble_eq_true rfl) (fun s h => by rw [h]) (fun s h => by rw [h]) ?_
  intro p e s m below meth c ls E hr hlocks hinit hl hP hD hA hS hZ hadm
  have hl : lv_has ls 6 [(0, .ref h0), (1, .int 64)] := hl
  refine lv_lconst (v := 0) E.1 E.2.1 d_Cursor_signed_0 (by decide) ?_
  refine lv_lstore_n (lv' := [(2, .long 0), (0, .ref h0), (1, .int 64)]) E.1 E.2.1 d_Cursor_signed_1 rfl hl (by decide) rfl (fun ls hl => ?_)
  refine lv_iconst (v := 0) E.1 E.2.1 d_Cursor_signed_2 (by decide) ?_
  refine lv_istore (lv' := [(4, .int 0), (2, .long 0), (0, .ref h0), (1, .int 64)]) E.1 E.2.1 d_Cursor_signed_3 hl (by decide) rfl (fun ls hl => ?_)
  refine lv_iload E.1 E.2.1 d_Cursor_signed_5 (lv_at hl 0 rfl) ?_
  refine lv_iload_n E.1 E.2.1 d_Cursor_signed_7 rfl (lv_at hl 3 rfl) ?_
  refine lv_icmp_ge (tgt := 57) E.1 E.2.1 d_Cursor_signed_8 (by decide) (fun hc => absurd hc (by decide)) (fun _ => ?_)
  refine lv_aload_n E.1 E.2.1 d_Cursor_signed_11 rfl (lv_at hl 2 rfl) ?_
  have hPc := hP.sub (ws' := [(h0, .inr (1, [.ref qb, .int ln, .int pos, .int lim, .int ml])), (qb, .inl (cB, 4000, .inl f))]) [0, 1] rfl
  have hDc := hD.sub (ws' := [(h0, .inr (1, [.ref qb, .int ln, .int pos, .int lim, .int ml])), (qb, .inl (cB, 4000, .inl f))]) [0, 1] (by decide) rfl
  have hFc := va_free (wc := [(h0, .inr (1, [.ref qb, .int ln, .int pos, .int lim, .int ml])), (qb, .inl (cB, 4000, .inl f))]) hD hS hA [0, 1] rfl
  refine x_ri (ws := [(h0, .inr (1, [.ref qb, .int ln, .int pos, .int lim, .int ml])), (qb, .inl (cB, 4000, .inl f))]) (wc := [(h0, .inr (1, [.ref qb, .int ln, .int pos, .int lim, .int ml])), (qb, .inl (cB, 4000, .inl f))]) (wr := []) (x_V (As := []) (C := "WasmReader$Cursor") E (c_Cursor_nextByteG l D cB cI cJ cZ s.heap.size h0 qb ln pos lim ml f ) m_171 m_94 m_170 m_172 m_173 nm_Cursor_nextByte hPc hDc hZ hS hFc rfl rfl rfl hl.1 rfl (Nat.le_of_ble_eq_true rfl) d_Cursor_signed_12 rfl rfl (by decide) (by decide) (by decide) (by decide)) hP hD hS hA [0, 1] [] rfl rfl (by decide) (by decide) (fun r_248 u H locs hw hP hD hS => ?_)
  obtain ⟨pos2_246, ml2_247, rfl⟩ := hw
  have hP : va_P D classes [(h0, .inr (1, [.ref qb, .int ln, .int pos2_246, .int lim, .int ml2_247])), (qb, .inl (cB, 4000, .inl f))] H := hP
  have hD : va_D (va_A [(h0, .inr (1, [.ref qb, .int ln, .int pos, .int lim, .int ml])), (qb, .inl (cB, 4000, .inl f))] s.heap.size) [(h0, .inr (1, [.ref qb, .int ln, .int pos2_246, .int lim, .int ml2_247])), (qb, .inl (cB, 4000, .inl f))] := hD
  refine lv_istore (lv' := [(5, .int r_248), (4, .int 0), (2, .long 0), (0, .ref h0), (1, .int 64)]) E.1 E.2.1 d_Cursor_signed_15 hl (by decide) rfl (fun ls hl => ?_)
  refine lv_lload_n E.1 E.2.1 d_Cursor_signed_17 rfl (lv_at hl 2 rfl) ?_
  refine lv_iload E.1 E.2.1 d_Cursor_signed_18 (lv_at hl 0 rfl) ?_
  refine lv_bipush (v := 127) E.1 E.2.1 d_Cursor_signed_20 (by decide) ?_
  refine lv_iand E.1 E.2.1 d_Cursor_signed_22 ?_
  refine lv_topi (fun v_249 ev_249 => ?_)
  refine lv_i2l (v := (v_249 : Int32).toInt64) E.1 E.2.1 d_Cursor_signed_23 rfl ?_
  refine lv_iload E.1 E.2.1 d_Cursor_signed_24 (lv_at hl 1 rfl) ?_
  obtain ⟨v_250, ev_250⟩ : ∃ z : Int64, z = ((v_249 : Int32).toInt64) <<< ((0 : Int32).toInt64 &&& 63) := ⟨_, rfl⟩
  refine lv_lshl (v := v_250) E.1 E.2.1 d_Cursor_signed_26 ev_250.symm ?_
  refine lv_lor E.1 E.2.1 d_Cursor_signed_27 ?_
  refine lv_topl (fun v_251 ev_251 => ?_)
  refine lv_lstore_n (lv' := [(2, .long v_251), (5, .int r_248), (4, .int 0), (0, .ref h0), (1, .int 64)]) E.1 E.2.1 d_Cursor_signed_28 rfl hl (by decide) rfl (fun ls hl => ?_)
  refine lv_iload E.1 E.2.1 d_Cursor_signed_29 (lv_at hl 1 rfl) ?_
  refine lv_sipush (v := 128) E.1 E.2.1 d_Cursor_signed_31 (by decide) ?_
  refine lv_icmp_ge (tgt := 51) E.1 E.2.1 d_Cursor_signed_34 (by decide) (fun hc_252 => ?_) (fun hc_252 => ?_)
  ·
    refine lv_iinc (v := 7) (lv' := [(4, .int 7), (2, .long v_251), (5, .int r_248), (0, .ref h0), (1, .int 64)]) E.1 E.2.1 d_Cursor_signed_51 hl (k := 2) rfl (by decide) (by decide) rfl (fun ls hl => ?_)
    refine lv_goto (tgt := 5) E.1 E.2.1 d_Cursor_signed_54 (by decide) ?_
    refine lv_iload E.1 E.2.1 d_Cursor_signed_5 (lv_at hl 0 rfl) ?_
    refine lv_iload_n E.1 E.2.1 d_Cursor_signed_7 rfl (lv_at hl 4 rfl) ?_
    refine lv_icmp_ge (tgt := 57) E.1 E.2.1 d_Cursor_signed_8 (by decide) (fun hc => absurd hc (by decide)) (fun _ => ?_)
    refine lv_aload_n E.1 E.2.1 d_Cursor_signed_11 rfl (lv_at hl 3 rfl) ?_
    have hPc := hP.sub (ws' := [(h0, .inr (1, [.ref qb, .int ln, .int pos2_246, .int lim, .int ml2_247])), (qb, .inl (cB, 4000, .inl f))]) [0, 1] rfl
    have hDc := hD.sub (ws' := [(h0, .inr (1, [.ref qb, .int ln, .int pos2_246, .int lim, .int ml2_247])), (qb, .inl (cB, 4000, .inl f))]) [0, 1] (by decide) rfl
    have hFc := va_free (wc := [(h0, .inr (1, [.ref qb, .int ln, .int pos2_246, .int lim, .int ml2_247])), (qb, .inl (cB, 4000, .inl f))]) hD hS hA [0, 1] rfl
    refine x_ri (ws := [(h0, .inr (1, [.ref qb, .int ln, .int pos2_246, .int lim, .int ml2_247])), (qb, .inl (cB, 4000, .inl f))]) (wc := [(h0, .inr (1, [.ref qb, .int ln, .int pos2_246, .int lim, .int ml2_247])), (qb, .inl (cB, 4000, .inl f))]) (wr := []) (x_V (As := []) (C := "WasmReader$Cursor") E (c_Cursor_nextByteG l D cB cI cJ cZ H.size h0 qb ln pos2_246 lim ml2_247 f ) m_171 m_94 m_170 m_172 m_173 nm_Cursor_nextByte hPc hDc hZ hS hFc rfl rfl rfl hl.1 rfl (Nat.le_of_ble_eq_true rfl) d_Cursor_signed_12 rfl rfl (by decide) (by decide) (by decide) (by decide)) hP hD hS hA [0, 1] [] rfl rfl (by decide) (by decide) (fun r_255 u H locs hw hP hD hS => ?_)
    obtain ⟨pos2_253, ml2_254, rfl⟩ := hw
    have hP : va_P D classes [(h0, .inr (1, [.ref qb, .int ln, .int pos2_253, .int lim, .int ml2_254])), (qb, .inl (cB, 4000, .inl f))] H := hP
    have hD : va_D (va_A [(h0, .inr (1, [.ref qb, .int ln, .int pos, .int lim, .int ml])), (qb, .inl (cB, 4000, .inl f))] s.heap.size) [(h0, .inr (1, [.ref qb, .int ln, .int pos2_253, .int lim, .int ml2_254])), (qb, .inl (cB, 4000, .inl f))] := hD
    refine lv_istore (lv' := [(5, .int r_255), (4, .int 7), (2, .long v_251), (0, .ref h0), (1, .int 64)]) E.1 E.2.1 d_Cursor_signed_15 hl (by decide) rfl (fun ls hl => ?_)
    refine lv_lload_n E.1 E.2.1 d_Cursor_signed_17 rfl (lv_at hl 2 rfl) ?_
    refine lv_iload E.1 E.2.1 d_Cursor_signed_18 (lv_at hl 0 rfl) ?_
    refine lv_bipush (v := 127) E.1 E.2.1 d_Cursor_signed_20 (by decide) ?_
    refine lv_iand E.1 E.2.1 d_Cursor_signed_22 ?_
    refine lv_topi (fun v_256 ev_256 => ?_)
    refine lv_i2l (v := (v_256 : Int32).toInt64) E.1 E.2.1 d_Cursor_signed_23 rfl ?_
    refine lv_iload E.1 E.2.1 d_Cursor_signed_24 (lv_at hl 1 rfl) ?_
    obtain ⟨v_257, ev_257⟩ : ∃ z : Int64, z = ((v_256 : Int32).toInt64) <<< ((7 : Int32).toInt64 &&& 63) := ⟨_, rfl⟩
    refine lv_lshl (v := v_257) E.1 E.2.1 d_Cursor_signed_26 ev_257.symm ?_
    refine lv_lor E.1 E.2.1 d_Cursor_signed_27 ?_
    refine lv_topl (fun v_258 ev_258 => ?_)
    refine lv_lstore_n (lv' := [(2, .long v_258), (5, .int r_255), (4, .int 7), (0, .ref h0), (1, .int 64)]) E.1 E.2.1 d_Cursor_signed_28 rfl hl (by decide) rfl (fun ls hl => ?_)
    refine lv_iload E.1 E.2.1 d_Cursor_signed_29 (lv_at hl 1 rfl) ?_
    refine lv_sipush (v := 128) E.1 E.2.1 d_Cursor_signed_31 (by decide) ?_
    refine lv_icmp_ge (tgt := 51) E.1 E.2.1 d_Cursor_signed_34 (by decide) (fun hc_259 => ?_) (fun hc_259 => ?_)
    ·
      refine lv_iinc (v := 14) (lv' := [(4, .int 14), (2, .long v_258), (5, .int r_255), (0, .ref h0), (1, .int 64)]) E.1 E.2.1 d_Cursor_signed_51 hl (k := 2) rfl (by decide) (by decide) rfl (fun ls hl => ?_)
      refine lv_goto (tgt := 5) E.1 E.2.1 d_Cursor_signed_54 (by decide) ?_
      refine lv_iload E.1 E.2.1 d_Cursor_signed_5 (lv_at hl 0 rfl) ?_
      refine lv_iload_n E.1 E.2.1 d_Cursor_signed_7 rfl (lv_at hl 4 rfl) ?_
      refine lv_icmp_ge (tgt := 57) E.1 E.2.1 d_Cursor_signed_8 (by decide) (fun hc => absurd hc (by decide)) (fun _ => ?_)
      refine lv_aload_n E.1 E.2.1 d_Cursor_signed_11 rfl (lv_at hl 3 rfl) ?_
      have hPc := hP.sub (ws' := [(h0, .inr (1, [.ref qb, .int ln, .int pos2_253, .int lim, .int ml2_254])), (qb, .inl (cB, 4000, .inl f))]) [0, 1] rfl
      have hDc := hD.sub (ws' := [(h0, .inr (1, [.ref qb, .int ln, .int pos2_253, .int lim, .int ml2_254])), (qb, .inl (cB, 4000, .inl f))]) [0, 1] (by decide) rfl
      have hFc := va_free (wc := [(h0, .inr (1, [.ref qb, .int ln, .int pos2_253, .int lim, .int ml2_254])), (qb, .inl (cB, 4000, .inl f))]) hD hS hA [0, 1] rfl
      refine x_ri (ws := [(h0, .inr (1, [.ref qb, .int ln, .int pos2_253, .int lim, .int ml2_254])), (qb, .inl (cB, 4000, .inl f))]) (wc := [(h0, .inr (1, [.ref qb, .int ln, .int pos2_253, .int lim, .int ml2_254])), (qb, .inl (cB, 4000, .inl f))]) (wr := []) (x_V (As := []) (C := "WasmReader$Cursor") E (c_Cursor_nextByteG l D cB cI cJ cZ H.size h0 qb ln pos2_253 lim ml2_254 f ) m_171 m_94 m_170 m_172 m_173 nm_Cursor_nextByte hPc hDc hZ hS hFc rfl rfl rfl hl.1 rfl (Nat.le_of_ble_eq_true rfl) d_Cursor_signed_12 rfl rfl (by decide) (by decide) (by decide) (by decide)) hP hD hS hA [0, 1] [] rfl rfl (by decide) (by decide) (fun r_262 u H locs hw hP hD hS => ?_)
      obtain ⟨pos2_260, ml2_261, rfl⟩ := hw
      have hP : va_P D classes [(h0, .inr (1, [.ref qb, .int ln, .int pos2_260, .int lim, .int ml2_261])), (qb, .inl (cB, 4000, .inl f))] H := hP
      have hD : va_D (va_A [(h0, .inr (1, [.ref qb, .int ln, .int pos, .int lim, .int ml])), (qb, .inl (cB, 4000, .inl f))] s.heap.size) [(h0, .inr (1, [.ref qb, .int ln, .int pos2_260, .int lim, .int ml2_261])), (qb, .inl (cB, 4000, .inl f))] := hD
      refine lv_istore (lv' := [(5, .int r_262), (4, .int 14), (2, .long v_258), (0, .ref h0), (1, .int 64)]) E.1 E.2.1 d_Cursor_signed_15 hl (by decide) rfl (fun ls hl => ?_)
      refine lv_lload_n E.1 E.2.1 d_Cursor_signed_17 rfl (lv_at hl 2 rfl) ?_
      refine lv_iload E.1 E.2.1 d_Cursor_signed_18 (lv_at hl 0 rfl) ?_
      refine lv_bipush (v := 127) E.1 E.2.1 d_Cursor_signed_20 (by decide) ?_
      refine lv_iand E.1 E.2.1 d_Cursor_signed_22 ?_
      refine lv_topi (fun v_263 ev_263 => ?_)
      refine lv_i2l (v := (v_263 : Int32).toInt64) E.1 E.2.1 d_Cursor_signed_23 rfl ?_
      refine lv_iload E.1 E.2.1 d_Cursor_signed_24 (lv_at hl 1 rfl) ?_
      obtain ⟨v_264, ev_264⟩ : ∃ z : Int64, z = ((v_263 : Int32).toInt64) <<< ((14 : Int32).toInt64 &&& 63) := ⟨_, rfl⟩
      refine lv_lshl (v := v_264) E.1 E.2.1 d_Cursor_signed_26 ev_264.symm ?_
      refine lv_lor E.1 E.2.1 d_Cursor_signed_27 ?_
      refine lv_topl (fun v_265 ev_265 => ?_)
      refine lv_lstore_n (lv' := [(2, .long v_265), (5, .int r_262), (4, .int 14), (0, .ref h0), (1, .int 64)]) E.1 E.2.1 d_Cursor_signed_28 rfl hl (by decide) rfl (fun ls hl => ?_)
      refine lv_iload E.1 E.2.1 d_Cursor_signed_29 (lv_at hl 1 rfl) ?_
      refine lv_sipush (v := 128) E.1 E.2.1 d_Cursor_signed_31 (by decide) ?_
      refine lv_icmp_ge (tgt := 51) E.1 E.2.1 d_Cursor_signed_34 (by decide) (fun hc_266 => ?_) (fun hc_266 => ?_)
      ·
        refine lv_iinc (v := 21) (lv' := [(4, .int 21), (2, .long v_265), (5, .int r_262), (0, .ref h0), (1, .int 64)]) E.1 E.2.1 d_Cursor_signed_51 hl (k := 2) rfl (by decide) (by decide) rfl (fun ls hl => ?_)
        refine lv_goto (tgt := 5) E.1 E.2.1 d_Cursor_signed_54 (by decide) ?_
        refine lv_iload E.1 E.2.1 d_Cursor_signed_5 (lv_at hl 0 rfl) ?_
        refine lv_iload_n E.1 E.2.1 d_Cursor_signed_7 rfl (lv_at hl 4 rfl) ?_
        refine lv_icmp_ge (tgt := 57) E.1 E.2.1 d_Cursor_signed_8 (by decide) (fun hc => absurd hc (by decide)) (fun _ => ?_)
        refine lv_aload_n E.1 E.2.1 d_Cursor_signed_11 rfl (lv_at hl 3 rfl) ?_
        have hPc := hP.sub (ws' := [(h0, .inr (1, [.ref qb, .int ln, .int pos2_260, .int lim, .int ml2_261])), (qb, .inl (cB, 4000, .inl f))]) [0, 1] rfl
        have hDc := hD.sub (ws' := [(h0, .inr (1, [.ref qb, .int ln, .int pos2_260, .int lim, .int ml2_261])), (qb, .inl (cB, 4000, .inl f))]) [0, 1] (by decide) rfl
        have hFc := va_free (wc := [(h0, .inr (1, [.ref qb, .int ln, .int pos2_260, .int lim, .int ml2_261])), (qb, .inl (cB, 4000, .inl f))]) hD hS hA [0, 1] rfl
        refine x_ri (ws := [(h0, .inr (1, [.ref qb, .int ln, .int pos2_260, .int lim, .int ml2_261])), (qb, .inl (cB, 4000, .inl f))]) (wc := [(h0, .inr (1, [.ref qb, .int ln, .int pos2_260, .int lim, .int ml2_261])), (qb, .inl (cB, 4000, .inl f))]) (wr := []) (x_V (As := []) (C := "WasmReader$Cursor") E (c_Cursor_nextByteG l D cB cI cJ cZ H.size h0 qb ln pos2_260 lim ml2_261 f ) m_171 m_94 m_170 m_172 m_173 nm_Cursor_nextByte hPc hDc hZ hS hFc rfl rfl rfl hl.1 rfl (Nat.le_of_ble_eq_true rfl) d_Cursor_signed_12 rfl rfl (by decide) (by decide) (by decide) (by decide)) hP hD hS hA [0, 1] [] rfl rfl (by decide) (by decide) (fun r_269 u H locs hw hP hD hS => ?_)
        obtain ⟨pos2_267, ml2_268, rfl⟩ := hw
        have hP : va_P D classes [(h0, .inr (1, [.ref qb, .int ln, .int pos2_267, .int lim, .int ml2_268])), (qb, .inl (cB, 4000, .inl f))] H := hP
        have hD : va_D (va_A [(h0, .inr (1, [.ref qb, .int ln, .int pos, .int lim, .int ml])), (qb, .inl (cB, 4000, .inl f))] s.heap.size) [(h0, .inr (1, [.ref qb, .int ln, .int pos2_267, .int lim, .int ml2_268])), (qb, .inl (cB, 4000, .inl f))] := hD
        refine lv_istore (lv' := [(5, .int r_269), (4, .int 21), (2, .long v_265), (0, .ref h0), (1, .int 64)]) E.1 E.2.1 d_Cursor_signed_15 hl (by decide) rfl (fun ls hl => ?_)
        refine lv_lload_n E.1 E.2.1 d_Cursor_signed_17 rfl (lv_at hl 2 rfl) ?_
        refine lv_iload E.1 E.2.1 d_Cursor_signed_18 (lv_at hl 0 rfl) ?_
        refine lv_bipush (v := 127) E.1 E.2.1 d_Cursor_signed_20 (by decide) ?_
        refine lv_iand E.1 E.2.1 d_Cursor_signed_22 ?_
        refine lv_topi (fun v_270 ev_270 => ?_)
        refine lv_i2l (v := (v_270 : Int32).toInt64) E.1 E.2.1 d_Cursor_signed_23 rfl ?_
        refine lv_iload E.1 E.2.1 d_Cursor_signed_24 (lv_at hl 1 rfl) ?_
        obtain ⟨v_271, ev_271⟩ : ∃ z : Int64, z = ((v_270 : Int32).toInt64) <<< ((21 : Int32).toInt64 &&& 63) := ⟨_, rfl⟩
        refine lv_lshl (v := v_271) E.1 E.2.1 d_Cursor_signed_26 ev_271.symm ?_
        refine lv_lor E.1 E.2.1 d_Cursor_signed_27 ?_
        refine lv_topl (fun v_272 ev_272 => ?_)
        refine lv_lstore_n (lv' := [(2, .long v_272), (5, .int r_269), (4, .int 21), (0, .ref h0), (1, .int 64)]) E.1 E.2.1 d_Cursor_signed_28 rfl hl (by decide) rfl (fun ls hl => ?_)
        refine lv_iload E.1 E.2.1 d_Cursor_signed_29 (lv_at hl 1 rfl) ?_
        refine lv_sipush (v := 128) E.1 E.2.1 d_Cursor_signed_31 (by decide) ?_
        refine lv_icmp_ge (tgt := 51) E.1 E.2.1 d_Cursor_signed_34 (by decide) (fun hc_273 => ?_) (fun hc_273 => ?_)
        ·
          refine lv_iinc (v := 28) (lv' := [(4, .int 28), (2, .long v_272), (5, .int r_269), (0, .ref h0), (1, .int 64)]) E.1 E.2.1 d_Cursor_signed_51 hl (k := 2) rfl (by decide) (by decide) rfl (fun ls hl => ?_)
          refine lv_goto (tgt := 5) E.1 E.2.1 d_Cursor_signed_54 (by decide) ?_
          refine lv_iload E.1 E.2.1 d_Cursor_signed_5 (lv_at hl 0 rfl) ?_
          refine lv_iload_n E.1 E.2.1 d_Cursor_signed_7 rfl (lv_at hl 4 rfl) ?_
          refine lv_icmp_ge (tgt := 57) E.1 E.2.1 d_Cursor_signed_8 (by decide) (fun hc => absurd hc (by decide)) (fun _ => ?_)
          refine lv_aload_n E.1 E.2.1 d_Cursor_signed_11 rfl (lv_at hl 3 rfl) ?_
          have hPc := hP.sub (ws' := [(h0, .inr (1, [.ref qb, .int ln, .int pos2_267, .int lim, .int ml2_268])), (qb, .inl (cB, 4000, .inl f))]) [0, 1] rfl
          have hDc := hD.sub (ws' := [(h0, .inr (1, [.ref qb, .int ln, .int pos2_267, .int lim, .int ml2_268])), (qb, .inl (cB, 4000, .inl f))]) [0, 1] (by decide) rfl
          have hFc := va_free (wc := [(h0, .inr (1, [.ref qb, .int ln, .int pos2_267, .int lim, .int ml2_268])), (qb, .inl (cB, 4000, .inl f))]) hD hS hA [0, 1] rfl
          refine x_ri (ws := [(h0, .inr (1, [.ref qb, .int ln, .int pos2_267, .int lim, .int ml2_268])), (qb, .inl (cB, 4000, .inl f))]) (wc := [(h0, .inr (1, [.ref qb, .int ln, .int pos2_267, .int lim, .int ml2_268])), (qb, .inl (cB, 4000, .inl f))]) (wr := []) (x_V (As := []) (C := "WasmReader$Cursor") E (c_Cursor_nextByteG l D cB cI cJ cZ H.size h0 qb ln pos2_267 lim ml2_268 f ) m_171 m_94 m_170 m_172 m_173 nm_Cursor_nextByte hPc hDc hZ hS hFc rfl rfl rfl hl.1 rfl (Nat.le_of_ble_eq_true rfl) d_Cursor_signed_12 rfl rfl (by decide) (by decide) (by decide) (by decide)) hP hD hS hA [0, 1] [] rfl rfl (by decide) (by decide) (fun r_276 u H locs hw hP hD hS => ?_)
          obtain ⟨pos2_274, ml2_275, rfl⟩ := hw
          have hP : va_P D classes [(h0, .inr (1, [.ref qb, .int ln, .int pos2_274, .int lim, .int ml2_275])), (qb, .inl (cB, 4000, .inl f))] H := hP
          have hD : va_D (va_A [(h0, .inr (1, [.ref qb, .int ln, .int pos, .int lim, .int ml])), (qb, .inl (cB, 4000, .inl f))] s.heap.size) [(h0, .inr (1, [.ref qb, .int ln, .int pos2_274, .int lim, .int ml2_275])), (qb, .inl (cB, 4000, .inl f))] := hD
          refine lv_istore (lv' := [(5, .int r_276), (4, .int 28), (2, .long v_272), (0, .ref h0), (1, .int 64)]) E.1 E.2.1 d_Cursor_signed_15 hl (by decide) rfl (fun ls hl => ?_)
          refine lv_lload_n E.1 E.2.1 d_Cursor_signed_17 rfl (lv_at hl 2 rfl) ?_
          refine lv_iload E.1 E.2.1 d_Cursor_signed_18 (lv_at hl 0 rfl) ?_
          refine lv_bipush (v := 127) E.1 E.2.1 d_Cursor_signed_20 (by decide) ?_
          refine lv_iand E.1 E.2.1 d_Cursor_signed_22 ?_
          refine lv_topi (fun v_277 ev_277 => ?_)
          refine lv_i2l (v := (v_277 : Int32).toInt64) E.1 E.2.1 d_Cursor_signed_23 rfl ?_
          refine lv_iload E.1 E.2.1 d_Cursor_signed_24 (lv_at hl 1 rfl) ?_
          obtain ⟨v_278, ev_278⟩ : ∃ z : Int64, z = ((v_277 : Int32).toInt64) <<< ((28 : Int32).toInt64 &&& 63) := ⟨_, rfl⟩
          refine lv_lshl (v := v_278) E.1 E.2.1 d_Cursor_signed_26 ev_278.symm ?_
          refine lv_lor E.1 E.2.1 d_Cursor_signed_27 ?_
          refine lv_topl (fun v_279 ev_279 => ?_)
          refine lv_lstore_n (lv' := [(2, .long v_279), (5, .int r_276), (4, .int 28), (0, .ref h0), (1, .int 64)]) E.1 E.2.1 d_Cursor_signed_28 rfl hl (by decide) rfl (fun ls hl => ?_)
          refine lv_iload E.1 E.2.1 d_Cursor_signed_29 (lv_at hl 1 rfl) ?_
          refine lv_sipush (v := 128) E.1 E.2.1 d_Cursor_signed_31 (by decide) ?_
          refine lv_icmp_ge (tgt := 51) E.1 E.2.1 d_Cursor_signed_34 (by decide) (fun hc_280 => ?_) (fun hc_280 => ?_)
          ·
            refine lv_iinc (v := 35) (lv' := [(4, .int 35), (2, .long v_279), (5, .int r_276), (0, .ref h0), (1, .int 64)]) E.1 E.2.1 d_Cursor_signed_51 hl (k := 2) rfl (by decide) (by decide) rfl (fun ls hl => ?_)
            refine lv_goto (tgt := 5) E.1 E.2.1 d_Cursor_signed_54 (by decide) ?_
            refine lv_iload E.1 E.2.1 d_Cursor_signed_5 (lv_at hl 0 rfl) ?_
            refine lv_iload_n E.1 E.2.1 d_Cursor_signed_7 rfl (lv_at hl 4 rfl) ?_
            refine lv_icmp_ge (tgt := 57) E.1 E.2.1 d_Cursor_signed_8 (by decide) (fun hc => absurd hc (by decide)) (fun _ => ?_)
            refine lv_aload_n E.1 E.2.1 d_Cursor_signed_11 rfl (lv_at hl 3 rfl) ?_
            have hPc := hP.sub (ws' := [(h0, .inr (1, [.ref qb, .int ln, .int pos2_274, .int lim, .int ml2_275])), (qb, .inl (cB, 4000, .inl f))]) [0, 1] rfl
            have hDc := hD.sub (ws' := [(h0, .inr (1, [.ref qb, .int ln, .int pos2_274, .int lim, .int ml2_275])), (qb, .inl (cB, 4000, .inl f))]) [0, 1] (by decide) rfl
            have hFc := va_free (wc := [(h0, .inr (1, [.ref qb, .int ln, .int pos2_274, .int lim, .int ml2_275])), (qb, .inl (cB, 4000, .inl f))]) hD hS hA [0, 1] rfl
            refine x_ri (ws := [(h0, .inr (1, [.ref qb, .int ln, .int pos2_274, .int lim, .int ml2_275])), (qb, .inl (cB, 4000, .inl f))]) (wc := [(h0, .inr (1, [.ref qb, .int ln, .int pos2_274, .int lim, .int ml2_275])), (qb, .inl (cB, 4000, .inl f))]) (wr := []) (x_V (As := []) (C := "WasmReader$Cursor") E (c_Cursor_nextByteG l D cB cI cJ cZ H.size h0 qb ln pos2_274 lim ml2_275 f ) m_171 m_94 m_170 m_172 m_173 nm_Cursor_nextByte hPc hDc hZ hS hFc rfl rfl rfl hl.1 rfl (Nat.le_of_ble_eq_true rfl) d_Cursor_signed_12 rfl rfl (by decide) (by decide) (by decide) (by decide)) hP hD hS hA [0, 1] [] rfl rfl (by decide) (by decide) (fun r_283 u H locs hw hP hD hS => ?_)
            obtain ⟨pos2_281, ml2_282, rfl⟩ := hw
            have hP : va_P D classes [(h0, .inr (1, [.ref qb, .int ln, .int pos2_281, .int lim, .int ml2_282])), (qb, .inl (cB, 4000, .inl f))] H := hP
            have hD : va_D (va_A [(h0, .inr (1, [.ref qb, .int ln, .int pos, .int lim, .int ml])), (qb, .inl (cB, 4000, .inl f))] s.heap.size) [(h0, .inr (1, [.ref qb, .int ln, .int pos2_281, .int lim, .int ml2_282])), (qb, .inl (cB, 4000, .inl f))] := hD
            refine lv_istore (lv' := [(5, .int r_283), (4, .int 35), (2, .long v_279), (0, .ref h0), (1, .int 64)]) E.1 E.2.1 d_Cursor_signed_15 hl (by decide) rfl (fun ls hl => ?_)
            refine lv_lload_n E.1 E.2.1 d_Cursor_signed_17 rfl (lv_at hl 2 rfl) ?_
            refine lv_iload E.1 E.2.1 d_Cursor_signed_18 (lv_at hl 0 rfl) ?_
            refine lv_bipush (v := 127) E.1 E.2.1 d_Cursor_signed_20 (by decide) ?_
            refine lv_iand E.1 E.2.1 d_Cursor_signed_22 ?_
            refine lv_topi (fun v_284 ev_284 => ?_)
            refine lv_i2l (v := (v_284 : Int32).toInt64) E.1 E.2.1 d_Cursor_signed_23 rfl ?_
            refine lv_iload E.1 E.2.1 d_Cursor_signed_24 (lv_at hl 1 rfl) ?_
            obtain ⟨v_285, ev_285⟩ : ∃ z : Int64, z = ((v_284 : Int32).toInt64) <<< ((35 : Int32).toInt64 &&& 63) := ⟨_, rfl⟩
            refine lv_lshl (v := v_285) E.1 E.2.1 d_Cursor_signed_26 ev_285.symm ?_
            refine lv_lor E.1 E.2.1 d_Cursor_signed_27 ?_
            refine lv_topl (fun v_286 ev_286 => ?_)
            refine lv_lstore_n (lv' := [(2, .long v_286), (5, .int r_283), (4, .int 35), (0, .ref h0), (1, .int 64)]) E.1 E.2.1 d_Cursor_signed_28 rfl hl (by decide) rfl (fun ls hl => ?_)
            refine lv_iload E.1 E.2.1 d_Cursor_signed_29 (lv_at hl 1 rfl) ?_
            refine lv_sipush (v := 128) E.1 E.2.1 d_Cursor_signed_31 (by decide) ?_
            refine lv_icmp_ge (tgt := 51) E.1 E.2.1 d_Cursor_signed_34 (by decide) (fun hc_287 => ?_) (fun hc_287 => ?_)
            ·
              refine lv_iinc (v := 42) (lv' := [(4, .int 42), (2, .long v_286), (5, .int r_283), (0, .ref h0), (1, .int 64)]) E.1 E.2.1 d_Cursor_signed_51 hl (k := 2) rfl (by decide) (by decide) rfl (fun ls hl => ?_)
              refine lv_goto (tgt := 5) E.1 E.2.1 d_Cursor_signed_54 (by decide) ?_
              refine lv_iload E.1 E.2.1 d_Cursor_signed_5 (lv_at hl 0 rfl) ?_
              refine lv_iload_n E.1 E.2.1 d_Cursor_signed_7 rfl (lv_at hl 4 rfl) ?_
              refine lv_icmp_ge (tgt := 57) E.1 E.2.1 d_Cursor_signed_8 (by decide) (fun hc => absurd hc (by decide)) (fun _ => ?_)
              refine lv_aload_n E.1 E.2.1 d_Cursor_signed_11 rfl (lv_at hl 3 rfl) ?_
              have hPc := hP.sub (ws' := [(h0, .inr (1, [.ref qb, .int ln, .int pos2_281, .int lim, .int ml2_282])), (qb, .inl (cB, 4000, .inl f))]) [0, 1] rfl
              have hDc := hD.sub (ws' := [(h0, .inr (1, [.ref qb, .int ln, .int pos2_281, .int lim, .int ml2_282])), (qb, .inl (cB, 4000, .inl f))]) [0, 1] (by decide) rfl
              have hFc := va_free (wc := [(h0, .inr (1, [.ref qb, .int ln, .int pos2_281, .int lim, .int ml2_282])), (qb, .inl (cB, 4000, .inl f))]) hD hS hA [0, 1] rfl
              refine x_ri (ws := [(h0, .inr (1, [.ref qb, .int ln, .int pos2_281, .int lim, .int ml2_282])), (qb, .inl (cB, 4000, .inl f))]) (wc := [(h0, .inr (1, [.ref qb, .int ln, .int pos2_281, .int lim, .int ml2_282])), (qb, .inl (cB, 4000, .inl f))]) (wr := []) (x_V (As := []) (C := "WasmReader$Cursor") E (c_Cursor_nextByteG l D cB cI cJ cZ H.size h0 qb ln pos2_281 lim ml2_282 f ) m_171 m_94 m_170 m_172 m_173 nm_Cursor_nextByte hPc hDc hZ hS hFc rfl rfl rfl hl.1 rfl (Nat.le_of_ble_eq_true rfl) d_Cursor_signed_12 rfl rfl (by decide) (by decide) (by decide) (by decide)) hP hD hS hA [0, 1] [] rfl rfl (by decide) (by decide) (fun r_290 u H locs hw hP hD hS => ?_)
              obtain ⟨pos2_288, ml2_289, rfl⟩ := hw
              have hP : va_P D classes [(h0, .inr (1, [.ref qb, .int ln, .int pos2_288, .int lim, .int ml2_289])), (qb, .inl (cB, 4000, .inl f))] H := hP
              have hD : va_D (va_A [(h0, .inr (1, [.ref qb, .int ln, .int pos, .int lim, .int ml])), (qb, .inl (cB, 4000, .inl f))] s.heap.size) [(h0, .inr (1, [.ref qb, .int ln, .int pos2_288, .int lim, .int ml2_289])), (qb, .inl (cB, 4000, .inl f))] := hD
              refine lv_istore (lv' := [(5, .int r_290), (4, .int 42), (2, .long v_286), (0, .ref h0), (1, .int 64)]) E.1 E.2.1 d_Cursor_signed_15 hl (by decide) rfl (fun ls hl => ?_)
              refine lv_lload_n E.1 E.2.1 d_Cursor_signed_17 rfl (lv_at hl 2 rfl) ?_
              refine lv_iload E.1 E.2.1 d_Cursor_signed_18 (lv_at hl 0 rfl) ?_
              refine lv_bipush (v := 127) E.1 E.2.1 d_Cursor_signed_20 (by decide) ?_
              refine lv_iand E.1 E.2.1 d_Cursor_signed_22 ?_
              refine lv_topi (fun v_291 ev_291 => ?_)
              refine lv_i2l (v := (v_291 : Int32).toInt64) E.1 E.2.1 d_Cursor_signed_23 rfl ?_
              refine lv_iload E.1 E.2.1 d_Cursor_signed_24 (lv_at hl 1 rfl) ?_
              obtain ⟨v_292, ev_292⟩ : ∃ z : Int64, z = ((v_291 : Int32).toInt64) <<< ((42 : Int32).toInt64 &&& 63) := ⟨_, rfl⟩
              refine lv_lshl (v := v_292) E.1 E.2.1 d_Cursor_signed_26 ev_292.symm ?_
              refine lv_lor E.1 E.2.1 d_Cursor_signed_27 ?_
              refine lv_topl (fun v_293 ev_293 => ?_)
              refine lv_lstore_n (lv' := [(2, .long v_293), (5, .int r_290), (4, .int 42), (0, .ref h0), (1, .int 64)]) E.1 E.2.1 d_Cursor_signed_28 rfl hl (by decide) rfl (fun ls hl => ?_)
              refine lv_iload E.1 E.2.1 d_Cursor_signed_29 (lv_at hl 1 rfl) ?_
              refine lv_sipush (v := 128) E.1 E.2.1 d_Cursor_signed_31 (by decide) ?_
              refine lv_icmp_ge (tgt := 51) E.1 E.2.1 d_Cursor_signed_34 (by decide) (fun hc_294 => ?_) (fun hc_294 => ?_)
              ·
                refine lv_iinc (v := 49) (lv' := [(4, .int 49), (2, .long v_293), (5, .int r_290), (0, .ref h0), (1, .int 64)]) E.1 E.2.1 d_Cursor_signed_51 hl (k := 2) rfl (by decide) (by decide) rfl (fun ls hl => ?_)
                refine lv_goto (tgt := 5) E.1 E.2.1 d_Cursor_signed_54 (by decide) ?_
                refine lv_iload E.1 E.2.1 d_Cursor_signed_5 (lv_at hl 0 rfl) ?_
                refine lv_iload_n E.1 E.2.1 d_Cursor_signed_7 rfl (lv_at hl 4 rfl) ?_
                refine lv_icmp_ge (tgt := 57) E.1 E.2.1 d_Cursor_signed_8 (by decide) (fun hc => absurd hc (by decide)) (fun _ => ?_)
                refine lv_aload_n E.1 E.2.1 d_Cursor_signed_11 rfl (lv_at hl 3 rfl) ?_
                have hPc := hP.sub (ws' := [(h0, .inr (1, [.ref qb, .int ln, .int pos2_288, .int lim, .int ml2_289])), (qb, .inl (cB, 4000, .inl f))]) [0, 1] rfl
                have hDc := hD.sub (ws' := [(h0, .inr (1, [.ref qb, .int ln, .int pos2_288, .int lim, .int ml2_289])), (qb, .inl (cB, 4000, .inl f))]) [0, 1] (by decide) rfl
                have hFc := va_free (wc := [(h0, .inr (1, [.ref qb, .int ln, .int pos2_288, .int lim, .int ml2_289])), (qb, .inl (cB, 4000, .inl f))]) hD hS hA [0, 1] rfl
                refine x_ri (ws := [(h0, .inr (1, [.ref qb, .int ln, .int pos2_288, .int lim, .int ml2_289])), (qb, .inl (cB, 4000, .inl f))]) (wc := [(h0, .inr (1, [.ref qb, .int ln, .int pos2_288, .int lim, .int ml2_289])), (qb, .inl (cB, 4000, .inl f))]) (wr := []) (x_V (As := []) (C := "WasmReader$Cursor") E (c_Cursor_nextByteG l D cB cI cJ cZ H.size h0 qb ln pos2_288 lim ml2_289 f ) m_171 m_94 m_170 m_172 m_173 nm_Cursor_nextByte hPc hDc hZ hS hFc rfl rfl rfl hl.1 rfl (Nat.le_of_ble_eq_true rfl) d_Cursor_signed_12 rfl rfl (by decide) (by decide) (by decide) (by decide)) hP hD hS hA [0, 1] [] rfl rfl (by decide) (by decide) (fun r_297 u H locs hw hP hD hS => ?_)
                obtain ⟨pos2_295, ml2_296, rfl⟩ := hw
                have hP : va_P D classes [(h0, .inr (1, [.ref qb, .int ln, .int pos2_295, .int lim, .int ml2_296])), (qb, .inl (cB, 4000, .inl f))] H := hP
                have hD : va_D (va_A [(h0, .inr (1, [.ref qb, .int ln, .int pos, .int lim, .int ml])), (qb, .inl (cB, 4000, .inl f))] s.heap.size) [(h0, .inr (1, [.ref qb, .int ln, .int pos2_295, .int lim, .int ml2_296])), (qb, .inl (cB, 4000, .inl f))] := hD
                refine lv_istore (lv' := [(5, .int r_297), (4, .int 49), (2, .long v_293), (0, .ref h0), (1, .int 64)]) E.1 E.2.1 d_Cursor_signed_15 hl (by decide) rfl (fun ls hl => ?_)
                refine lv_lload_n E.1 E.2.1 d_Cursor_signed_17 rfl (lv_at hl 2 rfl) ?_
                refine lv_iload E.1 E.2.1 d_Cursor_signed_18 (lv_at hl 0 rfl) ?_
                refine lv_bipush (v := 127) E.1 E.2.1 d_Cursor_signed_20 (by decide) ?_
                refine lv_iand E.1 E.2.1 d_Cursor_signed_22 ?_
                refine lv_topi (fun v_298 ev_298 => ?_)
                refine lv_i2l (v := (v_298 : Int32).toInt64) E.1 E.2.1 d_Cursor_signed_23 rfl ?_
                refine lv_iload E.1 E.2.1 d_Cursor_signed_24 (lv_at hl 1 rfl) ?_
                obtain ⟨v_299, ev_299⟩ : ∃ z : Int64, z = ((v_298 : Int32).toInt64) <<< ((49 : Int32).toInt64 &&& 63) := ⟨_, rfl⟩
                refine lv_lshl (v := v_299) E.1 E.2.1 d_Cursor_signed_26 ev_299.symm ?_
                refine lv_lor E.1 E.2.1 d_Cursor_signed_27 ?_
                refine lv_topl (fun v_300 ev_300 => ?_)
                refine lv_lstore_n (lv' := [(2, .long v_300), (5, .int r_297), (4, .int 49), (0, .ref h0), (1, .int 64)]) E.1 E.2.1 d_Cursor_signed_28 rfl hl (by decide) rfl (fun ls hl => ?_)
                refine lv_iload E.1 E.2.1 d_Cursor_signed_29 (lv_at hl 1 rfl) ?_
                refine lv_sipush (v := 128) E.1 E.2.1 d_Cursor_signed_31 (by decide) ?_
                refine lv_icmp_ge (tgt := 51) E.1 E.2.1 d_Cursor_signed_34 (by decide) (fun hc_301 => ?_) (fun hc_301 => ?_)
                ·
                  refine lv_iinc (v := 56) (lv' := [(4, .int 56), (2, .long v_300), (5, .int r_297), (0, .ref h0), (1, .int 64)]) E.1 E.2.1 d_Cursor_signed_51 hl (k := 2) rfl (by decide) (by decide) rfl (fun ls hl => ?_)
                  refine lv_goto (tgt := 5) E.1 E.2.1 d_Cursor_signed_54 (by decide) ?_
                  refine lv_iload E.1 E.2.1 d_Cursor_signed_5 (lv_at hl 0 rfl) ?_
                  refine lv_iload_n E.1 E.2.1 d_Cursor_signed_7 rfl (lv_at hl 4 rfl) ?_
                  refine lv_icmp_ge (tgt := 57) E.1 E.2.1 d_Cursor_signed_8 (by decide) (fun hc => absurd hc (by decide)) (fun _ => ?_)
                  refine lv_aload_n E.1 E.2.1 d_Cursor_signed_11 rfl (lv_at hl 3 rfl) ?_
                  have hPc := hP.sub (ws' := [(h0, .inr (1, [.ref qb, .int ln, .int pos2_295, .int lim, .int ml2_296])), (qb, .inl (cB, 4000, .inl f))]) [0, 1] rfl
                  have hDc := hD.sub (ws' := [(h0, .inr (1, [.ref qb, .int ln, .int pos2_295, .int lim, .int ml2_296])), (qb, .inl (cB, 4000, .inl f))]) [0, 1] (by decide) rfl
                  have hFc := va_free (wc := [(h0, .inr (1, [.ref qb, .int ln, .int pos2_295, .int lim, .int ml2_296])), (qb, .inl (cB, 4000, .inl f))]) hD hS hA [0, 1] rfl
                  refine x_ri (ws := [(h0, .inr (1, [.ref qb, .int ln, .int pos2_295, .int lim, .int ml2_296])), (qb, .inl (cB, 4000, .inl f))]) (wc := [(h0, .inr (1, [.ref qb, .int ln, .int pos2_295, .int lim, .int ml2_296])), (qb, .inl (cB, 4000, .inl f))]) (wr := []) (x_V (As := []) (C := "WasmReader$Cursor") E (c_Cursor_nextByteG l D cB cI cJ cZ H.size h0 qb ln pos2_295 lim ml2_296 f ) m_171 m_94 m_170 m_172 m_173 nm_Cursor_nextByte hPc hDc hZ hS hFc rfl rfl rfl hl.1 rfl (Nat.le_of_ble_eq_true rfl) d_Cursor_signed_12 rfl rfl (by decide) (by decide) (by decide) (by decide)) hP hD hS hA [0, 1] [] rfl rfl (by decide) (by decide) (fun r_304 u H locs hw hP hD hS => ?_)
                  obtain ⟨pos2_302, ml2_303, rfl⟩ := hw
                  have hP : va_P D classes [(h0, .inr (1, [.ref qb, .int ln, .int pos2_302, .int lim, .int ml2_303])), (qb, .inl (cB, 4000, .inl f))] H := hP
                  have hD : va_D (va_A [(h0, .inr (1, [.ref qb, .int ln, .int pos, .int lim, .int ml])), (qb, .inl (cB, 4000, .inl f))] s.heap.size) [(h0, .inr (1, [.ref qb, .int ln, .int pos2_302, .int lim, .int ml2_303])), (qb, .inl (cB, 4000, .inl f))] := hD
                  refine lv_istore (lv' := [(5, .int r_304), (4, .int 56), (2, .long v_300), (0, .ref h0), (1, .int 64)]) E.1 E.2.1 d_Cursor_signed_15 hl (by decide) rfl (fun ls hl => ?_)
                  refine lv_lload_n E.1 E.2.1 d_Cursor_signed_17 rfl (lv_at hl 2 rfl) ?_
                  refine lv_iload E.1 E.2.1 d_Cursor_signed_18 (lv_at hl 0 rfl) ?_
                  refine lv_bipush (v := 127) E.1 E.2.1 d_Cursor_signed_20 (by decide) ?_
                  refine lv_iand E.1 E.2.1 d_Cursor_signed_22 ?_
                  refine lv_topi (fun v_305 ev_305 => ?_)
                  refine lv_i2l (v := (v_305 : Int32).toInt64) E.1 E.2.1 d_Cursor_signed_23 rfl ?_
                  refine lv_iload E.1 E.2.1 d_Cursor_signed_24 (lv_at hl 1 rfl) ?_
                  obtain ⟨v_306, ev_306⟩ : ∃ z : Int64, z = ((v_305 : Int32).toInt64) <<< ((56 : Int32).toInt64 &&& 63) := ⟨_, rfl⟩
                  refine lv_lshl (v := v_306) E.1 E.2.1 d_Cursor_signed_26 ev_306.symm ?_
                  refine lv_lor E.1 E.2.1 d_Cursor_signed_27 ?_
                  refine lv_topl (fun v_307 ev_307 => ?_)
                  refine lv_lstore_n (lv' := [(2, .long v_307), (5, .int r_304), (4, .int 56), (0, .ref h0), (1, .int 64)]) E.1 E.2.1 d_Cursor_signed_28 rfl hl (by decide) rfl (fun ls hl => ?_)
                  refine lv_iload E.1 E.2.1 d_Cursor_signed_29 (lv_at hl 1 rfl) ?_
                  refine lv_sipush (v := 128) E.1 E.2.1 d_Cursor_signed_31 (by decide) ?_
                  refine lv_icmp_ge (tgt := 51) E.1 E.2.1 d_Cursor_signed_34 (by decide) (fun hc_308 => ?_) (fun hc_308 => ?_)
                  ·
                    refine lv_iinc (v := 63) (lv' := [(4, .int 63), (2, .long v_307), (5, .int r_304), (0, .ref h0), (1, .int 64)]) E.1 E.2.1 d_Cursor_signed_51 hl (k := 2) rfl (by decide) (by decide) rfl (fun ls hl => ?_)
                    refine lv_goto (tgt := 5) E.1 E.2.1 d_Cursor_signed_54 (by decide) ?_
                    refine lv_iload E.1 E.2.1 d_Cursor_signed_5 (lv_at hl 0 rfl) ?_
                    refine lv_iload_n E.1 E.2.1 d_Cursor_signed_7 rfl (lv_at hl 4 rfl) ?_
                    refine lv_icmp_ge (tgt := 57) E.1 E.2.1 d_Cursor_signed_8 (by decide) (fun hc => absurd hc (by decide)) (fun _ => ?_)
                    refine lv_aload_n E.1 E.2.1 d_Cursor_signed_11 rfl (lv_at hl 3 rfl) ?_
                    have hPc := hP.sub (ws' := [(h0, .inr (1, [.ref qb, .int ln, .int pos2_302, .int lim, .int ml2_303])), (qb, .inl (cB, 4000, .inl f))]) [0, 1] rfl
                    have hDc := hD.sub (ws' := [(h0, .inr (1, [.ref qb, .int ln, .int pos2_302, .int lim, .int ml2_303])), (qb, .inl (cB, 4000, .inl f))]) [0, 1] (by decide) rfl
                    have hFc := va_free (wc := [(h0, .inr (1, [.ref qb, .int ln, .int pos2_302, .int lim, .int ml2_303])), (qb, .inl (cB, 4000, .inl f))]) hD hS hA [0, 1] rfl
                    refine x_ri (ws := [(h0, .inr (1, [.ref qb, .int ln, .int pos2_302, .int lim, .int ml2_303])), (qb, .inl (cB, 4000, .inl f))]) (wc := [(h0, .inr (1, [.ref qb, .int ln, .int pos2_302, .int lim, .int ml2_303])), (qb, .inl (cB, 4000, .inl f))]) (wr := []) (x_V (As := []) (C := "WasmReader$Cursor") E (c_Cursor_nextByteG l D cB cI cJ cZ H.size h0 qb ln pos2_302 lim ml2_303 f ) m_171 m_94 m_170 m_172 m_173 nm_Cursor_nextByte hPc hDc hZ hS hFc rfl rfl rfl hl.1 rfl (Nat.le_of_ble_eq_true rfl) d_Cursor_signed_12 rfl rfl (by decide) (by decide) (by decide) (by decide)) hP hD hS hA [0, 1] [] rfl rfl (by decide) (by decide) (fun r_311 u H locs hw hP hD hS => ?_)
                    obtain ⟨pos2_309, ml2_310, rfl⟩ := hw
                    have hP : va_P D classes [(h0, .inr (1, [.ref qb, .int ln, .int pos2_309, .int lim, .int ml2_310])), (qb, .inl (cB, 4000, .inl f))] H := hP
                    have hD : va_D (va_A [(h0, .inr (1, [.ref qb, .int ln, .int pos, .int lim, .int ml])), (qb, .inl (cB, 4000, .inl f))] s.heap.size) [(h0, .inr (1, [.ref qb, .int ln, .int pos2_309, .int lim, .int ml2_310])), (qb, .inl (cB, 4000, .inl f))] := hD
                    refine lv_istore (lv' := [(5, .int r_311), (4, .int 63), (2, .long v_307), (0, .ref h0), (1, .int 64)]) E.1 E.2.1 d_Cursor_signed_15 hl (by decide) rfl (fun ls hl => ?_)
                    refine lv_lload_n E.1 E.2.1 d_Cursor_signed_17 rfl (lv_at hl 2 rfl) ?_
                    refine lv_iload E.1 E.2.1 d_Cursor_signed_18 (lv_at hl 0 rfl) ?_
                    refine lv_bipush (v := 127) E.1 E.2.1 d_Cursor_signed_20 (by decide) ?_
                    refine lv_iand E.1 E.2.1 d_Cursor_signed_22 ?_
                    refine lv_topi (fun v_312 ev_312 => ?_)
                    refine lv_i2l (v := (v_312 : Int32).toInt64) E.1 E.2.1 d_Cursor_signed_23 rfl ?_
                    refine lv_iload E.1 E.2.1 d_Cursor_signed_24 (lv_at hl 1 rfl) ?_
                    obtain ⟨v_313, ev_313⟩ : ∃ z : Int64, z = ((v_312 : Int32).toInt64) <<< ((63 : Int32).toInt64 &&& 63) := ⟨_, rfl⟩
                    refine lv_lshl (v := v_313) E.1 E.2.1 d_Cursor_signed_26 ev_313.symm ?_
                    refine lv_lor E.1 E.2.1 d_Cursor_signed_27 ?_
                    refine lv_topl (fun v_314 ev_314 => ?_)
                    refine lv_lstore_n (lv' := [(2, .long v_314), (5, .int r_311), (4, .int 63), (0, .ref h0), (1, .int 64)]) E.1 E.2.1 d_Cursor_signed_28 rfl hl (by decide) rfl (fun ls hl => ?_)
                    refine lv_iload E.1 E.2.1 d_Cursor_signed_29 (lv_at hl 1 rfl) ?_
                    refine lv_sipush (v := 128) E.1 E.2.1 d_Cursor_signed_31 (by decide) ?_
                    refine lv_icmp_ge (tgt := 51) E.1 E.2.1 d_Cursor_signed_34 (by decide) (fun hc_315 => ?_) (fun hc_315 => ?_)
                    ·
                      refine lv_iinc (v := 70) (lv' := [(4, .int 70), (2, .long v_314), (5, .int r_311), (0, .ref h0), (1, .int 64)]) E.1 E.2.1 d_Cursor_signed_51 hl (k := 2) rfl (by decide) (by decide) rfl (fun ls hl => ?_)
                      refine lv_goto (tgt := 5) E.1 E.2.1 d_Cursor_signed_54 (by decide) ?_
                      refine lv_iload E.1 E.2.1 d_Cursor_signed_5 (lv_at hl 0 rfl) ?_
                      refine lv_iload_n E.1 E.2.1 d_Cursor_signed_7 rfl (lv_at hl 4 rfl) ?_
                      refine lv_icmp_ge (tgt := 57) E.1 E.2.1 d_Cursor_signed_8 (by decide) (fun _ => ?_) (fun hc => absurd (by decide) hc)
                      refine lv_aload_n E.1 E.2.1 d_Cursor_signed_57 rfl (lv_at hl 3 rfl) ?_
                      have hPc := hP.sub (ws' := [(h0, .inr (1, [.ref qb, .int ln, .int pos2_309, .int lim, .int ml2_310]))]) [0] rfl
                      have hDc := hD.sub (ws' := [(h0, .inr (1, [.ref qb, .int ln, .int pos2_309, .int lim, .int ml2_310]))]) [0] (by decide) rfl
                      have hFc := va_free (wc := [(h0, .inr (1, [.ref qb, .int ln, .int pos2_309, .int lim, .int ml2_310]))]) hD hS hA [0] rfl
                      refine x_rv (ws := [(h0, .inr (1, [.ref qb, .int ln, .int pos2_309, .int lim, .int ml2_310])), (qb, .inl (cB, 4000, .inl f))]) (wc := [(h0, .inr (1, [.ref qb, .int ln, .int pos2_309, .int lim, .int ml2_310]))]) (wr := [(qb, .inl (cB, 4000, .inl f))]) (x_V (As := []) (C := "WasmReader$Cursor") E (c_Cursor_fail l D cB cI cJ cZ H.size h0 qb ln pos2_309 lim ml2_310 ) m_175 m_94 m_174 m_176 m_177 nm_Cursor_fail hPc hDc hZ hS hFc rfl rfl rfl hl.1 rfl (Nat.le_of_ble_eq_true rfl) d_Cursor_signed_58 rfl rfl (by decide) (by decide) (by decide) (by decide)) hP hD hS hA [0] [1] rfl rfl (by decide) (by decide) (fun u H locs hw hP hD hS => ?_)
                      obtain rfl := hw
                      have hP : va_P D classes [(qb, .inl (cB, 4000, .inl f)), (h0, .inr (1, [.ref qb, .int ln, .int pos2_309, .int lim, .int 1]))] H := hP
                      have hD : va_D (va_A [(h0, .inr (1, [.ref qb, .int ln, .int pos, .int lim, .int ml])), (qb, .inl (cB, 4000, .inl f))] s.heap.size) [(qb, .inl (cB, 4000, .inl f)), (h0, .inr (1, [.ref qb, .int ln, .int pos2_309, .int lim, .int 1]))] := hD
                      refine lv_lconst (v := 0) E.1 E.2.1 d_Cursor_signed_61 (by decide) ?_
                      refine W.widen (k := 0) (n := 0) (by decide) (by decide) ?_
                      exact x_lret (ws := [(h0, .inr (1, [.ref qb, .int ln, .int pos2_309, .int lim, .int 1])), (qb, .inl (cB, 4000, .inl f))]) E hr hlocks (hP.sub [1, 0] rfl) (hD.sub [1, 0] (by decide) rfl) hS ⟨pos2_309, 1, rfl⟩ d_Cursor_signed_62
                    ·
                      refine lv_aload_n E.1 E.2.1 d_Cursor_signed_37 rfl (lv_at hl 3 rfl) ?_
                      refine lv_lload_n E.1 E.2.1 d_Cursor_signed_38 rfl (lv_at hl 0 rfl) ?_
                      refine lv_iload E.1 E.2.1 d_Cursor_signed_39 (lv_at hl 2 rfl) ?_
                      refine lv_bipush (v := 7) E.1 E.2.1 d_Cursor_signed_41 (by decide) ?_
                      refine lv_iadd E.1 E.2.1 d_Cursor_signed_43 ?_
                      refine lv_topi (fun vt_316 evt_316 => ?_)
                      obtain rfl : vt_316 = 70 := evt_316.trans (by decide)
                      refine lv_iload_n E.1 E.2.1 d_Cursor_signed_44 rfl (lv_at hl 4 rfl) ?_
                      refine lv_iload E.1 E.2.1 d_Cursor_signed_45 (lv_at hl 1 rfl) ?_
                      have hPc := hP.sub (ws' := [(h0, .inr (1, [.ref qb, .int ln, .int pos2_309, .int lim, .int ml2_310]))]) [0] rfl
                      have hDc := hD.sub (ws' := [(h0, .inr (1, [.ref qb, .int ln, .int pos2_309, .int lim, .int ml2_310]))]) [0] (by decide) rfl
                      have hFc := va_free (wc := [(h0, .inr (1, [.ref qb, .int ln, .int pos2_309, .int lim, .int ml2_310]))]) hD hS hA [0] rfl
                      refine x_rl (ws := [(h0, .inr (1, [.ref qb, .int ln, .int pos2_309, .int lim, .int ml2_310])), (qb, .inl (cB, 4000, .inl f))]) (wc := [(h0, .inr (1, [.ref qb, .int ln, .int pos2_309, .int lim, .int ml2_310]))]) (wr := [(qb, .inl (cB, 4000, .inl f))]) (x_V (As := [.long v_314, .int 70, .int 64, .int r_311]) (C := "WasmReader$Cursor") E (c_Cursor_withSign l D cB cI cJ cZ H.size h0 qb ln pos2_309 lim ml2_310 v_314 70 64 r_311 ) m_242 m_94 m_241 m_243 m_244 nm_Cursor_withSign hPc hDc hZ hS hFc rfl rfl rfl hl.1 rfl (Nat.le_of_ble_eq_true rfl) d_Cursor_signed_47 rfl rfl (by decide) (by decide) (by decide) (by decide)) hP hD hS hA [0] [1] rfl rfl (by decide) (by decide) (fun r_318 u H locs hw hP hD hS => ?_)
                      obtain ⟨ml2_317, rfl⟩ := hw
                      have hP : va_P D classes [(qb, .inl (cB, 4000, .inl f)), (h0, .inr (1, [.ref qb, .int ln, .int pos2_309, .int lim, .int ml2_317]))] H := hP
                      have hD : va_D (va_A [(h0, .inr (1, [.ref qb, .int ln, .int pos, .int lim, .int ml])), (qb, .inl (cB, 4000, .inl f))] s.heap.size) [(qb, .inl (cB, 4000, .inl f)), (h0, .inr (1, [.ref qb, .int ln, .int pos2_309, .int lim, .int ml2_317]))] := hD
                      refine W.widen (k := 0) (n := 0) (by decide) (by decide) ?_
                      exact x_lret (ws := [(h0, .inr (1, [.ref qb, .int ln, .int pos2_309, .int lim, .int ml2_317])), (qb, .inl (cB, 4000, .inl f))]) E hr hlocks (hP.sub [1, 0] rfl) (hD.sub [1, 0] (by decide) rfl) hS ⟨pos2_309, ml2_317, rfl⟩ d_Cursor_signed_50
                  ·
                    refine lv_aload_n E.1 E.2.1 d_Cursor_signed_37 rfl (lv_at hl 3 rfl) ?_
                    refine lv_lload_n E.1 E.2.1 d_Cursor_signed_38 rfl (lv_at hl 0 rfl) ?_
                    refine lv_iload E.1 E.2.1 d_Cursor_signed_39 (lv_at hl 2 rfl) ?_
                    refine lv_bipush (v := 7) E.1 E.2.1 d_Cursor_signed_41 (by decide) ?_
                    refine lv_iadd E.1 E.2.1 d_Cursor_signed_43 ?_
                    refine lv_topi (fun vt_319 evt_319 => ?_)
                    obtain rfl : vt_319 = 63 := evt_319.trans (by decide)
                    refine lv_iload_n E.1 E.2.1 d_Cursor_signed_44 rfl (lv_at hl 4 rfl) ?_
                    refine lv_iload E.1 E.2.1 d_Cursor_signed_45 (lv_at hl 1 rfl) ?_
                    have hPc := hP.sub (ws' := [(h0, .inr (1, [.ref qb, .int ln, .int pos2_302, .int lim, .int ml2_303]))]) [0] rfl
                    have hDc := hD.sub (ws' := [(h0, .inr (1, [.ref qb, .int ln, .int pos2_302, .int lim, .int ml2_303]))]) [0] (by decide) rfl
                    have hFc := va_free (wc := [(h0, .inr (1, [.ref qb, .int ln, .int pos2_302, .int lim, .int ml2_303]))]) hD hS hA [0] rfl
                    refine x_rl (ws := [(h0, .inr (1, [.ref qb, .int ln, .int pos2_302, .int lim, .int ml2_303])), (qb, .inl (cB, 4000, .inl f))]) (wc := [(h0, .inr (1, [.ref qb, .int ln, .int pos2_302, .int lim, .int ml2_303]))]) (wr := [(qb, .inl (cB, 4000, .inl f))]) (x_V (As := [.long v_307, .int 63, .int 64, .int r_304]) (C := "WasmReader$Cursor") E (c_Cursor_withSign l D cB cI cJ cZ H.size h0 qb ln pos2_302 lim ml2_303 v_307 63 64 r_304 ) m_242 m_94 m_241 m_243 m_244 nm_Cursor_withSign hPc hDc hZ hS hFc rfl rfl rfl hl.1 rfl (Nat.le_of_ble_eq_true rfl) d_Cursor_signed_47 rfl rfl (by decide) (by decide) (by decide) (by decide)) hP hD hS hA [0] [1] rfl rfl (by decide) (by decide) (fun r_321 u H locs hw hP hD hS => ?_)
                    obtain ⟨ml2_320, rfl⟩ := hw
                    have hP : va_P D classes [(qb, .inl (cB, 4000, .inl f)), (h0, .inr (1, [.ref qb, .int ln, .int pos2_302, .int lim, .int ml2_320]))] H := hP
                    have hD : va_D (va_A [(h0, .inr (1, [.ref qb, .int ln, .int pos, .int lim, .int ml])), (qb, .inl (cB, 4000, .inl f))] s.heap.size) [(qb, .inl (cB, 4000, .inl f)), (h0, .inr (1, [.ref qb, .int ln, .int pos2_302, .int lim, .int ml2_320]))] := hD
                    refine W.widen (k := 0) (n := 0) (by decide) (by decide) ?_
                    exact x_lret (ws := [(h0, .inr (1, [.ref qb, .int ln, .int pos2_302, .int lim, .int ml2_320])), (qb, .inl (cB, 4000, .inl f))]) E hr hlocks (hP.sub [1, 0] rfl) (hD.sub [1, 0] (by decide) rfl) hS ⟨pos2_302, ml2_320, rfl⟩ d_Cursor_signed_50
                ·
                  refine lv_aload_n E.1 E.2.1 d_Cursor_signed_37 rfl (lv_at hl 3 rfl) ?_
                  refine lv_lload_n E.1 E.2.1 d_Cursor_signed_38 rfl (lv_at hl 0 rfl) ?_
                  refine lv_iload E.1 E.2.1 d_Cursor_signed_39 (lv_at hl 2 rfl) ?_
                  refine lv_bipush (v := 7) E.1 E.2.1 d_Cursor_signed_41 (by decide) ?_
                  refine lv_iadd E.1 E.2.1 d_Cursor_signed_43 ?_
                  refine lv_topi (fun vt_322 evt_322 => ?_)
                  obtain rfl : vt_322 = 56 := evt_322.trans (by decide)
                  refine lv_iload_n E.1 E.2.1 d_Cursor_signed_44 rfl (lv_at hl 4 rfl) ?_
                  refine lv_iload E.1 E.2.1 d_Cursor_signed_45 (lv_at hl 1 rfl) ?_
                  have hPc := hP.sub (ws' := [(h0, .inr (1, [.ref qb, .int ln, .int pos2_295, .int lim, .int ml2_296]))]) [0] rfl
                  have hDc := hD.sub (ws' := [(h0, .inr (1, [.ref qb, .int ln, .int pos2_295, .int lim, .int ml2_296]))]) [0] (by decide) rfl
                  have hFc := va_free (wc := [(h0, .inr (1, [.ref qb, .int ln, .int pos2_295, .int lim, .int ml2_296]))]) hD hS hA [0] rfl
                  refine x_rl (ws := [(h0, .inr (1, [.ref qb, .int ln, .int pos2_295, .int lim, .int ml2_296])), (qb, .inl (cB, 4000, .inl f))]) (wc := [(h0, .inr (1, [.ref qb, .int ln, .int pos2_295, .int lim, .int ml2_296]))]) (wr := [(qb, .inl (cB, 4000, .inl f))]) (x_V (As := [.long v_300, .int 56, .int 64, .int r_297]) (C := "WasmReader$Cursor") E (c_Cursor_withSign l D cB cI cJ cZ H.size h0 qb ln pos2_295 lim ml2_296 v_300 56 64 r_297 ) m_242 m_94 m_241 m_243 m_244 nm_Cursor_withSign hPc hDc hZ hS hFc rfl rfl rfl hl.1 rfl (Nat.le_of_ble_eq_true rfl) d_Cursor_signed_47 rfl rfl (by decide) (by decide) (by decide) (by decide)) hP hD hS hA [0] [1] rfl rfl (by decide) (by decide) (fun r_324 u H locs hw hP hD hS => ?_)
                  obtain ⟨ml2_323, rfl⟩ := hw
                  have hP : va_P D classes [(qb, .inl (cB, 4000, .inl f)), (h0, .inr (1, [.ref qb, .int ln, .int pos2_295, .int lim, .int ml2_323]))] H := hP
                  have hD : va_D (va_A [(h0, .inr (1, [.ref qb, .int ln, .int pos, .int lim, .int ml])), (qb, .inl (cB, 4000, .inl f))] s.heap.size) [(qb, .inl (cB, 4000, .inl f)), (h0, .inr (1, [.ref qb, .int ln, .int pos2_295, .int lim, .int ml2_323]))] := hD
                  refine W.widen (k := 0) (n := 0) (by decide) (by decide) ?_
                  exact x_lret (ws := [(h0, .inr (1, [.ref qb, .int ln, .int pos2_295, .int lim, .int ml2_323])), (qb, .inl (cB, 4000, .inl f))]) E hr hlocks (hP.sub [1, 0] rfl) (hD.sub [1, 0] (by decide) rfl) hS ⟨pos2_295, ml2_323, rfl⟩ d_Cursor_signed_50
              ·
                refine lv_aload_n E.1 E.2.1 d_Cursor_signed_37 rfl (lv_at hl 3 rfl) ?_
                refine lv_lload_n E.1 E.2.1 d_Cursor_signed_38 rfl (lv_at hl 0 rfl) ?_
                refine lv_iload E.1 E.2.1 d_Cursor_signed_39 (lv_at hl 2 rfl) ?_
                refine lv_bipush (v := 7) E.1 E.2.1 d_Cursor_signed_41 (by decide) ?_
                refine lv_iadd E.1 E.2.1 d_Cursor_signed_43 ?_
                refine lv_topi (fun vt_325 evt_325 => ?_)
                obtain rfl : vt_325 = 49 := evt_325.trans (by decide)
                refine lv_iload_n E.1 E.2.1 d_Cursor_signed_44 rfl (lv_at hl 4 rfl) ?_
                refine lv_iload E.1 E.2.1 d_Cursor_signed_45 (lv_at hl 1 rfl) ?_
                have hPc := hP.sub (ws' := [(h0, .inr (1, [.ref qb, .int ln, .int pos2_288, .int lim, .int ml2_289]))]) [0] rfl
                have hDc := hD.sub (ws' := [(h0, .inr (1, [.ref qb, .int ln, .int pos2_288, .int lim, .int ml2_289]))]) [0] (by decide) rfl
                have hFc := va_free (wc := [(h0, .inr (1, [.ref qb, .int ln, .int pos2_288, .int lim, .int ml2_289]))]) hD hS hA [0] rfl
                refine x_rl (ws := [(h0, .inr (1, [.ref qb, .int ln, .int pos2_288, .int lim, .int ml2_289])), (qb, .inl (cB, 4000, .inl f))]) (wc := [(h0, .inr (1, [.ref qb, .int ln, .int pos2_288, .int lim, .int ml2_289]))]) (wr := [(qb, .inl (cB, 4000, .inl f))]) (x_V (As := [.long v_293, .int 49, .int 64, .int r_290]) (C := "WasmReader$Cursor") E (c_Cursor_withSign l D cB cI cJ cZ H.size h0 qb ln pos2_288 lim ml2_289 v_293 49 64 r_290 ) m_242 m_94 m_241 m_243 m_244 nm_Cursor_withSign hPc hDc hZ hS hFc rfl rfl rfl hl.1 rfl (Nat.le_of_ble_eq_true rfl) d_Cursor_signed_47 rfl rfl (by decide) (by decide) (by decide) (by decide)) hP hD hS hA [0] [1] rfl rfl (by decide) (by decide) (fun r_327 u H locs hw hP hD hS => ?_)
                obtain ⟨ml2_326, rfl⟩ := hw
                have hP : va_P D classes [(qb, .inl (cB, 4000, .inl f)), (h0, .inr (1, [.ref qb, .int ln, .int pos2_288, .int lim, .int ml2_326]))] H := hP
                have hD : va_D (va_A [(h0, .inr (1, [.ref qb, .int ln, .int pos, .int lim, .int ml])), (qb, .inl (cB, 4000, .inl f))] s.heap.size) [(qb, .inl (cB, 4000, .inl f)), (h0, .inr (1, [.ref qb, .int ln, .int pos2_288, .int lim, .int ml2_326]))] := hD
                refine W.widen (k := 0) (n := 0) (by decide) (by decide) ?_
                exact x_lret (ws := [(h0, .inr (1, [.ref qb, .int ln, .int pos2_288, .int lim, .int ml2_326])), (qb, .inl (cB, 4000, .inl f))]) E hr hlocks (hP.sub [1, 0] rfl) (hD.sub [1, 0] (by decide) rfl) hS ⟨pos2_288, ml2_326, rfl⟩ d_Cursor_signed_50
            ·
              refine lv_aload_n E.1 E.2.1 d_Cursor_signed_37 rfl (lv_at hl 3 rfl) ?_
              refine lv_lload_n E.1 E.2.1 d_Cursor_signed_38 rfl (lv_at hl 0 rfl) ?_
              refine lv_iload E.1 E.2.1 d_Cursor_signed_39 (lv_at hl 2 rfl) ?_
              refine lv_bipush (v := 7) E.1 E.2.1 d_Cursor_signed_41 (by decide) ?_
              refine lv_iadd E.1 E.2.1 d_Cursor_signed_43 ?_
              refine lv_topi (fun vt_328 evt_328 => ?_)
              obtain rfl : vt_328 = 42 := evt_328.trans (by decide)
              refine lv_iload_n E.1 E.2.1 d_Cursor_signed_44 rfl (lv_at hl 4 rfl) ?_
              refine lv_iload E.1 E.2.1 d_Cursor_signed_45 (lv_at hl 1 rfl) ?_
              have hPc := hP.sub (ws' := [(h0, .inr (1, [.ref qb, .int ln, .int pos2_281, .int lim, .int ml2_282]))]) [0] rfl
              have hDc := hD.sub (ws' := [(h0, .inr (1, [.ref qb, .int ln, .int pos2_281, .int lim, .int ml2_282]))]) [0] (by decide) rfl
              have hFc := va_free (wc := [(h0, .inr (1, [.ref qb, .int ln, .int pos2_281, .int lim, .int ml2_282]))]) hD hS hA [0] rfl
              refine x_rl (ws := [(h0, .inr (1, [.ref qb, .int ln, .int pos2_281, .int lim, .int ml2_282])), (qb, .inl (cB, 4000, .inl f))]) (wc := [(h0, .inr (1, [.ref qb, .int ln, .int pos2_281, .int lim, .int ml2_282]))]) (wr := [(qb, .inl (cB, 4000, .inl f))]) (x_V (As := [.long v_286, .int 42, .int 64, .int r_283]) (C := "WasmReader$Cursor") E (c_Cursor_withSign l D cB cI cJ cZ H.size h0 qb ln pos2_281 lim ml2_282 v_286 42 64 r_283 ) m_242 m_94 m_241 m_243 m_244 nm_Cursor_withSign hPc hDc hZ hS hFc rfl rfl rfl hl.1 rfl (Nat.le_of_ble_eq_true rfl) d_Cursor_signed_47 rfl rfl (by decide) (by decide) (by decide) (by decide)) hP hD hS hA [0] [1] rfl rfl (by decide) (by decide) (fun r_330 u H locs hw hP hD hS => ?_)
              obtain ⟨ml2_329, rfl⟩ := hw
              have hP : va_P D classes [(qb, .inl (cB, 4000, .inl f)), (h0, .inr (1, [.ref qb, .int ln, .int pos2_281, .int lim, .int ml2_329]))] H := hP
              have hD : va_D (va_A [(h0, .inr (1, [.ref qb, .int ln, .int pos, .int lim, .int ml])), (qb, .inl (cB, 4000, .inl f))] s.heap.size) [(qb, .inl (cB, 4000, .inl f)), (h0, .inr (1, [.ref qb, .int ln, .int pos2_281, .int lim, .int ml2_329]))] := hD
              refine W.widen (k := 0) (n := 0) (by decide) (by decide) ?_
              exact x_lret (ws := [(h0, .inr (1, [.ref qb, .int ln, .int pos2_281, .int lim, .int ml2_329])), (qb, .inl (cB, 4000, .inl f))]) E hr hlocks (hP.sub [1, 0] rfl) (hD.sub [1, 0] (by decide) rfl) hS ⟨pos2_281, ml2_329, rfl⟩ d_Cursor_signed_50
          ·
            refine lv_aload_n E.1 E.2.1 d_Cursor_signed_37 rfl (lv_at hl 3 rfl) ?_
            refine lv_lload_n E.1 E.2.1 d_Cursor_signed_38 rfl (lv_at hl 0 rfl) ?_
            refine lv_iload E.1 E.2.1 d_Cursor_signed_39 (lv_at hl 2 rfl) ?_
            refine lv_bipush (v := 7) E.1 E.2.1 d_Cursor_signed_41 (by decide) ?_
            refine lv_iadd E.1 E.2.1 d_Cursor_signed_43 ?_
            refine lv_topi (fun vt_331 evt_331 => ?_)
            obtain rfl : vt_331 = 35 := evt_331.trans (by decide)
            refine lv_iload_n E.1 E.2.1 d_Cursor_signed_44 rfl (lv_at hl 4 rfl) ?_
            refine lv_iload E.1 E.2.1 d_Cursor_signed_45 (lv_at hl 1 rfl) ?_
            have hPc := hP.sub (ws' := [(h0, .inr (1, [.ref qb, .int ln, .int pos2_274, .int lim, .int ml2_275]))]) [0] rfl
            have hDc := hD.sub (ws' := [(h0, .inr (1, [.ref qb, .int ln, .int pos2_274, .int lim, .int ml2_275]))]) [0] (by decide) rfl
            have hFc := va_free (wc := [(h0, .inr (1, [.ref qb, .int ln, .int pos2_274, .int lim, .int ml2_275]))]) hD hS hA [0] rfl
            refine x_rl (ws := [(h0, .inr (1, [.ref qb, .int ln, .int pos2_274, .int lim, .int ml2_275])), (qb, .inl (cB, 4000, .inl f))]) (wc := [(h0, .inr (1, [.ref qb, .int ln, .int pos2_274, .int lim, .int ml2_275]))]) (wr := [(qb, .inl (cB, 4000, .inl f))]) (x_V (As := [.long v_279, .int 35, .int 64, .int r_276]) (C := "WasmReader$Cursor") E (c_Cursor_withSign l D cB cI cJ cZ H.size h0 qb ln pos2_274 lim ml2_275 v_279 35 64 r_276 ) m_242 m_94 m_241 m_243 m_244 nm_Cursor_withSign hPc hDc hZ hS hFc rfl rfl rfl hl.1 rfl (Nat.le_of_ble_eq_true rfl) d_Cursor_signed_47 rfl rfl (by decide) (by decide) (by decide) (by decide)) hP hD hS hA [0] [1] rfl rfl (by decide) (by decide) (fun r_333 u H locs hw hP hD hS => ?_)
            obtain ⟨ml2_332, rfl⟩ := hw
            have hP : va_P D classes [(qb, .inl (cB, 4000, .inl f)), (h0, .inr (1, [.ref qb, .int ln, .int pos2_274, .int lim, .int ml2_332]))] H := hP
            have hD : va_D (va_A [(h0, .inr (1, [.ref qb, .int ln, .int pos, .int lim, .int ml])), (qb, .inl (cB, 4000, .inl f))] s.heap.size) [(qb, .inl (cB, 4000, .inl f)), (h0, .inr (1, [.ref qb, .int ln, .int pos2_274, .int lim, .int ml2_332]))] := hD
            refine W.widen (k := 0) (n := 0) (by decide) (by decide) ?_
            exact x_lret (ws := [(h0, .inr (1, [.ref qb, .int ln, .int pos2_274, .int lim, .int ml2_332])), (qb, .inl (cB, 4000, .inl f))]) E hr hlocks (hP.sub [1, 0] rfl) (hD.sub [1, 0] (by decide) rfl) hS ⟨pos2_274, ml2_332, rfl⟩ d_Cursor_signed_50
        ·
          refine lv_aload_n E.1 E.2.1 d_Cursor_signed_37 rfl (lv_at hl 3 rfl) ?_
          refine lv_lload_n E.1 E.2.1 d_Cursor_signed_38 rfl (lv_at hl 0 rfl) ?_
          refine lv_iload E.1 E.2.1 d_Cursor_signed_39 (lv_at hl 2 rfl) ?_
          refine lv_bipush (v := 7) E.1 E.2.1 d_Cursor_signed_41 (by decide) ?_
          refine lv_iadd E.1 E.2.1 d_Cursor_signed_43 ?_
          refine lv_topi (fun vt_334 evt_334 => ?_)
          obtain rfl : vt_334 = 28 := evt_334.trans (by decide)
          refine lv_iload_n E.1 E.2.1 d_Cursor_signed_44 rfl (lv_at hl 4 rfl) ?_
          refine lv_iload E.1 E.2.1 d_Cursor_signed_45 (lv_at hl 1 rfl) ?_
          have hPc := hP.sub (ws' := [(h0, .inr (1, [.ref qb, .int ln, .int pos2_267, .int lim, .int ml2_268]))]) [0] rfl
          have hDc := hD.sub (ws' := [(h0, .inr (1, [.ref qb, .int ln, .int pos2_267, .int lim, .int ml2_268]))]) [0] (by decide) rfl
          have hFc := va_free (wc := [(h0, .inr (1, [.ref qb, .int ln, .int pos2_267, .int lim, .int ml2_268]))]) hD hS hA [0] rfl
          refine x_rl (ws := [(h0, .inr (1, [.ref qb, .int ln, .int pos2_267, .int lim, .int ml2_268])), (qb, .inl (cB, 4000, .inl f))]) (wc := [(h0, .inr (1, [.ref qb, .int ln, .int pos2_267, .int lim, .int ml2_268]))]) (wr := [(qb, .inl (cB, 4000, .inl f))]) (x_V (As := [.long v_272, .int 28, .int 64, .int r_269]) (C := "WasmReader$Cursor") E (c_Cursor_withSign l D cB cI cJ cZ H.size h0 qb ln pos2_267 lim ml2_268 v_272 28 64 r_269 ) m_242 m_94 m_241 m_243 m_244 nm_Cursor_withSign hPc hDc hZ hS hFc rfl rfl rfl hl.1 rfl (Nat.le_of_ble_eq_true rfl) d_Cursor_signed_47 rfl rfl (by decide) (by decide) (by decide) (by decide)) hP hD hS hA [0] [1] rfl rfl (by decide) (by decide) (fun r_336 u H locs hw hP hD hS => ?_)
          obtain ⟨ml2_335, rfl⟩ := hw
          have hP : va_P D classes [(qb, .inl (cB, 4000, .inl f)), (h0, .inr (1, [.ref qb, .int ln, .int pos2_267, .int lim, .int ml2_335]))] H := hP
          have hD : va_D (va_A [(h0, .inr (1, [.ref qb, .int ln, .int pos, .int lim, .int ml])), (qb, .inl (cB, 4000, .inl f))] s.heap.size) [(qb, .inl (cB, 4000, .inl f)), (h0, .inr (1, [.ref qb, .int ln, .int pos2_267, .int lim, .int ml2_335]))] := hD
          refine W.widen (k := 0) (n := 0) (by decide) (by decide) ?_
          exact x_lret (ws := [(h0, .inr (1, [.ref qb, .int ln, .int pos2_267, .int lim, .int ml2_335])), (qb, .inl (cB, 4000, .inl f))]) E hr hlocks (hP.sub [1, 0] rfl) (hD.sub [1, 0] (by decide) rfl) hS ⟨pos2_267, ml2_335, rfl⟩ d_Cursor_signed_50
      ·
        refine lv_aload_n E.1 E.2.1 d_Cursor_signed_37 rfl (lv_at hl 3 rfl) ?_
        refine lv_lload_n E.1 E.2.1 d_Cursor_signed_38 rfl (lv_at hl 0 rfl) ?_
        refine lv_iload E.1 E.2.1 d_Cursor_signed_39 (lv_at hl 2 rfl) ?_
        refine lv_bipush (v := 7) E.1 E.2.1 d_Cursor_signed_41 (by decide) ?_
        refine lv_iadd E.1 E.2.1 d_Cursor_signed_43 ?_
        refine lv_topi (fun vt_337 evt_337 => ?_)
        obtain rfl : vt_337 = 21 := evt_337.trans (by decide)
        refine lv_iload_n E.1 E.2.1 d_Cursor_signed_44 rfl (lv_at hl 4 rfl) ?_
        refine lv_iload E.1 E.2.1 d_Cursor_signed_45 (lv_at hl 1 rfl) ?_
        have hPc := hP.sub (ws' := [(h0, .inr (1, [.ref qb, .int ln, .int pos2_260, .int lim, .int ml2_261]))]) [0] rfl
        have hDc := hD.sub (ws' := [(h0, .inr (1, [.ref qb, .int ln, .int pos2_260, .int lim, .int ml2_261]))]) [0] (by decide) rfl
        have hFc := va_free (wc := [(h0, .inr (1, [.ref qb, .int ln, .int pos2_260, .int lim, .int ml2_261]))]) hD hS hA [0] rfl
        refine x_rl (ws := [(h0, .inr (1, [.ref qb, .int ln, .int pos2_260, .int lim, .int ml2_261])), (qb, .inl (cB, 4000, .inl f))]) (wc := [(h0, .inr (1, [.ref qb, .int ln, .int pos2_260, .int lim, .int ml2_261]))]) (wr := [(qb, .inl (cB, 4000, .inl f))]) (x_V (As := [.long v_265, .int 21, .int 64, .int r_262]) (C := "WasmReader$Cursor") E (c_Cursor_withSign l D cB cI cJ cZ H.size h0 qb ln pos2_260 lim ml2_261 v_265 21 64 r_262 ) m_242 m_94 m_241 m_243 m_244 nm_Cursor_withSign hPc hDc hZ hS hFc rfl rfl rfl hl.1 rfl (Nat.le_of_ble_eq_true rfl) d_Cursor_signed_47 rfl rfl (by decide) (by decide) (by decide) (by decide)) hP hD hS hA [0] [1] rfl rfl (by decide) (by decide) (fun r_339 u H locs hw hP hD hS => ?_)
        obtain ⟨ml2_338, rfl⟩ := hw
        have hP : va_P D classes [(qb, .inl (cB, 4000, .inl f)), (h0, .inr (1, [.ref qb, .int ln, .int pos2_260, .int lim, .int ml2_338]))] H := hP
        have hD : va_D (va_A [(h0, .inr (1, [.ref qb, .int ln, .int pos, .int lim, .int ml])), (qb, .inl (cB, 4000, .inl f))] s.heap.size) [(qb, .inl (cB, 4000, .inl f)), (h0, .inr (1, [.ref qb, .int ln, .int pos2_260, .int lim, .int ml2_338]))] := hD
        refine W.widen (k := 0) (n := 0) (by decide) (by decide) ?_
        exact x_lret (ws := [(h0, .inr (1, [.ref qb, .int ln, .int pos2_260, .int lim, .int ml2_338])), (qb, .inl (cB, 4000, .inl f))]) E hr hlocks (hP.sub [1, 0] rfl) (hD.sub [1, 0] (by decide) rfl) hS ⟨pos2_260, ml2_338, rfl⟩ d_Cursor_signed_50
    ·
      refine lv_aload_n E.1 E.2.1 d_Cursor_signed_37 rfl (lv_at hl 3 rfl) ?_
      refine lv_lload_n E.1 E.2.1 d_Cursor_signed_38 rfl (lv_at hl 0 rfl) ?_
      refine lv_iload E.1 E.2.1 d_Cursor_signed_39 (lv_at hl 2 rfl) ?_
      refine lv_bipush (v := 7) E.1 E.2.1 d_Cursor_signed_41 (by decide) ?_
      refine lv_iadd E.1 E.2.1 d_Cursor_signed_43 ?_
      refine lv_topi (fun vt_340 evt_340 => ?_)
      obtain rfl : vt_340 = 14 := evt_340.trans (by decide)
      refine lv_iload_n E.1 E.2.1 d_Cursor_signed_44 rfl (lv_at hl 4 rfl) ?_
      refine lv_iload E.1 E.2.1 d_Cursor_signed_45 (lv_at hl 1 rfl) ?_
      have hPc := hP.sub (ws' := [(h0, .inr (1, [.ref qb, .int ln, .int pos2_253, .int lim, .int ml2_254]))]) [0] rfl
      have hDc := hD.sub (ws' := [(h0, .inr (1, [.ref qb, .int ln, .int pos2_253, .int lim, .int ml2_254]))]) [0] (by decide) rfl
      have hFc := va_free (wc := [(h0, .inr (1, [.ref qb, .int ln, .int pos2_253, .int lim, .int ml2_254]))]) hD hS hA [0] rfl
      refine x_rl (ws := [(h0, .inr (1, [.ref qb, .int ln, .int pos2_253, .int lim, .int ml2_254])), (qb, .inl (cB, 4000, .inl f))]) (wc := [(h0, .inr (1, [.ref qb, .int ln, .int pos2_253, .int lim, .int ml2_254]))]) (wr := [(qb, .inl (cB, 4000, .inl f))]) (x_V (As := [.long v_258, .int 14, .int 64, .int r_255]) (C := "WasmReader$Cursor") E (c_Cursor_withSign l D cB cI cJ cZ H.size h0 qb ln pos2_253 lim ml2_254 v_258 14 64 r_255 ) m_242 m_94 m_241 m_243 m_244 nm_Cursor_withSign hPc hDc hZ hS hFc rfl rfl rfl hl.1 rfl (Nat.le_of_ble_eq_true rfl) d_Cursor_signed_47 rfl rfl (by decide) (by decide) (by decide) (by decide)) hP hD hS hA [0] [1] rfl rfl (by decide) (by decide) (fun r_342 u H locs hw hP hD hS => ?_)
      obtain ⟨ml2_341, rfl⟩ := hw
      have hP : va_P D classes [(qb, .inl (cB, 4000, .inl f)), (h0, .inr (1, [.ref qb, .int ln, .int pos2_253, .int lim, .int ml2_341]))] H := hP
      have hD : va_D (va_A [(h0, .inr (1, [.ref qb, .int ln, .int pos, .int lim, .int ml])), (qb, .inl (cB, 4000, .inl f))] s.heap.size) [(qb, .inl (cB, 4000, .inl f)), (h0, .inr (1, [.ref qb, .int ln, .int pos2_253, .int lim, .int ml2_341]))] := hD
      refine W.widen (k := 0) (n := 0) (by decide) (by decide) ?_
      exact x_lret (ws := [(h0, .inr (1, [.ref qb, .int ln, .int pos2_253, .int lim, .int ml2_341])), (qb, .inl (cB, 4000, .inl f))]) E hr hlocks (hP.sub [1, 0] rfl) (hD.sub [1, 0] (by decide) rfl) hS ⟨pos2_253, ml2_341, rfl⟩ d_Cursor_signed_50
  ·
    refine lv_aload_n E.1 E.2.1 d_Cursor_signed_37 rfl (lv_at hl 3 rfl) ?_
    refine lv_lload_n E.1 E.2.1 d_Cursor_signed_38 rfl (lv_at hl 0 rfl) ?_
    refine lv_iload E.1 E.2.1 d_Cursor_signed_39 (lv_at hl 2 rfl) ?_
    refine lv_bipush (v := 7) E.1 E.2.1 d_Cursor_signed_41 (by decide) ?_
    refine lv_iadd E.1 E.2.1 d_Cursor_signed_43 ?_
    refine lv_topi (fun vt_343 evt_343 => ?_)
    obtain rfl : vt_343 = 7 := evt_343.trans (by decide)
    refine lv_iload_n E.1 E.2.1 d_Cursor_signed_44 rfl (lv_at hl 4 rfl) ?_
    refine lv_iload E.1 E.2.1 d_Cursor_signed_45 (lv_at hl 1 rfl) ?_
    have hPc := hP.sub (ws' := [(h0, .inr (1, [.ref qb, .int ln, .int pos2_246, .int lim, .int ml2_247]))]) [0] rfl
    have hDc := hD.sub (ws' := [(h0, .inr (1, [.ref qb, .int ln, .int pos2_246, .int lim, .int ml2_247]))]) [0] (by decide) rfl
    have hFc := va_free (wc := [(h0, .inr (1, [.ref qb, .int ln, .int pos2_246, .int lim, .int ml2_247]))]) hD hS hA [0] rfl
    refine x_rl (ws := [(h0, .inr (1, [.ref qb, .int ln, .int pos2_246, .int lim, .int ml2_247])), (qb, .inl (cB, 4000, .inl f))]) (wc := [(h0, .inr (1, [.ref qb, .int ln, .int pos2_246, .int lim, .int ml2_247]))]) (wr := [(qb, .inl (cB, 4000, .inl f))]) (x_V (As := [.long v_251, .int 7, .int 64, .int r_248]) (C := "WasmReader$Cursor") E (c_Cursor_withSign l D cB cI cJ cZ H.size h0 qb ln pos2_246 lim ml2_247 v_251 7 64 r_248 ) m_242 m_94 m_241 m_243 m_244 nm_Cursor_withSign hPc hDc hZ hS hFc rfl rfl rfl hl.1 rfl (Nat.le_of_ble_eq_true rfl) d_Cursor_signed_47 rfl rfl (by decide) (by decide) (by decide) (by decide)) hP hD hS hA [0] [1] rfl rfl (by decide) (by decide) (fun r_345 u H locs hw hP hD hS => ?_)
    obtain ⟨ml2_344, rfl⟩ := hw
    have hP : va_P D classes [(qb, .inl (cB, 4000, .inl f)), (h0, .inr (1, [.ref qb, .int ln, .int pos2_246, .int lim, .int ml2_344]))] H := hP
    have hD : va_D (va_A [(h0, .inr (1, [.ref qb, .int ln, .int pos, .int lim, .int ml])), (qb, .inl (cB, 4000, .inl f))] s.heap.size) [(qb, .inl (cB, 4000, .inl f)), (h0, .inr (1, [.ref qb, .int ln, .int pos2_246, .int lim, .int ml2_344]))] := hD
    refine W.widen (k := 0) (n := 0) (by decide) (by decide) ?_
    exact x_lret (ws := [(h0, .inr (1, [.ref qb, .int ln, .int pos2_246, .int lim, .int ml2_344])), (qb, .inl (cB, 4000, .inl f))]) E hr hlocks (hP.sub [1, 0] rfl) (hD.sub [1, 0] (by decide) rfl) hS ⟨pos2_246, ml2_344, rfl⟩ d_Cursor_signed_50
set_option maxHeartbeats 4000000 in
set_option maxRecDepth 100000 in
theorem c_Cursor_vectorG (l : Launch) (D : va_G) (cB cI cJ cZ : ClassId) (sz : Nat) (h0 : Nat) (qb : Nat) (ln : Int32) (pos : Int32) (lim : Int32) (ml : Int32) (f : Nat → Int32)  : Met l y_Cursor_vector (Cond.code y_Cursor_vector prog_2_method_12_code 3 (some .int) :: xtb) ({ frames := 2, cells := 0, slots := 0, locals := 45 }) (xP D [(cB, .byte), (cI, .int), (cJ, .long), (cZ, .boolean)] [.ref h0] [(h0, .inr (1, [.ref qb, .int ln, .int pos, .int lim, .int ml])), (qb, .inl (cB, 4000, .inl f))] sz) (xQi D [(cB, .byte), (cI, .int), (cJ, .long), (cZ, .boolean)] [(h0, .inr (1, [.ref qb, .int ln, .int pos, .int lim, .int ml])), (qb, .inl (cB, 4000, .inl f))] sz (fun r u => ∃ (pos2 : Int32), ∃ (ml2 : Int32), u = [(h0, .inr (1, [.ref qb, .int ln, .int pos2, .int lim, .int ml2])), (qb, .inl (cB, 4000, .inl f))])) 0 0 (va_A [(h0, .inr (1, [.ref qb, .int ln, .int pos, .int lim, .int ml])), (qb, .inl (cB, 4000, .inl f))] sz) := by
  refine x_met (Qc := fun s => xQi D [(cB, .byte), (cI, .int), (cJ, .long), (cZ, .boolean)] [(h0, .inr (1, [.ref qb, .int ln, .int pos, .int lim, .int ml])), (qb, .inl (cB, 4000, .inl f))] s.heap.size (fun r u => ∃ (pos2 : Int32), ∃ (ml2 : Int32), u = [(h0, .inr (1, [.ref qb, .int ln, .int pos2, .int lim, .int ml2])), (qb, .inl (cB, 4000, .inl f))])) (fr := fun s => va_A [(h0, .inr (1, [.ref qb, .int ln, .int pos, .int lim, .int ml])), (qb, .inl (cB, 4000, .inl f))] s.heap.size) "WasmReader$Cursor" (by decide +kernel) rfl (Nat.le_of_ble_eq_true rfl) (fun s h => by rw [h]) (fun s h => by rw [h]) ?_
  intro p e s m below meth c ls E hr hlocks hinit hl hP hD hA hS hZ hadm
  have hl : lv_has ls 3 [(0, .ref h0)] := hl
  refine lv_aload_n E.1 E.2.1 d_Cursor_vector_0 rfl (lv_at hl 0 rfl) ?_
  have hPc := hP.sub (ws' := [(h0, .inr (1, [.ref qb, .int ln, .int pos, .int lim, .int ml])), (qb, .inl (cB, 4000, .inl f))]) [0, 1] rfl
  have hDc := hD.sub (ws' := [(h0, .inr (1, [.ref qb, .int ln, .int pos, .int lim, .int ml])), (qb, .inl (cB, 4000, .inl f))]) [0, 1] (by decide) rfl
  have hFc := va_free (wc := [(h0, .inr (1, [.ref qb, .int ln, .int pos, .int lim, .int ml])), (qb, .inl (cB, 4000, .inl f))]) hD hS hA [0, 1] rfl
  refine x_rl (ws := [(h0, .inr (1, [.ref qb, .int ln, .int pos, .int lim, .int ml])), (qb, .inl (cB, 4000, .inl f))]) (wc := [(h0, .inr (1, [.ref qb, .int ln, .int pos, .int lim, .int ml])), (qb, .inl (cB, 4000, .inl f))]) (wr := []) (x_V (As := []) (C := "WasmReader$Cursor") E (c_Cursor_unsignedG l D cB cI cJ cZ s.heap.size h0 qb ln pos lim ml f ) m_233 m_94 m_232 m_234 m_235 nm_Cursor_unsigned hPc hDc hZ hS hFc rfl rfl rfl hl.1 rfl (Nat.le_of_ble_eq_true rfl) d_Cursor_vector_1 rfl rfl (by decide) (by decide) (by decide) (by decide)) hP hD hS hA [0, 1] [] rfl rfl (by decide) (by decide) (fun r_15 u H locs hw hP hD hS => ?_)
  obtain ⟨pos2_13, ml2_14, rfl⟩ := hw
  have hP : va_P D classes [(h0, .inr (1, [.ref qb, .int ln, .int pos2_13, .int lim, .int ml2_14])), (qb, .inl (cB, 4000, .inl f))] H := hP
  have hD : va_D (va_A [(h0, .inr (1, [.ref qb, .int ln, .int pos, .int lim, .int ml])), (qb, .inl (cB, 4000, .inl f))] s.heap.size) [(h0, .inr (1, [.ref qb, .int ln, .int pos2_13, .int lim, .int ml2_14])), (qb, .inl (cB, 4000, .inl f))] := hD
  refine lv_lstore_n (lv' := [(1, .long r_15), (0, .ref h0)]) E.1 E.2.1 d_Cursor_vector_4 rfl hl (by decide) rfl (fun ls hl => ?_)
  refine lv_aload_n E.1 E.2.1 d_Cursor_vector_5 rfl (lv_at hl 1 rfl) ?_
  refine x_get E hP (C := "WasmReader$Cursor") (T := T_Cursor) (N := 5) (ci := 1) 0 (v := .int ml2_14) 4 in_Cursor rfl rfl (by decide) m_169 rfl d_Cursor_vector_6 ?_
  refine lv_if_ne (tgt := 27) E.1 E.2.1 d_Cursor_vector_9 (by decide) (fun hc_16 => ?_) (fun hc_16 => ?_)
  ·
    refine lv_aload_n E.1 E.2.1 d_Cursor_vector_27 rfl (lv_at hl 1 rfl) ?_
    have hPc := hP.sub (ws' := [(h0, .inr (1, [.ref qb, .int ln, .int pos2_13, .int lim, .int ml2_14]))]) [0] rfl
    have hDc := hD.sub (ws' := [(h0, .inr (1, [.ref qb, .int ln, .int pos2_13, .int lim, .int ml2_14]))]) [0] (by decide) rfl
    have hFc := va_free (wc := [(h0, .inr (1, [.ref qb, .int ln, .int pos2_13, .int lim, .int ml2_14]))]) hD hS hA [0] rfl
    refine x_rv (ws := [(h0, .inr (1, [.ref qb, .int ln, .int pos2_13, .int lim, .int ml2_14])), (qb, .inl (cB, 4000, .inl f))]) (wc := [(h0, .inr (1, [.ref qb, .int ln, .int pos2_13, .int lim, .int ml2_14]))]) (wr := [(qb, .inl (cB, 4000, .inl f))]) (x_V (As := []) (C := "WasmReader$Cursor") E (c_Cursor_fail l D cB cI cJ cZ H.size h0 qb ln pos2_13 lim ml2_14 ) m_175 m_94 m_174 m_176 m_177 nm_Cursor_fail hPc hDc hZ hS hFc rfl rfl rfl hl.1 rfl (Nat.le_of_ble_eq_true rfl) d_Cursor_vector_28 rfl rfl (by decide) (by decide) (by decide) (by decide)) hP hD hS hA [0] [1] rfl rfl (by decide) (by decide) (fun u H locs hw hP hD hS => ?_)
    obtain rfl := hw
    have hP : va_P D classes [(qb, .inl (cB, 4000, .inl f)), (h0, .inr (1, [.ref qb, .int ln, .int pos2_13, .int lim, .int 1]))] H := hP
    have hD : va_D (va_A [(h0, .inr (1, [.ref qb, .int ln, .int pos, .int lim, .int ml])), (qb, .inl (cB, 4000, .inl f))] s.heap.size) [(qb, .inl (cB, 4000, .inl f)), (h0, .inr (1, [.ref qb, .int ln, .int pos2_13, .int lim, .int 1]))] := hD
    refine lv_iconst (v := 0) E.1 E.2.1 d_Cursor_vector_31 (by decide) ?_
    refine W.widen (k := 0) (n := 0) (by decide) (by decide) ?_
    exact x_iret (ws := [(h0, .inr (1, [.ref qb, .int ln, .int pos2_13, .int lim, .int 1])), (qb, .inl (cB, 4000, .inl f))]) E hr hlocks (hP.sub [1, 0] rfl) (hD.sub [1, 0] (by decide) rfl) hS ⟨pos2_13, 1, rfl⟩ d_Cursor_vector_32
  ·
    refine lv_lload_n E.1 E.2.1 d_Cursor_vector_12 rfl (lv_at hl 0 rfl) ?_
    refine lv_aload_n E.1 E.2.1 d_Cursor_vector_13 rfl (lv_at hl 1 rfl) ?_
    refine x_get E hP (C := "WasmReader$Cursor") (T := T_Cursor) (N := 5) (ci := 1) 0 (v := .int lim) 3 in_Cursor rfl rfl (by decide) m_168 rfl d_Cursor_vector_14 ?_
    refine lv_aload_n E.1 E.2.1 d_Cursor_vector_17 rfl (lv_at hl 1 rfl) ?_
    refine x_get E hP (C := "WasmReader$Cursor") (T := T_Cursor) (N := 5) (ci := 1) 0 (v := .int pos2_13) 2 in_Cursor rfl rfl (by decide) m_167 rfl d_Cursor_vector_18 ?_
    refine lv_isub E.1 E.2.1 d_Cursor_vector_21 ?_
    refine lv_topi (fun v_17 ev_17 => ?_)
    refine lv_i2l (v := (v_17 : Int32).toInt64) E.1 E.2.1 d_Cursor_vector_22 rfl ?_
    refine W.lcmp E.1 E.2.1 d_Cursor_vector_23 ?_
    refine lv_if_le (tgt := 33) E.1 E.2.1 d_Cursor_vector_24 (by decide) (fun hc_18 => ?_) (fun hc_18 => ?_)
    ·
      refine lv_lload_n E.1 E.2.1 d_Cursor_vector_33 rfl (lv_at hl 0 rfl) ?_
      refine lv_l2i (v := (r_15 : Int64).toInt32) E.1 E.2.1 d_Cursor_vector_34 rfl ?_
      refine lv_topi (fun v_19 ev_19 => ?_)
      refine W.widen (k := 0) (n := 0) (by decide) (by decide) ?_
      exact x_iret (ws := [(h0, .inr (1, [.ref qb, .int ln, .int pos2_13, .int lim, .int ml2_14])), (qb, .inl (cB, 4000, .inl f))]) E hr hlocks (hP.sub [0, 1] rfl) (hD.sub [0, 1] (by decide) rfl) hS ⟨pos2_13, ml2_14, rfl⟩ d_Cursor_vector_35
    ·
      refine lv_aload_n E.1 E.2.1 d_Cursor_vector_27 rfl (lv_at hl 1 rfl) ?_
      have hPc := hP.sub (ws' := [(h0, .inr (1, [.ref qb, .int ln, .int pos2_13, .int lim, .int ml2_14]))]) [0] rfl
      have hDc := hD.sub (ws' := [(h0, .inr (1, [.ref qb, .int ln, .int pos2_13, .int lim, .int ml2_14]))]) [0] (by decide) rfl
      have hFc := va_free (wc := [(h0, .inr (1, [.ref qb, .int ln, .int pos2_13, .int lim, .int ml2_14]))]) hD hS hA [0] rfl
      refine x_rv (ws := [(h0, .inr (1, [.ref qb, .int ln, .int pos2_13, .int lim, .int ml2_14])), (qb, .inl (cB, 4000, .inl f))]) (wc := [(h0, .inr (1, [.ref qb, .int ln, .int pos2_13, .int lim, .int ml2_14]))]) (wr := [(qb, .inl (cB, 4000, .inl f))]) (x_V (As := []) (C := "WasmReader$Cursor") E (c_Cursor_fail l D cB cI cJ cZ H.size h0 qb ln pos2_13 lim ml2_14 ) m_175 m_94 m_174 m_176 m_177 nm_Cursor_fail hPc hDc hZ hS hFc rfl rfl rfl hl.1 rfl (Nat.le_of_ble_eq_true rfl) d_Cursor_vector_28 rfl rfl (by decide) (by decide) (by decide) (by decide)) hP hD hS hA [0] [1] rfl rfl (by decide) (by decide) (fun u H locs hw hP hD hS => ?_)
      obtain rfl := hw
      have hP : va_P D classes [(qb, .inl (cB, 4000, .inl f)), (h0, .inr (1, [.ref qb, .int ln, .int pos2_13, .int lim, .int 1]))] H := hP
      have hD : va_D (va_A [(h0, .inr (1, [.ref qb, .int ln, .int pos, .int lim, .int ml])), (qb, .inl (cB, 4000, .inl f))] s.heap.size) [(qb, .inl (cB, 4000, .inl f)), (h0, .inr (1, [.ref qb, .int ln, .int pos2_13, .int lim, .int 1]))] := hD
      refine lv_iconst (v := 0) E.1 E.2.1 d_Cursor_vector_31 (by decide) ?_
      refine W.widen (k := 0) (n := 0) (by decide) (by decide) ?_
      exact x_iret (ws := [(h0, .inr (1, [.ref qb, .int ln, .int pos2_13, .int lim, .int 1])), (qb, .inl (cB, 4000, .inl f))]) E hr hlocks (hP.sub [1, 0] rfl) (hD.sub [1, 0] (by decide) rfl) hS ⟨pos2_13, 1, rfl⟩ d_Cursor_vector_32
