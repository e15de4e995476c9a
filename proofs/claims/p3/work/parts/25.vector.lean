set_option maxHeartbeats 4000000 in
set_option maxRecDepth 100000 in
theorem c_Cursor_vector (l : Launch) (D : va_G) (cB cI cJ cZ : ClassId) (sz : Nat) (h0 : Nat) (qb : Nat) (ln : Int32) (a : Nat) (b : Nat) (ml : Int32) (f : Nat → Int32) (hab : a ≤ b) (hb4 : b ≤ 4000) : Met l y_Cursor_vector (Cond.code y_Cursor_vector prog_2_method_12_code 3 (some .int) :: xtb) ({ frames := 2, cells := 0, slots := 0, locals := 45 }) (xP D [(cB, .byte), (cI, .int), (cJ, .long), (cZ, .boolean)] [.ref h0] [(h0, .inr (1, [.ref qb, .int ln, .int (nI a), .int (nI b), .int ml])), (qb, .inl (cB, 4000, .inl f))] sz) (xQi D [(cB, .byte), (cI, .int), (cJ, .long), (cZ, .boolean)] [(h0, .inr (1, [.ref qb, .int ln, .int (nI a), .int (nI b), .int ml])), (qb, .inl (cB, 4000, .inl f))] sz (fun r u => ∃ (a2 : Nat), ∃ (ml2 : Int32), ∃ (k : Nat), r = nI k ∧ (a ≤ a2) ∧ (a2 ≤ b) ∧ (a2 + k ≤ b) ∧ u = [(h0, .inr (1, [.ref qb, .int ln, .int (nI a2), .int (nI b), .int ml2])), (qb, .inl (cB, 4000, .inl f))])) 0 0 (va_A [(h0, .inr (1, [.ref qb, .int ln, .int (nI a), .int (nI b), .int ml])), (qb, .inl (cB, 4000, .inl f))] sz) := by
  refine x_met (Qc := fun s => xQi D [(cB, .byte), (cI, .int), (cJ, .long), (cZ, .boolean)] [(h0, .inr (1, [.ref qb, .int ln, .int (nI a), .int (nI b), .int ml])), (qb, .inl (cB, 4000, .inl f))] s.heap.size (fun r u => ∃ (a2 : Nat), ∃ (ml2 : Int32), ∃ (k : Nat), r = nI k ∧ (a ≤ a2) ∧ (a2 ≤ b) ∧ (a2 + k ≤ b) ∧ u = [(h0, .inr (1, [.ref qb, .int ln, .int (nI a2), .int (nI b), .int ml2])), (qb, .inl (cB, 4000, .inl f))])) (fr := fun s => va_A [(h0, .inr (1, [.ref qb, .int ln, .int (nI a), .int (nI b), .int ml])), (qb, .inl (cB, 4000, .inl f))] s.heap.size) "WasmReader$Cursor" (by decide +kernel) rfl (Nat.le_of_ble_eq_true rfl) (fun s h => by rw [h]) (fun s h => by rw [h]) ?_
  intro p e s m below meth c ls E hr hlocks hinit hl hP hD hA hS hZ hadm
  have hl : lv_has ls 3 [(0, .ref h0)] := hl
  refine lv_aload_n E.1 E.2.1 d_Cursor_vector_0 rfl (lv_at hl 0 rfl) ?_
  have hPc := hP.sub (ws' := [(h0, .inr (1, [.ref qb, .int ln, .int (nI a), .int (nI b), .int ml])), (qb, .inl (cB, 4000, .inl f))]) [0, 1] rfl
  have hDc := hD.sub (ws' := [(h0, .inr (1, [.ref qb, .int ln, .int (nI a), .int (nI b), .int ml])), (qb, .inl (cB, 4000, .inl f))]) [0, 1] (by decide) rfl
  have hFc := va_free (wc := [(h0, .inr (1, [.ref qb, .int ln, .int (nI a), .int (nI b), .int ml])), (qb, .inl (cB, 4000, .inl f))]) hD hS hA [0, 1] rfl
  refine x_rl (ws := [(h0, .inr (1, [.ref qb, .int ln, .int (nI a), .int (nI b), .int ml])), (qb, .inl (cB, 4000, .inl f))]) (wc := [(h0, .inr (1, [.ref qb, .int ln, .int (nI a), .int (nI b), .int ml])), (qb, .inl (cB, 4000, .inl f))]) (wr := []) (x_V (As := []) (C := "WasmReader$Cursor") E (c_Cursor_unsigned l D cB cI cJ cZ s.heap.size h0 qb ln a b ml f (by omega) (by omega)) m_233 m_94 m_232 m_234 m_235 nm_Cursor_unsigned hPc hDc hZ hS hFc rfl rfl rfl hl.1 rfl (Nat.le_of_ble_eq_true rfl) d_Cursor_vector_1 rfl rfl (by decide) (by decide) (by decide) (by decide)) hP hD hS hA [0, 1] [] rfl rfl (by decide) (by decide) (fun r_7 u H locs hw hP hD hS => ?_)
  obtain ⟨a2_4, ml2_5, hf_1, hf_2, hf_3, rfl⟩ := hw
  have hP : va_P D classes [(h0, .inr (1, [.ref qb, .int ln, .int (nI a2_4), .int (nI b), .int ml2_5])), (qb, .inl (cB, 4000, .inl f))] H := hP
  have hD : va_D (va_A [(h0, .inr (1, [.ref qb, .int ln, .int (nI a), .int (nI b), .int ml])), (qb, .inl (cB, 4000, .inl f))] s.heap.size) [(h0, .inr (1, [.ref qb, .int ln, .int (nI a2_4), .int (nI b), .int ml2_5])), (qb, .inl (cB, 4000, .inl f))] := hD
  refine lv_lstore_n (lv' := [(1, .long r_7), (0, .ref h0)]) E.1 E.2.1 d_Cursor_vector_4 rfl hl (by decide) rfl (fun ls hl => ?_)
  refine lv_aload_n E.1 E.2.1 d_Cursor_vector_5 rfl (lv_at hl 1 rfl) ?_
  refine x_get E hP (C := "WasmReader$Cursor") (T := T_Cursor) (N := 5) (ci := 1) 0 (v := .int ml2_5) 4 in_Cursor rfl rfl (by decide) m_169 rfl d_Cursor_vector_6 ?_
  refine lv_if_ne (tgt := 27) E.1 E.2.1 d_Cursor_vector_9 (by decide) (fun hc_8 => ?_) (fun hc_8 => ?_)
  ·
    refine lv_aload_n E.1 E.2.1 d_Cursor_vector_27 rfl (lv_at hl 1 rfl) ?_
    have hPc := hP.sub (ws' := [(h0, .inr (1, [.ref qb, .int ln, .int (nI a2_4), .int (nI b), .int ml2_5]))]) [0] rfl
    have hDc := hD.sub (ws' := [(h0, .inr (1, [.ref qb, .int ln, .int (nI a2_4), .int (nI b), .int ml2_5]))]) [0] (by decide) rfl
    have hFc := va_free (wc := [(h0, .inr (1, [.ref qb, .int ln, .int (nI a2_4), .int (nI b), .int ml2_5]))]) hD hS hA [0] rfl
    refine x_rv (ws := [(h0, .inr (1, [.ref qb, .int ln, .int (nI a2_4), .int (nI b), .int ml2_5])), (qb, .inl (cB, 4000, .inl f))]) (wc := [(h0, .inr (1, [.ref qb, .int ln, .int (nI a2_4), .int (nI b), .int ml2_5]))]) (wr := [(qb, .inl (cB, 4000, .inl f))]) (x_V (As := []) (C := "WasmReader$Cursor") E (c_Cursor_fail l D cB cI cJ cZ H.size h0 qb ln (nI a2_4) (nI b) ml2_5 ) m_175 m_94 m_174 m_176 m_177 nm_Cursor_fail hPc hDc hZ hS hFc rfl rfl rfl hl.1 rfl (Nat.le_of_ble_eq_true rfl) d_Cursor_vector_28 rfl rfl (by decide) (by decide) (by decide) (by decide)) hP hD hS hA [0] [1] rfl rfl (by decide) (by decide) (fun u H locs hw hP hD hS => ?_)
    obtain rfl := hw
    have hP : va_P D classes [(qb, .inl (cB, 4000, .inl f)), (h0, .inr (1, [.ref qb, .int ln, .int (nI a2_4), .int (nI b), .int 1]))] H := hP
    have hD : va_D (va_A [(h0, .inr (1, [.ref qb, .int ln, .int (nI a), .int (nI b), .int ml])), (qb, .inl (cB, 4000, .inl f))] s.heap.size) [(qb, .inl (cB, 4000, .inl f)), (h0, .inr (1, [.ref qb, .int ln, .int (nI a2_4), .int (nI b), .int 1]))] := hD
    refine lv_iconst (v := 0) E.1 E.2.1 d_Cursor_vector_31 (by decide) ?_
    refine W.widen (k := 0) (n := 0) (by decide) (by decide) ?_
    exact x_iret (ws := [(h0, .inr (1, [.ref qb, .int ln, .int (nI a2_4), .int (nI b), .int 1])), (qb, .inl (cB, 4000, .inl f))]) E hr hlocks (hP.sub [1, 0] rfl) (hD.sub [1, 0] (by decide) rfl) hS ⟨a2_4, 1, 0, (by first | rfl | omega), (by omega), (by omega), (by omega), rfl⟩ d_Cursor_vector_32
  ·
    refine lv_lload_n E.1 E.2.1 d_Cursor_vector_12 rfl (lv_at hl 0 rfl) ?_
    refine lv_aload_n E.1 E.2.1 d_Cursor_vector_13 rfl (lv_at hl 1 rfl) ?_
    refine x_get E hP (C := "WasmReader$Cursor") (T := T_Cursor) (N := 5) (ci := 1) 0 (v := .int (nI b)) 3 in_Cursor rfl rfl (by decide) m_168 rfl d_Cursor_vector_14 ?_
    refine lv_aload_n E.1 E.2.1 d_Cursor_vector_17 rfl (lv_at hl 1 rfl) ?_
    refine x_get E hP (C := "WasmReader$Cursor") (T := T_Cursor) (N := 5) (ci := 1) 0 (v := .int (nI a2_4)) 2 in_Cursor rfl rfl (by decide) m_167 rfl d_Cursor_vector_18 ?_
    refine lv_isub E.1 E.2.1 d_Cursor_vector_21 ?_
    refine lv_topi (fun vt_9 evt_9 => ?_)
    obtain rfl : vt_9 = nI (b - a2_4) := evt_9.trans (pk_sub (a := b) (b := a2_4) (by omega))
    refine lv_i2l (v := (nI (b - a2_4) : Int32).toInt64) E.1 E.2.1 d_Cursor_vector_22 rfl ?_
    refine W.lcmp E.1 E.2.1 d_Cursor_vector_23 ?_
    refine lv_if_le (tgt := 33) E.1 E.2.1 d_Cursor_vector_24 (by decide) (fun hc_10 => ?_) (fun hc_10 => ?_)
    ·
      refine lv_lload_n E.1 E.2.1 d_Cursor_vector_33 rfl (lv_at hl 0 rfl) ?_
      refine lv_l2i (v := (r_7 : Int64).toInt32) E.1 E.2.1 d_Cursor_vector_34 rfl ?_
      refine lv_topi (fun v_11 ev_11 => ?_)
      obtain ⟨j_12, hj_12, ej_12⟩ := x_vec hf_3 (by omega) hc_10
      obtain rfl : v_11 = nI j_12 := ev_11.trans ej_12
      refine W.widen (k := 0) (n := 0) (by decide) (by decide) ?_
      exact x_iret (ws := [(h0, .inr (1, [.ref qb, .int ln, .int (nI a2_4), .int (nI b), .int ml2_5])), (qb, .inl (cB, 4000, .inl f))]) E hr hlocks (hP.sub [0, 1] rfl) (hD.sub [0, 1] (by decide) rfl) hS ⟨a2_4, ml2_5, j_12, rfl, (by omega), (by omega), (by omega), rfl⟩ d_Cursor_vector_35
    ·
      refine lv_aload_n E.1 E.2.1 d_Cursor_vector_27 rfl (lv_at hl 1 rfl) ?_
      have hPc := hP.sub (ws' := [(h0, .inr (1, [.ref qb, .int ln, .int (nI a2_4), .int (nI b), .int ml2_5]))]) [0] rfl
      have hDc := hD.sub (ws' := [(h0, .inr (1, [.ref qb, .int ln, .int (nI a2_4), .int (nI b), .int ml2_5]))]) [0] (by decide) rfl
      have hFc := va_free (wc := [(h0, .inr (1, [.ref qb, .int ln, .int (nI a2_4), .int (nI b), .int ml2_5]))]) hD hS hA [0] rfl
      refine x_rv (ws := [(h0, .inr (1, [.ref qb, .int ln, .int (nI a2_4), .int (nI b), .int ml2_5])), (qb, .inl (cB, 4000, .inl f))]) (wc := [(h0, .inr (1, [.ref qb, .int ln, .int (nI a2_4), .int (nI b), .int ml2_5]))]) (wr := [(qb, .inl (cB, 4000, .inl f))]) (x_V (As := []) (C := "WasmReader$Cursor") E (c_Cursor_fail l D cB cI cJ cZ H.size h0 qb ln (nI a2_4) (nI b) ml2_5 ) m_175 m_94 m_174 m_176 m_177 nm_Cursor_fail hPc hDc hZ hS hFc rfl rfl rfl hl.1 rfl (Nat.le_of_ble_eq_true rfl) d_Cursor_vector_28 rfl rfl (by decide) (by decide) (by decide) (by decide)) hP hD hS hA [0] [1] rfl rfl (by decide) (by decide) (fun u H locs hw hP hD hS => ?_)
      obtain rfl := hw
      have hP : va_P D classes [(qb, .inl (cB, 4000, .inl f)), (h0, .inr (1, [.ref qb, .int ln, .int (nI a2_4), .int (nI b), .int 1]))] H := hP
      have hD : va_D (va_A [(h0, .inr (1, [.ref qb, .int ln, .int (nI a), .int (nI b), .int ml])), (qb, .inl (cB, 4000, .inl f))] s.heap.size) [(qb, .inl (cB, 4000, .inl f)), (h0, .inr (1, [.ref qb, .int ln, .int (nI a2_4), .int (nI b), .int 1]))] := hD
      refine lv_iconst (v := 0) E.1 E.2.1 d_Cursor_vector_31 (by decide) ?_
      refine W.widen (k := 0) (n := 0) (by decide) (by decide) ?_
      exact x_iret (ws := [(h0, .inr (1, [.ref qb, .int ln, .int (nI a2_4), .int (nI b), .int 1])), (qb, .inl (cB, 4000, .inl f))]) E hr hlocks (hP.sub [1, 0] rfl) (hD.sub [1, 0] (by decide) rfl) hS ⟨a2_4, 1, 0, (by first | rfl | omega), (by omega), (by omega), (by omega), rfl⟩ d_Cursor_vector_32
set_option maxHeartbeats 4000000 in
set_option maxRecDepth 100000 in
theorem c_Cursor_skip (l : Launch) (D : va_G) (cB cI cJ cZ : ClassId) (sz : Nat) (h0 : Nat) (qb : Nat) (ln : Int32) (a : Nat) (b : Nat) (ml : Int32) (f : Nat → Int32) (mv : Int32) (hab : a ≤ b) (hb4 : b ≤ 4000) : Met l y_Cursor_skip (Cond.code y_Cursor_skip prog_2_method_13_code 2 none :: xtb) ({ frames := 1, cells := 0, slots := 0, locals := 20 }) (xP D [(cB, .byte), (cI, .int), (cJ, .long), (cZ, .boolean)] [.ref h0, .int mv] [(h0, .inr (1, [.ref qb, .int ln, .int (nI a), .int (nI b), .int ml])), (qb, .inl (cB, 4000, .inl f))] sz) (xQv D [(cB, .byte), (cI, .int), (cJ, .long), (cZ, .boolean)] [(h0, .inr (1, [.ref qb, .int ln, .int (nI a), .int (nI b), .int ml])), (qb, .inl (cB, 4000, .inl f))] sz (fun u => ∃ (a2 : Nat), ∃ (ml2 : Int32), (a ≤ a2) ∧ (a2 ≤ b) ∧ u = [(h0, .inr (1, [.ref qb, .int ln, .int (nI a2), .int (nI b), .int ml2])), (qb, .inl (cB, 4000, .inl f))])) 0 0 (va_A [(h0, .inr (1, [.ref qb, .int ln, .int (nI a), .int (nI b), .int ml])), (qb, .inl (cB, 4000, .inl f))] sz) := by
  refine x_met (Qc := fun s => xQv D [(cB, .byte), (cI, .int), (cJ, .long), (cZ, .boolean)] [(h0, .inr (1, [.ref qb, .int ln, .int (nI a), .int (nI b), .int ml])), (qb, .inl (cB, 4000, .inl f))] s.heap.size (fun u => ∃ (a2 : Nat), ∃ (ml2 : Int32), (a ≤ a2) ∧ (a2 ≤ b) ∧ u = [(h0, .inr (1, [.ref qb, .int ln, .int (nI a2), .int (nI b), .int ml2])), (qb, .inl (cB, 4000, .inl f))])) (fr := fun s => va_A [(h0, .inr (1, [.ref qb, .int ln, .int (nI a), .int (nI b), .int ml])), (qb, .inl (cB, 4000, .inl f))] s.heap.size) "WasmReader$Cursor" (by decide +kernel) rfl (Nat.le_of_ble_eq_true rfl) (fun s h => by rw [h]) (fun s h => by rw [h]) ?_
  intro p e s m below meth c ls E hr hlocks hinit hl hP hD hA hS hZ hadm
  have hl : lv_has ls 2 [(0, .ref h0), (1, .int mv)] := hl
  refine lv_iload_n E.1 E.2.1 d_Cursor_skip_0 rfl (lv_at hl 1 rfl) ?_
  refine lv_if_lt (tgt := 17) E.1 E.2.1 d_Cursor_skip_1 (by decide) (fun hc_1 => ?_) (fun hc_1 => ?_)
  ·
    refine lv_aload_n E.1 E.2.1 d_Cursor_skip_17 rfl (lv_at hl 0 rfl) ?_
    have hPc := hP.sub (ws' := [(h0, .inr (1, [.ref qb, .int ln, .int (nI a), .int (nI b), .int ml]))]) [0] rfl
    have hDc := hD.sub (ws' := [(h0, .inr (1, [.ref qb, .int ln, .int (nI a), .int (nI b), .int ml]))]) [0] (by decide) rfl
    have hFc := va_free (wc := [(h0, .inr (1, [.ref qb, .int ln, .int (nI a), .int (nI b), .int ml]))]) hD hS hA [0] rfl
    refine x_rv (ws := [(h0, .inr (1, [.ref qb, .int ln, .int (nI a), .int (nI b), .int ml])), (qb, .inl (cB, 4000, .inl f))]) (wc := [(h0, .inr (1, [.ref qb, .int ln, .int (nI a), .int (nI b), .int ml]))]) (wr := [(qb, .inl (cB, 4000, .inl f))]) (x_V (As := []) (C := "WasmReader$Cursor") E (c_Cursor_fail l D cB cI cJ cZ s.heap.size h0 qb ln (nI a) (nI b) ml ) m_175 m_94 m_174 m_176 m_177 nm_Cursor_fail hPc hDc hZ hS hFc rfl rfl rfl hl.1 rfl (Nat.le_of_ble_eq_true rfl) d_Cursor_skip_18 rfl rfl (by decide) (by decide) (by decide) (by decide)) hP hD hS hA [0] [1] rfl rfl (by decide) (by decide) (fun u H locs hw hP hD hS => ?_)
    obtain rfl := hw
    have hP : va_P D classes [(qb, .inl (cB, 4000, .inl f)), (h0, .inr (1, [.ref qb, .int ln, .int (nI a), .int (nI b), .int 1]))] H := hP
    have hD : va_D (va_A [(h0, .inr (1, [.ref qb, .int ln, .int (nI a), .int (nI b), .int ml])), (qb, .inl (cB, 4000, .inl f))] s.heap.size) [(qb, .inl (cB, 4000, .inl f)), (h0, .inr (1, [.ref qb, .int ln, .int (nI a), .int (nI b), .int 1]))] := hD
    refine lv_goto (tgt := 34) E.1 E.2.1 d_Cursor_skip_21 (by decide) ?_
    refine W.widen (k := 0) (n := 0) (by decide) (by decide) ?_
    exact x_vret (ws := [(h0, .inr (1, [.ref qb, .int ln, .int (nI a), .int (nI b), .int 1])), (qb, .inl (cB, 4000, .inl f))]) E hr hlocks (hP.sub [1, 0] rfl) (hD.sub [1, 0] (by decide) rfl) hS ⟨a, 1, (by omega), (by omega), rfl⟩ d_Cursor_skip_34
  ·
    obtain ⟨jv, hjv, ejv⟩ := nI_of hc_1
    subst ejv
    refine lv_iload_n E.1 E.2.1 d_Cursor_skip_4 rfl (lv_at hl 1 rfl) ?_
    refine lv_aload_n E.1 E.2.1 d_Cursor_skip_5 rfl (lv_at hl 0 rfl) ?_
    refine x_get E hP (C := "WasmReader$Cursor") (T := T_Cursor) (N := 5) (ci := 1) 0 (v := .int (nI b)) 3 in_Cursor rfl rfl (by decide) m_168 rfl d_Cursor_skip_6 ?_
    refine lv_aload_n E.1 E.2.1 d_Cursor_skip_9 rfl (lv_at hl 0 rfl) ?_
    refine x_get E hP (C := "WasmReader$Cursor") (T := T_Cursor) (N := 5) (ci := 1) 0 (v := .int (nI a)) 2 in_Cursor rfl rfl (by decide) m_167 rfl d_Cursor_skip_10 ?_
    refine lv_isub E.1 E.2.1 d_Cursor_skip_13 ?_
    refine lv_topi (fun vt_2 evt_2 => ?_)
    obtain rfl : vt_2 = nI (b - a) := evt_2.trans (pk_sub (a := b) (b := a) (by omega))
    refine lv_icmp_le (tgt := 24) E.1 E.2.1 d_Cursor_skip_14 (by decide) (fun hc_3 => ?_) (fun hc_3 => ?_)
    ·
      have hc_3 : jv ≤ b - a := (nI_leI (a := jv) (b := b - a) (by omega) (by omega)).mp hc_3
      refine lv_aload_n E.1 E.2.1 d_Cursor_skip_24 rfl (lv_at hl 0 rfl) ?_
      refine lv_dup E.1 E.2.1 d_Cursor_skip_25 rfl ?_
      refine x_get E hP (C := "WasmReader$Cursor") (T := T_Cursor) (N := 5) (ci := 1) 0 (v := .int (nI a)) 2 in_Cursor rfl rfl (by decide) m_167 rfl d_Cursor_skip_26 ?_
      refine lv_iload_n E.1 E.2.1 d_Cursor_skip_29 rfl (lv_at hl 1 rfl) ?_
      refine lv_iadd E.1 E.2.1 d_Cursor_skip_30 ?_
      refine lv_topi (fun vt_4 evt_4 => ?_)
      obtain rfl : vt_4 = nI (a + jv) := evt_4.trans (nI_add a jv)
      refine x_put E hP hD hS (C := "WasmReader$Cursor") (T := T_Cursor) (N := 5) (ci := 1) 0 (v := .int (nI (a + jv))) 2 (t0 := t_Cursor) (tk := .int) in_Cursor tok_Cursor nok_Cursor rfl rfl (by decide) m_167 rfl rfl rfl rfl (Nat.le_of_ble_eq_true rfl) d_Cursor_skip_31 (fun H locs hP hD hS => ?_)
      have hP : va_P D classes [(h0, .inr (1, [.ref qb, .int ln, .int (nI (a + jv)), .int (nI b), .int ml])), (qb, .inl (cB, 4000, .inl f))] H := hP
      have hD : va_D (va_A [(h0, .inr (1, [.ref qb, .int ln, .int (nI a), .int (nI b), .int ml])), (qb, .inl (cB, 4000, .inl f))] s.heap.size) [(h0, .inr (1, [.ref qb, .int ln, .int (nI (a + jv)), .int (nI b), .int ml])), (qb, .inl (cB, 4000, .inl f))] := hD
      refine W.widen (k := 0) (n := 0) (by decide) (by decide) ?_
      exact x_vret (ws := [(h0, .inr (1, [.ref qb, .int ln, .int (nI (a + jv)), .int (nI b), .int ml])), (qb, .inl (cB, 4000, .inl f))]) E hr hlocks (hP.sub [0, 1] rfl) (hD.sub [0, 1] (by decide) rfl) hS ⟨(a + jv), ml, (by omega), (by omega), rfl⟩ d_Cursor_skip_34
    ·
      have hc_3 : ¬ (jv ≤ b - a) := fun hq_ => hc_3 ((nI_leI (a := jv) (b := b - a) (by omega) (by omega)).mpr hq_)
      refine lv_aload_n E.1 E.2.1 d_Cursor_skip_17 rfl (lv_at hl 0 rfl) ?_
      have hPc := hP.sub (ws' := [(h0, .inr (1, [.ref qb, .int ln, .int (nI a), .int (nI b), .int ml]))]) [0] rfl
      have hDc := hD.sub (ws' := [(h0, .inr (1, [.ref qb, .int ln, .int (nI a), .int (nI b), .int ml]))]) [0] (by decide) rfl
      have hFc := va_free (wc := [(h0, .inr (1, [.ref qb, .int ln, .int (nI a), .int (nI b), .int ml]))]) hD hS hA [0] rfl
      refine x_rv (ws := [(h0, .inr (1, [.ref qb, .int ln, .int (nI a), .int (nI b), .int ml])), (qb, .inl (cB, 4000, .inl f))]) (wc := [(h0, .inr (1, [.ref qb, .int ln, .int (nI a), .int (nI b), .int ml]))]) (wr := [(qb, .inl (cB, 4000, .inl f))]) (x_V (As := []) (C := "WasmReader$Cursor") E (c_Cursor_fail l D cB cI cJ cZ s.heap.size h0 qb ln (nI a) (nI b) ml ) m_175 m_94 m_174 m_176 m_177 nm_Cursor_fail hPc hDc hZ hS hFc rfl rfl rfl hl.1 rfl (Nat.le_of_ble_eq_true rfl) d_Cursor_skip_18 rfl rfl (by decide) (by decide) (by decide) (by decide)) hP hD hS hA [0] [1] rfl rfl (by decide) (by decide) (fun u H locs hw hP hD hS => ?_)
      obtain rfl := hw
      have hP : va_P D classes [(qb, .inl (cB, 4000, .inl f)), (h0, .inr (1, [.ref qb, .int ln, .int (nI a), .int (nI b), .int 1]))] H := hP
      have hD : va_D (va_A [(h0, .inr (1, [.ref qb, .int ln, .int (nI a), .int (nI b), .int ml])), (qb, .inl (cB, 4000, .inl f))] s.heap.size) [(qb, .inl (cB, 4000, .inl f)), (h0, .inr (1, [.ref qb, .int ln, .int (nI a), .int (nI b), .int 1]))] := hD
      refine lv_goto (tgt := 34) E.1 E.2.1 d_Cursor_skip_21 (by decide) ?_
      refine W.widen (k := 0) (n := 0) (by decide) (by decide) ?_
      exact x_vret (ws := [(h0, .inr (1, [.ref qb, .int ln, .int (nI a), .int (nI b), .int 1])), (qb, .inl (cB, 4000, .inl f))]) E hr hlocks (hP.sub [1, 0] rfl) (hD.sub [1, 0] (by decide) rfl) hS ⟨a, 1, (by omega), (by omega), rfl⟩ d_Cursor_skip_34
set_option maxHeartbeats 4000000 in
set_option maxRecDepth 100000 in
theorem c_Cursor_narrow (l : Launch) (D : va_G) (cB cI cJ cZ : ClassId) (sz : Nat) (h0 : Nat) (qb : Nat) (ln : Int32) (a : Nat) (b : Nat) (ml : Int32) (f : Nat → Int32) (hab : a ≤ b) (hb4 : b ≤ 4000) : Met l y_Cursor_narrow (Cond.code y_Cursor_narrow prog_2_method_14_code 3 (some .int) :: xtb) ({ frames := 3, cells := 0, slots := 0, locals := 67 }) (xP D [(cB, .byte), (cI, .int), (cJ, .long), (cZ, .boolean)] [.ref h0] [(h0, .inr (1, [.ref qb, .int ln, .int (nI a), .int (nI b), .int ml])), (qb, .inl (cB, 4000, .inl f))] sz) (xQi D [(cB, .byte), (cI, .int), (cJ, .long), (cZ, .boolean)] [(h0, .inr (1, [.ref qb, .int ln, .int (nI a), .int (nI b), .int ml])), (qb, .inl (cB, 4000, .inl f))] sz (fun r u => ∃ (a2 : Nat), ∃ (ml2 : Int32), ∃ (b2 : Nat), r = nI b ∧ (a ≤ a2) ∧ (a2 ≤ b2) ∧ (b2 ≤ b) ∧ u = [(h0, .inr (1, [.ref qb, .int ln, .int (nI a2), .int (nI b2), .int ml2])), (qb, .inl (cB, 4000, .inl f))])) 0 0 (va_A [(h0, .inr (1, [.ref qb, .int ln, .int (nI a), .int (nI b), .int ml])), (qb, .inl (cB, 4000, .inl f))] sz) := by
  refine x_met (Qc := fun s => xQi D [(cB, .byte), (cI, .int), (cJ, .long), (cZ, .boolean)] [(h0, .inr (1, [.ref qb, .int ln, .int (nI a), .int (nI b), .int ml])), (qb, .inl (cB, 4000, .inl f))] s.heap.size (fun r u => ∃ (a2 : Nat), ∃ (ml2 : Int32), ∃ (b2 : Nat), r = nI b ∧ (a ≤ a2) ∧ (a2 ≤ b2) ∧ (b2 ≤ b) ∧ u = [(h0, .inr (1, [.ref qb, .int ln, .int (nI a2), .int (nI b2), .int ml2])), (qb, .inl (cB, 4000, .inl f))])) (fr := fun s => va_A [(h0, .inr (1, [.ref qb, .int ln, .int (nI a), .int (nI b), .int ml])), (qb, .inl (cB, 4000, .inl f))] s.heap.size) "WasmReader$Cursor" (by decide +kernel) rfl (Nat.le_of_ble_eq_true rfl) (fun s h => by rw [h]) (fun s h => by rw [h]) ?_
  intro p e s m below meth c ls E hr hlocks hinit hl hP hD hA hS hZ hadm
  have hl : lv_has ls 3 [(0, .ref h0)] := hl
  refine lv_aload_n E.1 E.2.1 d_Cursor_narrow_0 rfl (lv_at hl 0 rfl) ?_
  refine x_get E hP (C := "WasmReader$Cursor") (T := T_Cursor) (N := 5) (ci := 1) 0 (v := .int (nI b)) 3 in_Cursor rfl rfl (by decide) m_168 rfl d_Cursor_narrow_1 ?_
  refine lv_istore_n (lv' := [(1, .int (nI b)), (0, .ref h0)]) E.1 E.2.1 d_Cursor_narrow_4 rfl hl (by decide) rfl (fun ls hl => ?_)
  refine lv_aload_n E.1 E.2.1 d_Cursor_narrow_5 rfl (lv_at hl 1 rfl) ?_
  have hPc := hP.sub (ws' := [(h0, .inr (1, [.ref qb, .int ln, .int (nI a), .int (nI b), .int ml])), (qb, .inl (cB, 4000, .inl f))]) [0, 1] rfl
  have hDc := hD.sub (ws' := [(h0, .inr (1, [.ref qb, .int ln, .int (nI a), .int (nI b), .int ml])), (qb, .inl (cB, 4000, .inl f))]) [0, 1] (by decide) rfl
  have hFc := va_free (wc := [(h0, .inr (1, [.ref qb, .int ln, .int (nI a), .int (nI b), .int ml])), (qb, .inl (cB, 4000, .inl f))]) hD hS hA [0, 1] rfl
  refine x_ri (ws := [(h0, .inr (1, [.ref qb, .int ln, .int (nI a), .int (nI b), .int ml])), (qb, .inl (cB, 4000, .inl f))]) (wc := [(h0, .inr (1, [.ref qb, .int ln, .int (nI a), .int (nI b), .int ml])), (qb, .inl (cB, 4000, .inl f))]) (wr := []) (x_V (As := []) (C := "WasmReader$Cursor") E (c_Cursor_vector l D cB cI cJ cZ s.heap.size h0 qb ln a b ml f (by omega) (by omega)) m_246 m_94 m_245 m_247 m_248 nm_Cursor_vector hPc hDc hZ hS hFc rfl rfl rfl hl.1 rfl (Nat.le_of_ble_eq_true rfl) d_Cursor_narrow_6 rfl rfl (by decide) (by decide) (by decide) (by decide)) hP hD hS hA [0, 1] [] rfl rfl (by decide) (by decide) (fun r_9 u H locs hw hP hD hS => ?_)
  obtain ⟨a2_4, ml2_5, k_6, er_7, hf_1, hf_2, hf_3, rfl⟩ := hw
  have er_7 := er_7.symm
  subst er_7
  have hP : va_P D classes [(h0, .inr (1, [.ref qb, .int ln, .int (nI a2_4), .int (nI b), .int ml2_5])), (qb, .inl (cB, 4000, .inl f))] H := hP
  have hD : va_D (va_A [(h0, .inr (1, [.ref qb, .int ln, .int (nI a), .int (nI b), .int ml])), (qb, .inl (cB, 4000, .inl f))] s.heap.size) [(h0, .inr (1, [.ref qb, .int ln, .int (nI a2_4), .int (nI b), .int ml2_5])), (qb, .inl (cB, 4000, .inl f))] := hD
  refine lv_istore_n (lv' := [(2, .int (nI k_6)), (1, .int (nI b)), (0, .ref h0)]) E.1 E.2.1 d_Cursor_narrow_9 rfl hl (by decide) rfl (fun ls hl => ?_)
  refine lv_aload_n E.1 E.2.1 d_Cursor_narrow_10 rfl (lv_at hl 2 rfl) ?_
  refine lv_aload_n E.1 E.2.1 d_Cursor_narrow_11 rfl (lv_at hl 2 rfl) ?_
  refine x_get E hP (C := "WasmReader$Cursor") (T := T_Cursor) (N := 5) (ci := 1) 0 (v := .int (nI a2_4)) 2 in_Cursor rfl rfl (by decide) m_167 rfl d_Cursor_narrow_12 ?_
  refine lv_iload_n E.1 E.2.1 d_Cursor_narrow_15 rfl (lv_at hl 0 rfl) ?_
  refine lv_iadd E.1 E.2.1 d_Cursor_narrow_16 ?_
  refine lv_topi (fun vt_10 evt_10 => ?_)
  obtain rfl : vt_10 = nI (a2_4 + k_6) := evt_10.trans (nI_add a2_4 k_6)
  refine x_put E hP hD hS (C := "WasmReader$Cursor") (T := T_Cursor) (N := 5) (ci := 1) 0 (v := .int (nI (a2_4 + k_6))) 3 (t0 := t_Cursor) (tk := .int) in_Cursor tok_Cursor nok_Cursor rfl rfl (by decide) m_168 rfl rfl rfl rfl (Nat.le_of_ble_eq_true rfl) d_Cursor_narrow_17 (fun H locs hP hD hS => ?_)
  have hP : va_P D classes [(h0, .inr (1, [.ref qb, .int ln, .int (nI a2_4), .int (nI (a2_4 + k_6)), .int ml2_5])), (qb, .inl (cB, 4000, .inl f))] H := hP
  have hD : va_D (va_A [(h0, .inr (1, [.ref qb, .int ln, .int (nI a), .int (nI b), .int ml])), (qb, .inl (cB, 4000, .inl f))] s.heap.size) [(h0, .inr (1, [.ref qb, .int ln, .int (nI a2_4), .int (nI (a2_4 + k_6)), .int ml2_5])), (qb, .inl (cB, 4000, .inl f))] := hD
  refine lv_iload_n E.1 E.2.1 d_Cursor_narrow_20 rfl (lv_at hl 1 rfl) ?_
  refine W.widen (k := 0) (n := 0) (by decide) (by decide) ?_
  exact x_iret (ws := [(h0, .inr (1, [.ref qb, .int ln, .int (nI a2_4), .int (nI (a2_4 + k_6)), .int ml2_5])), (qb, .inl (cB, 4000, .inl f))]) E hr hlocks (hP.sub [0, 1] rfl) (hD.sub [0, 1] (by decide) rfl) hS ⟨a2_4, ml2_5, (a2_4 + k_6), rfl, (by omega), (by omega), (by omega), rfl⟩ d_Cursor_narrow_21
set_option maxHeartbeats 4000000 in
set_option maxRecDepth 100000 in
theorem c_Cursor_widen (l : Launch) (D : va_G) (cB cI cJ cZ : ClassId) (sz : Nat) (h0 : Nat) (qb : Nat) (ln : Int32) (a : Nat) (b : Nat) (ml : Int32) (f : Nat → Int32) (ou : Nat) (hab : a ≤ b) (hb4 : b ≤ 4000) (hbo : b ≤ ou) (ho4 : ou ≤ 4000) : Met l y_Cursor_widen (Cond.code y_Cursor_widen prog_2_method_15_code 2 none :: xtb) ({ frames := 1, cells := 0, slots := 0, locals := 20 }) (xP D [(cB, .byte), (cI, .int), (cJ, .long), (cZ, .boolean)] [.ref h0, .int (nI ou)] [(h0, .inr (1, [.ref qb, .int ln, .int (nI a), .int (nI b), .int ml])), (qb, .inl (cB, 4000, .inl f))] sz) (xQv D [(cB, .byte), (cI, .int), (cJ, .long), (cZ, .boolean)] [(h0, .inr (1, [.ref qb, .int ln, .int (nI a), .int (nI b), .int ml])), (qb, .inl (cB, 4000, .inl f))] sz (fun u => ∃ (ml2 : Int32), u = [(h0, .inr (1, [.ref qb, .int ln, .int (nI a), .int (nI ou), .int ml2])), (qb, .inl (cB, 4000, .inl f))])) 0 0 (va_A [(h0, .inr (1, [.ref qb, .int ln, .int (nI a), .int (nI b), .int ml])), (qb, .inl (cB, 4000, .inl f))] sz) := by
  refine x_met (Qc := fun s => xQv D [(cB, .byte), (cI, .int), (cJ, .long), (cZ, .boolean)] [(h0, .inr (1, [.ref qb, .int ln, .int (nI a), .int (nI b), .int ml])), (qb, .inl (cB, 4000, .inl f))] s.heap.size (fun u => ∃ (ml2 : Int32), u = [(h0, .inr (1, [.ref qb, .int ln, .int (nI a), .int (nI ou), .int ml2])), (qb, .inl (cB, 4000, .inl f))])) (fr := fun s => va_A [(h0, .inr (1, [.ref qb, .int ln, .int (nI a), .int (nI b), .int ml])), (qb, .inl (cB, 4000, .inl f))] s.heap.size) "WasmReader$Cursor" (by decide +kernel) rfl (Nat.le_of_ble_eq_true rfl) (fun s h => by rw [h]) (fun s h => by rw [h]) ?_
  intro p e s m below meth c ls E hr hlocks hinit hl hP hD hA hS hZ hadm
  have hl : lv_has ls 2 [(0, .ref h0), (1, .int (nI ou))] := hl
  refine lv_aload_n E.1 E.2.1 d_Cursor_widen_0 rfl (lv_at hl 0 rfl) ?_
  refine x_get E hP (C := "WasmReader$Cursor") (T := T_Cursor) (N := 5) (ci := 1) 0 (v := .int (nI a)) 2 in_Cursor rfl rfl (by decide) m_167 rfl d_Cursor_widen_1 ?_
  refine lv_aload_n E.1 E.2.1 d_Cursor_widen_4 rfl (lv_at hl 0 rfl) ?_
  refine x_get E hP (C := "WasmReader$Cursor") (T := T_Cursor) (N := 5) (ci := 1) 0 (v := .int (nI b)) 3 in_Cursor rfl rfl (by decide) m_168 rfl d_Cursor_widen_5 ?_
  refine lv_icmp_eq (tgt := 15) E.1 E.2.1 d_Cursor_widen_8 (by decide) (fun hc_1 => ?_) (fun hc_1 => ?_)
  ·
    have hc_1 : a = b := (nI_eq (a := a) (b := b) (by omega) (by omega)).mp hc_1
    refine lv_aload_n E.1 E.2.1 d_Cursor_widen_15 rfl (lv_at hl 0 rfl) ?_
    refine lv_iload_n E.1 E.2.1 d_Cursor_widen_16 rfl (lv_at hl 1 rfl) ?_
    refine x_put E hP hD hS (C := "WasmReader$Cursor") (T := T_Cursor) (N := 5) (ci := 1) 0 (v := .int (nI ou)) 3 (t0 := t_Cursor) (tk := .int) in_Cursor tok_Cursor nok_Cursor rfl rfl (by decide) m_168 rfl rfl rfl rfl (Nat.le_of_ble_eq_true rfl) d_Cursor_widen_17 (fun H locs hP hD hS => ?_)
    have hP : va_P D classes [(h0, .inr (1, [.ref qb, .int ln, .int (nI a), .int (nI ou), .int ml])), (qb, .inl (cB, 4000, .inl f))] H := hP
    have hD : va_D (va_A [(h0, .inr (1, [.ref qb, .int ln, .int (nI a), .int (nI b), .int ml])), (qb, .inl (cB, 4000, .inl f))] s.heap.size) [(h0, .inr (1, [.ref qb, .int ln, .int (nI a), .int (nI ou), .int ml])), (qb, .inl (cB, 4000, .inl f))] := hD
    refine W.widen (k := 0) (n := 0) (by decide) (by decide) ?_
    exact x_vret (ws := [(h0, .inr (1, [.ref qb, .int ln, .int (nI a), .int (nI ou), .int ml])), (qb, .inl (cB, 4000, .inl f))]) E hr hlocks (hP.sub [0, 1] rfl) (hD.sub [0, 1] (by decide) rfl) hS ⟨ml, rfl⟩ d_Cursor_widen_20
  ·
    have hc_1 : ¬ (a = b) := fun hq_ => hc_1 ((nI_eq (a := a) (b := b) (by omega) (by omega)).mpr hq_)
    refine lv_aload_n E.1 E.2.1 d_Cursor_widen_11 rfl (lv_at hl 0 rfl) ?_
    have hPc := hP.sub (ws' := [(h0, .inr (1, [.ref qb, .int ln, .int (nI a), .int (nI b), .int ml]))]) [0] rfl
    have hDc := hD.sub (ws' := [(h0, .inr (1, [.ref qb, .int ln, .int (nI a), .int (nI b), .int ml]))]) [0] (by decide) rfl
    have hFc := va_free (wc := [(h0, .inr (1, [.ref qb, .int ln, .int (nI a), .int (nI b), .int ml]))]) hD hS hA [0] rfl
    refine x_rv (ws := [(h0, .inr (1, [.ref qb, .int ln, .int (nI a), .int (nI b), .int ml])), (qb, .inl (cB, 4000, .inl f))]) (wc := [(h0, .inr (1, [.ref qb, .int ln, .int (nI a), .int (nI b), .int ml]))]) (wr := [(qb, .inl (cB, 4000, .inl f))]) (x_V (As := []) (C := "WasmReader$Cursor") E (c_Cursor_fail l D cB cI cJ cZ s.heap.size h0 qb ln (nI a) (nI b) ml ) m_175 m_94 m_174 m_176 m_177 nm_Cursor_fail hPc hDc hZ hS hFc rfl rfl rfl hl.1 rfl (Nat.le_of_ble_eq_true rfl) d_Cursor_widen_12 rfl rfl (by decide) (by decide) (by decide) (by decide)) hP hD hS hA [0] [1] rfl rfl (by decide) (by decide) (fun u H locs hw hP hD hS => ?_)
    obtain rfl := hw
    have hP : va_P D classes [(qb, .inl (cB, 4000, .inl f)), (h0, .inr (1, [.ref qb, .int ln, .int (nI a), .int (nI b), .int 1]))] H := hP
    have hD : va_D (va_A [(h0, .inr (1, [.ref qb, .int ln, .int (nI a), .int (nI b), .int ml])), (qb, .inl (cB, 4000, .inl f))] s.heap.size) [(qb, .inl (cB, 4000, .inl f)), (h0, .inr (1, [.ref qb, .int ln, .int (nI a), .int (nI b), .int 1]))] := hD
    refine lv_aload_n E.1 E.2.1 d_Cursor_widen_15 rfl (lv_at hl 0 rfl) ?_
    refine lv_iload_n E.1 E.2.1 d_Cursor_widen_16 rfl (lv_at hl 1 rfl) ?_
    refine x_put E hP hD hS (C := "WasmReader$Cursor") (T := T_Cursor) (N := 5) (ci := 1) 1 (v := .int (nI ou)) 3 (t0 := t_Cursor) (tk := .int) in_Cursor tok_Cursor nok_Cursor rfl rfl (by decide) m_168 rfl rfl rfl rfl (Nat.le_of_ble_eq_true rfl) d_Cursor_widen_17 (fun H locs hP hD hS => ?_)
    have hP : va_P D classes [(qb, .inl (cB, 4000, .inl f)), (h0, .inr (1, [.ref qb, .int ln, .int (nI a), .int (nI ou), .int 1]))] H := hP
    have hD : va_D (va_A [(h0, .inr (1, [.ref qb, .int ln, .int (nI a), .int (nI b), .int ml])), (qb, .inl (cB, 4000, .inl f))] s.heap.size) [(qb, .inl (cB, 4000, .inl f)), (h0, .inr (1, [.ref qb, .int ln, .int (nI a), .int (nI ou), .int 1]))] := hD
    refine W.widen (k := 0) (n := 0) (by decide) (by decide) ?_
    exact x_vret (ws := [(h0, .inr (1, [.ref qb, .int ln, .int (nI a), .int (nI ou), .int 1])), (qb, .inl (cB, 4000, .inl f))]) E hr hlocks (hP.sub [1, 0] rfl) (hD.sub [1, 0] (by decide) rfl) hS ⟨1, rfl⟩ d_Cursor_widen_20
