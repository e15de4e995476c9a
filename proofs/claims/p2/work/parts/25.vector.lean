set_option maxHeartbeats 4000000 in
set_option maxRecDepth 100000 in
theorem c_Cursor_vector (l : Launch) (D : va_G) (cB cI cJ cZ : ClassId) (sz : Nat) (h0 : Nat) (qb : Nat) (ln : Int32) (a : Nat) (b : Nat) (ml : Int32) (f : Nat → Int32) (hab : a ≤ b) (hb4 : b ≤ 4000) : Met l y_Cursor_vector (Cond.code y_Cursor_vector prog_2_method_12_code 3 (some .int) :: xtb) ({ frames := 2, cells := 0, slots := 0, locals := 45 }) (xP D [(cB, .byte), (cI, .int), (cJ, .long), (cZ, .boolean)] [.ref h0] [(h0, .inr (1, [.ref qb, .int ln, .int (nI a), .int (nI b), .int ml])), (qb, .inl (cB, 4000, .inl f))] sz) (xQi D [(cB, .byte), (cI, .int), (cJ, .long), (cZ, .boolean)] [(h0, .inr (1, [.ref qb, .int ln, .int (nI a), .int (nI b), .int ml])), (qb, .inl (cB, 4000, .inl f))] sz (fun r u => ∃ (a2 : Nat), ∃ (m2 : Int32), ∃ (k : Nat), r = nI k ∧ (a ≤ a2) ∧ (a2 ≤ b) ∧ (a2 + k ≤ b) ∧ u = [(h0, .inr (1, [.ref qb, .int ln, .int (nI a2), .int (nI b), .int m2])), (qb, .inl (cB, 4000, .inl f))])) 0 0 (va_A [(h0, .inr (1, [.ref qb, .int ln, .int (nI a), .int (nI b), .int ml])), (qb, .inl (cB, 4000, .inl f))] sz) := by
  refine x_met (Qc := fun s => xQi D [(cB, .byte), (cI, .int), (cJ, .long), (cZ, .boolean)] [(h0, .inr (1, [.ref qb, .int ln, .int (nI a), .int (nI b), .int ml])), (qb, .inl (cB, 4000, .inl f))] s.heap.size (fun r u => ∃ (a2 : Nat), ∃ (m2 : Int32), ∃ (k : Nat), r = nI k ∧ (a ≤ a2) ∧ (a2 ≤ b) ∧ (a2 + k ≤ b) ∧ u = [(h0, .inr (1, [.ref qb, .int ln, .int (nI a2), .int (nI b), .int m2])), (qb, .inl (cB, 4000, .inl f))])) (fr := fun s => va_A [(h0, .inr (1, [.ref qb, .int ln, .int (nI a), .int (nI b), .int ml])), (qb, .inl (cB, 4000, .inl f))] s.heap.size) "WasmReader$Cursor" (by decide +kernel) rfl (Nat.le_of_ble_eq_true rfl) (fun s h => by rw [h]) (fun s h => by rw [h]) ?_
  intro p e s m below meth c ls E hr hlocks hinit hl hP hD hA hS hZ hadm
  have hl : lv_has ls 3 [(0, .ref h0)] := hl
  refine lv_aload_n E.1 E.2.1 d_Cursor_vector_0 rfl (lv_at hl 0 rfl) ?_
  have hPc := hP.sub (ws' := [(h0, .inr (1, [.ref qb, .int ln, .int (nI a), .int (nI b), .int ml])), (qb, .inl (cB, 4000, .inl f))]) [0, 1] rfl
  have hDc := hD.sub (ws' := [(h0, .inr (1, [.ref qb, .int ln, .int (nI a), .int (nI b), .int ml])), (qb, .inl (cB, 4000, .inl f))]) [0, 1] (by decide) rfl
  have hFc := va_free (wc := [(h0, .inr (1, [.ref qb, .int ln, .int (nI a), .int (nI b), .int ml])), (qb, .inl (cB, 4000, .inl f))]) hD hS hA [0, 1] rfl
  refine x_rl (ws := [(h0, .inr (1, [.ref qb, .int ln, .int (nI a), .int (nI b), .int ml])), (qb, .inl (cB, 4000, .inl f))]) (wc := [(h0, .inr (1, [.ref qb, .int ln, .int (nI a), .int (nI b), .int ml])), (qb, .inl (cB, 4000, .inl f))]) (wr := []) (x_V (As := []) (C := "WasmReader$Cursor") E (c_Cursor_unsigned l D cB cI cJ cZ s.heap.size h0 qb ln a b ml f (by omega) (by omega)) m_233 m_94 m_232 m_234 m_235 nm_Cursor_unsigned hPc hDc hZ hS hFc rfl rfl rfl hl.1 rfl (Nat.le_of_ble_eq_true rfl) d_Cursor_vector_1 rfl rfl (by decide) (by decide) (by decide) (by decide)) hP hD hS hA [0, 1] [] rfl rfl (by decide) (by decide) (fun r_7 u H locs hw hP hD hS => ?_)
  obtain ⟨a2_4, m2_5, hf_1, hf_2, hf_3, rfl⟩ := hw
  have hP : va_P D classes [(h0, .inr (1, [.ref qb, .int ln, .int (nI a2_4), .int (nI b), .int m2_5])), (qb, .inl (cB, 4000, .inl f))] H := hP
  have hD : va_D (va_A [(h0, .inr (1, [.ref qb, .int ln, .int (nI a), .int (nI b), .int ml])), (qb, .inl (cB, 4000, .inl f))] s.heap.size) [(h0, .inr (1, [.ref qb, .int ln, .int (nI a2_4), .int (nI b), .int m2_5])), (qb, .inl (cB, 4000, .inl f))] := hD
  refine lv_lstore_n (lv' := [(1, .long r_7), (0, .ref h0)]) E.1 E.2.1 d_Cursor_vector_4 rfl hl (by decide) rfl (fun ls hl => ?_)
  refine lv_aload_n E.1 E.2.1 d_Cursor_vector_5 rfl (lv_at hl 1 rfl) ?_
  refine x_get E hP (C := "WasmReader$Cursor") (T := T_Cursor) (N := 5) (ci := 1) 0 (v := .int m2_5) 4 in_Cursor rfl rfl (by decide) m_169 rfl d_Cursor_vector_6 ?_
  refine lv_if_ne (tgt := 27) E.1 E.2.1 d_Cursor_vector_9 (by decide) (fun hc_8 => ?_) (fun hc_8 => ?_)
  ·
    refine lv_aload_n E.1 E.2.1 d_Cursor_vector_27 rfl (lv_at hl 1 rfl) ?_
    have hPc := hP.sub (ws' := [(h0, .inr (1, [.ref qb, .int ln, .int (nI a2_4), .int (nI b), .int m2_5]))]) [0] rfl
    have hDc := hD.sub (ws' := [(h0, .inr (1, [.ref qb, .int ln, .int (nI a2_4), .int (nI b), .int m2_5]))]) [0] (by decide) rfl
    have hFc := va_free (wc := [(h0, .inr (1, [.ref qb, .int ln, .int (nI a2_4), .int (nI b), .int m2_5]))]) hD hS hA [0] rfl
    refine x_rv (ws := [(h0, .inr (1, [.ref qb, .int ln, .int (nI a2_4), .int (nI b), .int m2_5])), (qb, .inl (cB, 4000, .inl f))]) (wc := [(h0, .inr (1, [.ref qb, .int ln, .int (nI a2_4), .int (nI b), .int m2_5]))]) (wr := [(qb, .inl (cB, 4000, .inl f))]) (x_V (As := []) (C := "WasmReader$Cursor") E (c_Cursor_fail l D cB cI cJ cZ H.size h0 qb ln (nI a2_4) (nI b) m2_5 ) m_175 m_94 m_174 m_176 m_177 nm_Cursor_fail hPc hDc hZ hS hFc rfl rfl rfl hl.1 rfl (Nat.le_of_ble_eq_true rfl) d_Cursor_vector_28 rfl rfl (by decide) (by decide) (by decide) (by decide)) hP hD hS hA [0] [1] rfl rfl (by decide) (by decide) (fun u H locs hw hP hD hS => ?_)
    obtain rfl := hw
    have hP : va_P D classes [(qb, .inl (cB, 4000, .inl f)), (h0, .inr (1, [.ref qb, .int ln, .int (nI a2_4), .int (nI b), .int 1]))] H := hP
    have hD : va_D (va_A [(h0, .inr (1, [.ref qb, .int ln, .int (nI a), .int (nI b), .int ml])), (qb, .inl (cB, 4000, .inl f))] s.heap.size) [(qb, .inl (cB, 4000, .inl f)), (h0, .inr (1, [.ref qb, .int ln, .int (nI a2_4), .int (nI b), .int 1]))] := hD
    refine lv_iconst (v := 0) E.1 E.2.1 d_Cursor_vector_31 (by decide) ?_
    refine W.widen (k := 0) (n := 0) (by decide) (by decide) ?_
    exact x_iret (ws := [(h0, .inr (1, [.ref qb, .int ln, .int (nI a2_4), .int (nI b), .int 1])), (qb, .inl (cB, 4000, .inl f))]) E hr hlocks (hP.sub [1, 0] rfl) (hD.sub [1, 0] (by decide) rfl) hS ⟨a2_4, 1, 0, (by first | rfl | omega), (by omega), (by omega), (by omega), rfl⟩ d_Cursor_vector_32
  ·
    refine lv_lload_n E.1 E.2.1 d_Cursor_vector_12 rfl (lv_at hl 0 rfl) ?_
    refine lv_aload_n E.1 E.2.1 d_Cursor_vector_13 rfl (lv_at hl 1 rfl) ?_
    refine x_get E hP (C := "WasmReader$Cursor") (T := T_Cursor) (N := 5) (ci := 1) 0 (v := .int (nI b)) 3 in_Cursor rfl rfl (by decide) m_168 rfl d_Cursor_vector_14 ?_
    refine lv_aload_n E.1 E.2.1 d_Cursor_vector_17 rfl (lv_at hl 1 rfl) ?_
    refine x_get E hP (C := "WasmReader$Cursor") (T := T_Cursor) (N := 5) (ci := 1) 0 (v := .int (nI a2_4)) 2 in_Cursor rfl rfl (by decide) m_167 rfl d_Cursor_vector_18 ?_
    refine lv_isub E.1 E.2.1 d_Cursor_vector_21 ?_
    refine lv_topi (fun vt_9 evt_9 => ?_)
    obtain rfl : vt_9 = nI (b - a2_4) := evt_9.trans (pk_sub (by omega))
    refine lv_i2l (v := (nI (b - a2_4) : Int32).toInt64) E.1 E.2.1 d_Cursor_vector_22 rfl ?_
    refine W.lcmp E.1 E.2.1 d_Cursor_vector_23 ?_
    refine lv_if_le (tgt := 33) E.1 E.2.1 d_Cursor_vector_24 (by decide) (fun hc_10 => ?_) (fun hc_10 => ?_)
    ·
      refine lv_lload_n E.1 E.2.1 d_Cursor_vector_33 rfl (lv_at hl 0 rfl) ?_
      refine lv_l2i (v := (r_7 : Int64).toInt32) E.1 E.2.1 d_Cursor_vector_34 rfl ?_
      refine lv_topi (fun v_11 ev_11 => ?_)
      obtain ⟨j_12, hj_12, ej_12⟩ := x_vec hf_3 (by omega) hc_10
      obtain rfl : v_11 = nI j_12 := ev_11.trans ej_12
      refine W.widen (k := 0) (n := 0) (by decide) (by decide) ?_
      exact x_iret (ws := [(h0, .inr (1, [.ref qb, .int ln, .int (nI a2_4), .int (nI b), .int m2_5])), (qb, .inl (cB, 4000, .inl f))]) E hr hlocks (hP.sub [0, 1] rfl) (hD.sub [0, 1] (by decide) rfl) hS ⟨a2_4, m2_5, j_12, rfl, (by omega), (by omega), (by omega), rfl⟩ d_Cursor_vector_35
    ·
      refine lv_aload_n E.1 E.2.1 d_Cursor_vector_27 rfl (lv_at hl 1 rfl) ?_
      have hPc := hP.sub (ws' := [(h0, .inr (1, [.ref qb, .int ln, .int (nI a2_4), .int (nI b), .int m2_5]))]) [0] rfl
      have hDc := hD.sub (ws' := [(h0, .inr (1, [.ref qb, .int ln, .int (nI a2_4), .int (nI b), .int m2_5]))]) [0] (by decide) rfl
      have hFc := va_free (wc := [(h0, .inr (1, [.ref qb, .int ln, .int (nI a2_4), .int (nI b), .int m2_5]))]) hD hS hA [0] rfl
      refine x_rv (ws := [(h0, .inr (1, [.ref qb, .int ln, .int (nI a2_4), .int (nI b), .int m2_5])), (qb, .inl (cB, 4000, .inl f))]) (wc := [(h0, .inr (1, [.ref qb, .int ln, .int (nI a2_4), .int (nI b), .int m2_5]))]) (wr := [(qb, .inl (cB, 4000, .inl f))]) (x_V (As := []) (C := "WasmReader$Cursor") E (c_Cursor_fail l D cB cI cJ cZ H.size h0 qb ln (nI a2_4) (nI b) m2_5 ) m_175 m_94 m_174 m_176 m_177 nm_Cursor_fail hPc hDc hZ hS hFc rfl rfl rfl hl.1 rfl (Nat.le_of_ble_eq_true rfl) d_Cursor_vector_28 rfl rfl (by decide) (by decide) (by decide) (by decide)) hP hD hS hA [0] [1] rfl rfl (by decide) (by decide) (fun u H locs hw hP hD hS => ?_)
      obtain rfl := hw
      have hP : va_P D classes [(qb, .inl (cB, 4000, .inl f)), (h0, .inr (1, [.ref qb, .int ln, .int (nI a2_4), .int (nI b), .int 1]))] H := hP
      have hD : va_D (va_A [(h0, .inr (1, [.ref qb, .int ln, .int (nI a), .int (nI b), .int ml])), (qb, .inl (cB, 4000, .inl f))] s.heap.size) [(qb, .inl (cB, 4000, .inl f)), (h0, .inr (1, [.ref qb, .int ln, .int (nI a2_4), .int (nI b), .int 1]))] := hD
      refine lv_iconst (v := 0) E.1 E.2.1 d_Cursor_vector_31 (by decide) ?_
      refine W.widen (k := 0) (n := 0) (by decide) (by decide) ?_
      exact x_iret (ws := [(h0, .inr (1, [.ref qb, .int ln, .int (nI a2_4), .int (nI b), .int 1])), (qb, .inl (cB, 4000, .inl f))]) E hr hlocks (hP.sub [1, 0] rfl) (hD.sub [1, 0] (by decide) rfl) hS ⟨a2_4, 1, 0, (by first | rfl | omega), (by omega), (by omega), (by omega), rfl⟩ d_Cursor_vector_32
