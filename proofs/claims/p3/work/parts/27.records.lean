set_option maxHeartbeats 4000000 in
set_option maxRecDepth 100000 in
theorem c_Cursor_append4 (l : Launch) (D : va_G) (cB cI cJ cZ : ClassId) (sz : Nat) (h0 : Nat) (qb : Nat) (n : Nat) (pos : Int32) (lim : Int32) (ml : Int32) (f : Nat → Int32) (wd : Int32) (hn : n + 4 ≤ 4000) : Met l y_Cursor_append (Cond.code y_Cursor_append prog_2_method_2_code 3 none :: xtb) ({ frames := 0, cells := 0, slots := 0, locals := 0 }) (xP D [(cB, .byte), (cI, .int), (cJ, .long), (cZ, .boolean)] [.ref h0, .int wd] [(h0, .inr (1, [.ref qb, .int (nI n), .int pos, .int lim, .int ml])), (qb, .inl (cB, 4000, .inl f))] sz) (xQv D [(cB, .byte), (cI, .int), (cJ, .long), (cZ, .boolean)] [(h0, .inr (1, [.ref qb, .int (nI n), .int pos, .int lim, .int ml])), (qb, .inl (cB, 4000, .inl f))] sz (fun u => ∃ (g : Nat → Int32), u = [(h0, .inr (1, [.ref qb, .int (nI (n + 1 + 1 + 1 + 1)), .int pos, .int lim, .int ml])), (qb, .inl (cB, 4000, .inl g))])) 0 0 (va_A [(h0, .inr (1, [.ref qb, .int (nI n), .int pos, .int lim, .int ml])), (qb, .inl (cB, 4000, .inl f))] sz) := by
  refine x_met (Qc := fun s => xQv D [(cB, .byte), (cI, .int), (cJ, .long), (cZ, .boolean)] [(h0, .inr (1, [.ref qb, .int (nI n), .int pos, .int lim, .int ml])), (qb, .inl (cB, 4000, .inl f))] s.heap.size (fun u => ∃ (g : Nat → Int32), u = [(h0, .inr (1, [.ref qb, .int (nI (n + 1 + 1 + 1 + 1)), .int pos, .int lim, .int ml])), (qb, .inl (cB, 4000, .inl g))])) (fr := fun s => va_A [(h0, .inr (1, [.ref qb, .int (nI n), .int pos, .int lim, .int ml])), (qb, .inl (cB, 4000, .inl f))] s.heap.size) "WasmReader$Cursor" (by decide +kernel) rfl (Nat.le_of_ble_eq_true rfl) (fun s h => by rw [h]) (fun s h => by rw [h]) ?_
  intro p e s m below meth c ls E hr hlocks hinit hl hP hD hA hS hZ hadm
  have hl : lv_has ls 3 [(0, .ref h0), (1, .int wd)] := hl
  refine lv_bipush (v := 24) E.1 E.2.1 d_Cursor_append_0 (by decide) ?_
  refine lv_istore_n (lv' := [(2, .int 24), (0, .ref h0), (1, .int wd)]) E.1 E.2.1 d_Cursor_append_2 rfl hl (by decide) rfl (fun ls hl => ?_)
  refine lv_iload_n E.1 E.2.1 d_Cursor_append_3 rfl (lv_at hl 0 rfl) ?_
  refine lv_if_lt (tgt := 48) E.1 E.2.1 d_Cursor_append_4 (by decide) (fun hc => absurd hc (by decide)) (fun _ => ?_)
  refine lv_aload_n E.1 E.2.1 d_Cursor_append_7 rfl (lv_at hl 1 rfl) ?_
  refine x_get E hP (C := "WasmReader$Cursor") (T := T_Cursor) (N := 5) (ci := 1) 0 (v := .int (nI n)) 1 in_Cursor rfl rfl (by decide) m_166 rfl d_Cursor_append_8 ?_
  refine lv_aload_n E.1 E.2.1 d_Cursor_append_11 rfl (lv_at hl 1 rfl) ?_
  refine x_get E hP (C := "WasmReader$Cursor") (T := T_Cursor) (N := 5) (ci := 1) 0 (v := .ref qb) 0 in_Cursor rfl rfl (by decide) m_0 rfl d_Cursor_append_12 ?_
  refine va_alen E.1 E.2.1 E.2.2.2.2.2 hP 1 0 rfl rfl (v := 4000) rfl d_Cursor_append_15 ?_
  refine lv_icmp_ge (tgt := 42) E.1 E.2.1 d_Cursor_append_16 (by decide) (fun hc => absurd hc (nI_ge (b := 4000) (by omega) (by decide))) (fun _ => ?_)
  refine lv_aload_n E.1 E.2.1 d_Cursor_append_19 rfl (lv_at hl 1 rfl) ?_
  refine x_get E hP (C := "WasmReader$Cursor") (T := T_Cursor) (N := 5) (ci := 1) 0 (v := .ref qb) 0 in_Cursor rfl rfl (by decide) m_0 rfl d_Cursor_append_20 ?_
  refine lv_aload_n E.1 E.2.1 d_Cursor_append_23 rfl (lv_at hl 1 rfl) ?_
  refine x_get E hP (C := "WasmReader$Cursor") (T := T_Cursor) (N := 5) (ci := 1) 0 (v := .int (nI n)) 1 in_Cursor rfl rfl (by decide) m_166 rfl d_Cursor_append_24 ?_
  refine lv_iload_n E.1 E.2.1 d_Cursor_append_27 rfl (lv_at hl 2 rfl) ?_
  refine lv_iload_n E.1 E.2.1 d_Cursor_append_28 rfl (lv_at hl 0 rfl) ?_
  refine lv_ishr E.1 E.2.1 d_Cursor_append_29 ?_
  refine lv_topi (fun v_13 ev_13 => ?_)
  obtain ⟨b_14, eb_14⟩ : ∃ z : Int32, z = (v_13).toInt8.toInt32 := ⟨_, rfl⟩
  refine lv_i2b (v := b_14) E.1 E.2.1 d_Cursor_append_30 eb_14.symm ?_
  refine va_bast E.1 E.2.1 E.2.2.2.2.2 hP hD hS 1 0 rfl rfl (i := nI n) (x := b_14) (vp_in_nI (n := n) (by omega) (by decide)) d_Cursor_append_31 (fun H locs hP hD hS => ?_)
  generalize upd f (Int32.toNatClampNeg (nI n)) (vp_nar .byte b_14) = g_15 at hP hD
  have hP : va_P D classes [(h0, .inr (1, [.ref qb, .int (nI n), .int pos, .int lim, .int ml])), (qb, .inl (cB, 4000, .inl g_15))] H := hP
  have hD : va_D (va_A [(h0, .inr (1, [.ref qb, .int (nI n), .int pos, .int lim, .int ml])), (qb, .inl (cB, 4000, .inl f))] s.heap.size) [(h0, .inr (1, [.ref qb, .int (nI n), .int pos, .int lim, .int ml])), (qb, .inl (cB, 4000, .inl g_15))] := hD
  refine lv_aload_n E.1 E.2.1 d_Cursor_append_32 rfl (lv_at hl 1 rfl) ?_
  refine lv_dup E.1 E.2.1 d_Cursor_append_33 rfl ?_
  refine x_get E hP (C := "WasmReader$Cursor") (T := T_Cursor) (N := 5) (ci := 1) 0 (v := .int (nI n)) 1 in_Cursor rfl rfl (by decide) m_166 rfl d_Cursor_append_34 ?_
  refine lv_iconst (v := 1) E.1 E.2.1 d_Cursor_append_37 (by decide) ?_
  refine lv_iadd E.1 E.2.1 d_Cursor_append_38 ?_
  refine lv_topi (fun vt_16 evt_16 => ?_)
  obtain rfl : vt_16 = nI (n + 1) := evt_16.trans (nI_add n 1)
  refine x_put E hP hD hS (C := "WasmReader$Cursor") (T := T_Cursor) (N := 5) (ci := 1) 0 (v := .int (nI (n + 1))) 1 (t0 := t_Cursor) (tk := .int) in_Cursor tok_Cursor nok_Cursor rfl rfl (by decide) m_166 rfl rfl rfl rfl (Nat.le_of_ble_eq_true rfl) d_Cursor_append_39 (fun H locs hP hD hS => ?_)
  have hP : va_P D classes [(h0, .inr (1, [.ref qb, .int (nI (n + 1)), .int pos, .int lim, .int ml])), (qb, .inl (cB, 4000, .inl g_15))] H := hP
  have hD : va_D (va_A [(h0, .inr (1, [.ref qb, .int (nI n), .int pos, .int lim, .int ml])), (qb, .inl (cB, 4000, .inl f))] s.heap.size) [(h0, .inr (1, [.ref qb, .int (nI (n + 1)), .int pos, .int lim, .int ml])), (qb, .inl (cB, 4000, .inl g_15))] := hD
  refine lv_iinc (v := 16) (lv' := [(2, .int 16), (0, .ref h0), (1, .int wd)]) E.1 E.2.1 d_Cursor_append_42 hl (k := 0) rfl (by decide) (by decide) rfl (fun ls hl => ?_)
  refine lv_goto (tgt := 3) E.1 E.2.1 d_Cursor_append_45 (by decide) ?_
  refine lv_iload_n E.1 E.2.1 d_Cursor_append_3 rfl (lv_at hl 0 rfl) ?_
  refine lv_if_lt (tgt := 48) E.1 E.2.1 d_Cursor_append_4 (by decide) (fun hc => absurd hc (by decide)) (fun _ => ?_)
  refine lv_aload_n E.1 E.2.1 d_Cursor_append_7 rfl (lv_at hl 1 rfl) ?_
  refine x_get E hP (C := "WasmReader$Cursor") (T := T_Cursor) (N := 5) (ci := 1) 0 (v := .int (nI (n + 1))) 1 in_Cursor rfl rfl (by decide) m_166 rfl d_Cursor_append_8 ?_
  refine lv_aload_n E.1 E.2.1 d_Cursor_append_11 rfl (lv_at hl 1 rfl) ?_
  refine x_get E hP (C := "WasmReader$Cursor") (T := T_Cursor) (N := 5) (ci := 1) 0 (v := .ref qb) 0 in_Cursor rfl rfl (by decide) m_0 rfl d_Cursor_append_12 ?_
  refine va_alen E.1 E.2.1 E.2.2.2.2.2 hP 1 0 rfl rfl (v := 4000) rfl d_Cursor_append_15 ?_
  refine lv_icmp_ge (tgt := 42) E.1 E.2.1 d_Cursor_append_16 (by decide) (fun hc => absurd hc (nI_ge (b := 4000) (by omega) (by decide))) (fun _ => ?_)
  refine lv_aload_n E.1 E.2.1 d_Cursor_append_19 rfl (lv_at hl 1 rfl) ?_
  refine x_get E hP (C := "WasmReader$Cursor") (T := T_Cursor) (N := 5) (ci := 1) 0 (v := .ref qb) 0 in_Cursor rfl rfl (by decide) m_0 rfl d_Cursor_append_20 ?_
  refine lv_aload_n E.1 E.2.1 d_Cursor_append_23 rfl (lv_at hl 1 rfl) ?_
  refine x_get E hP (C := "WasmReader$Cursor") (T := T_Cursor) (N := 5) (ci := 1) 0 (v := .int (nI (n + 1))) 1 in_Cursor rfl rfl (by decide) m_166 rfl d_Cursor_append_24 ?_
  refine lv_iload_n E.1 E.2.1 d_Cursor_append_27 rfl (lv_at hl 2 rfl) ?_
  refine lv_iload_n E.1 E.2.1 d_Cursor_append_28 rfl (lv_at hl 0 rfl) ?_
  refine lv_ishr E.1 E.2.1 d_Cursor_append_29 ?_
  refine lv_topi (fun v_17 ev_17 => ?_)
  obtain ⟨b_18, eb_18⟩ : ∃ z : Int32, z = (v_17).toInt8.toInt32 := ⟨_, rfl⟩
  refine lv_i2b (v := b_18) E.1 E.2.1 d_Cursor_append_30 eb_18.symm ?_
  refine va_bast E.1 E.2.1 E.2.2.2.2.2 hP hD hS 1 0 rfl rfl (i := nI (n + 1)) (x := b_18) (vp_in_nI (n := n + 1) (by omega) (by decide)) d_Cursor_append_31 (fun H locs hP hD hS => ?_)
  generalize upd g_15 (Int32.toNatClampNeg (nI (n + 1))) (vp_nar .byte b_18) = g_19 at hP hD
  have hP : va_P D classes [(h0, .inr (1, [.ref qb, .int (nI (n + 1)), .int pos, .int lim, .int ml])), (qb, .inl (cB, 4000, .inl g_19))] H := hP
  have hD : va_D (va_A [(h0, .inr (1, [.ref qb, .int (nI n), .int pos, .int lim, .int ml])), (qb, .inl (cB, 4000, .inl f))] s.heap.size) [(h0, .inr (1, [.ref qb, .int (nI (n + 1)), .int pos, .int lim, .int ml])), (qb, .inl (cB, 4000, .inl g_19))] := hD
  refine lv_aload_n E.1 E.2.1 d_Cursor_append_32 rfl (lv_at hl 1 rfl) ?_
  refine lv_dup E.1 E.2.1 d_Cursor_append_33 rfl ?_
  refine x_get E hP (C := "WasmReader$Cursor") (T := T_Cursor) (N := 5) (ci := 1) 0 (v := .int (nI (n + 1))) 1 in_Cursor rfl rfl (by decide) m_166 rfl d_Cursor_append_34 ?_
  refine lv_iconst (v := 1) E.1 E.2.1 d_Cursor_append_37 (by decide) ?_
  refine lv_iadd E.1 E.2.1 d_Cursor_append_38 ?_
  refine lv_topi (fun vt_20 evt_20 => ?_)
  obtain rfl : vt_20 = nI (n + 1 + 1) := evt_20.trans (nI_add (n + 1) 1)
  refine x_put E hP hD hS (C := "WasmReader$Cursor") (T := T_Cursor) (N := 5) (ci := 1) 0 (v := .int (nI (n + 1 + 1))) 1 (t0 := t_Cursor) (tk := .int) in_Cursor tok_Cursor nok_Cursor rfl rfl (by decide) m_166 rfl rfl rfl rfl (Nat.le_of_ble_eq_true rfl) d_Cursor_append_39 (fun H locs hP hD hS => ?_)
  have hP : va_P D classes [(h0, .inr (1, [.ref qb, .int (nI (n + 1 + 1)), .int pos, .int lim, .int ml])), (qb, .inl (cB, 4000, .inl g_19))] H := hP
  have hD : va_D (va_A [(h0, .inr (1, [.ref qb, .int (nI n), .int pos, .int lim, .int ml])), (qb, .inl (cB, 4000, .inl f))] s.heap.size) [(h0, .inr (1, [.ref qb, .int (nI (n + 1 + 1)), .int pos, .int lim, .int ml])), (qb, .inl (cB, 4000, .inl g_19))] := hD
  refine lv_iinc (v := 8) (lv' := [(2, .int 8), (0, .ref h0), (1, .int wd)]) E.1 E.2.1 d_Cursor_append_42 hl (k := 0) rfl (by decide) (by decide) rfl (fun ls hl => ?_)
  refine lv_goto (tgt := 3) E.1 E.2.1 d_Cursor_append_45 (by decide) ?_
  refine lv_iload_n E.1 E.2.1 d_Cursor_append_3 rfl (lv_at hl 0 rfl) ?_
  refine lv_if_lt (tgt := 48) E.1 E.2.1 d_Cursor_append_4 (by decide) (fun hc => absurd hc (by decide)) (fun _ => ?_)
  refine lv_aload_n E.1 E.2.1 d_Cursor_append_7 rfl (lv_at hl 1 rfl) ?_
  refine x_get E hP (C := "WasmReader$Cursor") (T := T_Cursor) (N := 5) (ci := 1) 0 (v := .int (nI (n + 1 + 1))) 1 in_Cursor rfl rfl (by decide) m_166 rfl d_Cursor_append_8 ?_
  refine lv_aload_n E.1 E.2.1 d_Cursor_append_11 rfl (lv_at hl 1 rfl) ?_
  refine x_get E hP (C := "WasmReader$Cursor") (T := T_Cursor) (N := 5) (ci := 1) 0 (v := .ref qb) 0 in_Cursor rfl rfl (by decide) m_0 rfl d_Cursor_append_12 ?_
  refine va_alen E.1 E.2.1 E.2.2.2.2.2 hP 1 0 rfl rfl (v := 4000) rfl d_Cursor_append_15 ?_
  refine lv_icmp_ge (tgt := 42) E.1 E.2.1 d_Cursor_append_16 (by decide) (fun hc => absurd hc (nI_ge (b := 4000) (by omega) (by decide))) (fun _ => ?_)
  refine lv_aload_n E.1 E.2.1 d_Cursor_append_19 rfl (lv_at hl 1 rfl) ?_
  refine x_get E hP (C := "WasmReader$Cursor") (T := T_Cursor) (N := 5) (ci := 1) 0 (v := .ref qb) 0 in_Cursor rfl rfl (by decide) m_0 rfl d_Cursor_append_20 ?_
  refine lv_aload_n E.1 E.2.1 d_Cursor_append_23 rfl (lv_at hl 1 rfl) ?_
  refine x_get E hP (C := "WasmReader$Cursor") (T := T_Cursor) (N := 5) (ci := 1) 0 (v := .int (nI (n + 1 + 1))) 1 in_Cursor rfl rfl (by decide) m_166 rfl d_Cursor_append_24 ?_
  refine lv_iload_n E.1 E.2.1 d_Cursor_append_27 rfl (lv_at hl 2 rfl) ?_
  refine lv_iload_n E.1 E.2.1 d_Cursor_append_28 rfl (lv_at hl 0 rfl) ?_
  refine lv_ishr E.1 E.2.1 d_Cursor_append_29 ?_
  refine lv_topi (fun v_21 ev_21 => ?_)
  obtain ⟨b_22, eb_22⟩ : ∃ z : Int32, z = (v_21).toInt8.toInt32 := ⟨_, rfl⟩
  refine lv_i2b (v := b_22) E.1 E.2.1 d_Cursor_append_30 eb_22.symm ?_
  refine va_bast E.1 E.2.1 E.2.2.2.2.2 hP hD hS 1 0 rfl rfl (i := nI (n + 1 + 1)) (x := b_22) (vp_in_nI (n := n + 1 + 1) (by omega) (by decide)) d_Cursor_append_31 (fun H locs hP hD hS => ?_)
  generalize upd g_19 (Int32.toNatClampNeg (nI (n + 1 + 1))) (vp_nar .byte b_22) = g_23 at hP hD
  have hP : va_P D classes [(h0, .inr (1, [.ref qb, .int (nI (n + 1 + 1)), .int pos, .int lim, .int ml])), (qb, .inl (cB, 4000, .inl g_23))] H := hP
  have hD : va_D (va_A [(h0, .inr (1, [.ref qb, .int (nI n), .int pos, .int lim, .int ml])), (qb, .inl (cB, 4000, .inl f))] s.heap.size) [(h0, .inr (1, [.ref qb, .int (nI (n + 1 + 1)), .int pos, .int lim, .int ml])), (qb, .inl (cB, 4000, .inl g_23))] := hD
  refine lv_aload_n E.1 E.2.1 d_Cursor_append_32 rfl (lv_at hl 1 rfl) ?_
  refine lv_dup E.1 E.2.1 d_Cursor_append_33 rfl ?_
  refine x_get E hP (C := "WasmReader$Cursor") (T := T_Cursor) (N := 5) (ci := 1) 0 (v := .int (nI (n + 1 + 1))) 1 in_Cursor rfl rfl (by decide) m_166 rfl d_Cursor_append_34 ?_
  refine lv_iconst (v := 1) E.1 E.2.1 d_Cursor_append_37 (by decide) ?_
  refine lv_iadd E.1 E.2.1 d_Cursor_append_38 ?_
  refine lv_topi (fun vt_24 evt_24 => ?_)
  obtain rfl : vt_24 = nI (n + 1 + 1 + 1) := evt_24.trans (nI_add (n + 1 + 1) 1)
  refine x_put E hP hD hS (C := "WasmReader$Cursor") (T := T_Cursor) (N := 5) (ci := 1) 0 (v := .int (nI (n + 1 + 1 + 1))) 1 (t0 := t_Cursor) (tk := .int) in_Cursor tok_Cursor nok_Cursor rfl rfl (by decide) m_166 rfl rfl rfl rfl (Nat.le_of_ble_eq_true rfl) d_Cursor_append_39 (fun H locs hP hD hS => ?_)
  have hP : va_P D classes [(h0, .inr (1, [.ref qb, .int (nI (n + 1 + 1 + 1)), .int pos, .int lim, .int ml])), (qb, .inl (cB, 4000, .inl g_23))] H := hP
  have hD : va_D (va_A [(h0, .inr (1, [.ref qb, .int (nI n), .int pos, .int lim, .int ml])), (qb, .inl (cB, 4000, .inl f))] s.heap.size) [(h0, .inr (1, [.ref qb, .int (nI (n + 1 + 1 + 1)), .int pos, .int lim, .int ml])), (qb, .inl (cB, 4000, .inl g_23))] := hD
  refine lv_iinc (v := 0) (lv' := [(2, .int 0), (0, .ref h0), (1, .int wd)]) E.1 E.2.1 d_Cursor_append_42 hl (k := 0) rfl (by decide) (by decide) rfl (fun ls hl => ?_)
  refine lv_goto (tgt := 3) E.1 E.2.1 d_Cursor_append_45 (by decide) ?_
  refine lv_iload_n E.1 E.2.1 d_Cursor_append_3 rfl (lv_at hl 0 rfl) ?_
  refine lv_if_lt (tgt := 48) E.1 E.2.1 d_Cursor_append_4 (by decide) (fun hc => absurd hc (by decide)) (fun _ => ?_)
  refine lv_aload_n E.1 E.2.1 d_Cursor_append_7 rfl (lv_at hl 1 rfl) ?_
  refine x_get E hP (C := "WasmReader$Cursor") (T := T_Cursor) (N := 5) (ci := 1) 0 (v := .int (nI (n + 1 + 1 + 1))) 1 in_Cursor rfl rfl (by decide) m_166 rfl d_Cursor_append_8 ?_
  refine lv_aload_n E.1 E.2.1 d_Cursor_append_11 rfl (lv_at hl 1 rfl) ?_
  refine x_get E hP (C := "WasmReader$Cursor") (T := T_Cursor) (N := 5) (ci := 1) 0 (v := .ref qb) 0 in_Cursor rfl rfl (by decide) m_0 rfl d_Cursor_append_12 ?_
  refine va_alen E.1 E.2.1 E.2.2.2.2.2 hP 1 0 rfl rfl (v := 4000) rfl d_Cursor_append_15 ?_
  refine lv_icmp_ge (tgt := 42) E.1 E.2.1 d_Cursor_append_16 (by decide) (fun hc => absurd hc (nI_ge (b := 4000) (by omega) (by decide))) (fun _ => ?_)
  refine lv_aload_n E.1 E.2.1 d_Cursor_append_19 rfl (lv_at hl 1 rfl) ?_
  refine x_get E hP (C := "WasmReader$Cursor") (T := T_Cursor) (N := 5) (ci := 1) 0 (v := .ref qb) 0 in_Cursor rfl rfl (by decide) m_0 rfl d_Cursor_append_20 ?_
  refine lv_aload_n E.1 E.2.1 d_Cursor_append_23 rfl (lv_at hl 1 rfl) ?_
  refine x_get E hP (C := "WasmReader$Cursor") (T := T_Cursor) (N := 5) (ci := 1) 0 (v := .int (nI (n + 1 + 1 + 1))) 1 in_Cursor rfl rfl (by decide) m_166 rfl d_Cursor_append_24 ?_
  refine lv_iload_n E.1 E.2.1 d_Cursor_append_27 rfl (lv_at hl 2 rfl) ?_
  refine lv_iload_n E.1 E.2.1 d_Cursor_append_28 rfl (lv_at hl 0 rfl) ?_
  refine lv_ishr E.1 E.2.1 d_Cursor_append_29 ?_
  refine lv_topi (fun v_25 ev_25 => ?_)
  obtain ⟨b_26, eb_26⟩ : ∃ z : Int32, z = (v_25).toInt8.toInt32 := ⟨_, rfl⟩
  refine lv_i2b (v := b_26) E.1 E.2.1 d_Cursor_append_30 eb_26.symm ?_
  refine va_bast E.1 E.2.1 E.2.2.2.2.2 hP hD hS 1 0 rfl rfl (i := nI (n + 1 + 1 + 1)) (x := b_26) (vp_in_nI (n := n + 1 + 1 + 1) (by omega) (by decide)) d_Cursor_append_31 (fun H locs hP hD hS => ?_)
  generalize upd g_23 (Int32.toNatClampNeg (nI (n + 1 + 1 + 1))) (vp_nar .byte b_26) = g_27 at hP hD
  have hP : va_P D classes [(h0, .inr (1, [.ref qb, .int (nI (n + 1 + 1 + 1)), .int pos, .int lim, .int ml])), (qb, .inl (cB, 4000, .inl g_27))] H := hP
  have hD : va_D (va_A [(h0, .inr (1, [.ref qb, .int (nI n), .int pos, .int lim, .int ml])), (qb, .inl (cB, 4000, .inl f))] s.heap.size) [(h0, .inr (1, [.ref qb, .int (nI (n + 1 + 1 + 1)), .int pos, .int lim, .int ml])), (qb, .inl (cB, 4000, .inl g_27))] := hD
  refine lv_aload_n E.1 E.2.1 d_Cursor_append_32 rfl (lv_at hl 1 rfl) ?_
  refine lv_dup E.1 E.2.1 d_Cursor_append_33 rfl ?_
  refine x_get E hP (C := "WasmReader$Cursor") (T := T_Cursor) (N := 5) (ci := 1) 0 (v := .int (nI (n + 1 + 1 + 1))) 1 in_Cursor rfl rfl (by decide) m_166 rfl d_Cursor_append_34 ?_
  refine lv_iconst (v := 1) E.1 E.2.1 d_Cursor_append_37 (by decide) ?_
  refine lv_iadd E.1 E.2.1 d_Cursor_append_38 ?_
  refine lv_topi (fun vt_28 evt_28 => ?_)
  obtain rfl : vt_28 = nI (n + 1 + 1 + 1 + 1) := evt_28.trans (nI_add (n + 1 + 1 + 1) 1)
  refine x_put E hP hD hS (C := "WasmReader$Cursor") (T := T_Cursor) (N := 5) (ci := 1) 0 (v := .int (nI (n + 1 + 1 + 1 + 1))) 1 (t0 := t_Cursor) (tk := .int) in_Cursor tok_Cursor nok_Cursor rfl rfl (by decide) m_166 rfl rfl rfl rfl (Nat.le_of_ble_eq_true rfl) d_Cursor_append_39 (fun H locs hP hD hS => ?_)
  have hP : va_P D classes [(h0, .inr (1, [.ref qb, .int (nI (n + 1 + 1 + 1 + 1)), .int pos, .int lim, .int ml])), (qb, .inl (cB, 4000, .inl g_27))] H := hP
  have hD : va_D (va_A [(h0, .inr (1, [.ref qb, .int (nI n), .int pos, .int lim, .int ml])), (qb, .inl (cB, 4000, .inl f))] s.heap.size) [(h0, .inr (1, [.ref qb, .int (nI (n + 1 + 1 + 1 + 1)), .int pos, .int lim, .int ml])), (qb, .inl (cB, 4000, .inl g_27))] := hD
  refine lv_iinc (v := (-8)) (lv' := [(2, .int ((-8))), (0, .ref h0), (1, .int wd)]) E.1 E.2.1 d_Cursor_append_42 hl (k := 0) rfl (by decide) (by decide) rfl (fun ls hl => ?_)
  refine lv_goto (tgt := 3) E.1 E.2.1 d_Cursor_append_45 (by decide) ?_
  refine lv_iload_n E.1 E.2.1 d_Cursor_append_3 rfl (lv_at hl 0 rfl) ?_
  refine lv_if_lt (tgt := 48) E.1 E.2.1 d_Cursor_append_4 (by decide) (fun _ => ?_) (fun hc => absurd (by decide) hc)
  refine W.widen (k := 0) (n := 0) (by decide) (by decide) ?_
  exact x_vret (ws := [(h0, .inr (1, [.ref qb, .int (nI (n + 1 + 1 + 1 + 1)), .int pos, .int lim, .int ml])), (qb, .inl (cB, 4000, .inl g_27))]) E hr hlocks (hP.sub [0, 1] rfl) (hD.sub [0, 1] (by decide) rfl) hS ⟨g_27, rfl⟩ d_Cursor_append_48
set_option maxHeartbeats 4000000 in
set_option maxRecDepth 100000 in
theorem c_Types_add (l : Launch) (D : va_G) (cB cI cJ cZ : ClassId) (sz : Nat) (h0 : Nat) (cn : Nat) (t0 : Nat) (t1 : Nat) (t2 : Nat) (vt0 : Nat → Int32) (vt1 : Nat → Int32) (vt2 : Nat → Int32) (x1 : Int32) (x2 : Int32) (x3 : Int32) (hc : cn ≤ 20000000) : Met l y_Types_add (Cond.code y_Types_add prog_10_method_2_code 4 none :: xtb) ({ frames := 0, cells := 0, slots := 0, locals := 0 }) (xP D [(cB, .byte), (cI, .int), (cJ, .long), (cZ, .boolean)] [.ref h0, .int x1, .int x2, .int x3] [(h0, .inr (3, [.int (nI cn), .ref t0, .ref t1, .ref t2])), (t0, .inl (cI, 40, .inl vt0)), (t1, .inl (cI, 40, .inl vt1)), (t2, .inl (cI, 40, .inl vt2))] sz) (xQv D [(cB, .byte), (cI, .int), (cJ, .long), (cZ, .boolean)] [(h0, .inr (3, [.int (nI cn), .ref t0, .ref t1, .ref t2])), (t0, .inl (cI, 40, .inl vt0)), (t1, .inl (cI, 40, .inl vt1)), (t2, .inl (cI, 40, .inl vt2))] sz (fun u => ∃ (ut0 : Nat → Int32), ∃ (ut1 : Nat → Int32), ∃ (ut2 : Nat → Int32), u = [(h0, .inr (3, [.int (nI (cn + 1)), .ref t0, .ref t1, .ref t2])), (t0, .inl (cI, 40, .inl ut0)), (t1, .inl (cI, 40, .inl ut1)), (t2, .inl (cI, 40, .inl ut2))])) 0 0 (va_A [(h0, .inr (3, [.int (nI cn), .ref t0, .ref t1, .ref t2])), (t0, .inl (cI, 40, .inl vt0)), (t1, .inl (cI, 40, .inl vt1)), (t2, .inl (cI, 40, .inl vt2))] sz) := by
  refine x_met (Qc := fun s => xQv D [(cB, .byte), (cI, .int), (cJ, .long), (cZ, .boolean)] [(h0, .inr (3, [.int (nI cn), .ref t0, .ref t1, .ref t2])), (t0, .inl (cI, 40, .inl vt0)), (t1, .inl (cI, 40, .inl vt1)), (t2, .inl (cI, 40, .inl vt2))] s.heap.size (fun u => ∃ (ut0 : Nat → Int32), ∃ (ut1 : Nat → Int32), ∃ (ut2 : Nat → Int32), u = [(h0, .inr (3, [.int (nI (cn + 1)), .ref t0, .ref t1, .ref t2])), (t0, .inl (cI, 40, .inl ut0)), (t1, .inl (cI, 40, .inl ut1)), (t2, .inl (cI, 40, .inl ut2))])) (fr := fun s => va_A [(h0, .inr (3, [.int (nI cn), .ref t0, .ref t1, .ref t2])), (t0, .inl (cI, 40, .inl vt0)), (t1, .inl (cI, 40, .inl vt1)), (t2, .inl (cI, 40, .inl vt2))] s.heap.size) "WasmReader$Types" (by decide +kernel) rfl (Nat.le_of_ble_eq_true rfl) (fun s h => by rw [h]) (fun s h => by rw [h]) ?_
  intro p e s m below meth c ls E hr hlocks hinit hl hP hD hA hS hZ hadm
  have hl : lv_has ls 4 [(0, .ref h0), (1, .int x1), (2, .int x2), (3, .int x3)] := hl
  refine lv_aload_n E.1 E.2.1 d_Types_add_0 rfl (lv_at hl 0 rfl) ?_
  refine x_get E hP (C := "WasmReader$Types") (T := T_Types) (N := 4) (ci := 3) 0 (v := .int (nI cn)) 0 in_Types rfl rfl (by decide) m_249 rfl d_Types_add_1 ?_
  refine lv_bipush (v := 40) E.1 E.2.1 d_Types_add_4 (by decide) ?_
  refine lv_icmp_ge (tgt := 39) E.1 E.2.1 d_Types_add_6 (by decide) (fun hc_1 => ?_) (fun hc_1 => ?_)
  ·
    have hc_1 : 40 ≤ cn := (nI_leI (a := 40) (b := cn) (by omega) (by omega)).mp hc_1
    refine lv_aload_n E.1 E.2.1 d_Types_add_39 rfl (lv_at hl 0 rfl) ?_
    refine lv_dup E.1 E.2.1 d_Types_add_40 rfl ?_
    refine x_get E hP (C := "WasmReader$Types") (T := T_Types) (N := 4) (ci := 3) 0 (v := .int (nI cn)) 0 in_Types rfl rfl (by decide) m_249 rfl d_Types_add_41 ?_
    refine lv_iconst (v := 1) E.1 E.2.1 d_Types_add_44 (by decide) ?_
    refine lv_iadd E.1 E.2.1 d_Types_add_45 ?_
    refine lv_topi (fun vt_2 evt_2 => ?_)
    obtain rfl : vt_2 = nI (cn + 1) := evt_2.trans (nI_add cn 1)
    refine x_put E hP hD hS (C := "WasmReader$Types") (T := T_Types) (N := 4) (ci := 3) 0 (v := .int (nI (cn + 1))) 0 (t0 := t_Types) (tk := .int) in_Types tok_Types nok_Types rfl rfl (by decide) m_249 rfl rfl rfl rfl (Nat.le_of_ble_eq_true rfl) d_Types_add_46 (fun H locs hP hD hS => ?_)
    have hP : va_P D classes [(h0, .inr (3, [.int (nI (cn + 1)), .ref t0, .ref t1, .ref t2])), (t0, .inl (cI, 40, .inl vt0)), (t1, .inl (cI, 40, .inl vt1)), (t2, .inl (cI, 40, .inl vt2))] H := hP
    have hD : va_D (va_A [(h0, .inr (3, [.int (nI cn), .ref t0, .ref t1, .ref t2])), (t0, .inl (cI, 40, .inl vt0)), (t1, .inl (cI, 40, .inl vt1)), (t2, .inl (cI, 40, .inl vt2))] s.heap.size) [(h0, .inr (3, [.int (nI (cn + 1)), .ref t0, .ref t1, .ref t2])), (t0, .inl (cI, 40, .inl vt0)), (t1, .inl (cI, 40, .inl vt1)), (t2, .inl (cI, 40, .inl vt2))] := hD
    refine W.widen (k := 0) (n := 0) (by decide) (by decide) ?_
    exact x_vret (ws := [(h0, .inr (3, [.int (nI (cn + 1)), .ref t0, .ref t1, .ref t2])), (t0, .inl (cI, 40, .inl vt0)), (t1, .inl (cI, 40, .inl vt1)), (t2, .inl (cI, 40, .inl vt2))]) E hr hlocks (hP.sub [0, 1, 2, 3] rfl) (hD.sub [0, 1, 2, 3] (by decide) rfl) hS ⟨vt0, vt1, vt2, rfl⟩ d_Types_add_49
  ·
    have hc_1 : ¬ (40 ≤ cn) := fun hq_ => hc_1 ((nI_leI (a := 40) (b := cn) (by omega) (by omega)).mpr hq_)
    refine lv_aload_n E.1 E.2.1 d_Types_add_9 rfl (lv_at hl 0 rfl) ?_
    refine x_get E hP (C := "WasmReader$Types") (T := T_Types) (N := 4) (ci := 3) 0 (v := .ref t0) 1 in_Types rfl rfl (by decide) m_5 rfl d_Types_add_10 ?_
    refine lv_aload_n E.1 E.2.1 d_Types_add_13 rfl (lv_at hl 0 rfl) ?_
    refine x_get E hP (C := "WasmReader$Types") (T := T_Types) (N := 4) (ci := 3) 0 (v := .int (nI cn)) 0 in_Types rfl rfl (by decide) m_249 rfl d_Types_add_14 ?_
    refine lv_iload_n E.1 E.2.1 d_Types_add_17 rfl (lv_at hl 1 rfl) ?_
    refine va_iast E.1 E.2.1 E.2.2.2.2.2 hP hD hS 1 1 rfl rfl (i := nI cn) (x := x1) (vp_in_nI (n := cn) (by omega) (by decide)) d_Types_add_18 (fun H locs hP hD hS => ?_)
    generalize upd vt0 (Int32.toNatClampNeg (nI cn)) x1 = g_3 at hP hD
    have hP : va_P D classes [(h0, .inr (3, [.int (nI cn), .ref t0, .ref t1, .ref t2])), (t0, .inl (cI, 40, .inl g_3)), (t1, .inl (cI, 40, .inl vt1)), (t2, .inl (cI, 40, .inl vt2))] H := hP
    have hD : va_D (va_A [(h0, .inr (3, [.int (nI cn), .ref t0, .ref t1, .ref t2])), (t0, .inl (cI, 40, .inl vt0)), (t1, .inl (cI, 40, .inl vt1)), (t2, .inl (cI, 40, .inl vt2))] s.heap.size) [(h0, .inr (3, [.int (nI cn), .ref t0, .ref t1, .ref t2])), (t0, .inl (cI, 40, .inl g_3)), (t1, .inl (cI, 40, .inl vt1)), (t2, .inl (cI, 40, .inl vt2))] := hD
    refine lv_aload_n E.1 E.2.1 d_Types_add_19 rfl (lv_at hl 0 rfl) ?_
    refine x_get E hP (C := "WasmReader$Types") (T := T_Types) (N := 4) (ci := 3) 0 (v := .ref t1) 2 in_Types rfl rfl (by decide) m_6 rfl d_Types_add_20 ?_
    refine lv_aload_n E.1 E.2.1 d_Types_add_23 rfl (lv_at hl 0 rfl) ?_
    refine x_get E hP (C := "WasmReader$Types") (T := T_Types) (N := 4) (ci := 3) 0 (v := .int (nI cn)) 0 in_Types rfl rfl (by decide) m_249 rfl d_Types_add_24 ?_
    refine lv_iload_n E.1 E.2.1 d_Types_add_27 rfl (lv_at hl 2 rfl) ?_
    refine va_iast E.1 E.2.1 E.2.2.2.2.2 hP hD hS 2 1 rfl rfl (i := nI cn) (x := x2) (vp_in_nI (n := cn) (by omega) (by decide)) d_Types_add_28 (fun H locs hP hD hS => ?_)
    generalize upd vt1 (Int32.toNatClampNeg (nI cn)) x2 = g_4 at hP hD
    have hP : va_P D classes [(h0, .inr (3, [.int (nI cn), .ref t0, .ref t1, .ref t2])), (t0, .inl (cI, 40, .inl g_3)), (t1, .inl (cI, 40, .inl g_4)), (t2, .inl (cI, 40, .inl vt2))] H := hP
    have hD : va_D (va_A [(h0, .inr (3, [.int (nI cn), .ref t0, .ref t1, .ref t2])), (t0, .inl (cI, 40, .inl vt0)), (t1, .inl (cI, 40, .inl vt1)), (t2, .inl (cI, 40, .inl vt2))] s.heap.size) [(h0, .inr (3, [.int (nI cn), .ref t0, .ref t1, .ref t2])), (t0, .inl (cI, 40, .inl g_3)), (t1, .inl (cI, 40, .inl g_4)), (t2, .inl (cI, 40, .inl vt2))] := hD
    refine lv_aload_n E.1 E.2.1 d_Types_add_29 rfl (lv_at hl 0 rfl) ?_
    refine x_get E hP (C := "WasmReader$Types") (T := T_Types) (N := 4) (ci := 3) 0 (v := .ref t2) 3 in_Types rfl rfl (by decide) m_7 rfl d_Types_add_30 ?_
    refine lv_aload_n E.1 E.2.1 d_Types_add_33 rfl (lv_at hl 0 rfl) ?_
    refine x_get E hP (C := "WasmReader$Types") (T := T_Types) (N := 4) (ci := 3) 0 (v := .int (nI cn)) 0 in_Types rfl rfl (by decide) m_249 rfl d_Types_add_34 ?_
    refine lv_iload_n E.1 E.2.1 d_Types_add_37 rfl (lv_at hl 3 rfl) ?_
    refine va_iast E.1 E.2.1 E.2.2.2.2.2 hP hD hS 3 1 rfl rfl (i := nI cn) (x := x3) (vp_in_nI (n := cn) (by omega) (by decide)) d_Types_add_38 (fun H locs hP hD hS => ?_)
    generalize upd vt2 (Int32.toNatClampNeg (nI cn)) x3 = g_5 at hP hD
    have hP : va_P D classes [(h0, .inr (3, [.int (nI cn), .ref t0, .ref t1, .ref t2])), (t0, .inl (cI, 40, .inl g_3)), (t1, .inl (cI, 40, .inl g_4)), (t2, .inl (cI, 40, .inl g_5))] H := hP
    have hD : va_D (va_A [(h0, .inr (3, [.int (nI cn), .ref t0, .ref t1, .ref t2])), (t0, .inl (cI, 40, .inl vt0)), (t1, .inl (cI, 40, .inl vt1)), (t2, .inl (cI, 40, .inl vt2))] s.heap.size) [(h0, .inr (3, [.int (nI cn), .ref t0, .ref t1, .ref t2])), (t0, .inl (cI, 40, .inl g_3)), (t1, .inl (cI, 40, .inl g_4)), (t2, .inl (cI, 40, .inl g_5))] := hD
    refine lv_aload_n E.1 E.2.1 d_Types_add_39 rfl (lv_at hl 0 rfl) ?_
    refine lv_dup E.1 E.2.1 d_Types_add_40 rfl ?_
    refine x_get E hP (C := "WasmReader$Types") (T := T_Types) (N := 4) (ci := 3) 0 (v := .int (nI cn)) 0 in_Types rfl rfl (by decide) m_249 rfl d_Types_add_41 ?_
    refine lv_iconst (v := 1) E.1 E.2.1 d_Types_add_44 (by decide) ?_
    refine lv_iadd E.1 E.2.1 d_Types_add_45 ?_
    refine lv_topi (fun vt_6 evt_6 => ?_)
    obtain rfl : vt_6 = nI (cn + 1) := evt_6.trans (nI_add cn 1)
    refine x_put E hP hD hS (C := "WasmReader$Types") (T := T_Types) (N := 4) (ci := 3) 0 (v := .int (nI (cn + 1))) 0 (t0 := t_Types) (tk := .int) in_Types tok_Types nok_Types rfl rfl (by decide) m_249 rfl rfl rfl rfl (Nat.le_of_ble_eq_true rfl) d_Types_add_46 (fun H locs hP hD hS => ?_)
    have hP : va_P D classes [(h0, .inr (3, [.int (nI (cn + 1)), .ref t0, .ref t1, .ref t2])), (t0, .inl (cI, 40, .inl g_3)), (t1, .inl (cI, 40, .inl g_4)), (t2, .inl (cI, 40, .inl g_5))] H := hP
    have hD : va_D (va_A [(h0, .inr (3, [.int (nI cn), .ref t0, .ref t1, .ref t2])), (t0, .inl (cI, 40, .inl vt0)), (t1, .inl (cI, 40, .inl vt1)), (t2, .inl (cI, 40, .inl vt2))] s.heap.size) [(h0, .inr (3, [.int (nI (cn + 1)), .ref t0, .ref t1, .ref t2])), (t0, .inl (cI, 40, .inl g_3)), (t1, .inl (cI, 40, .inl g_4)), (t2, .inl (cI, 40, .inl g_5))] := hD
    refine W.widen (k := 0) (n := 0) (by decide) (by decide) ?_
    exact x_vret (ws := [(h0, .inr (3, [.int (nI (cn + 1)), .ref t0, .ref t1, .ref t2])), (t0, .inl (cI, 40, .inl g_3)), (t1, .inl (cI, 40, .inl g_4)), (t2, .inl (cI, 40, .inl g_5))]) E hr hlocks (hP.sub [0, 1, 2, 3] rfl) (hD.sub [0, 1, 2, 3] (by decide) rfl) hS ⟨g_3, g_4, g_5, rfl⟩ d_Types_add_49
set_option maxHeartbeats 4000000 in
set_option maxRecDepth 100000 in
theorem c_Types_has (l : Launch) (D : va_G) (cB cI cJ cZ : ClassId) (sz : Nat) (h0 : Nat) (cn : Nat) (t0 : Nat) (t1 : Nat) (t2 : Nat) (x : Nat) (hc : cn ≤ 20000000) (hx : x < 2 ^ 31) : Met l y_Types_has (Cond.code y_Types_has prog_10_method_3_code 2 (some .boolean) :: xtb) ({ frames := 0, cells := 0, slots := 0, locals := 0 }) (xP D [(cB, .byte), (cI, .int), (cJ, .long), (cZ, .boolean)] [.ref h0, .int (nI x)] [(h0, .inr (3, [.int (nI cn), .ref t0, .ref t1, .ref t2]))] sz) (xQi D [(cB, .byte), (cI, .int), (cJ, .long), (cZ, .boolean)] [(h0, .inr (3, [.int (nI cn), .ref t0, .ref t1, .ref t2]))] sz (fun r u => ((r = 0) ∨ (r = 1 ∧ (x < cn) ∧ (x < 40))) ∧ u = [(h0, .inr (3, [.int (nI cn), .ref t0, .ref t1, .ref t2]))])) 0 0 (va_A [(h0, .inr (3, [.int (nI cn), .ref t0, .ref t1, .ref t2]))] sz) := by
  refine x_met (Qc := fun s => xQi D [(cB, .byte), (cI, .int), (cJ, .long), (cZ, .boolean)] [(h0, .inr (3, [.int (nI cn), .ref t0, .ref t1, .ref t2]))] s.heap.size (fun r u => ((r = 0) ∨ (r = 1 ∧ (x < cn) ∧ (x < 40))) ∧ u = [(h0, .inr (3, [.int (nI cn), .ref t0, .ref t1, .ref t2]))])) (fr := fun s => va_A [(h0, .inr (3, [.int (nI cn), .ref t0, .ref t1, .ref t2]))] s.heap.size) "WasmReader$Types" (by decide +kernel) rfl (Nat.le_of_ble_eq_true rfl) (fun s h => by rw [h]) (fun s h => by rw [h]) ?_
  intro p e s m below meth c ls E hr hlocks hinit hl hP hD hA hS hZ hadm
  have hl : lv_has ls 2 [(0, .ref h0), (1, .int (nI x))] := hl
  refine lv_iload_n E.1 E.2.1 d_Types_has_0 rfl (lv_at hl 1 rfl) ?_
  refine lv_if_lt (tgt := 22) E.1 E.2.1 d_Types_has_1 (by decide) (fun hc => absurd hc (nI_pos (n := x) (by omega))) (fun _ => ?_)
  refine lv_iload_n E.1 E.2.1 d_Types_has_4 rfl (lv_at hl 1 rfl) ?_
  refine lv_aload_n E.1 E.2.1 d_Types_has_5 rfl (lv_at hl 0 rfl) ?_
  refine x_get E hP (C := "WasmReader$Types") (T := T_Types) (N := 4) (ci := 3) 0 (v := .int (nI cn)) 0 in_Types rfl rfl (by decide) m_249 rfl d_Types_has_6 ?_
  refine lv_icmp_ge (tgt := 22) E.1 E.2.1 d_Types_has_9 (by decide) (fun hc_1 => ?_) (fun hc_1 => ?_)
  ·
    have hc_1 : cn ≤ x := (nI_leI (a := cn) (b := x) (by omega) (by omega)).mp hc_1
    refine lv_iconst (v := 0) E.1 E.2.1 d_Types_has_22 (by decide) ?_
    refine W.widen (k := 0) (n := 0) (by decide) (by decide) ?_
    exact x_zret (ws := [(h0, .inr (3, [.int (nI cn), .ref t0, .ref t1, .ref t2]))]) E hr (by decide) hlocks (hP.sub [0] rfl) (hD.sub [0] (by decide) rfl) hS ⟨(Or.inl rfl), rfl⟩ d_Types_has_23
  ·
    have hc_1 : ¬ (cn ≤ x) := fun hq_ => hc_1 ((nI_leI (a := cn) (b := x) (by omega) (by omega)).mpr hq_)
    refine lv_iload_n E.1 E.2.1 d_Types_has_12 rfl (lv_at hl 1 rfl) ?_
    refine lv_bipush (v := 40) E.1 E.2.1 d_Types_has_13 (by decide) ?_
    refine lv_icmp_ge (tgt := 22) E.1 E.2.1 d_Types_has_15 (by decide) (fun hc_2 => ?_) (fun hc_2 => ?_)
    ·
      have hc_2 : 40 ≤ x := (nI_leI (a := 40) (b := x) (by omega) (by omega)).mp hc_2
      refine lv_iconst (v := 0) E.1 E.2.1 d_Types_has_22 (by decide) ?_
      refine W.widen (k := 0) (n := 0) (by decide) (by decide) ?_
      exact x_zret (ws := [(h0, .inr (3, [.int (nI cn), .ref t0, .ref t1, .ref t2]))]) E hr (by decide) hlocks (hP.sub [0] rfl) (hD.sub [0] (by decide) rfl) hS ⟨(Or.inl rfl), rfl⟩ d_Types_has_23
    ·
      have hc_2 : ¬ (40 ≤ x) := fun hq_ => hc_2 ((nI_leI (a := 40) (b := x) (by omega) (by omega)).mpr hq_)
      refine lv_iconst (v := 1) E.1 E.2.1 d_Types_has_18 (by decide) ?_
      refine lv_goto (tgt := 23) E.1 E.2.1 d_Types_has_19 (by decide) ?_
      refine W.widen (k := 0) (n := 0) (by decide) (by decide) ?_
      exact x_zret (ws := [(h0, .inr (3, [.int (nI cn), .ref t0, .ref t1, .ref t2]))]) E hr (by decide) hlocks (hP.sub [0] rfl) (hD.sub [0] (by decide) rfl) hS ⟨(Or.inr (⟨rfl, (by omega), (by omega)⟩)), rfl⟩ d_Types_has_23
set_option maxHeartbeats 4000000 in
set_option maxRecDepth 100000 in
theorem c_Types_hasr (l : Launch) (D : va_G) (cB cI cJ cZ : ClassId) (sz : Nat) (h0 : Nat) (cn : Nat) (t0 : Nat) (t1 : Nat) (t2 : Nat) (t : Int32) (hc : cn ≤ 20000000) : Met l y_Types_has (Cond.code y_Types_has prog_10_method_3_code 2 (some .boolean) :: xtb) ({ frames := 0, cells := 0, slots := 0, locals := 0 }) (xP D [(cB, .byte), (cI, .int), (cJ, .long), (cZ, .boolean)] [.ref h0, .int t] [(h0, .inr (3, [.int (nI cn), .ref t0, .ref t1, .ref t2]))] sz) (xQi D [(cB, .byte), (cI, .int), (cJ, .long), (cZ, .boolean)] [(h0, .inr (3, [.int (nI cn), .ref t0, .ref t1, .ref t2]))] sz (fun r u => ((r = 0) ∨ (∃ (x : Nat), r = 1 ∧ (t = nI x) ∧ (x < cn) ∧ (x < 40))) ∧ u = [(h0, .inr (3, [.int (nI cn), .ref t0, .ref t1, .ref t2]))])) 0 0 (va_A [(h0, .inr (3, [.int (nI cn), .ref t0, .ref t1, .ref t2]))] sz) := by
  refine x_met (Qc := fun s => xQi D [(cB, .byte), (cI, .int), (cJ, .long), (cZ, .boolean)] [(h0, .inr (3, [.int (nI cn), .ref t0, .ref t1, .ref t2]))] s.heap.size (fun r u => ((r = 0) ∨ (∃ (x : Nat), r = 1 ∧ (t = nI x) ∧ (x < cn) ∧ (x < 40))) ∧ u = [(h0, .inr (3, [.int (nI cn), .ref t0, .ref t1, .ref t2]))])) (fr := fun s => va_A [(h0, .inr (3, [.int (nI cn), .ref t0, .ref t1, .ref t2]))] s.heap.size) "WasmReader$Types" (by decide +kernel) rfl (Nat.le_of_ble_eq_true rfl) (fun s h => by rw [h]) (fun s h => by rw [h]) ?_
  intro p e s m below meth c ls E hr hlocks hinit hl hP hD hA hS hZ hadm
  have hl : lv_has ls 2 [(0, .ref h0), (1, .int t)] := hl
  refine lv_iload_n E.1 E.2.1 d_Types_has_0 rfl (lv_at hl 1 rfl) ?_
  refine lv_if_lt (tgt := 22) E.1 E.2.1 d_Types_has_1 (by decide) (fun hc_3 => ?_) (fun hc_3 => ?_)
  ·
    refine lv_iconst (v := 0) E.1 E.2.1 d_Types_has_22 (by decide) ?_
    refine W.widen (k := 0) (n := 0) (by decide) (by decide) ?_
    exact x_zret (ws := [(h0, .inr (3, [.int (nI cn), .ref t0, .ref t1, .ref t2]))]) E hr (by decide) hlocks (hP.sub [0] rfl) (hD.sub [0] (by decide) rfl) hS ⟨(Or.inl rfl), rfl⟩ d_Types_has_23
  ·
    obtain ⟨jv, hjv, ejv⟩ := nI_of hc_3
    subst ejv
    refine lv_iload_n E.1 E.2.1 d_Types_has_4 rfl (lv_at hl 1 rfl) ?_
    refine lv_aload_n E.1 E.2.1 d_Types_has_5 rfl (lv_at hl 0 rfl) ?_
    refine x_get E hP (C := "WasmReader$Types") (T := T_Types) (N := 4) (ci := 3) 0 (v := .int (nI cn)) 0 in_Types rfl rfl (by decide) m_249 rfl d_Types_has_6 ?_
    refine lv_icmp_ge (tgt := 22) E.1 E.2.1 d_Types_has_9 (by decide) (fun hc_4 => ?_) (fun hc_4 => ?_)
    ·
      have hc_4 : cn ≤ jv := (nI_leI (a := cn) (b := jv) (by omega) (by omega)).mp hc_4
      refine lv_iconst (v := 0) E.1 E.2.1 d_Types_has_22 (by decide) ?_
      refine W.widen (k := 0) (n := 0) (by decide) (by decide) ?_
      exact x_zret (ws := [(h0, .inr (3, [.int (nI cn), .ref t0, .ref t1, .ref t2]))]) E hr (by decide) hlocks (hP.sub [0] rfl) (hD.sub [0] (by decide) rfl) hS ⟨(Or.inl rfl), rfl⟩ d_Types_has_23
    ·
      have hc_4 : ¬ (cn ≤ jv) := fun hq_ => hc_4 ((nI_leI (a := cn) (b := jv) (by omega) (by omega)).mpr hq_)
      refine lv_iload_n E.1 E.2.1 d_Types_has_12 rfl (lv_at hl 1 rfl) ?_
      refine lv_bipush (v := 40) E.1 E.2.1 d_Types_has_13 (by decide) ?_
      refine lv_icmp_ge (tgt := 22) E.1 E.2.1 d_Types_has_15 (by decide) (fun hc_5 => ?_) (fun hc_5 => ?_)
      ·
        have hc_5 : 40 ≤ jv := (nI_leI (a := 40) (b := jv) (by omega) (by omega)).mp hc_5
        refine lv_iconst (v := 0) E.1 E.2.1 d_Types_has_22 (by decide) ?_
        refine W.widen (k := 0) (n := 0) (by decide) (by decide) ?_
        exact x_zret (ws := [(h0, .inr (3, [.int (nI cn), .ref t0, .ref t1, .ref t2]))]) E hr (by decide) hlocks (hP.sub [0] rfl) (hD.sub [0] (by decide) rfl) hS ⟨(Or.inl rfl), rfl⟩ d_Types_has_23
      ·
        have hc_5 : ¬ (40 ≤ jv) := fun hq_ => hc_5 ((nI_leI (a := 40) (b := jv) (by omega) (by omega)).mpr hq_)
        refine lv_iconst (v := 1) E.1 E.2.1 d_Types_has_18 (by decide) ?_
        refine lv_goto (tgt := 23) E.1 E.2.1 d_Types_has_19 (by decide) ?_
        refine W.widen (k := 0) (n := 0) (by decide) (by decide) ?_
        exact x_zret (ws := [(h0, .inr (3, [.int (nI cn), .ref t0, .ref t1, .ref t2]))]) E hr (by decide) hlocks (hP.sub [0] rfl) (hD.sub [0] (by decide) rfl) hS ⟨(Or.inr (⟨jv, rfl, rfl, (by omega), (by omega)⟩)), rfl⟩ d_Types_has_23
set_option maxHeartbeats 4000000 in
set_option maxRecDepth 100000 in
theorem c_Functions_has (l : Launch) (D : va_G) (cB cI cJ cZ : ClassId) (sz : Nat) (h0 : Nat) (cn : Nat) (im : Nat) (bd : Int32) (f0 : Nat) (f1 : Nat) (f2 : Nat) (f3 : Nat) (f4 : Nat) (f5 : Nat) (f6 : Nat) (x : Nat) (hc : cn ≤ 20000000) (hx : x < 2 ^ 31) : Met l y_Functions_has (Cond.code y_Functions_has prog_4_method_3_code 2 (some .boolean) :: xtb) ({ frames := 0, cells := 0, slots := 0, locals := 0 }) (xP D [(cB, .byte), (cI, .int), (cJ, .long), (cZ, .boolean)] [.ref h0, .int (nI x)] [(h0, .inr (4, [.int (nI cn), .int (nI im), .int bd, .ref f0, .ref f1, .ref f2, .ref f3, .ref f4, .ref f5, .ref f6]))] sz) (xQi D [(cB, .byte), (cI, .int), (cJ, .long), (cZ, .boolean)] [(h0, .inr (4, [.int (nI cn), .int (nI im), .int bd, .ref f0, .ref f1, .ref f2, .ref f3, .ref f4, .ref f5, .ref f6]))] sz (fun r u => ((r = 0) ∨ (r = 1 ∧ (x < cn) ∧ (x < 60))) ∧ u = [(h0, .inr (4, [.int (nI cn), .int (nI im), .int bd, .ref f0, .ref f1, .ref f2, .ref f3, .ref f4, .ref f5, .ref f6]))])) 0 0 (va_A [(h0, .inr (4, [.int (nI cn), .int (nI im), .int bd, .ref f0, .ref f1, .ref f2, .ref f3, .ref f4, .ref f5, .ref f6]))] sz) := by
  refine x_met (Qc := fun s => xQi D [(cB, .byte), (cI, .int), (cJ, .long), (cZ, .boolean)] [(h0, .inr (4, [.int (nI cn), .int (nI im), .int bd, .ref f0, .ref f1, .ref f2, .ref f3, .ref f4, .ref f5, .ref f6]))] s.heap.size (fun r u => ((r = 0) ∨ (r = 1 ∧ (x < cn) ∧ (x < 60))) ∧ u = [(h0, .inr (4, [.int (nI cn), .int (nI im), .int bd, .ref f0, .ref f1, .ref f2, .ref f3, .ref f4, .ref f5, .ref f6]))])) (fr := fun s => va_A [(h0, .inr (4, [.int (nI cn), .int (nI im), .int bd, .ref f0, .ref f1, .ref f2, .ref f3, .ref f4, .ref f5, .ref f6]))] s.heap.size) "WasmReader$Functions" (by decide +kernel) rfl (Nat.le_of_ble_eq_true rfl) (fun s h => by rw [h]) (fun s h => by rw [h]) ?_
  intro p e s m below meth c ls E hr hlocks hinit hl hP hD hA hS hZ hadm
  have hl : lv_has ls 2 [(0, .ref h0), (1, .int (nI x))] := hl
  refine lv_iload_n E.1 E.2.1 d_Functions_has_0 rfl (lv_at hl 1 rfl) ?_
  refine lv_if_lt (tgt := 22) E.1 E.2.1 d_Functions_has_1 (by decide) (fun hc => absurd hc (nI_pos (n := x) (by omega))) (fun _ => ?_)
  refine lv_iload_n E.1 E.2.1 d_Functions_has_4 rfl (lv_at hl 1 rfl) ?_
  refine lv_aload_n E.1 E.2.1 d_Functions_has_5 rfl (lv_at hl 0 rfl) ?_
  refine x_get E hP (C := "WasmReader$Functions") (T := T_Functions) (N := 10) (ci := 4) 0 (v := .int (nI cn)) 0 in_Functions rfl rfl (by decide) m_250 rfl d_Functions_has_6 ?_
  refine lv_icmp_ge (tgt := 22) E.1 E.2.1 d_Functions_has_9 (by decide) (fun hc_1 => ?_) (fun hc_1 => ?_)
  ·
    have hc_1 : cn ≤ x := (nI_leI (a := cn) (b := x) (by omega) (by omega)).mp hc_1
    refine lv_iconst (v := 0) E.1 E.2.1 d_Functions_has_22 (by decide) ?_
    refine W.widen (k := 0) (n := 0) (by decide) (by decide) ?_
    exact x_zret (ws := [(h0, .inr (4, [.int (nI cn), .int (nI im), .int bd, .ref f0, .ref f1, .ref f2, .ref f3, .ref f4, .ref f5, .ref f6]))]) E hr (by decide) hlocks (hP.sub [0] rfl) (hD.sub [0] (by decide) rfl) hS ⟨(Or.inl rfl), rfl⟩ d_Functions_has_23
  ·
    have hc_1 : ¬ (cn ≤ x) := fun hq_ => hc_1 ((nI_leI (a := cn) (b := x) (by omega) (by omega)).mpr hq_)
    refine lv_iload_n E.1 E.2.1 d_Functions_has_12 rfl (lv_at hl 1 rfl) ?_
    refine lv_bipush (v := 60) E.1 E.2.1 d_Functions_has_13 (by decide) ?_
    refine lv_icmp_ge (tgt := 22) E.1 E.2.1 d_Functions_has_15 (by decide) (fun hc_2 => ?_) (fun hc_2 => ?_)
    ·
      have hc_2 : 60 ≤ x := (nI_leI (a := 60) (b := x) (by omega) (by omega)).mp hc_2
      refine lv_iconst (v := 0) E.1 E.2.1 d_Functions_has_22 (by decide) ?_
      refine W.widen (k := 0) (n := 0) (by decide) (by decide) ?_
      exact x_zret (ws := [(h0, .inr (4, [.int (nI cn), .int (nI im), .int bd, .ref f0, .ref f1, .ref f2, .ref f3, .ref f4, .ref f5, .ref f6]))]) E hr (by decide) hlocks (hP.sub [0] rfl) (hD.sub [0] (by decide) rfl) hS ⟨(Or.inl rfl), rfl⟩ d_Functions_has_23
    ·
      have hc_2 : ¬ (60 ≤ x) := fun hq_ => hc_2 ((nI_leI (a := 60) (b := x) (by omega) (by omega)).mpr hq_)
      refine lv_iconst (v := 1) E.1 E.2.1 d_Functions_has_18 (by decide) ?_
      refine lv_goto (tgt := 23) E.1 E.2.1 d_Functions_has_19 (by decide) ?_
      refine W.widen (k := 0) (n := 0) (by decide) (by decide) ?_
      exact x_zret (ws := [(h0, .inr (4, [.int (nI cn), .int (nI im), .int bd, .ref f0, .ref f1, .ref f2, .ref f3, .ref f4, .ref f5, .ref f6]))]) E hr (by decide) hlocks (hP.sub [0] rfl) (hD.sub [0] (by decide) rfl) hS ⟨(Or.inr (⟨rfl, (by omega), (by omega)⟩)), rfl⟩ d_Functions_has_23
set_option maxHeartbeats 4000000 in
set_option maxRecDepth 100000 in
theorem c_Functions_hasr (l : Launch) (D : va_G) (cB cI cJ cZ : ClassId) (sz : Nat) (h0 : Nat) (cn : Nat) (im : Nat) (bd : Int32) (f0 : Nat) (f1 : Nat) (f2 : Nat) (f3 : Nat) (f4 : Nat) (f5 : Nat) (f6 : Nat) (t : Int32) (hc : cn ≤ 20000000) : Met l y_Functions_has (Cond.code y_Functions_has prog_4_method_3_code 2 (some .boolean) :: xtb) ({ frames := 0, cells := 0, slots := 0, locals := 0 }) (xP D [(cB, .byte), (cI, .int), (cJ, .long), (cZ, .boolean)] [.ref h0, .int t] [(h0, .inr (4, [.int (nI cn), .int (nI im), .int bd, .ref f0, .ref f1, .ref f2, .ref f3, .ref f4, .ref f5, .ref f6]))] sz) (xQi D [(cB, .byte), (cI, .int), (cJ, .long), (cZ, .boolean)] [(h0, .inr (4, [.int (nI cn), .int (nI im), .int bd, .ref f0, .ref f1, .ref f2, .ref f3, .ref f4, .ref f5, .ref f6]))] sz (fun r u => ((r = 0) ∨ (∃ (x : Nat), r = 1 ∧ (t = nI x) ∧ (x < cn) ∧ (x < 60))) ∧ u = [(h0, .inr (4, [.int (nI cn), .int (nI im), .int bd, .ref f0, .ref f1, .ref f2, .ref f3, .ref f4, .ref f5, .ref f6]))])) 0 0 (va_A [(h0, .inr (4, [.int (nI cn), .int (nI im), .int bd, .ref f0, .ref f1, .ref f2, .ref f3, .ref f4, .ref f5, .ref f6]))] sz) := by
  refine x_met (Qc := fun s => xQi D [(cB, .byte), (cI, .int), (cJ, .long), (cZ, .boolean)] [(h0, .inr (4, [.int (nI cn), .int (nI im), .int bd, .ref f0, .ref f1, .ref f2, .ref f3, .ref f4, .ref f5, .ref f6]))] s.heap.size (fun r u => ((r = 0) ∨ (∃ (x : Nat), r = 1 ∧ (t = nI x) ∧ (x < cn) ∧ (x < 60))) ∧ u = [(h0, .inr (4, [.int (nI cn), .int (nI im), .int bd, .ref f0, .ref f1, .ref f2, .ref f3, .ref f4, .ref f5, .ref f6]))])) (fr := fun s => va_A [(h0, .inr (4, [.int (nI cn), .int (nI im), .int bd, .ref f0, .ref f1, .ref f2, .ref f3, .ref f4, .ref f5, .ref f6]))] s.heap.size) "WasmReader$Functions" (by decide +kernel) rfl (Nat.le_of_ble_eq_true rfl) (fun s h => by rw [h]) (fun s h => by rw [h]) ?_
  intro p e s m below meth c ls E hr hlocks hinit hl hP hD hA hS hZ hadm
  have hl : lv_has ls 2 [(0, .ref h0), (1, .int t)] := hl
  refine lv_iload_n E.1 E.2.1 d_Functions_has_0 rfl (lv_at hl 1 rfl) ?_
  refine lv_if_lt (tgt := 22) E.1 E.2.1 d_Functions_has_1 (by decide) (fun hc_3 => ?_) (fun hc_3 => ?_)
  ·
    refine lv_iconst (v := 0) E.1 E.2.1 d_Functions_has_22 (by decide) ?_
    refine W.widen (k := 0) (n := 0) (by decide) (by decide) ?_
    exact x_zret (ws := [(h0, .inr (4, [.int (nI cn), .int (nI im), .int bd, .ref f0, .ref f1, .ref f2, .ref f3, .ref f4, .ref f5, .ref f6]))]) E hr (by decide) hlocks (hP.sub [0] rfl) (hD.sub [0] (by decide) rfl) hS ⟨(Or.inl rfl), rfl⟩ d_Functions_has_23
  ·
    obtain ⟨jv, hjv, ejv⟩ := nI_of hc_3
    subst ejv
    refine lv_iload_n E.1 E.2.1 d_Functions_has_4 rfl (lv_at hl 1 rfl) ?_
    refine lv_aload_n E.1 E.2.1 d_Functions_has_5 rfl (lv_at hl 0 rfl) ?_
    refine x_get E hP (C := "WasmReader$Functions") (T := T_Functions) (N := 10) (ci := 4) 0 (v := .int (nI cn)) 0 in_Functions rfl rfl (by decide) m_250 rfl d_Functions_has_6 ?_
    refine lv_icmp_ge (tgt := 22) E.1 E.2.1 d_Functions_has_9 (by decide) (fun hc_4 => ?_) (fun hc_4 => ?_)
    ·
      have hc_4 : cn ≤ jv := (nI_leI (a := cn) (b := jv) (by omega) (by omega)).mp hc_4
      refine lv_iconst (v := 0) E.1 E.2.1 d_Functions_has_22 (by decide) ?_
      refine W.widen (k := 0) (n := 0) (by decide) (by decide) ?_
      exact x_zret (ws := [(h0, .inr (4, [.int (nI cn), .int (nI im), .int bd, .ref f0, .ref f1, .ref f2, .ref f3, .ref f4, .ref f5, .ref f6]))]) E hr (by decide) hlocks (hP.sub [0] rfl) (hD.sub [0] (by decide) rfl) hS ⟨(Or.inl rfl), rfl⟩ d_Functions_has_23
    ·
      have hc_4 : ¬ (cn ≤ jv) := fun hq_ => hc_4 ((nI_leI (a := cn) (b := jv) (by omega) (by omega)).mpr hq_)
      refine lv_iload_n E.1 E.2.1 d_Functions_has_12 rfl (lv_at hl 1 rfl) ?_
      refine lv_bipush (v := 60) E.1 E.2.1 d_Functions_has_13 (by decide) ?_
      refine lv_icmp_ge (tgt := 22) E.1 E.2.1 d_Functions_has_15 (by decide) (fun hc_5 => ?_) (fun hc_5 => ?_)
      ·
        have hc_5 : 60 ≤ jv := (nI_leI (a := 60) (b := jv) (by omega) (by omega)).mp hc_5
        refine lv_iconst (v := 0) E.1 E.2.1 d_Functions_has_22 (by decide) ?_
        refine W.widen (k := 0) (n := 0) (by decide) (by decide) ?_
        exact x_zret (ws := [(h0, .inr (4, [.int (nI cn), .int (nI im), .int bd, .ref f0, .ref f1, .ref f2, .ref f3, .ref f4, .ref f5, .ref f6]))]) E hr (by decide) hlocks (hP.sub [0] rfl) (hD.sub [0] (by decide) rfl) hS ⟨(Or.inl rfl), rfl⟩ d_Functions_has_23
      ·
        have hc_5 : ¬ (60 ≤ jv) := fun hq_ => hc_5 ((nI_leI (a := 60) (b := jv) (by omega) (by omega)).mpr hq_)
        refine lv_iconst (v := 1) E.1 E.2.1 d_Functions_has_18 (by decide) ?_
        refine lv_goto (tgt := 23) E.1 E.2.1 d_Functions_has_19 (by decide) ?_
        refine W.widen (k := 0) (n := 0) (by decide) (by decide) ?_
        exact x_zret (ws := [(h0, .inr (4, [.int (nI cn), .int (nI im), .int bd, .ref f0, .ref f1, .ref f2, .ref f3, .ref f4, .ref f5, .ref f6]))]) E hr (by decide) hlocks (hP.sub [0] rfl) (hD.sub [0] (by decide) rfl) hS ⟨(Or.inr (⟨jv, rfl, rfl, (by omega), (by omega)⟩)), rfl⟩ d_Functions_has_23
set_option maxHeartbeats 4000000 in
set_option maxRecDepth 100000 in
theorem c_Functions_add (l : Launch) (D : va_G) (cB cI cJ cZ : ClassId) (sz : Nat) (h0 : Nat) (cn : Nat) (im : Nat) (bd : Int32) (f0 : Nat) (f1 : Nat) (f2 : Nat) (f3 : Nat) (f4 : Nat) (f5 : Nat) (f6 : Nat) (vf0 : Nat → Int32) (vf1 : Nat → Int32) (vf2 : Nat → Int32) (vf3 : Nat → Int32) (vf4 : Nat → Int32) (vf5 : Nat → Int32) (vf6 : Nat → Int32) (qt : Nat) (tc : Nat) (t0 : Nat) (t1 : Nat) (t2 : Nat) (wt0 : Nat → Int32) (wt1 : Nat → Int32) (wt2 : Nat → Int32) (t : Int32) (hc : cn ≤ 20000000) (htc : tc ≤ 20000000) : Met l y_Functions_add (Cond.code y_Functions_add prog_4_method_2_code 4 none :: xtb) ({ frames := 1, cells := 0, slots := 0, locals := 21 }) (xP D [(cB, .byte), (cI, .int), (cJ, .long), (cZ, .boolean)] [.ref h0, .int t, .ref qt] [(h0, .inr (4, [.int (nI cn), .int (nI im), .int bd, .ref f0, .ref f1, .ref f2, .ref f3, .ref f4, .ref f5, .ref f6])), (f0, .inl (cI, 60, .inl vf0)), (f1, .inl (cI, 60, .inl vf1)), (f2, .inl (cI, 60, .inl vf2)), (f3, .inl (cI, 60, .inl vf3)), (f4, .inl (cI, 60, .inl vf4)), (f5, .inl (cI, 60, .inl vf5)), (f6, .inl (cI, 60, .inl vf6)), (qt, .inr (3, [.int (nI tc), .ref t0, .ref t1, .ref t2])), (t0, .inl (cI, 40, .inl wt0)), (t1, .inl (cI, 40, .inl wt1)), (t2, .inl (cI, 40, .inl wt2))] sz) (xQv D [(cB, .byte), (cI, .int), (cJ, .long), (cZ, .boolean)] [(h0, .inr (4, [.int (nI cn), .int (nI im), .int bd, .ref f0, .ref f1, .ref f2, .ref f3, .ref f4, .ref f5, .ref f6])), (f0, .inl (cI, 60, .inl vf0)), (f1, .inl (cI, 60, .inl vf1)), (f2, .inl (cI, 60, .inl vf2)), (f3, .inl (cI, 60, .inl vf3)), (f4, .inl (cI, 60, .inl vf4)), (f5, .inl (cI, 60, .inl vf5)), (f6, .inl (cI, 60, .inl vf6)), (qt, .inr (3, [.int (nI tc), .ref t0, .ref t1, .ref t2])), (t0, .inl (cI, 40, .inl wt0)), (t1, .inl (cI, 40, .inl wt1)), (t2, .inl (cI, 40, .inl wt2))] sz (fun u => ∃ (uf0 : Nat → Int32), ∃ (uf1 : Nat → Int32), ∃ (uf2 : Nat → Int32), ∃ (uf3 : Nat → Int32), ∃ (uf4 : Nat → Int32), ∃ (uf5 : Nat → Int32), ∃ (uf6 : Nat → Int32), u = [(h0, .inr (4, [.int (nI (cn + 1)), .int (nI im), .int bd, .ref f0, .ref f1, .ref f2, .ref f3, .ref f4, .ref f5, .ref f6])), (f0, .inl (cI, 60, .inl uf0)), (f1, .inl (cI, 60, .inl uf1)), (f2, .inl (cI, 60, .inl uf2)), (f3, .inl (cI, 60, .inl uf3)), (f4, .inl (cI, 60, .inl uf4)), (f5, .inl (cI, 60, .inl uf5)), (f6, .inl (cI, 60, .inl uf6)), (qt, .inr (3, [.int (nI tc), .ref t0, .ref t1, .ref t2])), (t0, .inl (cI, 40, .inl wt0)), (t1, .inl (cI, 40, .inl wt1)), (t2, .inl (cI, 40, .inl wt2))])) 0 0 (va_A [(h0, .inr (4, [.int (nI cn), .int (nI im), .int bd, .ref f0, .ref f1, .ref f2, .ref f3, .ref f4, .ref f5, .ref f6])), (f0, .inl (cI, 60, .inl vf0)), (f1, .inl (cI, 60, .inl vf1)), (f2, .inl (cI, 60, .inl vf2)), (f3, .inl (cI, 60, .inl vf3)), (f4, .inl (cI, 60, .inl vf4)), (f5, .inl (cI, 60, .inl vf5)), (f6, .inl (cI, 60, .inl vf6)), (qt, .inr (3, [.int (nI tc), .ref t0, .ref t1, .ref t2])), (t0, .inl (cI, 40, .inl wt0)), (t1, .inl (cI, 40, .inl wt1)), (t2, .inl (cI, 40, .inl wt2))] sz) := by
  refine x_met (Qc := fun s => xQv D [(cB, .byte), (cI, .int), (cJ, .long), (cZ, .boolean)] [(h0, .inr (4, [.int (nI cn), .int (nI im), .int bd, .ref f0, .ref f1, .ref f2, .ref f3, .ref f4, .ref f5, .ref f6])), (f0, .inl (cI, 60, .inl vf0)), (f1, .inl (cI, 60, .inl vf1)), (f2, .inl (cI, 60, .inl vf2)), (f3, .inl (cI, 60, .inl vf3)), (f4, .inl (cI, 60, .inl vf4)), (f5, .inl (cI, 60, .inl vf5)), (f6, .inl (cI, 60, .inl vf6)), (qt, .inr (3, [.int (nI tc), .ref t0, .ref t1, .ref t2])), (t0, .inl (cI, 40, .inl wt0)), (t1, .inl (cI, 40, .inl wt1)), (t2, .inl (cI, 40, .inl wt2))] s.heap.size (fun u => ∃ (uf0 : Nat → Int32), ∃ (uf1 : Nat → Int32), ∃ (uf2 : Nat → Int32), ∃ (uf3 : Nat → Int32), ∃ (uf4 : Nat → Int32), ∃ (uf5 : Nat → Int32), ∃ (uf6 : Nat → Int32), u = [(h0, .inr (4, [.int (nI (cn + 1)), .int (nI im), .int bd, .ref f0, .ref f1, .ref f2, .ref f3, .ref f4, .ref f5, .ref f6])), (f0, .inl (cI, 60, .inl uf0)), (f1, .inl (cI, 60, .inl uf1)), (f2, .inl (cI, 60, .inl uf2)), (f3, .inl (cI, 60, .inl uf3)), (f4, .inl (cI, 60, .inl uf4)), (f5, .inl (cI, 60, .inl uf5)), (f6, .inl (cI, 60, .inl uf6)), (qt, .inr (3, [.int (nI tc), .ref t0, .ref t1, .ref t2])), (t0, .inl (cI, 40, .inl wt0)), (t1, .inl (cI, 40, .inl wt1)), (t2, .inl (cI, 40, .inl wt2))])) (fr := fun s => va_A [(h0, .inr (4, [.int (nI cn), .int (nI im), .int bd, .ref f0, .ref f1, .ref f2, .ref f3, .ref f4, .ref f5, .ref f6])), (f0, .inl (cI, 60, .inl vf0)), (f1, .inl (cI, 60, .inl vf1)), (f2, .inl (cI, 60, .inl vf2)), (f3, .inl (cI, 60, .inl vf3)), (f4, .inl (cI, 60, .inl vf4)), (f5, .inl (cI, 60, .inl vf5)), (f6, .inl (cI, 60, .inl vf6)), (qt, .inr (3, [.int (nI tc), .ref t0, .ref t1, .ref t2])), (t0, .inl (cI, 40, .inl wt0)), (t1, .inl (cI, 40, .inl wt1)), (t2, .inl (cI, 40, .inl wt2))] s.heap.size) "WasmReader$Functions" (by decide +kernel) rfl (Nat.le_of_ble_eq_true rfl) (fun s h => by rw [h]) (fun s h => by rw [h]) ?_
  intro p e s m below meth c ls E hr hlocks hinit hl hP hD hA hS hZ hadm
  have hl : lv_has ls 4 [(0, .ref h0), (1, .int t), (2, .ref qt)] := hl
  refine lv_aload_n E.1 E.2.1 d_Functions_add_0 rfl (lv_at hl 0 rfl) ?_
  refine x_get E hP (C := "WasmReader$Functions") (T := T_Functions) (N := 10) (ci := 4) 0 (v := .int (nI cn)) 0 in_Functions rfl rfl (by decide) m_250 rfl d_Functions_add_1 ?_
  refine lv_bipush (v := 60) E.1 E.2.1 d_Functions_add_4 (by decide) ?_
  refine lv_icmp_ge (tgt := 124) E.1 E.2.1 d_Functions_add_6 (by decide) (fun hc_1 => ?_) (fun hc_1 => ?_)
  ·
    have hc_1 : 60 ≤ cn := (nI_leI (a := 60) (b := cn) (by omega) (by omega)).mp hc_1
    refine lv_aload_n E.1 E.2.1 d_Functions_add_124 rfl (lv_at hl 0 rfl) ?_
    refine lv_dup E.1 E.2.1 d_Functions_add_125 rfl ?_
    refine x_get E hP (C := "WasmReader$Functions") (T := T_Functions) (N := 10) (ci := 4) 0 (v := .int (nI cn)) 0 in_Functions rfl rfl (by decide) m_250 rfl d_Functions_add_126 ?_
    refine lv_iconst (v := 1) E.1 E.2.1 d_Functions_add_129 (by decide) ?_
    refine lv_iadd E.1 E.2.1 d_Functions_add_130 ?_
    refine lv_topi (fun vt_2 evt_2 => ?_)
    obtain rfl : vt_2 = nI (cn + 1) := evt_2.trans (nI_add cn 1)
    refine x_put E hP hD hS (C := "WasmReader$Functions") (T := T_Functions) (N := 10) (ci := 4) 0 (v := .int (nI (cn + 1))) 0 (t0 := t_Functions) (tk := .int) in_Functions tok_Functions nok_Functions rfl rfl (by decide) m_250 rfl rfl rfl rfl (Nat.le_of_ble_eq_true rfl) d_Functions_add_131 (fun H locs hP hD hS => ?_)
    have hP : va_P D classes [(h0, .inr (4, [.int (nI (cn + 1)), .int (nI im), .int bd, .ref f0, .ref f1, .ref f2, .ref f3, .ref f4, .ref f5, .ref f6])), (f0, .inl (cI, 60, .inl vf0)), (f1, .inl (cI, 60, .inl vf1)), (f2, .inl (cI, 60, .inl vf2)), (f3, .inl (cI, 60, .inl vf3)), (f4, .inl (cI, 60, .inl vf4)), (f5, .inl (cI, 60, .inl vf5)), (f6, .inl (cI, 60, .inl vf6)), (qt, .inr (3, [.int (nI tc), .ref t0, .ref t1, .ref t2])), (t0, .inl (cI, 40, .inl wt0)), (t1, .inl (cI, 40, .inl wt1)), (t2, .inl (cI, 40, .inl wt2))] H := hP
    have hD : va_D (va_A [(h0, .inr (4, [.int (nI cn), .int (nI im), .int bd, .ref f0, .ref f1, .ref f2, .ref f3, .ref f4, .ref f5, .ref f6])), (f0, .inl (cI, 60, .inl vf0)), (f1, .inl (cI, 60, .inl vf1)), (f2, .inl (cI, 60, .inl vf2)), (f3, .inl (cI, 60, .inl vf3)), (f4, .inl (cI, 60, .inl vf4)), (f5, .inl (cI, 60, .inl vf5)), (f6, .inl (cI, 60, .inl vf6)), (qt, .inr (3, [.int (nI tc), .ref t0, .ref t1, .ref t2])), (t0, .inl (cI, 40, .inl wt0)), (t1, .inl (cI, 40, .inl wt1)), (t2, .inl (cI, 40, .inl wt2))] s.heap.size) [(h0, .inr (4, [.int (nI (cn + 1)), .int (nI im), .int bd, .ref f0, .ref f1, .ref f2, .ref f3, .ref f4, .ref f5, .ref f6])), (f0, .inl (cI, 60, .inl vf0)), (f1, .inl (cI, 60, .inl vf1)), (f2, .inl (cI, 60, .inl vf2)), (f3, .inl (cI, 60, .inl vf3)), (f4, .inl (cI, 60, .inl vf4)), (f5, .inl (cI, 60, .inl vf5)), (f6, .inl (cI, 60, .inl vf6)), (qt, .inr (3, [.int (nI tc), .ref t0, .ref t1, .ref t2])), (t0, .inl (cI, 40, .inl wt0)), (t1, .inl (cI, 40, .inl wt1)), (t2, .inl (cI, 40, .inl wt2))] := hD
    refine W.widen (k := 0) (n := 0) (by decide) (by decide) ?_
    exact x_vret (ws := [(h0, .inr (4, [.int (nI (cn + 1)), .int (nI im), .int bd, .ref f0, .ref f1, .ref f2, .ref f3, .ref f4, .ref f5, .ref f6])), (f0, .inl (cI, 60, .inl vf0)), (f1, .inl (cI, 60, .inl vf1)), (f2, .inl (cI, 60, .inl vf2)), (f3, .inl (cI, 60, .inl vf3)), (f4, .inl (cI, 60, .inl vf4)), (f5, .inl (cI, 60, .inl vf5)), (f6, .inl (cI, 60, .inl vf6)), (qt, .inr (3, [.int (nI tc), .ref t0, .ref t1, .ref t2])), (t0, .inl (cI, 40, .inl wt0)), (t1, .inl (cI, 40, .inl wt1)), (t2, .inl (cI, 40, .inl wt2))]) E hr hlocks (hP.sub [0, 1, 2, 3, 4, 5, 6, 7, 8, 9, 10, 11] rfl) (hD.sub [0, 1, 2, 3, 4, 5, 6, 7, 8, 9, 10, 11] (by decide) rfl) hS ⟨vf0, vf1, vf2, vf3, vf4, vf5, vf6, rfl⟩ d_Functions_add_134
  ·
    have hc_1 : ¬ (60 ≤ cn) := fun hq_ => hc_1 ((nI_leI (a := 60) (b := cn) (by omega) (by omega)).mpr hq_)
    refine lv_aload_n E.1 E.2.1 d_Functions_add_9 rfl (lv_at hl 2 rfl) ?_
    refine lv_iload_n E.1 E.2.1 d_Functions_add_10 rfl (lv_at hl 1 rfl) ?_
    have hPc := hP.sub (ws' := [(qt, .inr (3, [.int (nI tc), .ref t0, .ref t1, .ref t2]))]) [8] rfl
    have hDc := hD.sub (ws' := [(qt, .inr (3, [.int (nI tc), .ref t0, .ref t1, .ref t2]))]) [8] (by decide) rfl
    have hFc := va_free (wc := [(qt, .inr (3, [.int (nI tc), .ref t0, .ref t1, .ref t2]))]) hD hS hA [8] rfl
    refine x_ri (ws := [(h0, .inr (4, [.int (nI cn), .int (nI im), .int bd, .ref f0, .ref f1, .ref f2, .ref f3, .ref f4, .ref f5, .ref f6])), (f0, .inl (cI, 60, .inl vf0)), (f1, .inl (cI, 60, .inl vf1)), (f2, .inl (cI, 60, .inl vf2)), (f3, .inl (cI, 60, .inl vf3)), (f4, .inl (cI, 60, .inl vf4)), (f5, .inl (cI, 60, .inl vf5)), (f6, .inl (cI, 60, .inl vf6)), (qt, .inr (3, [.int (nI tc), .ref t0, .ref t1, .ref t2])), (t0, .inl (cI, 40, .inl wt0)), (t1, .inl (cI, 40, .inl wt1)), (t2, .inl (cI, 40, .inl wt2))]) (wc := [(qt, .inr (3, [.int (nI tc), .ref t0, .ref t1, .ref t2]))]) (wr := [(h0, .inr (4, [.int (nI cn), .int (nI im), .int bd, .ref f0, .ref f1, .ref f2, .ref f3, .ref f4, .ref f5, .ref f6])), (f0, .inl (cI, 60, .inl vf0)), (f1, .inl (cI, 60, .inl vf1)), (f2, .inl (cI, 60, .inl vf2)), (f3, .inl (cI, 60, .inl vf3)), (f4, .inl (cI, 60, .inl vf4)), (f5, .inl (cI, 60, .inl vf5)), (f6, .inl (cI, 60, .inl vf6)), (t0, .inl (cI, 40, .inl wt0)), (t1, .inl (cI, 40, .inl wt1)), (t2, .inl (cI, 40, .inl wt2))]) (x_V (As := [.int t]) (C := "WasmReader$Types") E (c_Types_hasr l D cB cI cJ cZ s.heap.size qt tc t0 t1 t2 t (by omega)) m_252 m_53 m_251 m_253 m_254 nm_Types_has hPc hDc hZ hS hFc rfl rfl rfl hl.1 rfl (Nat.le_of_ble_eq_true rfl) d_Functions_add_11 rfl rfl (by decide) (by decide) (by decide) (by decide)) hP hD hS hA [8] [0, 1, 2, 3, 4, 5, 6, 7, 9, 10, 11] rfl rfl (by decide) (by decide) (fun r_5 u H locs hw hP hD hS => ?_)
    obtain ⟨hal_3, rfl⟩ := hw
    have hP : va_P D classes [(h0, .inr (4, [.int (nI cn), .int (nI im), .int bd, .ref f0, .ref f1, .ref f2, .ref f3, .ref f4, .ref f5, .ref f6])), (f0, .inl (cI, 60, .inl vf0)), (f1, .inl (cI, 60, .inl vf1)), (f2, .inl (cI, 60, .inl vf2)), (f3, .inl (cI, 60, .inl vf3)), (f4, .inl (cI, 60, .inl vf4)), (f5, .inl (cI, 60, .inl vf5)), (f6, .inl (cI, 60, .inl vf6)), (t0, .inl (cI, 40, .inl wt0)), (t1, .inl (cI, 40, .inl wt1)), (t2, .inl (cI, 40, .inl wt2)), (qt, .inr (3, [.int (nI tc), .ref t0, .ref t1, .ref t2]))] H := hP
    have hD : va_D (va_A [(h0, .inr (4, [.int (nI cn), .int (nI im), .int bd, .ref f0, .ref f1, .ref f2, .ref f3, .ref f4, .ref f5, .ref f6])), (f0, .inl (cI, 60, .inl vf0)), (f1, .inl (cI, 60, .inl vf1)), (f2, .inl (cI, 60, .inl vf2)), (f3, .inl (cI, 60, .inl vf3)), (f4, .inl (cI, 60, .inl vf4)), (f5, .inl (cI, 60, .inl vf5)), (f6, .inl (cI, 60, .inl vf6)), (qt, .inr (3, [.int (nI tc), .ref t0, .ref t1, .ref t2])), (t0, .inl (cI, 40, .inl wt0)), (t1, .inl (cI, 40, .inl wt1)), (t2, .inl (cI, 40, .inl wt2))] s.heap.size) [(h0, .inr (4, [.int (nI cn), .int (nI im), .int bd, .ref f0, .ref f1, .ref f2, .ref f3, .ref f4, .ref f5, .ref f6])), (f0, .inl (cI, 60, .inl vf0)), (f1, .inl (cI, 60, .inl vf1)), (f2, .inl (cI, 60, .inl vf2)), (f3, .inl (cI, 60, .inl vf3)), (f4, .inl (cI, 60, .inl vf4)), (f5, .inl (cI, 60, .inl vf5)), (f6, .inl (cI, 60, .inl vf6)), (t0, .inl (cI, 40, .inl wt0)), (t1, .inl (cI, 40, .inl wt1)), (t2, .inl (cI, 40, .inl wt2)), (qt, .inr (3, [.int (nI tc), .ref t0, .ref t1, .ref t2]))] := hD
    rcases hal_3 with ha_6 | ⟨x_7, ha_8, hb_9, hb_10, hb_11⟩
    ·
      subst ha_6
      refine lv_istore_n (lv' := [(3, .int 0), (0, .ref h0), (1, .int t), (2, .ref qt)]) E.1 E.2.1 d_Functions_add_14 rfl hl (by decide) rfl (fun ls hl => ?_)
      refine lv_aload_n E.1 E.2.1 d_Functions_add_15 rfl (lv_at hl 1 rfl) ?_
      refine x_get E hP (C := "WasmReader$Functions") (T := T_Functions) (N := 10) (ci := 4) 0 (v := .ref f0) 3 in_Functions rfl rfl (by decide) m_10 rfl d_Functions_add_16 ?_
      refine lv_aload_n E.1 E.2.1 d_Functions_add_19 rfl (lv_at hl 1 rfl) ?_
      refine x_get E hP (C := "WasmReader$Functions") (T := T_Functions) (N := 10) (ci := 4) 0 (v := .int (nI cn)) 0 in_Functions rfl rfl (by decide) m_250 rfl d_Functions_add_20 ?_
      refine lv_iload_n E.1 E.2.1 d_Functions_add_23 rfl (lv_at hl 2 rfl) ?_
      refine va_iast E.1 E.2.1 E.2.2.2.2.2 hP hD hS 1 1 rfl rfl (i := nI cn) (x := t) (vp_in_nI (n := cn) (by omega) (by decide)) d_Functions_add_24 (fun H locs hP hD hS => ?_)
      generalize upd vf0 (Int32.toNatClampNeg (nI cn)) t = g_12 at hP hD
      have hP : va_P D classes [(h0, .inr (4, [.int (nI cn), .int (nI im), .int bd, .ref f0, .ref f1, .ref f2, .ref f3, .ref f4, .ref f5, .ref f6])), (f0, .inl (cI, 60, .inl g_12)), (f1, .inl (cI, 60, .inl vf1)), (f2, .inl (cI, 60, .inl vf2)), (f3, .inl (cI, 60, .inl vf3)), (f4, .inl (cI, 60, .inl vf4)), (f5, .inl (cI, 60, .inl vf5)), (f6, .inl (cI, 60, .inl vf6)), (t0, .inl (cI, 40, .inl wt0)), (t1, .inl (cI, 40, .inl wt1)), (t2, .inl (cI, 40, .inl wt2)), (qt, .inr (3, [.int (nI tc), .ref t0, .ref t1, .ref t2]))] H := hP
      have hD : va_D (va_A [(h0, .inr (4, [.int (nI cn), .int (nI im), .int bd, .ref f0, .ref f1, .ref f2, .ref f3, .ref f4, .ref f5, .ref f6])), (f0, .inl (cI, 60, .inl vf0)), (f1, .inl (cI, 60, .inl vf1)), (f2, .inl (cI, 60, .inl vf2)), (f3, .inl (cI, 60, .inl vf3)), (f4, .inl (cI, 60, .inl vf4)), (f5, .inl (cI, 60, .inl vf5)), (f6, .inl (cI, 60, .inl vf6)), (qt, .inr (3, [.int (nI tc), .ref t0, .ref t1, .ref t2])), (t0, .inl (cI, 40, .inl wt0)), (t1, .inl (cI, 40, .inl wt1)), (t2, .inl (cI, 40, .inl wt2))] s.heap.size) [(h0, .inr (4, [.int (nI cn), .int (nI im), .int bd, .ref f0, .ref f1, .ref f2, .ref f3, .ref f4, .ref f5, .ref f6])), (f0, .inl (cI, 60, .inl g_12)), (f1, .inl (cI, 60, .inl vf1)), (f2, .inl (cI, 60, .inl vf2)), (f3, .inl (cI, 60, .inl vf3)), (f4, .inl (cI, 60, .inl vf4)), (f5, .inl (cI, 60, .inl vf5)), (f6, .inl (cI, 60, .inl vf6)), (t0, .inl (cI, 40, .inl wt0)), (t1, .inl (cI, 40, .inl wt1)), (t2, .inl (cI, 40, .inl wt2)), (qt, .inr (3, [.int (nI tc), .ref t0, .ref t1, .ref t2]))] := hD
      refine lv_aload_n E.1 E.2.1 d_Functions_add_25 rfl (lv_at hl 1 rfl) ?_
      refine x_get E hP (C := "WasmReader$Functions") (T := T_Functions) (N := 10) (ci := 4) 0 (v := .ref f1) 4 in_Functions rfl rfl (by decide) m_11 rfl d_Functions_add_26 ?_
      refine lv_aload_n E.1 E.2.1 d_Functions_add_29 rfl (lv_at hl 1 rfl) ?_
      refine x_get E hP (C := "WasmReader$Functions") (T := T_Functions) (N := 10) (ci := 4) 0 (v := .int (nI cn)) 0 in_Functions rfl rfl (by decide) m_250 rfl d_Functions_add_30 ?_
      refine lv_iload_n E.1 E.2.1 d_Functions_add_33 rfl (lv_at hl 0 rfl) ?_
      refine lv_if_eq (tgt := 46) E.1 E.2.1 d_Functions_add_34 (by decide) (fun _ => ?_) (fun hc => absurd (by decide) hc)
      refine lv_iconst (v := 0) E.1 E.2.1 d_Functions_add_46 (by decide) ?_
      refine va_iast E.1 E.2.1 E.2.2.2.2.2 hP hD hS 2 1 rfl rfl (i := nI cn) (x := 0) (vp_in_nI (n := cn) (by omega) (by decide)) d_Functions_add_47 (fun H locs hP hD hS => ?_)
      generalize upd vf1 (Int32.toNatClampNeg (nI cn)) 0 = g_13 at hP hD
      have hP : va_P D classes [(h0, .inr (4, [.int (nI cn), .int (nI im), .int bd, .ref f0, .ref f1, .ref f2, .ref f3, .ref f4, .ref f5, .ref f6])), (f0, .inl (cI, 60, .inl g_12)), (f1, .inl (cI, 60, .inl g_13)), (f2, .inl (cI, 60, .inl vf2)), (f3, .inl (cI, 60, .inl vf3)), (f4, .inl (cI, 60, .inl vf4)), (f5, .inl (cI, 60, .inl vf5)), (f6, .inl (cI, 60, .inl vf6)), (t0, .inl (cI, 40, .inl wt0)), (t1, .inl (cI, 40, .inl wt1)), (t2, .inl (cI, 40, .inl wt2)), (qt, .inr (3, [.int (nI tc), .ref t0, .ref t1, .ref t2]))] H := hP
      have hD : va_D (va_A [(h0, .inr (4, [.int (nI cn), .int (nI im), .int bd, .ref f0, .ref f1, .ref f2, .ref f3, .ref f4, .ref f5, .ref f6])), (f0, .inl (cI, 60, .inl vf0)), (f1, .inl (cI, 60, .inl vf1)), (f2, .inl (cI, 60, .inl vf2)), (f3, .inl (cI, 60, .inl vf3)), (f4, .inl (cI, 60, .inl vf4)), (f5, .inl (cI, 60, .inl vf5)), (f6, .inl (cI, 60, .inl vf6)), (qt, .inr (3, [.int (nI tc), .ref t0, .ref t1, .ref t2])), (t0, .inl (cI, 40, .inl wt0)), (t1, .inl (cI, 40, .inl wt1)), (t2, .inl (cI, 40, .inl wt2))] s.heap.size) [(h0, .inr (4, [.int (nI cn), .int (nI im), .int bd, .ref f0, .ref f1, .ref f2, .ref f3, .ref f4, .ref f5, .ref f6])), (f0, .inl (cI, 60, .inl g_12)), (f1, .inl (cI, 60, .inl g_13)), (f2, .inl (cI, 60, .inl vf2)), (f3, .inl (cI, 60, .inl vf3)), (f4, .inl (cI, 60, .inl vf4)), (f5, .inl (cI, 60, .inl vf5)), (f6, .inl (cI, 60, .inl vf6)), (t0, .inl (cI, 40, .inl wt0)), (t1, .inl (cI, 40, .inl wt1)), (t2, .inl (cI, 40, .inl wt2)), (qt, .inr (3, [.int (nI tc), .ref t0, .ref t1, .ref t2]))] := hD
      refine lv_aload_n E.1 E.2.1 d_Functions_add_48 rfl (lv_at hl 1 rfl) ?_
      refine x_get E hP (C := "WasmReader$Functions") (T := T_Functions) (N := 10) (ci := 4) 0 (v := .ref f2) 5 in_Functions rfl rfl (by decide) m_12 rfl d_Functions_add_49 ?_
      refine lv_aload_n E.1 E.2.1 d_Functions_add_52 rfl (lv_at hl 1 rfl) ?_
      refine x_get E hP (C := "WasmReader$Functions") (T := T_Functions) (N := 10) (ci := 4) 0 (v := .int (nI cn)) 0 in_Functions rfl rfl (by decide) m_250 rfl d_Functions_add_53 ?_
      refine lv_iload_n E.1 E.2.1 d_Functions_add_56 rfl (lv_at hl 0 rfl) ?_
      refine lv_if_eq (tgt := 69) E.1 E.2.1 d_Functions_add_57 (by decide) (fun _ => ?_) (fun hc => absurd (by decide) hc)
      refine lv_iconst (v := (-1)) E.1 E.2.1 d_Functions_add_69 (by decide) ?_
      refine va_iast E.1 E.2.1 E.2.2.2.2.2 hP hD hS 3 1 rfl rfl (i := nI cn) (x := (-1)) (vp_in_nI (n := cn) (by omega) (by decide)) d_Functions_add_70 (fun H locs hP hD hS => ?_)
      generalize upd vf2 (Int32.toNatClampNeg (nI cn)) ((-1)) = g_14 at hP hD
      have hP : va_P D classes [(h0, .inr (4, [.int (nI cn), .int (nI im), .int bd, .ref f0, .ref f1, .ref f2, .ref f3, .ref f4, .ref f5, .ref f6])), (f0, .inl (cI, 60, .inl g_12)), (f1, .inl (cI, 60, .inl g_13)), (f2, .inl (cI, 60, .inl g_14)), (f3, .inl (cI, 60, .inl vf3)), (f4, .inl (cI, 60, .inl vf4)), (f5, .inl (cI, 60, .inl vf5)), (f6, .inl (cI, 60, .inl vf6)), (t0, .inl (cI, 40, .inl wt0)), (t1, .inl (cI, 40, .inl wt1)), (t2, .inl (cI, 40, .inl wt2)), (qt, .inr (3, [.int (nI tc), .ref t0, .ref t1, .ref t2]))] H := hP
      have hD : va_D (va_A [(h0, .inr (4, [.int (nI cn), .int (nI im), .int bd, .ref f0, .ref f1, .ref f2, .ref f3, .ref f4, .ref f5, .ref f6])), (f0, .inl (cI, 60, .inl vf0)), (f1, .inl (cI, 60, .inl vf1)), (f2, .inl (cI, 60, .inl vf2)), (f3, .inl (cI, 60, .inl vf3)), (f4, .inl (cI, 60, .inl vf4)), (f5, .inl (cI, 60, .inl vf5)), (f6, .inl (cI, 60, .inl vf6)), (qt, .inr (3, [.int (nI tc), .ref t0, .ref t1, .ref t2])), (t0, .inl (cI, 40, .inl wt0)), (t1, .inl (cI, 40, .inl wt1)), (t2, .inl (cI, 40, .inl wt2))] s.heap.size) [(h0, .inr (4, [.int (nI cn), .int (nI im), .int bd, .ref f0, .ref f1, .ref f2, .ref f3, .ref f4, .ref f5, .ref f6])), (f0, .inl (cI, 60, .inl g_12)), (f1, .inl (cI, 60, .inl g_13)), (f2, .inl (cI, 60, .inl g_14)), (f3, .inl (cI, 60, .inl vf3)), (f4, .inl (cI, 60, .inl vf4)), (f5, .inl (cI, 60, .inl vf5)), (f6, .inl (cI, 60, .inl vf6)), (t0, .inl (cI, 40, .inl wt0)), (t1, .inl (cI, 40, .inl wt1)), (t2, .inl (cI, 40, .inl wt2)), (qt, .inr (3, [.int (nI tc), .ref t0, .ref t1, .ref t2]))] := hD
      refine lv_aload_n E.1 E.2.1 d_Functions_add_71 rfl (lv_at hl 1 rfl) ?_
      refine x_get E hP (C := "WasmReader$Functions") (T := T_Functions) (N := 10) (ci := 4) 0 (v := .ref f4) 7 in_Functions rfl rfl (by decide) m_14 rfl d_Functions_add_72 ?_
      refine lv_aload_n E.1 E.2.1 d_Functions_add_75 rfl (lv_at hl 1 rfl) ?_
      refine x_get E hP (C := "WasmReader$Functions") (T := T_Functions) (N := 10) (ci := 4) 0 (v := .int (nI cn)) 0 in_Functions rfl rfl (by decide) m_250 rfl d_Functions_add_76 ?_
      refine lv_iload_n E.1 E.2.1 d_Functions_add_79 rfl (lv_at hl 0 rfl) ?_
      refine lv_if_eq (tgt := 92) E.1 E.2.1 d_Functions_add_80 (by decide) (fun _ => ?_) (fun hc => absurd (by decide) hc)
      refine lv_iconst (v := 0) E.1 E.2.1 d_Functions_add_92 (by decide) ?_
      refine va_iast E.1 E.2.1 E.2.2.2.2.2 hP hD hS 5 1 rfl rfl (i := nI cn) (x := 0) (vp_in_nI (n := cn) (by omega) (by decide)) d_Functions_add_93 (fun H locs hP hD hS => ?_)
      generalize upd vf4 (Int32.toNatClampNeg (nI cn)) 0 = g_15 at hP hD
      have hP : va_P D classes [(h0, .inr (4, [.int (nI cn), .int (nI im), .int bd, .ref f0, .ref f1, .ref f2, .ref f3, .ref f4, .ref f5, .ref f6])), (f0, .inl (cI, 60, .inl g_12)), (f1, .inl (cI, 60, .inl g_13)), (f2, .inl (cI, 60, .inl g_14)), (f3, .inl (cI, 60, .inl vf3)), (f4, .inl (cI, 60, .inl g_15)), (f5, .inl (cI, 60, .inl vf5)), (f6, .inl (cI, 60, .inl vf6)), (t0, .inl (cI, 40, .inl wt0)), (t1, .inl (cI, 40, .inl wt1)), (t2, .inl (cI, 40, .inl wt2)), (qt, .inr (3, [.int (nI tc), .ref t0, .ref t1, .ref t2]))] H := hP
      have hD : va_D (va_A [(h0, .inr (4, [.int (nI cn), .int (nI im), .int bd, .ref f0, .ref f1, .ref f2, .ref f3, .ref f4, .ref f5, .ref f6])), (f0, .inl (cI, 60, .inl vf0)), (f1, .inl (cI, 60, .inl vf1)), (f2, .inl (cI, 60, .inl vf2)), (f3, .inl (cI, 60, .inl vf3)), (f4, .inl (cI, 60, .inl vf4)), (f5, .inl (cI, 60, .inl vf5)), (f6, .inl (cI, 60, .inl vf6)), (qt, .inr (3, [.int (nI tc), .ref t0, .ref t1, .ref t2])), (t0, .inl (cI, 40, .inl wt0)), (t1, .inl (cI, 40, .inl wt1)), (t2, .inl (cI, 40, .inl wt2))] s.heap.size) [(h0, .inr (4, [.int (nI cn), .int (nI im), .int bd, .ref f0, .ref f1, .ref f2, .ref f3, .ref f4, .ref f5, .ref f6])), (f0, .inl (cI, 60, .inl g_12)), (f1, .inl (cI, 60, .inl g_13)), (f2, .inl (cI, 60, .inl g_14)), (f3, .inl (cI, 60, .inl vf3)), (f4, .inl (cI, 60, .inl g_15)), (f5, .inl (cI, 60, .inl vf5)), (f6, .inl (cI, 60, .inl vf6)), (t0, .inl (cI, 40, .inl wt0)), (t1, .inl (cI, 40, .inl wt1)), (t2, .inl (cI, 40, .inl wt2)), (qt, .inr (3, [.int (nI tc), .ref t0, .ref t1, .ref t2]))] := hD
      refine lv_aload_n E.1 E.2.1 d_Functions_add_94 rfl (lv_at hl 1 rfl) ?_
      refine x_get E hP (C := "WasmReader$Functions") (T := T_Functions) (N := 10) (ci := 4) 0 (v := .ref f3) 6 in_Functions rfl rfl (by decide) m_13 rfl d_Functions_add_95 ?_
      refine lv_aload_n E.1 E.2.1 d_Functions_add_98 rfl (lv_at hl 1 rfl) ?_
      refine x_get E hP (C := "WasmReader$Functions") (T := T_Functions) (N := 10) (ci := 4) 0 (v := .int (nI cn)) 0 in_Functions rfl rfl (by decide) m_250 rfl d_Functions_add_99 ?_
      refine lv_iconst (v := 0) E.1 E.2.1 d_Functions_add_102 (by decide) ?_
      refine va_iast E.1 E.2.1 E.2.2.2.2.2 hP hD hS 4 1 rfl rfl (i := nI cn) (x := 0) (vp_in_nI (n := cn) (by omega) (by decide)) d_Functions_add_103 (fun H locs hP hD hS => ?_)
      generalize upd vf3 (Int32.toNatClampNeg (nI cn)) 0 = g_16 at hP hD
      have hP : va_P D classes [(h0, .inr (4, [.int (nI cn), .int (nI im), .int bd, .ref f0, .ref f1, .ref f2, .ref f3, .ref f4, .ref f5, .ref f6])), (f0, .inl (cI, 60, .inl g_12)), (f1, .inl (cI, 60, .inl g_13)), (f2, .inl (cI, 60, .inl g_14)), (f3, .inl (cI, 60, .inl g_16)), (f4, .inl (cI, 60, .inl g_15)), (f5, .inl (cI, 60, .inl vf5)), (f6, .inl (cI, 60, .inl vf6)), (t0, .inl (cI, 40, .inl wt0)), (t1, .inl (cI, 40, .inl wt1)), (t2, .inl (cI, 40, .inl wt2)), (qt, .inr (3, [.int (nI tc), .ref t0, .ref t1, .ref t2]))] H := hP
      have hD : va_D (va_A [(h0, .inr (4, [.int (nI cn), .int (nI im), .int bd, .ref f0, .ref f1, .ref f2, .ref f3, .ref f4, .ref f5, .ref f6])), (f0, .inl (cI, 60, .inl vf0)), (f1, .inl (cI, 60, .inl vf1)), (f2, .inl (cI, 60, .inl vf2)), (f3, .inl (cI, 60, .inl vf3)), (f4, .inl (cI, 60, .inl vf4)), (f5, .inl (cI, 60, .inl vf5)), (f6, .inl (cI, 60, .inl vf6)), (qt, .inr (3, [.int (nI tc), .ref t0, .ref t1, .ref t2])), (t0, .inl (cI, 40, .inl wt0)), (t1, .inl (cI, 40, .inl wt1)), (t2, .inl (cI, 40, .inl wt2))] s.heap.size) [(h0, .inr (4, [.int (nI cn), .int (nI im), .int bd, .ref f0, .ref f1, .ref f2, .ref f3, .ref f4, .ref f5, .ref f6])), (f0, .inl (cI, 60, .inl g_12)), (f1, .inl (cI, 60, .inl g_13)), (f2, .inl (cI, 60, .inl g_14)), (f3, .inl (cI, 60, .inl g_16)), (f4, .inl (cI, 60, .inl g_15)), (f5, .inl (cI, 60, .inl vf5)), (f6, .inl (cI, 60, .inl vf6)), (t0, .inl (cI, 40, .inl wt0)), (t1, .inl (cI, 40, .inl wt1)), (t2, .inl (cI, 40, .inl wt2)), (qt, .inr (3, [.int (nI tc), .ref t0, .ref t1, .ref t2]))] := hD
      refine lv_aload_n E.1 E.2.1 d_Functions_add_104 rfl (lv_at hl 1 rfl) ?_
      refine x_get E hP (C := "WasmReader$Functions") (T := T_Functions) (N := 10) (ci := 4) 0 (v := .ref f5) 8 in_Functions rfl rfl (by decide) m_15 rfl d_Functions_add_105 ?_
      refine lv_aload_n E.1 E.2.1 d_Functions_add_108 rfl (lv_at hl 1 rfl) ?_
      refine x_get E hP (C := "WasmReader$Functions") (T := T_Functions) (N := 10) (ci := 4) 0 (v := .int (nI cn)) 0 in_Functions rfl rfl (by decide) m_250 rfl d_Functions_add_109 ?_
      refine lv_iconst (v := 0) E.1 E.2.1 d_Functions_add_112 (by decide) ?_
      refine va_iast E.1 E.2.1 E.2.2.2.2.2 hP hD hS 6 1 rfl rfl (i := nI cn) (x := 0) (vp_in_nI (n := cn) (by omega) (by decide)) d_Functions_add_113 (fun H locs hP hD hS => ?_)
      generalize upd vf5 (Int32.toNatClampNeg (nI cn)) 0 = g_17 at hP hD
      have hP : va_P D classes [(h0, .inr (4, [.int (nI cn), .int (nI im), .int bd, .ref f0, .ref f1, .ref f2, .ref f3, .ref f4, .ref f5, .ref f6])), (f0, .inl (cI, 60, .inl g_12)), (f1, .inl (cI, 60, .inl g_13)), (f2, .inl (cI, 60, .inl g_14)), (f3, .inl (cI, 60, .inl g_16)), (f4, .inl (cI, 60, .inl g_15)), (f5, .inl (cI, 60, .inl g_17)), (f6, .inl (cI, 60, .inl vf6)), (t0, .inl (cI, 40, .inl wt0)), (t1, .inl (cI, 40, .inl wt1)), (t2, .inl (cI, 40, .inl wt2)), (qt, .inr (3, [.int (nI tc), .ref t0, .ref t1, .ref t2]))] H := hP
      have hD : va_D (va_A [(h0, .inr (4, [.int (nI cn), .int (nI im), .int bd, .ref f0, .ref f1, .ref f2, .ref f3, .ref f4, .ref f5, .ref f6])), (f0, .inl (cI, 60, .inl vf0)), (f1, .inl (cI, 60, .inl vf1)), (f2, .inl (cI, 60, .inl vf2)), (f3, .inl (cI, 60, .inl vf3)), (f4, .inl (cI, 60, .inl vf4)), (f5, .inl (cI, 60, .inl vf5)), (f6, .inl (cI, 60, .inl vf6)), (qt, .inr (3, [.int (nI tc), .ref t0, .ref t1, .ref t2])), (t0, .inl (cI, 40, .inl wt0)), (t1, .inl (cI, 40, .inl wt1)), (t2, .inl (cI, 40, .inl wt2))] s.heap.size) [(h0, .inr (4, [.int (nI cn), .int (nI im), .int bd, .ref f0, .ref f1, .ref f2, .ref f3, .ref f4, .ref f5, .ref f6])), (f0, .inl (cI, 60, .inl g_12)), (f1, .inl (cI, 60, .inl g_13)), (f2, .inl (cI, 60, .inl g_14)), (f3, .inl (cI, 60, .inl g_16)), (f4, .inl (cI, 60, .inl g_15)), (f5, .inl (cI, 60, .inl g_17)), (f6, .inl (cI, 60, .inl vf6)), (t0, .inl (cI, 40, .inl wt0)), (t1, .inl (cI, 40, .inl wt1)), (t2, .inl (cI, 40, .inl wt2)), (qt, .inr (3, [.int (nI tc), .ref t0, .ref t1, .ref t2]))] := hD
      refine lv_aload_n E.1 E.2.1 d_Functions_add_114 rfl (lv_at hl 1 rfl) ?_
      refine x_get E hP (C := "WasmReader$Functions") (T := T_Functions) (N := 10) (ci := 4) 0 (v := .ref f6) 9 in_Functions rfl rfl (by decide) m_16 rfl d_Functions_add_115 ?_
      refine lv_aload_n E.1 E.2.1 d_Functions_add_118 rfl (lv_at hl 1 rfl) ?_
      refine x_get E hP (C := "WasmReader$Functions") (T := T_Functions) (N := 10) (ci := 4) 0 (v := .int (nI cn)) 0 in_Functions rfl rfl (by decide) m_250 rfl d_Functions_add_119 ?_
      refine lv_iconst (v := 0) E.1 E.2.1 d_Functions_add_122 (by decide) ?_
      refine va_iast E.1 E.2.1 E.2.2.2.2.2 hP hD hS 7 1 rfl rfl (i := nI cn) (x := 0) (vp_in_nI (n := cn) (by omega) (by decide)) d_Functions_add_123 (fun H locs hP hD hS => ?_)
      generalize upd vf6 (Int32.toNatClampNeg (nI cn)) 0 = g_18 at hP hD
      have hP : va_P D classes [(h0, .inr (4, [.int (nI cn), .int (nI im), .int bd, .ref f0, .ref f1, .ref f2, .ref f3, .ref f4, .ref f5, .ref f6])), (f0, .inl (cI, 60, .inl g_12)), (f1, .inl (cI, 60, .inl g_13)), (f2, .inl (cI, 60, .inl g_14)), (f3, .inl (cI, 60, .inl g_16)), (f4, .inl (cI, 60, .inl g_15)), (f5, .inl (cI, 60, .inl g_17)), (f6, .inl (cI, 60, .inl g_18)), (t0, .inl (cI, 40, .inl wt0)), (t1, .inl (cI, 40, .inl wt1)), (t2, .inl (cI, 40, .inl wt2)), (qt, .inr (3, [.int (nI tc), .ref t0, .ref t1, .ref t2]))] H := hP
      have hD : va_D (va_A [(h0, .inr (4, [.int (nI cn), .int (nI im), .int bd, .ref f0, .ref f1, .ref f2, .ref f3, .ref f4, .ref f5, .ref f6])), (f0, .inl (cI, 60, .inl vf0)), (f1, .inl (cI, 60, .inl vf1)), (f2, .inl (cI, 60, .inl vf2)), (f3, .inl (cI, 60, .inl vf3)), (f4, .inl (cI, 60, .inl vf4)), (f5, .inl (cI, 60, .inl vf5)), (f6, .inl (cI, 60, .inl vf6)), (qt, .inr (3, [.int (nI tc), .ref t0, .ref t1, .ref t2])), (t0, .inl (cI, 40, .inl wt0)), (t1, .inl (cI, 40, .inl wt1)), (t2, .inl (cI, 40, .inl wt2))] s.heap.size) [(h0, .inr (4, [.int (nI cn), .int (nI im), .int bd, .ref f0, .ref f1, .ref f2, .ref f3, .ref f4, .ref f5, .ref f6])), (f0, .inl (cI, 60, .inl g_12)), (f1, .inl (cI, 60, .inl g_13)), (f2, .inl (cI, 60, .inl g_14)), (f3, .inl (cI, 60, .inl g_16)), (f4, .inl (cI, 60, .inl g_15)), (f5, .inl (cI, 60, .inl g_17)), (f6, .inl (cI, 60, .inl g_18)), (t0, .inl (cI, 40, .inl wt0)), (t1, .inl (cI, 40, .inl wt1)), (t2, .inl (cI, 40, .inl wt2)), (qt, .inr (3, [.int (nI tc), .ref t0, .ref t1, .ref t2]))] := hD
      refine lv_aload_n E.1 E.2.1 d_Functions_add_124 rfl (lv_at hl 1 rfl) ?_
      refine lv_dup E.1 E.2.1 d_Functions_add_125 rfl ?_
      refine x_get E hP (C := "WasmReader$Functions") (T := T_Functions) (N := 10) (ci := 4) 0 (v := .int (nI cn)) 0 in_Functions rfl rfl (by decide) m_250 rfl d_Functions_add_126 ?_
      refine lv_iconst (v := 1) E.1 E.2.1 d_Functions_add_129 (by decide) ?_
      refine lv_iadd E.1 E.2.1 d_Functions_add_130 ?_
      refine lv_topi (fun vt_19 evt_19 => ?_)
      obtain rfl : vt_19 = nI (cn + 1) := evt_19.trans (nI_add cn 1)
      refine x_put E hP hD hS (C := "WasmReader$Functions") (T := T_Functions) (N := 10) (ci := 4) 0 (v := .int (nI (cn + 1))) 0 (t0 := t_Functions) (tk := .int) in_Functions tok_Functions nok_Functions rfl rfl (by decide) m_250 rfl rfl rfl rfl (Nat.le_of_ble_eq_true rfl) d_Functions_add_131 (fun H locs hP hD hS => ?_)
      have hP : va_P D classes [(h0, .inr (4, [.int (nI (cn + 1)), .int (nI im), .int bd, .ref f0, .ref f1, .ref f2, .ref f3, .ref f4, .ref f5, .ref f6])), (f0, .inl (cI, 60, .inl g_12)), (f1, .inl (cI, 60, .inl g_13)), (f2, .inl (cI, 60, .inl g_14)), (f3, .inl (cI, 60, .inl g_16)), (f4, .inl (cI, 60, .inl g_15)), (f5, .inl (cI, 60, .inl g_17)), (f6, .inl (cI, 60, .inl g_18)), (t0, .inl (cI, 40, .inl wt0)), (t1, .inl (cI, 40, .inl wt1)), (t2, .inl (cI, 40, .inl wt2)), (qt, .inr (3, [.int (nI tc), .ref t0, .ref t1, .ref t2]))] H := hP
      have hD : va_D (va_A [(h0, .inr (4, [.int (nI cn), .int (nI im), .int bd, .ref f0, .ref f1, .ref f2, .ref f3, .ref f4, .ref f5, .ref f6])), (f0, .inl (cI, 60, .inl vf0)), (f1, .inl (cI, 60, .inl vf1)), (f2, .inl (cI, 60, .inl vf2)), (f3, .inl (cI, 60, .inl vf3)), (f4, .inl (cI, 60, .inl vf4)), (f5, .inl (cI, 60, .inl vf5)), (f6, .inl (cI, 60, .inl vf6)), (qt, .inr (3, [.int (nI tc), .ref t0, .ref t1, .ref t2])), (t0, .inl (cI, 40, .inl wt0)), (t1, .inl (cI, 40, .inl wt1)), (t2, .inl (cI, 40, .inl wt2))] s.heap.size) [(h0, .inr (4, [.int (nI (cn + 1)), .int (nI im), .int bd, .ref f0, .ref f1, .ref f2, .ref f3, .ref f4, .ref f5, .ref f6])), (f0, .inl (cI, 60, .inl g_12)), (f1, .inl (cI, 60, .inl g_13)), (f2, .inl (cI, 60, .inl g_14)), (f3, .inl (cI, 60, .inl g_16)), (f4, .inl (cI, 60, .inl g_15)), (f5, .inl (cI, 60, .inl g_17)), (f6, .inl (cI, 60, .inl g_18)), (t0, .inl (cI, 40, .inl wt0)), (t1, .inl (cI, 40, .inl wt1)), (t2, .inl (cI, 40, .inl wt2)), (qt, .inr (3, [.int (nI tc), .ref t0, .ref t1, .ref t2]))] := hD
      refine W.widen (k := 0) (n := 0) (by decide) (by decide) ?_
      exact x_vret (ws := [(h0, .inr (4, [.int (nI (cn + 1)), .int (nI im), .int bd, .ref f0, .ref f1, .ref f2, .ref f3, .ref f4, .ref f5, .ref f6])), (f0, .inl (cI, 60, .inl g_12)), (f1, .inl (cI, 60, .inl g_13)), (f2, .inl (cI, 60, .inl g_14)), (f3, .inl (cI, 60, .inl g_16)), (f4, .inl (cI, 60, .inl g_15)), (f5, .inl (cI, 60, .inl g_17)), (f6, .inl (cI, 60, .inl g_18)), (qt, .inr (3, [.int (nI tc), .ref t0, .ref t1, .ref t2])), (t0, .inl (cI, 40, .inl wt0)), (t1, .inl (cI, 40, .inl wt1)), (t2, .inl (cI, 40, .inl wt2))]) E hr hlocks (hP.sub [0, 1, 2, 3, 4, 5, 6, 7, 11, 8, 9, 10] rfl) (hD.sub [0, 1, 2, 3, 4, 5, 6, 7, 11, 8, 9, 10] (by decide) rfl) hS ⟨g_12, g_13, g_14, g_16, g_15, g_17, g_18, rfl⟩ d_Functions_add_134
    ·
      subst ha_8
      subst hb_9
      refine lv_istore_n (lv' := [(3, .int 1), (0, .ref h0), (1, .int (nI x_7)), (2, .ref qt)]) E.1 E.2.1 d_Functions_add_14 rfl hl (by decide) rfl (fun ls hl => ?_)
      refine lv_aload_n E.1 E.2.1 d_Functions_add_15 rfl (lv_at hl 1 rfl) ?_
      refine x_get E hP (C := "WasmReader$Functions") (T := T_Functions) (N := 10) (ci := 4) 0 (v := .ref f0) 3 in_Functions rfl rfl (by decide) m_10 rfl d_Functions_add_16 ?_
      refine lv_aload_n E.1 E.2.1 d_Functions_add_19 rfl (lv_at hl 1 rfl) ?_
      refine x_get E hP (C := "WasmReader$Functions") (T := T_Functions) (N := 10) (ci := 4) 0 (v := .int (nI cn)) 0 in_Functions rfl rfl (by decide) m_250 rfl d_Functions_add_20 ?_
      refine lv_iload_n E.1 E.2.1 d_Functions_add_23 rfl (lv_at hl 2 rfl) ?_
      refine va_iast E.1 E.2.1 E.2.2.2.2.2 hP hD hS 1 1 rfl rfl (i := nI cn) (x := nI x_7) (vp_in_nI (n := cn) (by omega) (by decide)) d_Functions_add_24 (fun H locs hP hD hS => ?_)
      generalize upd vf0 (Int32.toNatClampNeg (nI cn)) (nI x_7) = g_20 at hP hD
      have hP : va_P D classes [(h0, .inr (4, [.int (nI cn), .int (nI im), .int bd, .ref f0, .ref f1, .ref f2, .ref f3, .ref f4, .ref f5, .ref f6])), (f0, .inl (cI, 60, .inl g_20)), (f1, .inl (cI, 60, .inl vf1)), (f2, .inl (cI, 60, .inl vf2)), (f3, .inl (cI, 60, .inl vf3)), (f4, .inl (cI, 60, .inl vf4)), (f5, .inl (cI, 60, .inl vf5)), (f6, .inl (cI, 60, .inl vf6)), (t0, .inl (cI, 40, .inl wt0)), (t1, .inl (cI, 40, .inl wt1)), (t2, .inl (cI, 40, .inl wt2)), (qt, .inr (3, [.int (nI tc), .ref t0, .ref t1, .ref t2]))] H := hP
      have hD : va_D (va_A [(h0, .inr (4, [.int (nI cn), .int (nI im), .int bd, .ref f0, .ref f1, .ref f2, .ref f3, .ref f4, .ref f5, .ref f6])), (f0, .inl (cI, 60, .inl vf0)), (f1, .inl (cI, 60, .inl vf1)), (f2, .inl (cI, 60, .inl vf2)), (f3, .inl (cI, 60, .inl vf3)), (f4, .inl (cI, 60, .inl vf4)), (f5, .inl (cI, 60, .inl vf5)), (f6, .inl (cI, 60, .inl vf6)), (qt, .inr (3, [.int (nI tc), .ref t0, .ref t1, .ref t2])), (t0, .inl (cI, 40, .inl wt0)), (t1, .inl (cI, 40, .inl wt1)), (t2, .inl (cI, 40, .inl wt2))] s.heap.size) [(h0, .inr (4, [.int (nI cn), .int (nI im), .int bd, .ref f0, .ref f1, .ref f2, .ref f3, .ref f4, .ref f5, .ref f6])), (f0, .inl (cI, 60, .inl g_20)), (f1, .inl (cI, 60, .inl vf1)), (f2, .inl (cI, 60, .inl vf2)), (f3, .inl (cI, 60, .inl vf3)), (f4, .inl (cI, 60, .inl vf4)), (f5, .inl (cI, 60, .inl vf5)), (f6, .inl (cI, 60, .inl vf6)), (t0, .inl (cI, 40, .inl wt0)), (t1, .inl (cI, 40, .inl wt1)), (t2, .inl (cI, 40, .inl wt2)), (qt, .inr (3, [.int (nI tc), .ref t0, .ref t1, .ref t2]))] := hD
      refine lv_aload_n E.1 E.2.1 d_Functions_add_25 rfl (lv_at hl 1 rfl) ?_
      refine x_get E hP (C := "WasmReader$Functions") (T := T_Functions) (N := 10) (ci := 4) 0 (v := .ref f1) 4 in_Functions rfl rfl (by decide) m_11 rfl d_Functions_add_26 ?_
      refine lv_aload_n E.1 E.2.1 d_Functions_add_29 rfl (lv_at hl 1 rfl) ?_
      refine x_get E hP (C := "WasmReader$Functions") (T := T_Functions) (N := 10) (ci := 4) 0 (v := .int (nI cn)) 0 in_Functions rfl rfl (by decide) m_250 rfl d_Functions_add_30 ?_
      refine lv_iload_n E.1 E.2.1 d_Functions_add_33 rfl (lv_at hl 0 rfl) ?_
      refine lv_if_eq (tgt := 46) E.1 E.2.1 d_Functions_add_34 (by decide) (fun hc => absurd hc (by decide)) (fun _ => ?_)
      refine lv_aload_n E.1 E.2.1 d_Functions_add_37 rfl (lv_at hl 3 rfl) ?_
      refine x_get E hP (C := "WasmReader$Types") (T := T_Types) (N := 4) (ci := 3) 11 (v := .ref t0) 1 in_Types rfl rfl (by decide) m_255 rfl d_Functions_add_38 ?_
      refine lv_iload_n E.1 E.2.1 d_Functions_add_41 rfl (lv_at hl 2 rfl) ?_
      refine va_iald E.1 E.2.1 E.2.2.2.2.2 hP 8 1 rfl rfl (i := nI x_7) (vp_in_nI (n := x_7) (by omega) (by decide)) d_Functions_add_42 ?_
      refine lv_topi (fun v_21 ev_21 => ?_)
      refine lv_goto (tgt := 47) E.1 E.2.1 d_Functions_add_43 (by decide) ?_
      refine va_iast E.1 E.2.1 E.2.2.2.2.2 hP hD hS 2 1 rfl rfl (i := nI cn) (x := v_21) (vp_in_nI (n := cn) (by omega) (by decide)) d_Functions_add_47 (fun H locs hP hD hS => ?_)
      generalize upd vf1 (Int32.toNatClampNeg (nI cn)) v_21 = g_22 at hP hD
      have hP : va_P D classes [(h0, .inr (4, [.int (nI cn), .int (nI im), .int bd, .ref f0, .ref f1, .ref f2, .ref f3, .ref f4, .ref f5, .ref f6])), (f0, .inl (cI, 60, .inl g_20)), (f1, .inl (cI, 60, .inl g_22)), (f2, .inl (cI, 60, .inl vf2)), (f3, .inl (cI, 60, .inl vf3)), (f4, .inl (cI, 60, .inl vf4)), (f5, .inl (cI, 60, .inl vf5)), (f6, .inl (cI, 60, .inl vf6)), (t0, .inl (cI, 40, .inl wt0)), (t1, .inl (cI, 40, .inl wt1)), (t2, .inl (cI, 40, .inl wt2)), (qt, .inr (3, [.int (nI tc), .ref t0, .ref t1, .ref t2]))] H := hP
      have hD : va_D (va_A [(h0, .inr (4, [.int (nI cn), .int (nI im), .int bd, .ref f0, .ref f1, .ref f2, .ref f3, .ref f4, .ref f5, .ref f6])), (f0, .inl (cI, 60, .inl vf0)), (f1, .inl (cI, 60, .inl vf1)), (f2, .inl (cI, 60, .inl vf2)), (f3, .inl (cI, 60, .inl vf3)), (f4, .inl (cI, 60, .inl vf4)), (f5, .inl (cI, 60, .inl vf5)), (f6, .inl (cI, 60, .inl vf6)), (qt, .inr (3, [.int (nI tc), .ref t0, .ref t1, .ref t2])), (t0, .inl (cI, 40, .inl wt0)), (t1, .inl (cI, 40, .inl wt1)), (t2, .inl (cI, 40, .inl wt2))] s.heap.size) [(h0, .inr (4, [.int (nI cn), .int (nI im), .int bd, .ref f0, .ref f1, .ref f2, .ref f3, .ref f4, .ref f5, .ref f6])), (f0, .inl (cI, 60, .inl g_20)), (f1, .inl (cI, 60, .inl g_22)), (f2, .inl (cI, 60, .inl vf2)), (f3, .inl (cI, 60, .inl vf3)), (f4, .inl (cI, 60, .inl vf4)), (f5, .inl (cI, 60, .inl vf5)), (f6, .inl (cI, 60, .inl vf6)), (t0, .inl (cI, 40, .inl wt0)), (t1, .inl (cI, 40, .inl wt1)), (t2, .inl (cI, 40, .inl wt2)), (qt, .inr (3, [.int (nI tc), .ref t0, .ref t1, .ref t2]))] := hD
      refine lv_aload_n E.1 E.2.1 d_Functions_add_48 rfl (lv_at hl 1 rfl) ?_
      refine x_get E hP (C := "WasmReader$Functions") (T := T_Functions) (N := 10) (ci := 4) 0 (v := .ref f2) 5 in_Functions rfl rfl (by decide) m_12 rfl d_Functions_add_49 ?_
      refine lv_aload_n E.1 E.2.1 d_Functions_add_52 rfl (lv_at hl 1 rfl) ?_
      refine x_get E hP (C := "WasmReader$Functions") (T := T_Functions) (N := 10) (ci := 4) 0 (v := .int (nI cn)) 0 in_Functions rfl rfl (by decide) m_250 rfl d_Functions_add_53 ?_
      refine lv_iload_n E.1 E.2.1 d_Functions_add_56 rfl (lv_at hl 0 rfl) ?_
      refine lv_if_eq (tgt := 69) E.1 E.2.1 d_Functions_add_57 (by decide) (fun hc => absurd hc (by decide)) (fun _ => ?_)
      refine lv_aload_n E.1 E.2.1 d_Functions_add_60 rfl (lv_at hl 3 rfl) ?_
      refine x_get E hP (C := "WasmReader$Types") (T := T_Types) (N := 4) (ci := 3) 11 (v := .ref t2) 3 in_Types rfl rfl (by decide) m_256 rfl d_Functions_add_61 ?_
      refine lv_iload_n E.1 E.2.1 d_Functions_add_64 rfl (lv_at hl 2 rfl) ?_
      refine va_iald E.1 E.2.1 E.2.2.2.2.2 hP 10 1 rfl rfl (i := nI x_7) (vp_in_nI (n := x_7) (by omega) (by decide)) d_Functions_add_65 ?_
      refine lv_topi (fun v_23 ev_23 => ?_)
      refine lv_goto (tgt := 70) E.1 E.2.1 d_Functions_add_66 (by decide) ?_
      refine va_iast E.1 E.2.1 E.2.2.2.2.2 hP hD hS 3 1 rfl rfl (i := nI cn) (x := v_23) (vp_in_nI (n := cn) (by omega) (by decide)) d_Functions_add_70 (fun H locs hP hD hS => ?_)
      generalize upd vf2 (Int32.toNatClampNeg (nI cn)) v_23 = g_24 at hP hD
      have hP : va_P D classes [(h0, .inr (4, [.int (nI cn), .int (nI im), .int bd, .ref f0, .ref f1, .ref f2, .ref f3, .ref f4, .ref f5, .ref f6])), (f0, .inl (cI, 60, .inl g_20)), (f1, .inl (cI, 60, .inl g_22)), (f2, .inl (cI, 60, .inl g_24)), (f3, .inl (cI, 60, .inl vf3)), (f4, .inl (cI, 60, .inl vf4)), (f5, .inl (cI, 60, .inl vf5)), (f6, .inl (cI, 60, .inl vf6)), (t0, .inl (cI, 40, .inl wt0)), (t1, .inl (cI, 40, .inl wt1)), (t2, .inl (cI, 40, .inl wt2)), (qt, .inr (3, [.int (nI tc), .ref t0, .ref t1, .ref t2]))] H := hP
      have hD : va_D (va_A [(h0, .inr (4, [.int (nI cn), .int (nI im), .int bd, .ref f0, .ref f1, .ref f2, .ref f3, .ref f4, .ref f5, .ref f6])), (f0, .inl (cI, 60, .inl vf0)), (f1, .inl (cI, 60, .inl vf1)), (f2, .inl (cI, 60, .inl vf2)), (f3, .inl (cI, 60, .inl vf3)), (f4, .inl (cI, 60, .inl vf4)), (f5, .inl (cI, 60, .inl vf5)), (f6, .inl (cI, 60, .inl vf6)), (qt, .inr (3, [.int (nI tc), .ref t0, .ref t1, .ref t2])), (t0, .inl (cI, 40, .inl wt0)), (t1, .inl (cI, 40, .inl wt1)), (t2, .inl (cI, 40, .inl wt2))] s.heap.size) [(h0, .inr (4, [.int (nI cn), .int (nI im), .int bd, .ref f0, .ref f1, .ref f2, .ref f3, .ref f4, .ref f5, .ref f6])), (f0, .inl (cI, 60, .inl g_20)), (f1, .inl (cI, 60, .inl g_22)), (f2, .inl (cI, 60, .inl g_24)), (f3, .inl (cI, 60, .inl vf3)), (f4, .inl (cI, 60, .inl vf4)), (f5, .inl (cI, 60, .inl vf5)), (f6, .inl (cI, 60, .inl vf6)), (t0, .inl (cI, 40, .inl wt0)), (t1, .inl (cI, 40, .inl wt1)), (t2, .inl (cI, 40, .inl wt2)), (qt, .inr (3, [.int (nI tc), .ref t0, .ref t1, .ref t2]))] := hD
      refine lv_aload_n E.1 E.2.1 d_Functions_add_71 rfl (lv_at hl 1 rfl) ?_
      refine x_get E hP (C := "WasmReader$Functions") (T := T_Functions) (N := 10) (ci := 4) 0 (v := .ref f4) 7 in_Functions rfl rfl (by decide) m_14 rfl d_Functions_add_72 ?_
      refine lv_aload_n E.1 E.2.1 d_Functions_add_75 rfl (lv_at hl 1 rfl) ?_
      refine x_get E hP (C := "WasmReader$Functions") (T := T_Functions) (N := 10) (ci := 4) 0 (v := .int (nI cn)) 0 in_Functions rfl rfl (by decide) m_250 rfl d_Functions_add_76 ?_
      refine lv_iload_n E.1 E.2.1 d_Functions_add_79 rfl (lv_at hl 0 rfl) ?_
      refine lv_if_eq (tgt := 92) E.1 E.2.1 d_Functions_add_80 (by decide) (fun hc => absurd hc (by decide)) (fun _ => ?_)
      refine lv_aload_n E.1 E.2.1 d_Functions_add_83 rfl (lv_at hl 3 rfl) ?_
      refine x_get E hP (C := "WasmReader$Types") (T := T_Types) (N := 4) (ci := 3) 11 (v := .ref t1) 2 in_Types rfl rfl (by decide) m_257 rfl d_Functions_add_84 ?_
      refine lv_iload_n E.1 E.2.1 d_Functions_add_87 rfl (lv_at hl 2 rfl) ?_
      refine va_iald E.1 E.2.1 E.2.2.2.2.2 hP 9 1 rfl rfl (i := nI x_7) (vp_in_nI (n := x_7) (by omega) (by decide)) d_Functions_add_88 ?_
      refine lv_topi (fun v_25 ev_25 => ?_)
      refine lv_goto (tgt := 93) E.1 E.2.1 d_Functions_add_89 (by decide) ?_
      refine va_iast E.1 E.2.1 E.2.2.2.2.2 hP hD hS 5 1 rfl rfl (i := nI cn) (x := v_25) (vp_in_nI (n := cn) (by omega) (by decide)) d_Functions_add_93 (fun H locs hP hD hS => ?_)
      generalize upd vf4 (Int32.toNatClampNeg (nI cn)) v_25 = g_26 at hP hD
      have hP : va_P D classes [(h0, .inr (4, [.int (nI cn), .int (nI im), .int bd, .ref f0, .ref f1, .ref f2, .ref f3, .ref f4, .ref f5, .ref f6])), (f0, .inl (cI, 60, .inl g_20)), (f1, .inl (cI, 60, .inl g_22)), (f2, .inl (cI, 60, .inl g_24)), (f3, .inl (cI, 60, .inl vf3)), (f4, .inl (cI, 60, .inl g_26)), (f5, .inl (cI, 60, .inl vf5)), (f6, .inl (cI, 60, .inl vf6)), (t0, .inl (cI, 40, .inl wt0)), (t1, .inl (cI, 40, .inl wt1)), (t2, .inl (cI, 40, .inl wt2)), (qt, .inr (3, [.int (nI tc), .ref t0, .ref t1, .ref t2]))] H := hP
      have hD : va_D (va_A [(h0, .inr (4, [.int (nI cn), .int (nI im), .int bd, .ref f0, .ref f1, .ref f2, .ref f3, .ref f4, .ref f5, .ref f6])), (f0, .inl (cI, 60, .inl vf0)), (f1, .inl (cI, 60, .inl vf1)), (f2, .inl (cI, 60, .inl vf2)), (f3, .inl (cI, 60, .inl vf3)), (f4, .inl (cI, 60, .inl vf4)), (f5, .inl (cI, 60, .inl vf5)), (f6, .inl (cI, 60, .inl vf6)), (qt, .inr (3, [.int (nI tc), .ref t0, .ref t1, .ref t2])), (t0, .inl (cI, 40, .inl wt0)), (t1, .inl (cI, 40, .inl wt1)), (t2, .inl (cI, 40, .inl wt2))] s.heap.size) [(h0, .inr (4, [.int (nI cn), .int (nI im), .int bd, .ref f0, .ref f1, .ref f2, .ref f3, .ref f4, .ref f5, .ref f6])), (f0, .inl (cI, 60, .inl g_20)), (f1, .inl (cI, 60, .inl g_22)), (f2, .inl (cI, 60, .inl g_24)), (f3, .inl (cI, 60, .inl vf3)), (f4, .inl (cI, 60, .inl g_26)), (f5, .inl (cI, 60, .inl vf5)), (f6, .inl (cI, 60, .inl vf6)), (t0, .inl (cI, 40, .inl wt0)), (t1, .inl (cI, 40, .inl wt1)), (t2, .inl (cI, 40, .inl wt2)), (qt, .inr (3, [.int (nI tc), .ref t0, .ref t1, .ref t2]))] := hD
      refine lv_aload_n E.1 E.2.1 d_Functions_add_94 rfl (lv_at hl 1 rfl) ?_
      refine x_get E hP (C := "WasmReader$Functions") (T := T_Functions) (N := 10) (ci := 4) 0 (v := .ref f3) 6 in_Functions rfl rfl (by decide) m_13 rfl d_Functions_add_95 ?_
      refine lv_aload_n E.1 E.2.1 d_Functions_add_98 rfl (lv_at hl 1 rfl) ?_
      refine x_get E hP (C := "WasmReader$Functions") (T := T_Functions) (N := 10) (ci := 4) 0 (v := .int (nI cn)) 0 in_Functions rfl rfl (by decide) m_250 rfl d_Functions_add_99 ?_
      refine lv_iconst (v := 0) E.1 E.2.1 d_Functions_add_102 (by decide) ?_
      refine va_iast E.1 E.2.1 E.2.2.2.2.2 hP hD hS 4 1 rfl rfl (i := nI cn) (x := 0) (vp_in_nI (n := cn) (by omega) (by decide)) d_Functions_add_103 (fun H locs hP hD hS => ?_)
      generalize upd vf3 (Int32.toNatClampNeg (nI cn)) 0 = g_27 at hP hD
      have hP : va_P D classes [(h0, .inr (4, [.int (nI cn), .int (nI im), .int bd, .ref f0, .ref f1, .ref f2, .ref f3, .ref f4, .ref f5, .ref f6])), (f0, .inl (cI, 60, .inl g_20)), (f1, .inl (cI, 60, .inl g_22)), (f2, .inl (cI, 60, .inl g_24)), (f3, .inl (cI, 60, .inl g_27)), (f4, .inl (cI, 60, .inl g_26)), (f5, .inl (cI, 60, .inl vf5)), (f6, .inl (cI, 60, .inl vf6)), (t0, .inl (cI, 40, .inl wt0)), (t1, .inl (cI, 40, .inl wt1)), (t2, .inl (cI, 40, .inl wt2)), (qt, .inr (3, [.int (nI tc), .ref t0, .ref t1, .ref t2]))] H := hP
      have hD : va_D (va_A [(h0, .inr (4, [.int (nI cn), .int (nI im), .int bd, .ref f0, .ref f1, .ref f2, .ref f3, .ref f4, .ref f5, .ref f6])), (f0, .inl (cI, 60, .inl vf0)), (f1, .inl (cI, 60, .inl vf1)), (f2, .inl (cI, 60, .inl vf2)), (f3, .inl (cI, 60, .inl vf3)), (f4, .inl (cI, 60, .inl vf4)), (f5, .inl (cI, 60, .inl vf5)), (f6, .inl (cI, 60, .inl vf6)), (qt, .inr (3, [.int (nI tc), .ref t0, .ref t1, .ref t2])), (t0, .inl (cI, 40, .inl wt0)), (t1, .inl (cI, 40, .inl wt1)), (t2, .inl (cI, 40, .inl wt2))] s.heap.size) [(h0, .inr (4, [.int (nI cn), .int (nI im), .int bd, .ref f0, .ref f1, .ref f2, .ref f3, .ref f4, .ref f5, .ref f6])), (f0, .inl (cI, 60, .inl g_20)), (f1, .inl (cI, 60, .inl g_22)), (f2, .inl (cI, 60, .inl g_24)), (f3, .inl (cI, 60, .inl g_27)), (f4, .inl (cI, 60, .inl g_26)), (f5, .inl (cI, 60, .inl vf5)), (f6, .inl (cI, 60, .inl vf6)), (t0, .inl (cI, 40, .inl wt0)), (t1, .inl (cI, 40, .inl wt1)), (t2, .inl (cI, 40, .inl wt2)), (qt, .inr (3, [.int (nI tc), .ref t0, .ref t1, .ref t2]))] := hD
      refine lv_aload_n E.1 E.2.1 d_Functions_add_104 rfl (lv_at hl 1 rfl) ?_
      refine x_get E hP (C := "WasmReader$Functions") (T := T_Functions) (N := 10) (ci := 4) 0 (v := .ref f5) 8 in_Functions rfl rfl (by decide) m_15 rfl d_Functions_add_105 ?_
      refine lv_aload_n E.1 E.2.1 d_Functions_add_108 rfl (lv_at hl 1 rfl) ?_
      refine x_get E hP (C := "WasmReader$Functions") (T := T_Functions) (N := 10) (ci := 4) 0 (v := .int (nI cn)) 0 in_Functions rfl rfl (by decide) m_250 rfl d_Functions_add_109 ?_
      refine lv_iconst (v := 0) E.1 E.2.1 d_Functions_add_112 (by decide) ?_
      refine va_iast E.1 E.2.1 E.2.2.2.2.2 hP hD hS 6 1 rfl rfl (i := nI cn) (x := 0) (vp_in_nI (n := cn) (by omega) (by decide)) d_Functions_add_113 (fun H locs hP hD hS => ?_)
      generalize upd vf5 (Int32.toNatClampNeg (nI cn)) 0 = g_28 at hP hD
      have hP : va_P D classes [(h0, .inr (4, [.int (nI cn), .int (nI im), .int bd, .ref f0, .ref f1, .ref f2, .ref f3, .ref f4, .ref f5, .ref f6])), (f0, .inl (cI, 60, .inl g_20)), (f1, .inl (cI, 60, .inl g_22)), (f2, .inl (cI, 60, .inl g_24)), (f3, .inl (cI, 60, .inl g_27)), (f4, .inl (cI, 60, .inl g_26)), (f5, .inl (cI, 60, .inl g_28)), (f6, .inl (cI, 60, .inl vf6)), (t0, .inl (cI, 40, .inl wt0)), (t1, .inl (cI, 40, .inl wt1)), (t2, .inl (cI, 40, .inl wt2)), (qt, .inr (3, [.int (nI tc), .ref t0, .ref t1, .ref t2]))] H := hP
      have hD : va_D (va_A [(h0, .inr (4, [.int (nI cn), .int (nI im), .int bd, .ref f0, .ref f1, .ref f2, .ref f3, .ref f4, .ref f5, .ref f6])), (f0, .inl (cI, 60, .inl vf0)), (f1, .inl (cI, 60, .inl vf1)), (f2, .inl (cI, 60, .inl vf2)), (f3, .inl (cI, 60, .inl vf3)), (f4, .inl (cI, 60, .inl vf4)), (f5, .inl (cI, 60, .inl vf5)), (f6, .inl (cI, 60, .inl vf6)), (qt, .inr (3, [.int (nI tc), .ref t0, .ref t1, .ref t2])), (t0, .inl (cI, 40, .inl wt0)), (t1, .inl (cI, 40, .inl wt1)), (t2, .inl (cI, 40, .inl wt2))] s.heap.size) [(h0, .inr (4, [.int (nI cn), .int (nI im), .int bd, .ref f0, .ref f1, .ref f2, .ref f3, .ref f4, .ref f5, .ref f6])), (f0, .inl (cI, 60, .inl g_20)), (f1, .inl (cI, 60, .inl g_22)), (f2, .inl (cI, 60, .inl g_24)), (f3, .inl (cI, 60, .inl g_27)), (f4, .inl (cI, 60, .inl g_26)), (f5, .inl (cI, 60, .inl g_28)), (f6, .inl (cI, 60, .inl vf6)), (t0, .inl (cI, 40, .inl wt0)), (t1, .inl (cI, 40, .inl wt1)), (t2, .inl (cI, 40, .inl wt2)), (qt, .inr (3, [.int (nI tc), .ref t0, .ref t1, .ref t2]))] := hD
      refine lv_aload_n E.1 E.2.1 d_Functions_add_114 rfl (lv_at hl 1 rfl) ?_
      refine x_get E hP (C := "WasmReader$Functions") (T := T_Functions) (N := 10) (ci := 4) 0 (v := .ref f6) 9 in_Functions rfl rfl (by decide) m_16 rfl d_Functions_add_115 ?_
      refine lv_aload_n E.1 E.2.1 d_Functions_add_118 rfl (lv_at hl 1 rfl) ?_
      refine x_get E hP (C := "WasmReader$Functions") (T := T_Functions) (N := 10) (ci := 4) 0 (v := .int (nI cn)) 0 in_Functions rfl rfl (by decide) m_250 rfl d_Functions_add_119 ?_
      refine lv_iconst (v := 0) E.1 E.2.1 d_Functions_add_122 (by decide) ?_
      refine va_iast E.1 E.2.1 E.2.2.2.2.2 hP hD hS 7 1 rfl rfl (i := nI cn) (x := 0) (vp_in_nI (n := cn) (by omega) (by decide)) d_Functions_add_123 (fun H locs hP hD hS => ?_)
      generalize upd vf6 (Int32.toNatClampNeg (nI cn)) 0 = g_29 at hP hD
      have hP : va_P D classes [(h0, .inr (4, [.int (nI cn), .int (nI im), .int bd, .ref f0, .ref f1, .ref f2, .ref f3, .ref f4, .ref f5, .ref f6])), (f0, .inl (cI, 60, .inl g_20)), (f1, .inl (cI, 60, .inl g_22)), (f2, .inl (cI, 60, .inl g_24)), (f3, .inl (cI, 60, .inl g_27)), (f4, .inl (cI, 60, .inl g_26)), (f5, .inl (cI, 60, .inl g_28)), (f6, .inl (cI, 60, .inl g_29)), (t0, .inl (cI, 40, .inl wt0)), (t1, .inl (cI, 40, .inl wt1)), (t2, .inl (cI, 40, .inl wt2)), (qt, .inr (3, [.int (nI tc), .ref t0, .ref t1, .ref t2]))] H := hP
      have hD : va_D (va_A [(h0, .inr (4, [.int (nI cn), .int (nI im), .int bd, .ref f0, .ref f1, .ref f2, .ref f3, .ref f4, .ref f5, .ref f6])), (f0, .inl (cI, 60, .inl vf0)), (f1, .inl (cI, 60, .inl vf1)), (f2, .inl (cI, 60, .inl vf2)), (f3, .inl (cI, 60, .inl vf3)), (f4, .inl (cI, 60, .inl vf4)), (f5, .inl (cI, 60, .inl vf5)), (f6, .inl (cI, 60, .inl vf6)), (qt, .inr (3, [.int (nI tc), .ref t0, .ref t1, .ref t2])), (t0, .inl (cI, 40, .inl wt0)), (t1, .inl (cI, 40, .inl wt1)), (t2, .inl (cI, 40, .inl wt2))] s.heap.size) [(h0, .inr (4, [.int (nI cn), .int (nI im), .int bd, .ref f0, .ref f1, .ref f2, .ref f3, .ref f4, .ref f5, .ref f6])), (f0, .inl (cI, 60, .inl g_20)), (f1, .inl (cI, 60, .inl g_22)), (f2, .inl (cI, 60, .inl g_24)), (f3, .inl (cI, 60, .inl g_27)), (f4, .inl (cI, 60, .inl g_26)), (f5, .inl (cI, 60, .inl g_28)), (f6, .inl (cI, 60, .inl g_29)), (t0, .inl (cI, 40, .inl wt0)), (t1, .inl (cI, 40, .inl wt1)), (t2, .inl (cI, 40, .inl wt2)), (qt, .inr (3, [.int (nI tc), .ref t0, .ref t1, .ref t2]))] := hD
      refine lv_aload_n E.1 E.2.1 d_Functions_add_124 rfl (lv_at hl 1 rfl) ?_
      refine lv_dup E.1 E.2.1 d_Functions_add_125 rfl ?_
      refine x_get E hP (C := "WasmReader$Functions") (T := T_Functions) (N := 10) (ci := 4) 0 (v := .int (nI cn)) 0 in_Functions rfl rfl (by decide) m_250 rfl d_Functions_add_126 ?_
      refine lv_iconst (v := 1) E.1 E.2.1 d_Functions_add_129 (by decide) ?_
      refine lv_iadd E.1 E.2.1 d_Functions_add_130 ?_
      refine lv_topi (fun vt_30 evt_30 => ?_)
      obtain rfl : vt_30 = nI (cn + 1) := evt_30.trans (nI_add cn 1)
      refine x_put E hP hD hS (C := "WasmReader$Functions") (T := T_Functions) (N := 10) (ci := 4) 0 (v := .int (nI (cn + 1))) 0 (t0 := t_Functions) (tk := .int) in_Functions tok_Functions nok_Functions rfl rfl (by decide) m_250 rfl rfl rfl rfl (Nat.le_of_ble_eq_true rfl) d_Functions_add_131 (fun H locs hP hD hS => ?_)
      have hP : va_P D classes [(h0, .inr (4, [.int (nI (cn + 1)), .int (nI im), .int bd, .ref f0, .ref f1, .ref f2, .ref f3, .ref f4, .ref f5, .ref f6])), (f0, .inl (cI, 60, .inl g_20)), (f1, .inl (cI, 60, .inl g_22)), (f2, .inl (cI, 60, .inl g_24)), (f3, .inl (cI, 60, .inl g_27)), (f4, .inl (cI, 60, .inl g_26)), (f5, .inl (cI, 60, .inl g_28)), (f6, .inl (cI, 60, .inl g_29)), (t0, .inl (cI, 40, .inl wt0)), (t1, .inl (cI, 40, .inl wt1)), (t2, .inl (cI, 40, .inl wt2)), (qt, .inr (3, [.int (nI tc), .ref t0, .ref t1, .ref t2]))] H := hP
      have hD : va_D (va_A [(h0, .inr (4, [.int (nI cn), .int (nI im), .int bd, .ref f0, .ref f1, .ref f2, .ref f3, .ref f4, .ref f5, .ref f6])), (f0, .inl (cI, 60, .inl vf0)), (f1, .inl (cI, 60, .inl vf1)), (f2, .inl (cI, 60, .inl vf2)), (f3, .inl (cI, 60, .inl vf3)), (f4, .inl (cI, 60, .inl vf4)), (f5, .inl (cI, 60, .inl vf5)), (f6, .inl (cI, 60, .inl vf6)), (qt, .inr (3, [.int (nI tc), .ref t0, .ref t1, .ref t2])), (t0, .inl (cI, 40, .inl wt0)), (t1, .inl (cI, 40, .inl wt1)), (t2, .inl (cI, 40, .inl wt2))] s.heap.size) [(h0, .inr (4, [.int (nI (cn + 1)), .int (nI im), .int bd, .ref f0, .ref f1, .ref f2, .ref f3, .ref f4, .ref f5, .ref f6])), (f0, .inl (cI, 60, .inl g_20)), (f1, .inl (cI, 60, .inl g_22)), (f2, .inl (cI, 60, .inl g_24)), (f3, .inl (cI, 60, .inl g_27)), (f4, .inl (cI, 60, .inl g_26)), (f5, .inl (cI, 60, .inl g_28)), (f6, .inl (cI, 60, .inl g_29)), (t0, .inl (cI, 40, .inl wt0)), (t1, .inl (cI, 40, .inl wt1)), (t2, .inl (cI, 40, .inl wt2)), (qt, .inr (3, [.int (nI tc), .ref t0, .ref t1, .ref t2]))] := hD
      refine W.widen (k := 0) (n := 0) (by decide) (by decide) ?_
      exact x_vret (ws := [(h0, .inr (4, [.int (nI (cn + 1)), .int (nI im), .int bd, .ref f0, .ref f1, .ref f2, .ref f3, .ref f4, .ref f5, .ref f6])), (f0, .inl (cI, 60, .inl g_20)), (f1, .inl (cI, 60, .inl g_22)), (f2, .inl (cI, 60, .inl g_24)), (f3, .inl (cI, 60, .inl g_27)), (f4, .inl (cI, 60, .inl g_26)), (f5, .inl (cI, 60, .inl g_28)), (f6, .inl (cI, 60, .inl g_29)), (qt, .inr (3, [.int (nI tc), .ref t0, .ref t1, .ref t2])), (t0, .inl (cI, 40, .inl wt0)), (t1, .inl (cI, 40, .inl wt1)), (t2, .inl (cI, 40, .inl wt2))]) E hr hlocks (hP.sub [0, 1, 2, 3, 4, 5, 6, 7, 11, 8, 9, 10] rfl) (hD.sub [0, 1, 2, 3, 4, 5, 6, 7, 11, 8, 9, 10] (by decide) rfl) hS ⟨g_20, g_22, g_24, g_27, g_26, g_28, g_29, rfl⟩ d_Functions_add_134
