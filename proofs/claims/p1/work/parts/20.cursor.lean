set_option maxHeartbeats 4000000 in
set_option maxRecDepth 100000 in
/-- append: four bytes more; what they are isn't said -/
theorem c_Cursor_append (l : Launch) (D : va_G) (cB cI cJ cZ : ClassId) (sz : Nat) (h0 : Nat) (qb : Nat) (n : Nat) (f : Nat → Int32) (pos : Int32) (lim : Int32) (mal : Int32) (wd : Int32) (hn : n + 4 ≤ 4000) : Met l y_Cursor_append (Cond.code y_Cursor_append prog_2_method_2_code 3 none :: xtb) ({ frames := 0, cells := 0, slots := 0, locals := 0 }) (xP D [(cB, .byte), (cI, .int), (cJ, .long), (cZ, .boolean)] [.ref h0, .int wd] [(h0, .inr (1, [.ref qb, .int (nI n), .int pos, .int lim, .int mal])), (qb, .inl (cB, 4000, .inl f))] sz) (xQv D [(cB, .byte), (cI, .int), (cJ, .long), (cZ, .boolean)] [(h0, .inr (1, [.ref qb, .int (nI n), .int pos, .int lim, .int mal])), (qb, .inl (cB, 4000, .inl f))] sz (fun u => ∃ (g : Nat → Int32), u = [(h0, .inr (1, [.ref qb, .int (nI (n + 4)), .int pos, .int lim, .int mal])), (qb, .inl (cB, 4000, .inl g))])) 0 0 (va_A [(h0, .inr (1, [.ref qb, .int (nI n), .int pos, .int lim, .int mal])), (qb, .inl (cB, 4000, .inl f))] sz) := by
  refine x_met (Qc := fun s => xQv D [(cB, .byte), (cI, .int), (cJ, .long), (cZ, .boolean)] [(h0, .inr (1, [.ref qb, .int (nI n), .int pos, .int lim, .int mal])), (qb, .inl (cB, 4000, .inl f))] s.heap.size (fun u => ∃ (g : Nat → Int32), u = [(h0, .inr (1, [.ref qb, .int (nI (n + 4)), .int pos, .int lim, .int mal])), (qb, .inl (cB, 4000, .inl g))])) (fr := fun s => va_A [(h0, .inr (1, [.ref qb, .int (nI n), .int pos, .int lim, .int mal])), (qb, .inl (cB, 4000, .inl f))] s.heap.size) "WasmReader$Cursor" (by decide +kernel) rfl (Nat.le_of_ble_eq_true rfl) (fun s h => by rw [h]) (fun s h => by rw [h]) ?_
  intro p e s m below meth c ls E hr hlocks hinit hl hP hD hA hS hZ hadm
  have hl : lv_has ls 3 [(0, .ref h0), (1, .int wd)] := hl
  refine lv_bipush (v := 24) E.1 E.2.1 d_Cursor_append_0 (by decide) ?_
  refine lv_istore_n (lv' := [(2, .int 24), (0, .ref h0), (1, .int wd)]) E.1 E.2.1 d_Cursor_append_2 rfl hl (by decide) rfl (fun ls hl => ?_)
  refine lv_iload_n E.1 E.2.1 d_Cursor_append_3 rfl (lv_at hl 0 rfl) ?_
  refine lv_if_lt (tgt := 48) E.1 E.2.1 d_Cursor_append_4 (by decide) (fun hc => absurd hc (by decide)) (fun _ => ?_)
  refine lv_aload_n E.1 E.2.1 d_Cursor_append_7 rfl (lv_at hl 1 rfl) ?_
  refine x_get E hP (C := "WasmReader$Cursor") (T := T_Cursor) (N := 5) (ci := 1) 0 (v := .int (nI n)) 1 in_Cursor rfl rfl (by decide) m_166 rfl d_Cursor_append_8 ?_
  refine lv_aload_n E.1 E.2.1 d_Cursor_append_11 rfl (lv_at hl 1 rfl) ?_
  refine x_get E hP (C := "WasmReader$Cursor") (T := T_Cursor) (N := 5) (ci := 1) 0 (v := .ref qb) 0 in_Cursor rfl rfl (by decide) m_0 rfl d_Cursor_append_12 ?_
  refine va_alen E.1 E.2.1 E.2.2.2.2.2 hP 1 0 rfl rfl (v := 4000) rfl d_Cursor_append_15 ?_
  refine lv_icmp_ge (tgt := 42) E.1 E.2.1 d_Cursor_append_16 (by decide) (fun hc => absurd hc (nI_ge (b := 4000) (by omega) (by decide))) (fun _ => ?_)
  refine lv_aload_n E.1 E.2.1 d_Cursor_append_19 rfl (lv_at hl 1 rfl) ?_
  refine x_get E hP (C := "WasmReader$Cursor") (T := T_Cursor) (N := 5) (ci := 1) 0 (v := .ref qb) 0 in_Cursor rfl rfl (by decide) m_0 rfl d_Cursor_append_20 ?_
  refine lv_aload_n E.1 E.2.1 d_Cursor_append_23 rfl (lv_at hl 1 rfl) ?_
  refine x_get E hP (C := "WasmReader$Cursor") (T := T_Cursor) (N := 5) (ci := 1) 0 (v := .int (nI n)) 1 in_Cursor rfl rfl (by decide) m_166 rfl d_Cursor_append_24 ?_
  refine lv_iload_n E.1 E.2.1 d_Cursor_append_27 rfl (lv_at hl 2 rfl) ?_
  refine lv_iload_n E.1 E.2.1 d_Cursor_append_28 rfl (lv_at hl 0 rfl) ?_
  refine lv_ishr E.1 E.2.1 d_Cursor_append_29 ?_
  obtain ⟨b_1, eb_1⟩ : ∃ z : Int32, z = (wd >>> 24).toInt8.toInt32 := ⟨_, rfl⟩
  refine lv_i2b (v := b_1) E.1 E.2.1 d_Cursor_append_30 eb_1.symm ?_
  refine va_bast E.1 E.2.1 E.2.2.2.2.2 hP hD hS 1 0 rfl rfl (i := nI n) (x := b_1) (vp_in_nI (by omega) (by decide)) d_Cursor_append_31 (fun H locs hP hD hS => ?_)
  generalize upd f (Int32.toNatClampNeg (nI n)) (vp_nar .byte b_1) = g_2 at hP hD
  have hP : va_P D classes [(h0, .inr (1, [.ref qb, .int (nI n), .int pos, .int lim, .int mal])), (qb, .inl (cB, 4000, .inl g_2))] H := hP
  have hD : va_D (va_A [(h0, .inr (1, [.ref qb, .int (nI n), .int pos, .int lim, .int mal])), (qb, .inl (cB, 4000, .inl f))] s.heap.size) [(h0, .inr (1, [.ref qb, .int (nI n), .int pos, .int lim, .int mal])), (qb, .inl (cB, 4000, .inl g_2))] := hD
  refine lv_aload_n E.1 E.2.1 d_Cursor_append_32 rfl (lv_at hl 1 rfl) ?_
  refine lv_dup E.1 E.2.1 d_Cursor_append_33 rfl ?_
  refine x_get E hP (C := "WasmReader$Cursor") (T := T_Cursor) (N := 5) (ci := 1) 0 (v := .int (nI n)) 1 in_Cursor rfl rfl (by decide) m_166 rfl d_Cursor_append_34 ?_
  refine lv_iconst (v := 1) E.1 E.2.1 d_Cursor_append_37 (by decide) ?_
  refine lv_iadd E.1 E.2.1 d_Cursor_append_38 ?_
  refine lv_topi (fun vt_3 evt_3 => ?_)
  obtain rfl : vt_3 = nI (n + 1) := evt_3.trans (nI_1 (n))
  refine x_put E hP hD hS (C := "WasmReader$Cursor") (T := T_Cursor) (N := 5) (ci := 1) 0 (v := .int (nI (n + 1))) 1 (t0 := t_Cursor) (tk := .int) in_Cursor tok_Cursor nok_Cursor rfl rfl (by decide) m_166 rfl rfl rfl rfl (Nat.le_of_ble_eq_true rfl) d_Cursor_append_39 (fun H locs hP hD hS => ?_)
  have hP : va_P D classes [(h0, .inr (1, [.ref qb, .int (nI (n + 1)), .int pos, .int lim, .int mal])), (qb, .inl (cB, 4000, .inl g_2))] H := hP
  have hD : va_D (va_A [(h0, .inr (1, [.ref qb, .int (nI n), .int pos, .int lim, .int mal])), (qb, .inl (cB, 4000, .inl f))] s.heap.size) [(h0, .inr (1, [.ref qb, .int (nI (n + 1)), .int pos, .int lim, .int mal])), (qb, .inl (cB, 4000, .inl g_2))] := hD
  refine lv_iinc (v := 16) (lv' := [(2, .int 16), (0, .ref h0), (1, .int wd)]) E.1 E.2.1 d_Cursor_append_42 hl (k := 0) rfl (by decide) (by decide) rfl (fun ls hl => ?_)
  refine lv_goto (tgt := 3) E.1 E.2.1 d_Cursor_append_45 (by decide) ?_
  refine lv_iload_n E.1 E.2.1 d_Cursor_append_3 rfl (lv_at hl 0 rfl) ?_
  refine lv_if_lt (tgt := 48) E.1 E.2.1 d_Cursor_append_4 (by decide) (fun hc => absurd hc (by decide)) (fun _ => ?_)
  refine lv_aload_n E.1 E.2.1 d_Cursor_append_7 rfl (lv_at hl 1 rfl) ?_
  refine x_get E hP (C := "WasmReader$Cursor") (T := T_Cursor) (N := 5) (ci := 1) 0 (v := .int (nI (n + 1))) 1 in_Cursor rfl rfl (by decide) m_166 rfl d_Cursor_append_8 ?_
  refine lv_aload_n E.1 E.2.1 d_Cursor_append_11 rfl (lv_at hl 1 rfl) ?_
  refine x_get E hP (C := "WasmReader$Cursor") (T := T_Cursor) (N := 5) (ci := 1) 0 (v := .ref qb) 0 in_Cursor rfl rfl (by decide) m_0 rfl d_Cursor_append_12 ?_
  refine va_alen E.1 E.2.1 E.2.2.2.2.2 hP 1 0 rfl rfl (v := 4000) rfl d_Cursor_append_15 ?_
  refine lv_icmp_ge (tgt := 42) E.1 E.2.1 d_Cursor_append_16 (by decide) (fun hc => absurd hc (nI_ge (b := 4000) (by omega) (by decide))) (fun _ => ?_)
  refine lv_aload_n E.1 E.2.1 d_Cursor_append_19 rfl (lv_at hl 1 rfl) ?_
  refine x_get E hP (C := "WasmReader$Cursor") (T := T_Cursor) (N := 5) (ci := 1) 0 (v := .ref qb) 0 in_Cursor rfl rfl (by decide) m_0 rfl d_Cursor_append_20 ?_
  refine lv_aload_n E.1 E.2.1 d_Cursor_append_23 rfl (lv_at hl 1 rfl) ?_
  refine x_get E hP (C := "WasmReader$Cursor") (T := T_Cursor) (N := 5) (ci := 1) 0 (v := .int (nI (n + 1))) 1 in_Cursor rfl rfl (by decide) m_166 rfl d_Cursor_append_24 ?_
  refine lv_iload_n E.1 E.2.1 d_Cursor_append_27 rfl (lv_at hl 2 rfl) ?_
  refine lv_iload_n E.1 E.2.1 d_Cursor_append_28 rfl (lv_at hl 0 rfl) ?_
  refine lv_ishr E.1 E.2.1 d_Cursor_append_29 ?_
  obtain ⟨b_4, eb_4⟩ : ∃ z : Int32, z = (wd >>> 16).toInt8.toInt32 := ⟨_, rfl⟩
  refine lv_i2b (v := b_4) E.1 E.2.1 d_Cursor_append_30 eb_4.symm ?_
  refine va_bast E.1 E.2.1 E.2.2.2.2.2 hP hD hS 1 0 rfl rfl (i := nI (n + 1)) (x := b_4) (vp_in_nI (by omega) (by decide)) d_Cursor_append_31 (fun H locs hP hD hS => ?_)
  generalize upd g_2 (Int32.toNatClampNeg (nI (n + 1))) (vp_nar .byte b_4) = g_5 at hP hD
  have hP : va_P D classes [(h0, .inr (1, [.ref qb, .int (nI (n + 1)), .int pos, .int lim, .int mal])), (qb, .inl (cB, 4000, .inl g_5))] H := hP
  have hD : va_D (va_A [(h0, .inr (1, [.ref qb, .int (nI n), .int pos, .int lim, .int mal])), (qb, .inl (cB, 4000, .inl f))] s.heap.size) [(h0, .inr (1, [.ref qb, .int (nI (n + 1)), .int pos, .int lim, .int mal])), (qb, .inl (cB, 4000, .inl g_5))] := hD
  refine lv_aload_n E.1 E.2.1 d_Cursor_append_32 rfl (lv_at hl 1 rfl) ?_
  refine lv_dup E.1 E.2.1 d_Cursor_append_33 rfl ?_
  refine x_get E hP (C := "WasmReader$Cursor") (T := T_Cursor) (N := 5) (ci := 1) 0 (v := .int (nI (n + 1))) 1 in_Cursor rfl rfl (by decide) m_166 rfl d_Cursor_append_34 ?_
  refine lv_iconst (v := 1) E.1 E.2.1 d_Cursor_append_37 (by decide) ?_
  refine lv_iadd E.1 E.2.1 d_Cursor_append_38 ?_
  refine lv_topi (fun vt_6 evt_6 => ?_)
  obtain rfl : vt_6 = nI (n + 2) := evt_6.trans (nI_1 (n + 1))
  refine x_put E hP hD hS (C := "WasmReader$Cursor") (T := T_Cursor) (N := 5) (ci := 1) 0 (v := .int (nI (n + 2))) 1 (t0 := t_Cursor) (tk := .int) in_Cursor tok_Cursor nok_Cursor rfl rfl (by decide) m_166 rfl rfl rfl rfl (Nat.le_of_ble_eq_true rfl) d_Cursor_append_39 (fun H locs hP hD hS => ?_)
  have hP : va_P D classes [(h0, .inr (1, [.ref qb, .int (nI (n + 2)), .int pos, .int lim, .int mal])), (qb, .inl (cB, 4000, .inl g_5))] H := hP
  have hD : va_D (va_A [(h0, .inr (1, [.ref qb, .int (nI n), .int pos, .int lim, .int mal])), (qb, .inl (cB, 4000, .inl f))] s.heap.size) [(h0, .inr (1, [.ref qb, .int (nI (n + 2)), .int pos, .int lim, .int mal])), (qb, .inl (cB, 4000, .inl g_5))] := hD
  refine lv_iinc (v := 8) (lv' := [(2, .int 8), (0, .ref h0), (1, .int wd)]) E.1 E.2.1 d_Cursor_append_42 hl (k := 0) rfl (by decide) (by decide) rfl (fun ls hl => ?_)
  refine lv_goto (tgt := 3) E.1 E.2.1 d_Cursor_append_45 (by decide) ?_
  refine lv_iload_n E.1 E.2.1 d_Cursor_append_3 rfl (lv_at hl 0 rfl) ?_
  refine lv_if_lt (tgt := 48) E.1 E.2.1 d_Cursor_append_4 (by decide) (fun hc => absurd hc (by decide)) (fun _ => ?_)
  refine lv_aload_n E.1 E.2.1 d_Cursor_append_7 rfl (lv_at hl 1 rfl) ?_
  refine x_get E hP (C := "WasmReader$Cursor") (T := T_Cursor) (N := 5) (ci := 1) 0 (v := .int (nI (n + 2))) 1 in_Cursor rfl rfl (by decide) m_166 rfl d_Cursor_append_8 ?_
  refine lv_aload_n E.1 E.2.1 d_Cursor_append_11 rfl (lv_at hl 1 rfl) ?_
  refine x_get E hP (C := "WasmReader$Cursor") (T := T_Cursor) (N := 5) (ci := 1) 0 (v := .ref qb) 0 in_Cursor rfl rfl (by decide) m_0 rfl d_Cursor_append_12 ?_
  refine va_alen E.1 E.2.1 E.2.2.2.2.2 hP 1 0 rfl rfl (v := 4000) rfl d_Cursor_append_15 ?_
  refine lv_icmp_ge (tgt := 42) E.1 E.2.1 d_Cursor_append_16 (by decide) (fun hc => absurd hc (nI_ge (b := 4000) (by omega) (by decide))) (fun _ => ?_)
  refine lv_aload_n E.1 E.2.1 d_Cursor_append_19 rfl (lv_at hl 1 rfl) ?_
  refine x_get E hP (C := "WasmReader$Cursor") (T := T_Cursor) (N := 5) (ci := 1) 0 (v := .ref qb) 0 in_Cursor rfl rfl (by decide) m_0 rfl d_Cursor_append_20 ?_
  refine lv_aload_n E.1 E.2.1 d_Cursor_append_23 rfl (lv_at hl 1 rfl) ?_
  refine x_get E hP (C := "WasmReader$Cursor") (T := T_Cursor) (N := 5) (ci := 1) 0 (v := .int (nI (n + 2))) 1 in_Cursor rfl rfl (by decide) m_166 rfl d_Cursor_append_24 ?_
  refine lv_iload_n E.1 E.2.1 d_Cursor_append_27 rfl (lv_at hl 2 rfl) ?_
  refine lv_iload_n E.1 E.2.1 d_Cursor_append_28 rfl (lv_at hl 0 rfl) ?_
  refine lv_ishr E.1 E.2.1 d_Cursor_append_29 ?_
  obtain ⟨b_7, eb_7⟩ : ∃ z : Int32, z = (wd >>> 8).toInt8.toInt32 := ⟨_, rfl⟩
  refine lv_i2b (v := b_7) E.1 E.2.1 d_Cursor_append_30 eb_7.symm ?_
  refine va_bast E.1 E.2.1 E.2.2.2.2.2 hP hD hS 1 0 rfl rfl (i := nI (n + 2)) (x := b_7) (vp_in_nI (by omega) (by decide)) d_Cursor_append_31 (fun H locs hP hD hS => ?_)
  generalize upd g_5 (Int32.toNatClampNeg (nI (n + 2))) (vp_nar .byte b_7) = g_8 at hP hD
  have hP : va_P D classes [(h0, .inr (1, [.ref qb, .int (nI (n + 2)), .int pos, .int lim, .int mal])), (qb, .inl (cB, 4000, .inl g_8))] H := hP
  have hD : va_D (va_A [(h0, .inr (1, [.ref qb, .int (nI n), .int pos, .int lim, .int mal])), (qb, .inl (cB, 4000, .inl f))] s.heap.size) [(h0, .inr (1, [.ref qb, .int (nI (n + 2)), .int pos, .int lim, .int mal])), (qb, .inl (cB, 4000, .inl g_8))] := hD
  refine lv_aload_n E.1 E.2.1 d_Cursor_append_32 rfl (lv_at hl 1 rfl) ?_
  refine lv_dup E.1 E.2.1 d_Cursor_append_33 rfl ?_
  refine x_get E hP (C := "WasmReader$Cursor") (T := T_Cursor) (N := 5) (ci := 1) 0 (v := .int (nI (n + 2))) 1 in_Cursor rfl rfl (by decide) m_166 rfl d_Cursor_append_34 ?_
  refine lv_iconst (v := 1) E.1 E.2.1 d_Cursor_append_37 (by decide) ?_
  refine lv_iadd E.1 E.2.1 d_Cursor_append_38 ?_
  refine lv_topi (fun vt_9 evt_9 => ?_)
  obtain rfl : vt_9 = nI (n + 3) := evt_9.trans (nI_1 (n + 2))
  refine x_put E hP hD hS (C := "WasmReader$Cursor") (T := T_Cursor) (N := 5) (ci := 1) 0 (v := .int (nI (n + 3))) 1 (t0 := t_Cursor) (tk := .int) in_Cursor tok_Cursor nok_Cursor rfl rfl (by decide) m_166 rfl rfl rfl rfl (Nat.le_of_ble_eq_true rfl) d_Cursor_append_39 (fun H locs hP hD hS => ?_)
  have hP : va_P D classes [(h0, .inr (1, [.ref qb, .int (nI (n + 3)), .int pos, .int lim, .int mal])), (qb, .inl (cB, 4000, .inl g_8))] H := hP
  have hD : va_D (va_A [(h0, .inr (1, [.ref qb, .int (nI n), .int pos, .int lim, .int mal])), (qb, .inl (cB, 4000, .inl f))] s.heap.size) [(h0, .inr (1, [.ref qb, .int (nI (n + 3)), .int pos, .int lim, .int mal])), (qb, .inl (cB, 4000, .inl g_8))] := hD
  refine lv_iinc (v := 0) (lv' := [(2, .int 0), (0, .ref h0), (1, .int wd)]) E.1 E.2.1 d_Cursor_append_42 hl (k := 0) rfl (by decide) (by decide) rfl (fun ls hl => ?_)
  refine lv_goto (tgt := 3) E.1 E.2.1 d_Cursor_append_45 (by decide) ?_
  refine lv_iload_n E.1 E.2.1 d_Cursor_append_3 rfl (lv_at hl 0 rfl) ?_
  refine lv_if_lt (tgt := 48) E.1 E.2.1 d_Cursor_append_4 (by decide) (fun hc => absurd hc (by decide)) (fun _ => ?_)
  refine lv_aload_n E.1 E.2.1 d_Cursor_append_7 rfl (lv_at hl 1 rfl) ?_
  refine x_get E hP (C := "WasmReader$Cursor") (T := T_Cursor) (N := 5) (ci := 1) 0 (v := .int (nI (n + 3))) 1 in_Cursor rfl rfl (by decide) m_166 rfl d_Cursor_append_8 ?_
  refine lv_aload_n E.1 E.2.1 d_Cursor_append_11 rfl (lv_at hl 1 rfl) ?_
  refine x_get E hP (C := "WasmReader$Cursor") (T := T_Cursor) (N := 5) (ci := 1) 0 (v := .ref qb) 0 in_Cursor rfl rfl (by decide) m_0 rfl d_Cursor_append_12 ?_
  refine va_alen E.1 E.2.1 E.2.2.2.2.2 hP 1 0 rfl rfl (v := 4000) rfl d_Cursor_append_15 ?_
  refine lv_icmp_ge (tgt := 42) E.1 E.2.1 d_Cursor_append_16 (by decide) (fun hc => absurd hc (nI_ge (b := 4000) (by omega) (by decide))) (fun _ => ?_)
  refine lv_aload_n E.1 E.2.1 d_Cursor_append_19 rfl (lv_at hl 1 rfl) ?_
  refine x_get E hP (C := "WasmReader$Cursor") (T := T_Cursor) (N := 5) (ci := 1) 0 (v := .ref qb) 0 in_Cursor rfl rfl (by decide) m_0 rfl d_Cursor_append_20 ?_
  refine lv_aload_n E.1 E.2.1 d_Cursor_append_23 rfl (lv_at hl 1 rfl) ?_
  refine x_get E hP (C := "WasmReader$Cursor") (T := T_Cursor) (N := 5) (ci := 1) 0 (v := .int (nI (n + 3))) 1 in_Cursor rfl rfl (by decide) m_166 rfl d_Cursor_append_24 ?_
  refine lv_iload_n E.1 E.2.1 d_Cursor_append_27 rfl (lv_at hl 2 rfl) ?_
  refine lv_iload_n E.1 E.2.1 d_Cursor_append_28 rfl (lv_at hl 0 rfl) ?_
  refine lv_ishr E.1 E.2.1 d_Cursor_append_29 ?_
  obtain ⟨b_10, eb_10⟩ : ∃ z : Int32, z = (wd >>> 0).toInt8.toInt32 := ⟨_, rfl⟩
  refine lv_i2b (v := b_10) E.1 E.2.1 d_Cursor_append_30 eb_10.symm ?_
  refine va_bast E.1 E.2.1 E.2.2.2.2.2 hP hD hS 1 0 rfl rfl (i := nI (n + 3)) (x := b_10) (vp_in_nI (by omega) (by decide)) d_Cursor_append_31 (fun H locs hP hD hS => ?_)
  generalize upd g_8 (Int32.toNatClampNeg (nI (n + 3))) (vp_nar .byte b_10) = g_11 at hP hD
  have hP : va_P D classes [(h0, .inr (1, [.ref qb, .int (nI (n + 3)), .int pos, .int lim, .int mal])), (qb, .inl (cB, 4000, .inl g_11))] H := hP
  have hD : va_D (va_A [(h0, .inr (1, [.ref qb, .int (nI n), .int pos, .int lim, .int mal])), (qb, .inl (cB, 4000, .inl f))] s.heap.size) [(h0, .inr (1, [.ref qb, .int (nI (n + 3)), .int pos, .int lim, .int mal])), (qb, .inl (cB, 4000, .inl g_11))] := hD
  refine lv_aload_n E.1 E.2.1 d_Cursor_append_32 rfl (lv_at hl 1 rfl) ?_
  refine lv_dup E.1 E.2.1 d_Cursor_append_33 rfl ?_
  refine x_get E hP (C := "WasmReader$Cursor") (T := T_Cursor) (N := 5) (ci := 1) 0 (v := .int (nI (n + 3))) 1 in_Cursor rfl rfl (by decide) m_166 rfl d_Cursor_append_34 ?_
  refine lv_iconst (v := 1) E.1 E.2.1 d_Cursor_append_37 (by decide) ?_
  refine lv_iadd E.1 E.2.1 d_Cursor_append_38 ?_
  refine lv_topi (fun vt_12 evt_12 => ?_)
  obtain rfl : vt_12 = nI (n + 4) := evt_12.trans (nI_1 (n + 3))
  refine x_put E hP hD hS (C := "WasmReader$Cursor") (T := T_Cursor) (N := 5) (ci := 1) 0 (v := .int (nI (n + 4))) 1 (t0 := t_Cursor) (tk := .int) in_Cursor tok_Cursor nok_Cursor rfl rfl (by decide) m_166 rfl rfl rfl rfl (Nat.le_of_ble_eq_true rfl) d_Cursor_append_39 (fun H locs hP hD hS => ?_)
  have hP : va_P D classes [(h0, .inr (1, [.ref qb, .int (nI (n + 4)), .int pos, .int lim, .int mal])), (qb, .inl (cB, 4000, .inl g_11))] H := hP
  have hD : va_D (va_A [(h0, .inr (1, [.ref qb, .int (nI n), .int pos, .int lim, .int mal])), (qb, .inl (cB, 4000, .inl f))] s.heap.size) [(h0, .inr (1, [.ref qb, .int (nI (n + 4)), .int pos, .int lim, .int mal])), (qb, .inl (cB, 4000, .inl g_11))] := hD
  refine lv_iinc (v := (-8)) (lv' := [(2, .int ((-8))), (0, .ref h0), (1, .int wd)]) E.1 E.2.1 d_Cursor_append_42 hl (k := 0) rfl (by decide) (by decide) rfl (fun ls hl => ?_)
  refine lv_goto (tgt := 3) E.1 E.2.1 d_Cursor_append_45 (by decide) ?_
  refine lv_iload_n E.1 E.2.1 d_Cursor_append_3 rfl (lv_at hl 0 rfl) ?_
  refine lv_if_lt (tgt := 48) E.1 E.2.1 d_Cursor_append_4 (by decide) (fun _ => ?_) (fun hc => absurd (by decide) hc)
  refine W.widen (k := 0) (n := 0) (by decide) (by decide) ?_
  exact x_vret (ws := [(h0, .inr (1, [.ref qb, .int (nI (n + 4)), .int pos, .int lim, .int mal])), (qb, .inl (cB, 4000, .inl g_11))]) E hr hlocks (hP.sub [0, 1] rfl) (hD.sub [0, 1] (by decide) rfl) hS ⟨g_11, rfl⟩ d_Cursor_append_48
set_option maxHeartbeats 4000000 in
set_option maxRecDepth 100000 in
theorem c_Cursor_span (l : Launch) (D : va_G) (cB cI cJ cZ : ClassId) (sz : Nat) (h0 : Nat) (qb : Nat) (ln : Int32) (pos : Int32) (lim : Int32) (mal : Int32) (x : Int32) (y : Int32)  : Met l y_Cursor_span (Cond.code y_Cursor_span prog_2_method_3_code 3 none :: xtb) ({ frames := 0, cells := 0, slots := 0, locals := 0 }) (xP D [(cB, .byte), (cI, .int), (cJ, .long), (cZ, .boolean)] [.ref h0, .int x, .int y] [(h0, .inr (1, [.ref qb, .int ln, .int pos, .int lim, .int mal]))] sz) (xQv D [(cB, .byte), (cI, .int), (cJ, .long), (cZ, .boolean)] [(h0, .inr (1, [.ref qb, .int ln, .int pos, .int lim, .int mal]))] sz (fun u => u = [(h0, .inr (1, [.ref qb, .int ln, .int x, .int y, .int mal]))])) 0 0 (va_A [(h0, .inr (1, [.ref qb, .int ln, .int pos, .int lim, .int mal]))] sz) := by
  refine x_met (Qc := fun s => xQv D [(cB, .byte), (cI, .int), (cJ, .long), (cZ, .boolean)] [(h0, .inr (1, [.ref qb, .int ln, .int pos, .int lim, .int mal]))] s.heap.size (fun u => u = [(h0, .inr (1, [.ref qb, .int ln, .int x, .int y, .int mal]))])) (fr := fun s => va_A [(h0, .inr (1, [.ref qb, .int ln, .int pos, .int lim, .int mal]))] s.heap.size) "WasmReader$Cursor" (by decide +kernel) rfl (Nat.le_of_ble_eq_true rfl) (fun s h => by rw [h]) (fun s h => by rw [h]) ?_
  intro p e s m below meth c ls E hr hlocks hinit hl hP hD hA hS hZ hadm
  have hl : lv_has ls 3 [(0, .ref h0), (1, .int x), (2, .int y)] := hl
  refine lv_aload_n E.1 E.2.1 d_Cursor_span_0 rfl (lv_at hl 0 rfl) ?_
  refine lv_iload_n E.1 E.2.1 d_Cursor_span_1 rfl (lv_at hl 1 rfl) ?_
  refine x_put E hP hD hS (C := "WasmReader$Cursor") (T := T_Cursor) (N := 5) (ci := 1) 0 (v := .int x) 2 (t0 := t_Cursor) (tk := .int) in_Cursor tok_Cursor nok_Cursor rfl rfl (by decide) m_167 rfl rfl rfl rfl (Nat.le_of_ble_eq_true rfl) d_Cursor_span_2 (fun H locs hP hD hS => ?_)
  have hP : va_P D classes [(h0, .inr (1, [.ref qb, .int ln, .int x, .int lim, .int mal]))] H := hP
  have hD : va_D (va_A [(h0, .inr (1, [.ref qb, .int ln, .int pos, .int lim, .int mal]))] s.heap.size) [(h0, .inr (1, [.ref qb, .int ln, .int x, .int lim, .int mal]))] := hD
  refine lv_aload_n E.1 E.2.1 d_Cursor_span_5 rfl (lv_at hl 0 rfl) ?_
  refine lv_iload_n E.1 E.2.1 d_Cursor_span_6 rfl (lv_at hl 2 rfl) ?_
  refine x_put E hP hD hS (C := "WasmReader$Cursor") (T := T_Cursor) (N := 5) (ci := 1) 0 (v := .int y) 3 (t0 := t_Cursor) (tk := .int) in_Cursor tok_Cursor nok_Cursor rfl rfl (by decide) m_168 rfl rfl rfl rfl (Nat.le_of_ble_eq_true rfl) d_Cursor_span_7 (fun H locs hP hD hS => ?_)
  have hP : va_P D classes [(h0, .inr (1, [.ref qb, .int ln, .int x, .int y, .int mal]))] H := hP
  have hD : va_D (va_A [(h0, .inr (1, [.ref qb, .int ln, .int pos, .int lim, .int mal]))] s.heap.size) [(h0, .inr (1, [.ref qb, .int ln, .int x, .int y, .int mal]))] := hD
  refine W.widen (k := 0) (n := 0) (by decide) (by decide) ?_
  exact x_vret (ws := [(h0, .inr (1, [.ref qb, .int ln, .int x, .int y, .int mal]))]) E hr hlocks (hP.sub [0] rfl) (hD.sub [0] (by decide) rfl) hS rfl d_Cursor_span_10
set_option maxHeartbeats 4000000 in
set_option maxRecDepth 100000 in
theorem c_Cursor_fail (l : Launch) (D : va_G) (cB cI cJ cZ : ClassId) (sz : Nat) (h0 : Nat) (qb : Nat) (ln : Int32) (pos : Int32) (lim : Int32) (mal : Int32)  : Met l y_Cursor_fail (Cond.code y_Cursor_fail prog_2_method_5_code 1 none :: xtb) ({ frames := 0, cells := 0, slots := 0, locals := 0 }) (xP D [(cB, .byte), (cI, .int), (cJ, .long), (cZ, .boolean)] [.ref h0] [(h0, .inr (1, [.ref qb, .int ln, .int pos, .int lim, .int mal]))] sz) (xQv D [(cB, .byte), (cI, .int), (cJ, .long), (cZ, .boolean)] [(h0, .inr (1, [.ref qb, .int ln, .int pos, .int lim, .int mal]))] sz (fun u => u = [(h0, .inr (1, [.ref qb, .int ln, .int pos, .int lim, .int 1]))])) 0 0 (va_A [(h0, .inr (1, [.ref qb, .int ln, .int pos, .int lim, .int mal]))] sz) := by
  refine x_met (Qc := fun s => xQv D [(cB, .byte), (cI, .int), (cJ, .long), (cZ, .boolean)] [(h0, .inr (1, [.ref qb, .int ln, .int pos, .int lim, .int mal]))] s.heap.size (fun u => u = [(h0, .inr (1, [.ref qb, .int ln, .int pos, .int lim, .int 1]))])) (fr := fun s => va_A [(h0, .inr (1, [.ref qb, .int ln, .int pos, .int lim, .int mal]))] s.heap.size) "WasmReader$Cursor" (by decide +kernel) rfl (Nat.le_of_ble_eq_true rfl) (fun s h => by rw [h]) (fun s h => by rw [h]) ?_
  intro p e s m below meth c ls E hr hlocks hinit hl hP hD hA hS hZ hadm
  have hl : lv_has ls 1 [(0, .ref h0)] := hl
  refine lv_aload_n E.1 E.2.1 d_Cursor_fail_0 rfl (lv_at hl 0 rfl) ?_
  refine lv_iconst (v := 1) E.1 E.2.1 d_Cursor_fail_1 (by decide) ?_
  refine x_put E hP hD hS (C := "WasmReader$Cursor") (T := T_Cursor) (N := 5) (ci := 1) 0 (v := .int 1) 4 (t0 := t_Cursor) (tk := .boolean) in_Cursor tok_Cursor nok_Cursor rfl rfl (by decide) m_169 rfl rfl (by decide) (by decide) (Nat.le_of_ble_eq_true rfl) d_Cursor_fail_2 (fun H locs hP hD hS => ?_)
  have hP : va_P D classes [(h0, .inr (1, [.ref qb, .int ln, .int pos, .int lim, .int 1]))] H := hP
  have hD : va_D (va_A [(h0, .inr (1, [.ref qb, .int ln, .int pos, .int lim, .int mal]))] s.heap.size) [(h0, .inr (1, [.ref qb, .int ln, .int pos, .int lim, .int 1]))] := hD
  refine W.widen (k := 0) (n := 0) (by decide) (by decide) ?_
  exact x_vret (ws := [(h0, .inr (1, [.ref qb, .int ln, .int pos, .int lim, .int 1]))]) E hr hlocks (hP.sub [0] rfl) (hD.sub [0] (by decide) rfl) hS rfl d_Cursor_fail_5
set_option maxHeartbeats 4000000 in
set_option maxRecDepth 100000 in
/-- more, where something is malformed -/
theorem c_Cursor_more_m (l : Launch) (D : va_G) (cB cI cJ cZ : ClassId) (sz : Nat) (h0 : Nat) (qb : Nat) (ln : Int32) (pos : Int32) (lim : Int32) (mal : Int32)  : Met l y_Cursor_more (Cond.code y_Cursor_more prog_2_method_4_code 1 (some .boolean) :: xtb) ({ frames := 0, cells := 0, slots := 0, locals := 0 }) (xP D [(cB, .byte), (cI, .int), (cJ, .long), (cZ, .boolean)] [.ref h0] [(h0, .inr (1, [.ref qb, .int ln, .int pos, .int lim, .int 1]))] sz) (xQi D [(cB, .byte), (cI, .int), (cJ, .long), (cZ, .boolean)] [(h0, .inr (1, [.ref qb, .int ln, .int pos, .int lim, .int 1]))] sz (fun r u => r = 0 ∧ u = [(h0, .inr (1, [.ref qb, .int ln, .int pos, .int lim, .int 1]))])) 0 0 (va_A [(h0, .inr (1, [.ref qb, .int ln, .int pos, .int lim, .int 1]))] sz) := by
  refine x_met (Qc := fun s => xQi D [(cB, .byte), (cI, .int), (cJ, .long), (cZ, .boolean)] [(h0, .inr (1, [.ref qb, .int ln, .int pos, .int lim, .int 1]))] s.heap.size (fun r u => r = 0 ∧ u = [(h0, .inr (1, [.ref qb, .int ln, .int pos, .int lim, .int 1]))])) (fr := fun s => va_A [(h0, .inr (1, [.ref qb, .int ln, .int pos, .int lim, .int 1]))] s.heap.size) "WasmReader$Cursor" (by decide +kernel) rfl (Nat.le_of_ble_eq_true rfl) (fun s h => by rw [h]) (fun s h => by rw [h]) ?_
  intro p e s m below meth c ls E hr hlocks hinit hl hP hD hA hS hZ hadm
  have hl : lv_has ls 1 [(0, .ref h0)] := hl
  refine lv_aload_n E.1 E.2.1 d_Cursor_more_0 rfl (lv_at hl 0 rfl) ?_
  refine x_get E hP (C := "WasmReader$Cursor") (T := T_Cursor) (N := 5) (ci := 1) 0 (v := .int 1) 4 in_Cursor rfl rfl (by decide) m_169 rfl d_Cursor_more_1 ?_
  refine lv_if_ne (tgt := 22) E.1 E.2.1 d_Cursor_more_4 (by decide) (fun _ => ?_) (fun hc => absurd hc (by decide))
  refine lv_iconst (v := 0) E.1 E.2.1 d_Cursor_more_22 (by decide) ?_
  refine W.widen (k := 0) (n := 0) (by decide) (by decide) ?_
  exact x_zret (ws := [(h0, .inr (1, [.ref qb, .int ln, .int pos, .int lim, .int 1]))]) E hr (by decide) hlocks (hP.sub [0] rfl) (hD.sub [0] (by decide) rfl) hS ⟨rfl, rfl⟩ d_Cursor_more_23
set_option maxHeartbeats 4000000 in
set_option maxRecDepth 100000 in
/-- nextByte of nothing -/
theorem c_Cursor_nextByte_0 (l : Launch) (D : va_G) (cB cI cJ cZ : ClassId) (sz : Nat) (h0 : Nat) (qb : Nat) (ln : Int32) (pos : Int32) (lim : Int32) (mal : Int32)  : Met l y_Cursor_nextByte (Cond.code y_Cursor_nextByte prog_2_method_6_code 2 (some .int) :: xtb) ({ frames := 0, cells := 0, slots := 0, locals := 0 }) (xP D [(cB, .byte), (cI, .int), (cJ, .long), (cZ, .boolean)] [.ref h0] [(h0, .inr (1, [.ref qb, .int ln, .int 0, .int 0, .int mal]))] sz) (xQi D [(cB, .byte), (cI, .int), (cJ, .long), (cZ, .boolean)] [(h0, .inr (1, [.ref qb, .int ln, .int 0, .int 0, .int mal]))] sz (fun r u => r = 0 ∧ u = [(h0, .inr (1, [.ref qb, .int ln, .int 0, .int 0, .int 1]))])) 0 0 (va_A [(h0, .inr (1, [.ref qb, .int ln, .int 0, .int 0, .int mal]))] sz) := by
  refine x_met (Qc := fun s => xQi D [(cB, .byte), (cI, .int), (cJ, .long), (cZ, .boolean)] [(h0, .inr (1, [.ref qb, .int ln, .int 0, .int 0, .int mal]))] s.heap.size (fun r u => r = 0 ∧ u = [(h0, .inr (1, [.ref qb, .int ln, .int 0, .int 0, .int 1]))])) (fr := fun s => va_A [(h0, .inr (1, [.ref qb, .int ln, .int 0, .int 0, .int mal]))] s.heap.size) "WasmReader$Cursor" (by decide +kernel) rfl (Nat.le_of_ble_eq_true rfl) (fun s h => by rw [h]) (fun s h => by rw [h]) ?_
  intro p e s m below meth c ls E hr hlocks hinit hl hP hD hA hS hZ hadm
  have hl : lv_has ls 2 [(0, .ref h0)] := hl
  refine lv_aload_n E.1 E.2.1 d_Cursor_nextByte_0 rfl (lv_at hl 0 rfl) ?_
  refine x_get E hP (C := "WasmReader$Cursor") (T := T_Cursor) (N := 5) (ci := 1) 0 (v := .int 0) 2 in_Cursor rfl rfl (by decide) m_167 rfl d_Cursor_nextByte_1 ?_
  refine lv_if_lt (tgt := 30) E.1 E.2.1 d_Cursor_nextByte_4 (by decide) (fun hc => absurd hc (by decide)) (fun _ => ?_)
  refine lv_aload_n E.1 E.2.1 d_Cursor_nextByte_7 rfl (lv_at hl 0 rfl) ?_
  refine x_get E hP (C := "WasmReader$Cursor") (T := T_Cursor) (N := 5) (ci := 1) 0 (v := .int 0) 2 in_Cursor rfl rfl (by decide) m_167 rfl d_Cursor_nextByte_8 ?_
  refine lv_aload_n E.1 E.2.1 d_Cursor_nextByte_11 rfl (lv_at hl 0 rfl) ?_
  refine x_get E hP (C := "WasmReader$Cursor") (T := T_Cursor) (N := 5) (ci := 1) 0 (v := .int 0) 3 in_Cursor rfl rfl (by decide) m_168 rfl d_Cursor_nextByte_12 ?_
  refine lv_icmp_ge (tgt := 30) E.1 E.2.1 d_Cursor_nextByte_15 (by decide) (fun _ => ?_) (fun hc => absurd (by decide) hc)
  refine lv_aload_n E.1 E.2.1 d_Cursor_nextByte_30 rfl (lv_at hl 0 rfl) ?_
  refine lv_iconst (v := 1) E.1 E.2.1 d_Cursor_nextByte_31 (by decide) ?_
  refine x_put E hP hD hS (C := "WasmReader$Cursor") (T := T_Cursor) (N := 5) (ci := 1) 0 (v := .int 1) 4 (t0 := t_Cursor) (tk := .boolean) in_Cursor tok_Cursor nok_Cursor rfl rfl (by decide) m_169 rfl rfl (by decide) (by decide) (Nat.le_of_ble_eq_true rfl) d_Cursor_nextByte_32 (fun H locs hP hD hS => ?_)
  have hP : va_P D classes [(h0, .inr (1, [.ref qb, .int ln, .int 0, .int 0, .int 1]))] H := hP
  have hD : va_D (va_A [(h0, .inr (1, [.ref qb, .int ln, .int 0, .int 0, .int mal]))] s.heap.size) [(h0, .inr (1, [.ref qb, .int ln, .int 0, .int 0, .int 1]))] := hD
  refine lv_iconst (v := 0) E.1 E.2.1 d_Cursor_nextByte_35 (by decide) ?_
  refine W.widen (k := 0) (n := 0) (by decide) (by decide) ?_
  exact x_iret (ws := [(h0, .inr (1, [.ref qb, .int ln, .int 0, .int 0, .int 1]))]) E hr hlocks (hP.sub [0] rfl) (hD.sub [0] (by decide) rfl) hS ⟨rfl, rfl⟩ d_Cursor_nextByte_36
set_option maxHeartbeats 4000000 in
set_option maxRecDepth 100000 in
/-- expect of nothing -/
theorem c_Cursor_expect_0 (l : Launch) (D : va_G) (cB cI cJ cZ : ClassId) (sz : Nat) (h0 : Nat) (qb : Nat) (ln : Int32) (pos : Int32) (lim : Int32) (mal : Int32) (due : Int32)  : Met l y_Cursor_expect (Cond.code y_Cursor_expect prog_2_method_7_code 2 none :: xtb) ({ frames := 1, cells := 0, slots := 0, locals := 21 }) (xP D [(cB, .byte), (cI, .int), (cJ, .long), (cZ, .boolean)] [.ref h0, .int due] [(h0, .inr (1, [.ref qb, .int ln, .int 0, .int 0, .int mal]))] sz) (xQv D [(cB, .byte), (cI, .int), (cJ, .long), (cZ, .boolean)] [(h0, .inr (1, [.ref qb, .int ln, .int 0, .int 0, .int mal]))] sz (fun u => u = [(h0, .inr (1, [.ref qb, .int ln, .int 0, .int 0, .int 1]))])) 0 0 (va_A [(h0, .inr (1, [.ref qb, .int ln, .int 0, .int 0, .int mal]))] sz) := by
  refine x_met (Qc := fun s => xQv D [(cB, .byte), (cI, .int), (cJ, .long), (cZ, .boolean)] [(h0, .inr (1, [.ref qb, .int ln, .int 0, .int 0, .int mal]))] s.heap.size (fun u => u = [(h0, .inr (1, [.ref qb, .int ln, .int 0, .int 0, .int 1]))])) (fr := fun s => va_A [(h0, .inr (1, [.ref qb, .int ln, .int 0, .int 0, .int mal]))] s.heap.size) "WasmReader$Cursor" (by decide +kernel) rfl (Nat.le_of_ble_eq_true rfl) (fun s h => by rw [h]) (fun s h => by rw [h]) ?_
  intro p e s m below meth c ls E hr hlocks hinit hl hP hD hA hS hZ hadm
  have hl : lv_has ls 2 [(0, .ref h0), (1, .int due)] := hl
  refine lv_aload_n E.1 E.2.1 d_Cursor_expect_0 rfl (lv_at hl 0 rfl) ?_
  have hPc := hP.sub (ws' := [(h0, .inr (1, [.ref qb, .int ln, .int 0, .int 0, .int mal]))]) [0] rfl
  have hDc := hD.sub (ws' := [(h0, .inr (1, [.ref qb, .int ln, .int 0, .int 0, .int mal]))]) [0] (by decide) rfl
  have hFc := va_free (wc := [(h0, .inr (1, [.ref qb, .int ln, .int 0, .int 0, .int mal]))]) hD hS hA [0] rfl
  refine x_ri (ws := [(h0, .inr (1, [.ref qb, .int ln, .int 0, .int 0, .int mal]))]) (wc := [(h0, .inr (1, [.ref qb, .int ln, .int 0, .int 0, .int mal]))]) (wr := []) (x_V (As := []) (C := "WasmReader$Cursor") E (c_Cursor_nextByte_0 l D cB cI cJ cZ s.heap.size h0 qb ln 0 0 mal ) m_171 m_94 m_170 m_172 m_173 nm_Cursor_nextByte hPc hDc hZ hS hFc rfl rfl rfl hl.1 rfl (Nat.le_of_ble_eq_true rfl) d_Cursor_expect_1 rfl rfl (by decide) (by decide) (by decide) (by decide)) hP hD hS hA [0] [] rfl rfl (by decide) (by decide) (fun r_2 u H locs hw hP hD hS => ?_)
  obtain ⟨er_1, rfl⟩ := hw
  have er_1 := er_1.symm
  subst er_1
  have hP : va_P D classes [(h0, .inr (1, [.ref qb, .int ln, .int 0, .int 0, .int 1]))] H := hP
  have hD : va_D (va_A [(h0, .inr (1, [.ref qb, .int ln, .int 0, .int 0, .int mal]))] s.heap.size) [(h0, .inr (1, [.ref qb, .int ln, .int 0, .int 0, .int 1]))] := hD
  refine lv_iload_n E.1 E.2.1 d_Cursor_expect_4 rfl (lv_at hl 1 rfl) ?_
  refine lv_icmp_eq (tgt := 12) E.1 E.2.1 d_Cursor_expect_5 (by decide) (fun hc => ?_) (fun hc => ?_)
  ·
    refine W.widen (k := 0) (n := 0) (by decide) (by decide) ?_
    exact x_vret (ws := [(h0, .inr (1, [.ref qb, .int ln, .int 0, .int 0, .int 1]))]) E hr hlocks (hP.sub [0] rfl) (hD.sub [0] (by decide) rfl) hS rfl d_Cursor_expect_12
  ·
    refine lv_aload_n E.1 E.2.1 d_Cursor_expect_8 rfl (lv_at hl 0 rfl) ?_
    have hPc := hP.sub (ws' := [(h0, .inr (1, [.ref qb, .int ln, .int 0, .int 0, .int 1]))]) [0] rfl
    have hDc := hD.sub (ws' := [(h0, .inr (1, [.ref qb, .int ln, .int 0, .int 0, .int 1]))]) [0] (by decide) rfl
    have hFc := va_free (wc := [(h0, .inr (1, [.ref qb, .int ln, .int 0, .int 0, .int 1]))]) hD hS hA [0] rfl
    refine x_rv (ws := [(h0, .inr (1, [.ref qb, .int ln, .int 0, .int 0, .int 1]))]) (wc := [(h0, .inr (1, [.ref qb, .int ln, .int 0, .int 0, .int 1]))]) (wr := []) (x_V (As := []) (C := "WasmReader$Cursor") E (c_Cursor_fail l D cB cI cJ cZ H.size h0 qb ln 0 0 1 ) m_175 m_94 m_174 m_176 m_177 nm_Cursor_fail hPc hDc hZ hS hFc rfl rfl rfl hl.1 rfl (Nat.le_of_ble_eq_true rfl) d_Cursor_expect_9 rfl rfl (by decide) (by decide) (by decide) (by decide)) hP hD hS hA [0] [] rfl rfl (by decide) (by decide) (fun u H locs hw hP hD hS => ?_)
    obtain rfl := hw
    have hP : va_P D classes [(h0, .inr (1, [.ref qb, .int ln, .int 0, .int 0, .int 1]))] H := hP
    have hD : va_D (va_A [(h0, .inr (1, [.ref qb, .int ln, .int 0, .int 0, .int mal]))] s.heap.size) [(h0, .inr (1, [.ref qb, .int ln, .int 0, .int 0, .int 1]))] := hD
    refine W.widen (k := 0) (n := 0) (by decide) (by decide) ?_
    exact x_vret (ws := [(h0, .inr (1, [.ref qb, .int ln, .int 0, .int 0, .int 1]))]) E hr hlocks (hP.sub [0] rfl) (hD.sub [0] (by decide) rfl) hS rfl d_Cursor_expect_12
