set_option maxHeartbeats 4000000 in
set_option maxRecDepth 100000 in
theorem c_Cursor_signed32 (l : Launch) (D : va_G) (cB cI cJ cZ : ClassId) (sz : Nat) (h0 : Nat) (qb : Nat) (ln : Int32) (a : Nat) (b : Nat) (ml : Int32) (f : Nat → Int32) (hab : a ≤ b) (hb4 : b ≤ 4000) : Met l y_Cursor_signed (Cond.code y_Cursor_signed prog_2_method_10_code 6 (some .long) :: xtb) ({ frames := 2, cells := 0, slots := 0, locals := 47 }) (xP D [(cB, .byte), (cI, .int), (cJ, .long), (cZ, .boolean)] [.ref h0, .int 32] [(h0, .inr (1, [.ref qb, .int ln, .int (nI a), .int (nI b), .int ml])), (qb, .inl (cB, 4000, .inl f))] sz) (xQl D [(cB, .byte), (cI, .int), (cJ, .long), (cZ, .boolean)] [(h0, .inr (1, [.ref qb, .int ln, .int (nI a), .int (nI b), .int ml])), (qb, .inl (cB, 4000, .inl f))] sz (fun r u => ∃ (a2 : Nat), ∃ (ml2 : Int32), (a ≤ a2) ∧ (a2 ≤ b) ∧ u = [(h0, .inr (1, [.ref qb, .int ln, .int (nI a2), .int (nI b), .int ml2])), (qb, .inl (cB, 4000, .inl f))])) 0 0 (va_A [(h0, .inr (1, [.ref qb, .int ln, .int (nI a), .int (nI b), .int ml])), (qb, .inl (cB, 4000, .inl f))] sz) := by
  refine x_met (Qc := fun s => xQl D [(cB, .byte), (cI, .int), (cJ, .long), (cZ, .boolean)] [(h0, .inr (1, [.ref qb, .int ln, .int (nI a), .int (nI b), .int ml])), (qb, .inl (cB, 4000, .inl f))] s.heap.size (fun r u => ∃ (a2 : Nat), ∃ (ml2 : Int32), (a ≤ a2) ∧ (a2 ≤ b) ∧ u = [(h0, .inr (1, [.ref qb, .int ln, .int (nI a2), .int (nI b), .int ml2])), (qb, .inl (cB, 4000, .inl f))])) (fr := fun s => va_A [(h0, .inr (1, [.ref qb, .int ln, .int (nI a), .int (nI b), .int ml])), (qb, .inl (cB, 4000, .inl f))] s.heap.size) "WasmReader$Cursor" (by decide +kernel) rfl (Nat.le_of_ble_eq_true rfl) (fun s h => by rw [h]) (fun s h => by rw [h]) ?_
  intro p e s m below meth c ls E hr hlocks hinit hl hP hD hA hS hZ hadm
  have hl : lv_has ls 6 [(0, .ref h0), (1, .int 32)] := hl
  refine lv_lconst (v := 0) E.1 E.2.1 d_Cursor_signed_0 (by decide) ?_
  refine lv_lstore_n (lv' := [(2, .long 0), (0, .ref h0), (1, .int 32)]) E.1 E.2.1 d_Cursor_signed_1 rfl hl (by decide) rfl (fun ls hl => ?_)
  refine lv_iconst (v := 0) E.1 E.2.1 d_Cursor_signed_2 (by decide) ?_
  refine lv_istore (lv' := [(4, .int 0), (2, .long 0), (0, .ref h0), (1, .int 32)]) E.1 E.2.1 d_Cursor_signed_3 hl (by decide) rfl (fun ls hl => ?_)
  refine lv_iload E.1 E.2.1 d_Cursor_signed_5 (lv_at hl 0 rfl) ?_
  refine lv_iload_n E.1 E.2.1 d_Cursor_signed_7 rfl (lv_at hl 3 rfl) ?_
  refine lv_icmp_ge (tgt := 57) E.1 E.2.1 d_Cursor_signed_8 (by decide) (fun hc => absurd hc (by decide)) (fun _ => ?_)
  refine lv_aload_n E.1 E.2.1 d_Cursor_signed_11 rfl (lv_at hl 2 rfl) ?_
  have hPc := hP.sub (ws' := [(h0, .inr (1, [.ref qb, .int ln, .int (nI a), .int (nI b), .int ml])), (qb, .inl (cB, 4000, .inl f))]) [0, 1] rfl
  have hDc := hD.sub (ws' := [(h0, .inr (1, [.ref qb, .int ln, .int (nI a), .int (nI b), .int ml])), (qb, .inl (cB, 4000, .inl f))]) [0, 1] (by decide) rfl
  have hFc := va_free (wc := [(h0, .inr (1, [.ref qb, .int ln, .int (nI a), .int (nI b), .int ml])), (qb, .inl (cB, 4000, .inl f))]) hD hS hA [0, 1] rfl
  refine x_ri (ws := [(h0, .inr (1, [.ref qb, .int ln, .int (nI a), .int (nI b), .int ml])), (qb, .inl (cB, 4000, .inl f))]) (wc := [(h0, .inr (1, [.ref qb, .int ln, .int (nI a), .int (nI b), .int ml])), (qb, .inl (cB, 4000, .inl f))]) (wr := []) (x_V (As := []) (C := "WasmReader$Cursor") E (c_Cursor_nextByte l D cB cI cJ cZ s.heap.size h0 qb ln a b ml f (by omega) (by omega)) m_171 m_94 m_170 m_172 m_173 nm_Cursor_nextByte hPc hDc hZ hS hFc rfl rfl rfl hl.1 rfl (Nat.le_of_ble_eq_true rfl) d_Cursor_signed_12 rfl rfl (by decide) (by decide) (by decide) (by decide)) hP hD hS hA [0, 1] [] rfl rfl (by decide) (by decide) (fun r_6 u H locs hw hP hD hS => ?_)
  obtain ⟨a2_3, ml2_4, hf_1, hf_2, rfl⟩ := hw
  have hP : va_P D classes [(h0, .inr (1, [.ref qb, .int ln, .int (nI a2_3), .int (nI b), .int ml2_4])), (qb, .inl (cB, 4000, .inl f))] H := hP
  have hD : va_D (va_A [(h0, .inr (1, [.ref qb, .int ln, .int (nI a), .int (nI b), .int ml])), (qb, .inl (cB, 4000, .inl f))] s.heap.size) [(h0, .inr (1, [.ref qb, .int ln, .int (nI a2_3), .int (nI b), .int ml2_4])), (qb, .inl (cB, 4000, .inl f))] := hD
  refine lv_istore (lv' := [(5, .int r_6), (4, .int 0), (2, .long 0), (0, .ref h0), (1, .int 32)]) E.1 E.2.1 d_Cursor_signed_15 hl (by decide) rfl (fun ls hl => ?_)
  refine lv_lload_n E.1 E.2.1 d_Cursor_signed_17 rfl (lv_at hl 2 rfl) ?_
  refine lv_iload E.1 E.2.1 d_Cursor_signed_18 (lv_at hl 0 rfl) ?_
  refine lv_bipush (v := 127) E.1 E.2.1 d_Cursor_signed_20 (by decide) ?_
  refine lv_iand E.1 E.2.1 d_Cursor_signed_22 ?_
  refine lv_topi (fun v_7 ev_7 => ?_)
  refine lv_i2l (v := (v_7 : Int32).toInt64) E.1 E.2.1 d_Cursor_signed_23 rfl ?_
  refine lv_iload E.1 E.2.1 d_Cursor_signed_24 (lv_at hl 1 rfl) ?_
  obtain ⟨v_8, ev_8⟩ : ∃ z : Int64, z = ((v_7 : Int32).toInt64) <<< ((0 : Int32).toInt64 &&& 63) := ⟨_, rfl⟩
  refine lv_lshl (v := v_8) E.1 E.2.1 d_Cursor_signed_26 ev_8.symm ?_
  refine lv_lor E.1 E.2.1 d_Cursor_signed_27 ?_
  refine lv_topl (fun v_9 ev_9 => ?_)
  refine lv_lstore_n (lv' := [(2, .long v_9), (5, .int r_6), (4, .int 0), (0, .ref h0), (1, .int 32)]) E.1 E.2.1 d_Cursor_signed_28 rfl hl (by decide) rfl (fun ls hl => ?_)
  refine lv_iload E.1 E.2.1 d_Cursor_signed_29 (lv_at hl 1 rfl) ?_
  refine lv_sipush (v := 128) E.1 E.2.1 d_Cursor_signed_31 (by decide) ?_
  refine lv_icmp_ge (tgt := 51) E.1 E.2.1 d_Cursor_signed_34 (by decide) (fun hc_10 => ?_) (fun hc_10 => ?_)
  ·
    refine lv_iinc (v := 7) (lv' := [(4, .int 7), (2, .long v_9), (5, .int r_6), (0, .ref h0), (1, .int 32)]) E.1 E.2.1 d_Cursor_signed_51 hl (k := 2) rfl (by decide) (by decide) rfl (fun ls hl => ?_)
    refine lv_goto (tgt := 5) E.1 E.2.1 d_Cursor_signed_54 (by decide) ?_
    refine lv_iload E.1 E.2.1 d_Cursor_signed_5 (lv_at hl 0 rfl) ?_
    refine lv_iload_n E.1 E.2.1 d_Cursor_signed_7 rfl (lv_at hl 4 rfl) ?_
    refine lv_icmp_ge (tgt := 57) E.1 E.2.1 d_Cursor_signed_8 (by decide) (fun hc => absurd hc (by decide)) (fun _ => ?_)
    refine lv_aload_n E.1 E.2.1 d_Cursor_signed_11 rfl (lv_at hl 3 rfl) ?_
    have hPc := hP.sub (ws' := [(h0, .inr (1, [.ref qb, .int ln, .int (nI a2_3), .int (nI b), .int ml2_4])), (qb, .inl (cB, 4000, .inl f))]) [0, 1] rfl
    have hDc := hD.sub (ws' := [(h0, .inr (1, [.ref qb, .int ln, .int (nI a2_3), .int (nI b), .int ml2_4])), (qb, .inl (cB, 4000, .inl f))]) [0, 1] (by decide) rfl
    have hFc := va_free (wc := [(h0, .inr (1, [.ref qb, .int ln, .int (nI a2_3), .int (nI b), .int ml2_4])), (qb, .inl (cB, 4000, .inl f))]) hD hS hA [0, 1] rfl
    refine x_ri (ws := [(h0, .inr (1, [.ref qb, .int ln, .int (nI a2_3), .int (nI b), .int ml2_4])), (qb, .inl (cB, 4000, .inl f))]) (wc := [(h0, .inr (1, [.ref qb, .int ln, .int (nI a2_3), .int (nI b), .int ml2_4])), (qb, .inl (cB, 4000, .inl f))]) (wr := []) (x_V (As := []) (C := "WasmReader$Cursor") E (c_Cursor_nextByte l D cB cI cJ cZ H.size h0 qb ln a2_3 b ml2_4 f (by omega) (by omega)) m_171 m_94 m_170 m_172 m_173 nm_Cursor_nextByte hPc hDc hZ hS hFc rfl rfl rfl hl.1 rfl (Nat.le_of_ble_eq_true rfl) d_Cursor_signed_12 rfl rfl (by decide) (by decide) (by decide) (by decide)) hP hD hS hA [0, 1] [] rfl rfl (by decide) (by decide) (fun r_16 u H locs hw hP hD hS => ?_)
    obtain ⟨a2_13, ml2_14, hf_11, hf_12, rfl⟩ := hw
    have hP : va_P D classes [(h0, .inr (1, [.ref qb, .int ln, .int (nI a2_13), .int (nI b), .int ml2_14])), (qb, .inl (cB, 4000, .inl f))] H := hP
    have hD : va_D (va_A [(h0, .inr (1, [.ref qb, .int ln, .int (nI a), .int (nI b), .int ml])), (qb, .inl (cB, 4000, .inl f))] s.heap.size) [(h0, .inr (1, [.ref qb, .int ln, .int (nI a2_13), .int (nI b), .int ml2_14])), (qb, .inl (cB, 4000, .inl f))] := hD
    refine lv_istore (lv' := [(5, .int r_16), (4, .int 7), (2, .long v_9), (0, .ref h0), (1, .int 32)]) E.1 E.2.1 d_Cursor_signed_15 hl (by decide) rfl (fun ls hl => ?_)
    refine lv_lload_n E.1 E.2.1 d_Cursor_signed_17 rfl (lv_at hl 2 rfl) ?_
    refine lv_iload E.1 E.2.1 d_Cursor_signed_18 (lv_at hl 0 rfl) ?_
    refine lv_bipush (v := 127) E.1 E.2.1 d_Cursor_signed_20 (by decide) ?_
    refine lv_iand E.1 E.2.1 d_Cursor_signed_22 ?_
    refine lv_topi (fun v_17 ev_17 => ?_)
    refine lv_i2l (v := (v_17 : Int32).toInt64) E.1 E.2.1 d_Cursor_signed_23 rfl ?_
    refine lv_iload E.1 E.2.1 d_Cursor_signed_24 (lv_at hl 1 rfl) ?_
    obtain ⟨v_18, ev_18⟩ : ∃ z : Int64, z = ((v_17 : Int32).toInt64) <<< ((7 : Int32).toInt64 &&& 63) := ⟨_, rfl⟩
    refine lv_lshl (v := v_18) E.1 E.2.1 d_Cursor_signed_26 ev_18.symm ?_
    refine lv_lor E.1 E.2.1 d_Cursor_signed_27 ?_
    refine lv_topl (fun v_19 ev_19 => ?_)
    refine lv_lstore_n (lv' := [(2, .long v_19), (5, .int r_16), (4, .int 7), (0, .ref h0), (1, .int 32)]) E.1 E.2.1 d_Cursor_signed_28 rfl hl (by decide) rfl (fun ls hl => ?_)
    refine lv_iload E.1 E.2.1 d_Cursor_signed_29 (lv_at hl 1 rfl) ?_
    refine lv_sipush (v := 128) E.1 E.2.1 d_Cursor_signed_31 (by decide) ?_
    refine lv_icmp_ge (tgt := 51) E.1 E.2.1 d_Cursor_signed_34 (by decide) (fun hc_20 => ?_) (fun hc_20 => ?_)
    ·
      refine lv_iinc (v := 14) (lv' := [(4, .int 14), (2, .long v_19), (5, .int r_16), (0, .ref h0), (1, .int 32)]) E.1 E.2.1 d_Cursor_signed_51 hl (k := 2) rfl (by decide) (by decide) rfl (fun ls hl => ?_)
      refine lv_goto (tgt := 5) E.1 E.2.1 d_Cursor_signed_54 (by decide) ?_
      refine lv_iload E.1 E.2.1 d_Cursor_signed_5 (lv_at hl 0 rfl) ?_
      refine lv_iload_n E.1 E.2.1 d_Cursor_signed_7 rfl (lv_at hl 4 rfl) ?_
      refine lv_icmp_ge (tgt := 57) E.1 E.2.1 d_Cursor_signed_8 (by decide) (fun hc => absurd hc (by decide)) (fun _ => ?_)
      refine lv_aload_n E.1 E.2.1 d_Cursor_signed_11 rfl (lv_at hl 3 rfl) ?_
      have hPc := hP.sub (ws' := [(h0, .inr (1, [.ref qb, .int ln, .int (nI a2_13), .int (nI b), .int ml2_14])), (qb, .inl (cB, 4000, .inl f))]) [0, 1] rfl
      have hDc := hD.sub (ws' := [(h0, .inr (1, [.ref qb, .int ln, .int (nI a2_13), .int (nI b), .int ml2_14])), (qb, .inl (cB, 4000, .inl f))]) [0, 1] (by decide) rfl
      have hFc := va_free (wc := [(h0, .inr (1, [.ref qb, .int ln, .int (nI a2_13), .int (nI b), .int ml2_14])), (qb, .inl (cB, 4000, .inl f))]) hD hS hA [0, 1] rfl
      refine x_ri (ws := [(h0, .inr (1, [.ref qb, .int ln, .int (nI a2_13), .int (nI b), .int ml2_14])), (qb, .inl (cB, 4000, .inl f))]) (wc := [(h0, .inr (1, [.ref qb, .int ln, .int (nI a2_13), .int (nI b), .int ml2_14])), (qb, .inl (cB, 4000, .inl f))]) (wr := []) (x_V (As := []) (C := "WasmReader$Cursor") E (c_Cursor_nextByte l D cB cI cJ cZ H.size h0 qb ln a2_13 b ml2_14 f (by omega) (by omega)) m_171 m_94 m_170 m_172 m_173 nm_Cursor_nextByte hPc hDc hZ hS hFc rfl rfl rfl hl.1 rfl (Nat.le_of_ble_eq_true rfl) d_Cursor_signed_12 rfl rfl (by decide) (by decide) (by decide) (by decide)) hP hD hS hA [0, 1] [] rfl rfl (by decide) (by decide) (fun r_26 u H locs hw hP hD hS => ?_)
      obtain ⟨a2_23, ml2_24, hf_21, hf_22, rfl⟩ := hw
      have hP : va_P D classes [(h0, .inr (1, [.ref qb, .int ln, .int (nI a2_23), .int (nI b), .int ml2_24])), (qb, .inl (cB, 4000, .inl f))] H := hP
      have hD : va_D (va_A [(h0, .inr (1, [.ref qb, .int ln, .int (nI a), .int (nI b), .int ml])), (qb, .inl (cB, 4000, .inl f))] s.heap.size) [(h0, .inr (1, [.ref qb, .int ln, .int (nI a2_23), .int (nI b), .int ml2_24])), (qb, .inl (cB, 4000, .inl f))] := hD
      refine lv_istore (lv' := [(5, .int r_26), (4, .int 14), (2, .long v_19), (0, .ref h0), (1, .int 32)]) E.1 E.2.1 d_Cursor_signed_15 hl (by decide) rfl (fun ls hl => ?_)
      refine lv_lload_n E.1 E.2.1 d_Cursor_signed_17 rfl (lv_at hl 2 rfl) ?_
      refine lv_iload E.1 E.2.1 d_Cursor_signed_18 (lv_at hl 0 rfl) ?_
      refine lv_bipush (v := 127) E.1 E.2.1 d_Cursor_signed_20 (by decide) ?_
      refine lv_iand E.1 E.2.1 d_Cursor_signed_22 ?_
      refine lv_topi (fun v_27 ev_27 => ?_)
      refine lv_i2l (v := (v_27 : Int32).toInt64) E.1 E.2.1 d_Cursor_signed_23 rfl ?_
      refine lv_iload E.1 E.2.1 d_Cursor_signed_24 (lv_at hl 1 rfl) ?_
      obtain ⟨v_28, ev_28⟩ : ∃ z : Int64, z = ((v_27 : Int32).toInt64) <<< ((14 : Int32).toInt64 &&& 63) := ⟨_, rfl⟩
      refine lv_lshl (v := v_28) E.1 E.2.1 d_Cursor_signed_26 ev_28.symm ?_
      refine lv_lor E.1 E.2.1 d_Cursor_signed_27 ?_
      refine lv_topl (fun v_29 ev_29 => ?_)
      refine lv_lstore_n (lv' := [(2, .long v_29), (5, .int r_26), (4, .int 14), (0, .ref h0), (1, .int 32)]) E.1 E.2.1 d_Cursor_signed_28 rfl hl (by decide) rfl (fun ls hl => ?_)
      refine lv_iload E.1 E.2.1 d_Cursor_signed_29 (lv_at hl 1 rfl) ?_
      refine lv_sipush (v := 128) E.1 E.2.1 d_Cursor_signed_31 (by decide) ?_
      refine lv_icmp_ge (tgt := 51) E.1 E.2.1 d_Cursor_signed_34 (by decide) (fun hc_30 => ?_) (fun hc_30 => ?_)
      ·
        refine lv_iinc (v := 21) (lv' := [(4, .int 21), (2, .long v_29), (5, .int r_26), (0, .ref h0), (1, .int 32)]) E.1 E.2.1 d_Cursor_signed_51 hl (k := 2) rfl (by decide) (by decide) rfl (fun ls hl => ?_)
        refine lv_goto (tgt := 5) E.1 E.2.1 d_Cursor_signed_54 (by decide) ?_
        refine lv_iload E.1 E.2.1 d_Cursor_signed_5 (lv_at hl 0 rfl) ?_
        refine lv_iload_n E.1 E.2.1 d_Cursor_signed_7 rfl (lv_at hl 4 rfl) ?_
        refine lv_icmp_ge (tgt := 57) E.1 E.2.1 d_Cursor_signed_8 (by decide) (fun hc => absurd hc (by decide)) (fun _ => ?_)
        refine lv_aload_n E.1 E.2.1 d_Cursor_signed_11 rfl (lv_at hl 3 rfl) ?_
        have hPc := hP.sub (ws' := [(h0, .inr (1, [.ref qb, .int ln, .int (nI a2_23), .int (nI b), .int ml2_24])), (qb, .inl (cB, 4000, .inl f))]) [0, 1] rfl
        have hDc := hD.sub (ws' := [(h0, .inr (1, [.ref qb, .int ln, .int (nI a2_23), .int (nI b), .int ml2_24])), (qb, .inl (cB, 4000, .inl f))]) [0, 1] (by decide) rfl
        have hFc := va_free (wc := [(h0, .inr (1, [.ref qb, .int ln, .int (nI a2_23), .int (nI b), .int ml2_24])), (qb, .inl (cB, 4000, .inl f))]) hD hS hA [0, 1] rfl
        refine x_ri (ws := [(h0, .inr (1, [.ref qb, .int ln, .int (nI a2_23), .int (nI b), .int ml2_24])), (qb, .inl (cB, 4000, .inl f))]) (wc := [(h0, .inr (1, [.ref qb, .int ln, .int (nI a2_23), .int (nI b), .int ml2_24])), (qb, .inl (cB, 4000, .inl f))]) (wr := []) (x_V (As := []) (C := "WasmReader$Cursor") E (c_Cursor_nextByte l D cB cI cJ cZ H.size h0 qb ln a2_23 b ml2_24 f (by omega) (by omega)) m_171 m_94 m_170 m_172 m_173 nm_Cursor_nextByte hPc hDc hZ hS hFc rfl rfl rfl hl.1 rfl (Nat.le_of_ble_eq_true rfl) d_Cursor_signed_12 rfl rfl (by decide) (by decide) (by decide) (by decide)) hP hD hS hA [0, 1] [] rfl rfl (by decide) (by decide) (fun r_36 u H locs hw hP hD hS => ?_)
        obtain ⟨a2_33, ml2_34, hf_31, hf_32, rfl⟩ := hw
        have hP : va_P D classes [(h0, .inr (1, [.ref qb, .int ln, .int (nI a2_33), .int (nI b), .int ml2_34])), (qb, .inl (cB, 4000, .inl f))] H := hP
        have hD : va_D (va_A [(h0, .inr (1, [.ref qb, .int ln, .int (nI a), .int (nI b), .int ml])), (qb, .inl (cB, 4000, .inl f))] s.heap.size) [(h0, .inr (1, [.ref qb, .int ln, .int (nI a2_33), .int (nI b), .int ml2_34])), (qb, .inl (cB, 4000, .inl f))] := hD
        refine lv_istore (lv' := [(5, .int r_36), (4, .int 21), (2, .long v_29), (0, .ref h0), (1, .int 32)]) E.1 E.2.1 d_Cursor_signed_15 hl (by decide) rfl (fun ls hl => ?_)
        refine lv_lload_n E.1 E.2.1 d_Cursor_signed_17 rfl (lv_at hl 2 rfl) ?_
        refine lv_iload E.1 E.2.1 d_Cursor_signed_18 (lv_at hl 0 rfl) ?_
        refine lv_bipush (v := 127) E.1 E.2.1 d_Cursor_signed_20 (by decide) ?_
        refine lv_iand E.1 E.2.1 d_Cursor_signed_22 ?_
        refine lv_topi (fun v_37 ev_37 => ?_)
        refine lv_i2l (v := (v_37 : Int32).toInt64) E.1 E.2.1 d_Cursor_signed_23 rfl ?_
        refine lv_iload E.1 E.2.1 d_Cursor_signed_24 (lv_at hl 1 rfl) ?_
        obtain ⟨v_38, ev_38⟩ : ∃ z : Int64, z = ((v_37 : Int32).toInt64) <<< ((21 : Int32).toInt64 &&& 63) := ⟨_, rfl⟩
        refine lv_lshl (v := v_38) E.1 E.2.1 d_Cursor_signed_26 ev_38.symm ?_
        refine lv_lor E.1 E.2.1 d_Cursor_signed_27 ?_
        refine lv_topl (fun v_39 ev_39 => ?_)
        refine lv_lstore_n (lv' := [(2, .long v_39), (5, .int r_36), (4, .int 21), (0, .ref h0), (1, .int 32)]) E.1 E.2.1 d_Cursor_signed_28 rfl hl (by decide) rfl (fun ls hl => ?_)
        refine lv_iload E.1 E.2.1 d_Cursor_signed_29 (lv_at hl 1 rfl) ?_
        refine lv_sipush (v := 128) E.1 E.2.1 d_Cursor_signed_31 (by decide) ?_
        refine lv_icmp_ge (tgt := 51) E.1 E.2.1 d_Cursor_signed_34 (by decide) (fun hc_40 => ?_) (fun hc_40 => ?_)
        ·
          refine lv_iinc (v := 28) (lv' := [(4, .int 28), (2, .long v_39), (5, .int r_36), (0, .ref h0), (1, .int 32)]) E.1 E.2.1 d_Cursor_signed_51 hl (k := 2) rfl (by decide) (by decide) rfl (fun ls hl => ?_)
          refine lv_goto (tgt := 5) E.1 E.2.1 d_Cursor_signed_54 (by decide) ?_
          refine lv_iload E.1 E.2.1 d_Cursor_signed_5 (lv_at hl 0 rfl) ?_
          refine lv_iload_n E.1 E.2.1 d_Cursor_signed_7 rfl (lv_at hl 4 rfl) ?_
          refine lv_icmp_ge (tgt := 57) E.1 E.2.1 d_Cursor_signed_8 (by decide) (fun hc => absurd hc (by decide)) (fun _ => ?_)
          refine lv_aload_n E.1 E.2.1 d_Cursor_signed_11 rfl (lv_at hl 3 rfl) ?_
          have hPc := hP.sub (ws' := [(h0, .inr (1, [.ref qb, .int ln, .int (nI a2_33), .int (nI b), .int ml2_34])), (qb, .inl (cB, 4000, .inl f))]) [0, 1] rfl
          have hDc := hD.sub (ws' := [(h0, .inr (1, [.ref qb, .int ln, .int (nI a2_33), .int (nI b), .int ml2_34])), (qb, .inl (cB, 4000, .inl f))]) [0, 1] (by decide) rfl
          have hFc := va_free (wc := [(h0, .inr (1, [.ref qb, .int ln, .int (nI a2_33), .int (nI b), .int ml2_34])), (qb, .inl (cB, 4000, .inl f))]) hD hS hA [0, 1] rfl
          refine x_ri (ws := [(h0, .inr (1, [.ref qb, .int ln, .int (nI a2_33), .int (nI b), .int ml2_34])), (qb, .inl (cB, 4000, .inl f))]) (wc := [(h0, .inr (1, [.ref qb, .int ln, .int (nI a2_33), .int (nI b), .int ml2_34])), (qb, .inl (cB, 4000, .inl f))]) (wr := []) (x_V (As := []) (C := "WasmReader$Cursor") E (c_Cursor_nextByte l D cB cI cJ cZ H.size h0 qb ln a2_33 b ml2_34 f (by omega) (by omega)) m_171 m_94 m_170 m_172 m_173 nm_Cursor_nextByte hPc hDc hZ hS hFc rfl rfl rfl hl.1 rfl (Nat.le_of_ble_eq_true rfl) d_Cursor_signed_12 rfl rfl (by decide) (by decide) (by decide) (by decide)) hP hD hS hA [0, 1] [] rfl rfl (by decide) (by decide) (fun r_46 u H locs hw hP hD hS => ?_)
          obtain ⟨a2_43, ml2_44, hf_41, hf_42, rfl⟩ := hw
          have hP : va_P D classes [(h0, .inr (1, [.ref qb, .int ln, .int (nI a2_43), .int (nI b), .int ml2_44])), (qb, .inl (cB, 4000, .inl f))] H := hP
          have hD : va_D (va_A [(h0, .inr (1, [.ref qb, .int ln, .int (nI a), .int (nI b), .int ml])), (qb, .inl (cB, 4000, .inl f))] s.heap.size) [(h0, .inr (1, [.ref qb, .int ln, .int (nI a2_43), .int (nI b), .int ml2_44])), (qb, .inl (cB, 4000, .inl f))] := hD
          refine lv_istore (lv' := [(5, .int r_46), (4, .int 28), (2, .long v_39), (0, .ref h0), (1, .int 32)]) E.1 E.2.1 d_Cursor_signed_15 hl (by decide) rfl (fun ls hl => ?_)
          refine lv_lload_n E.1 E.2.1 d_Cursor_signed_17 rfl (lv_at hl 2 rfl) ?_
          refine lv_iload E.1 E.2.1 d_Cursor_signed_18 (lv_at hl 0 rfl) ?_
          refine lv_bipush (v := 127) E.1 E.2.1 d_Cursor_signed_20 (by decide) ?_
          refine lv_iand E.1 E.2.1 d_Cursor_signed_22 ?_
          refine lv_topi (fun v_47 ev_47 => ?_)
          refine lv_i2l (v := (v_47 : Int32).toInt64) E.1 E.2.1 d_Cursor_signed_23 rfl ?_
          refine lv_iload E.1 E.2.1 d_Cursor_signed_24 (lv_at hl 1 rfl) ?_
          obtain ⟨v_48, ev_48⟩ : ∃ z : Int64, z = ((v_47 : Int32).toInt64) <<< ((28 : Int32).toInt64 &&& 63) := ⟨_, rfl⟩
          refine lv_lshl (v := v_48) E.1 E.2.1 d_Cursor_signed_26 ev_48.symm ?_
          refine lv_lor E.1 E.2.1 d_Cursor_signed_27 ?_
          refine lv_topl (fun v_49 ev_49 => ?_)
          refine lv_lstore_n (lv' := [(2, .long v_49), (5, .int r_46), (4, .int 28), (0, .ref h0), (1, .int 32)]) E.1 E.2.1 d_Cursor_signed_28 rfl hl (by decide) rfl (fun ls hl => ?_)
          refine lv_iload E.1 E.2.1 d_Cursor_signed_29 (lv_at hl 1 rfl) ?_
          refine lv_sipush (v := 128) E.1 E.2.1 d_Cursor_signed_31 (by decide) ?_
          refine lv_icmp_ge (tgt := 51) E.1 E.2.1 d_Cursor_signed_34 (by decide) (fun hc_50 => ?_) (fun hc_50 => ?_)
          ·
            refine lv_iinc (v := 35) (lv' := [(4, .int 35), (2, .long v_49), (5, .int r_46), (0, .ref h0), (1, .int 32)]) E.1 E.2.1 d_Cursor_signed_51 hl (k := 2) rfl (by decide) (by decide) rfl (fun ls hl => ?_)
            refine lv_goto (tgt := 5) E.1 E.2.1 d_Cursor_signed_54 (by decide) ?_
            refine lv_iload E.1 E.2.1 d_Cursor_signed_5 (lv_at hl 0 rfl) ?_
            refine lv_iload_n E.1 E.2.1 d_Cursor_signed_7 rfl (lv_at hl 4 rfl) ?_
            refine lv_icmp_ge (tgt := 57) E.1 E.2.1 d_Cursor_signed_8 (by decide) (fun _ => ?_) (fun hc => absurd (by decide) hc)
            refine lv_aload_n E.1 E.2.1 d_Cursor_signed_57 rfl (lv_at hl 3 rfl) ?_
            have hPc := hP.sub (ws' := [(h0, .inr (1, [.ref qb, .int ln, .int (nI a2_43), .int (nI b), .int ml2_44]))]) [0] rfl
            have hDc := hD.sub (ws' := [(h0, .inr (1, [.ref qb, .int ln, .int (nI a2_43), .int (nI b), .int ml2_44]))]) [0] (by decide) rfl
            have hFc := va_free (wc := [(h0, .inr (1, [.ref qb, .int ln, .int (nI a2_43), .int (nI b), .int ml2_44]))]) hD hS hA [0] rfl
            refine x_rv (ws := [(h0, .inr (1, [.ref qb, .int ln, .int (nI a2_43), .int (nI b), .int ml2_44])), (qb, .inl (cB, 4000, .inl f))]) (wc := [(h0, .inr (1, [.ref qb, .int ln, .int (nI a2_43), .int (nI b), .int ml2_44]))]) (wr := [(qb, .inl (cB, 4000, .inl f))]) (x_V (As := []) (C := "WasmReader$Cursor") E (c_Cursor_fail l D cB cI cJ cZ H.size h0 qb ln (nI a2_43) (nI b) ml2_44 ) m_175 m_94 m_174 m_176 m_177 nm_Cursor_fail hPc hDc hZ hS hFc rfl rfl rfl hl.1 rfl (Nat.le_of_ble_eq_true rfl) d_Cursor_signed_58 rfl rfl (by decide) (by decide) (by decide) (by decide)) hP hD hS hA [0] [1] rfl rfl (by decide) (by decide) (fun u H locs hw hP hD hS => ?_)
            obtain rfl := hw
            have hP : va_P D classes [(qb, .inl (cB, 4000, .inl f)), (h0, .inr (1, [.ref qb, .int ln, .int (nI a2_43), .int (nI b), .int 1]))] H := hP
            have hD : va_D (va_A [(h0, .inr (1, [.ref qb, .int ln, .int (nI a), .int (nI b), .int ml])), (qb, .inl (cB, 4000, .inl f))] s.heap.size) [(qb, .inl (cB, 4000, .inl f)), (h0, .inr (1, [.ref qb, .int ln, .int (nI a2_43), .int (nI b), .int 1]))] := hD
            refine lv_lconst (v := 0) E.1 E.2.1 d_Cursor_signed_61 (by decide) ?_
            refine W.widen (k := 0) (n := 0) (by decide) (by decide) ?_
            exact x_lret (ws := [(h0, .inr (1, [.ref qb, .int ln, .int (nI a2_43), .int (nI b), .int 1])), (qb, .inl (cB, 4000, .inl f))]) E hr hlocks (hP.sub [1, 0] rfl) (hD.sub [1, 0] (by decide) rfl) hS ⟨a2_43, 1, (by omega), (by omega), rfl⟩ d_Cursor_signed_62
          ·
            refine lv_aload_n E.1 E.2.1 d_Cursor_signed_37 rfl (lv_at hl 3 rfl) ?_
            refine lv_lload_n E.1 E.2.1 d_Cursor_signed_38 rfl (lv_at hl 0 rfl) ?_
            refine lv_iload E.1 E.2.1 d_Cursor_signed_39 (lv_at hl 2 rfl) ?_
            refine lv_bipush (v := 7) E.1 E.2.1 d_Cursor_signed_41 (by decide) ?_
            refine lv_iadd E.1 E.2.1 d_Cursor_signed_43 ?_
            refine lv_topi (fun vt_51 evt_51 => ?_)
            obtain rfl : vt_51 = 35 := evt_51.trans (by decide)
            refine lv_iload_n E.1 E.2.1 d_Cursor_signed_44 rfl (lv_at hl 4 rfl) ?_
            refine lv_iload E.1 E.2.1 d_Cursor_signed_45 (lv_at hl 1 rfl) ?_
            have hPc := hP.sub (ws' := [(h0, .inr (1, [.ref qb, .int ln, .int (nI a2_43), .int (nI b), .int ml2_44]))]) [0] rfl
            have hDc := hD.sub (ws' := [(h0, .inr (1, [.ref qb, .int ln, .int (nI a2_43), .int (nI b), .int ml2_44]))]) [0] (by decide) rfl
            have hFc := va_free (wc := [(h0, .inr (1, [.ref qb, .int ln, .int (nI a2_43), .int (nI b), .int ml2_44]))]) hD hS hA [0] rfl
            refine x_rl (ws := [(h0, .inr (1, [.ref qb, .int ln, .int (nI a2_43), .int (nI b), .int ml2_44])), (qb, .inl (cB, 4000, .inl f))]) (wc := [(h0, .inr (1, [.ref qb, .int ln, .int (nI a2_43), .int (nI b), .int ml2_44]))]) (wr := [(qb, .inl (cB, 4000, .inl f))]) (x_V (As := [.long v_49, .int 35, .int 32, .int r_46]) (C := "WasmReader$Cursor") E (c_Cursor_withSign l D cB cI cJ cZ H.size h0 qb ln (nI a2_43) (nI b) ml2_44 v_49 35 32 r_46 ) m_242 m_94 m_241 m_243 m_244 nm_Cursor_withSign hPc hDc hZ hS hFc rfl rfl rfl hl.1 rfl (Nat.le_of_ble_eq_true rfl) d_Cursor_signed_47 rfl rfl (by decide) (by decide) (by decide) (by decide)) hP hD hS hA [0] [1] rfl rfl (by decide) (by decide) (fun r_53 u H locs hw hP hD hS => ?_)
            obtain ⟨ml2_52, rfl⟩ := hw
            have hP : va_P D classes [(qb, .inl (cB, 4000, .inl f)), (h0, .inr (1, [.ref qb, .int ln, .int (nI a2_43), .int (nI b), .int ml2_52]))] H := hP
            have hD : va_D (va_A [(h0, .inr (1, [.ref qb, .int ln, .int (nI a), .int (nI b), .int ml])), (qb, .inl (cB, 4000, .inl f))] s.heap.size) [(qb, .inl (cB, 4000, .inl f)), (h0, .inr (1, [.ref qb, .int ln, .int (nI a2_43), .int (nI b), .int ml2_52]))] := hD
            refine W.widen (k := 0) (n := 0) (by decide) (by decide) ?_
            exact x_lret (ws := [(h0, .inr (1, [.ref qb, .int ln, .int (nI a2_43), .int (nI b), .int ml2_52])), (qb, .inl (cB, 4000, .inl f))]) E hr hlocks (hP.sub [1, 0] rfl) (hD.sub [1, 0] (by decide) rfl) hS ⟨a2_43, ml2_52, (by omega), (by omega), rfl⟩ d_Cursor_signed_50
        ·
          refine lv_aload_n E.1 E.2.1 d_Cursor_signed_37 rfl (lv_at hl 3 rfl) ?_
          refine lv_lload_n E.1 E.2.1 d_Cursor_signed_38 rfl (lv_at hl 0 rfl) ?_
          refine lv_iload E.1 E.2.1 d_Cursor_signed_39 (lv_at hl 2 rfl) ?_
          refine lv_bipush (v := 7) E.1 E.2.1 d_Cursor_signed_41 (by decide) ?_
          refine lv_iadd E.1 E.2.1 d_Cursor_signed_43 ?_
          refine lv_topi (fun vt_54 evt_54 => ?_)
          obtain rfl : vt_54 = 28 := evt_54.trans (by decide)
          refine lv_iload_n E.1 E.2.1 d_Cursor_signed_44 rfl (lv_at hl 4 rfl) ?_
          refine lv_iload E.1 E.2.1 d_Cursor_signed_45 (lv_at hl 1 rfl) ?_
          have hPc := hP.sub (ws' := [(h0, .inr (1, [.ref qb, .int ln, .int (nI a2_33), .int (nI b), .int ml2_34]))]) [0] rfl
          have hDc := hD.sub (ws' := [(h0, .inr (1, [.ref qb, .int ln, .int (nI a2_33), .int (nI b), .int ml2_34]))]) [0] (by decide) rfl
          have hFc := va_free (wc := [(h0, .inr (1, [.ref qb, .int ln, .int (nI a2_33), .int (nI b), .int ml2_34]))]) hD hS hA [0] rfl
          refine x_rl (ws := [(h0, .inr (1, [.ref qb, .int ln, .int (nI a2_33), .int (nI b), .int ml2_34])), (qb, .inl (cB, 4000, .inl f))]) (wc := [(h0, .inr (1, [.ref qb, .int ln, .int (nI a2_33), .int (nI b), .int ml2_34]))]) (wr := [(qb, .inl (cB, 4000, .inl f))]) (x_V (As := [.long v_39, .int 28, .int 32, .int r_36]) (C := "WasmReader$Cursor") E (c_Cursor_withSign l D cB cI cJ cZ H.size h0 qb ln (nI a2_33) (nI b) ml2_34 v_39 28 32 r_36 ) m_242 m_94 m_241 m_243 m_244 nm_Cursor_withSign hPc hDc hZ hS hFc rfl rfl rfl hl.1 rfl (Nat.le_of_ble_eq_true rfl) d_Cursor_signed_47 rfl rfl (by decide) (by decide) (by decide) (by decide)) hP hD hS hA [0] [1] rfl rfl (by decide) (by decide) (fun r_56 u H locs hw hP hD hS => ?_)
          obtain ⟨ml2_55, rfl⟩ := hw
          have hP : va_P D classes [(qb, .inl (cB, 4000, .inl f)), (h0, .inr (1, [.ref qb, .int ln, .int (nI a2_33), .int (nI b), .int ml2_55]))] H := hP
          have hD : va_D (va_A [(h0, .inr (1, [.ref qb, .int ln, .int (nI a), .int (nI b), .int ml])), (qb, .inl (cB, 4000, .inl f))] s.heap.size) [(qb, .inl (cB, 4000, .inl f)), (h0, .inr (1, [.ref qb, .int ln, .int (nI a2_33), .int (nI b), .int ml2_55]))] := hD
          refine W.widen (k := 0) (n := 0) (by decide) (by decide) ?_
          exact x_lret (ws := [(h0, .inr (1, [.ref qb, .int ln, .int (nI a2_33), .int (nI b), .int ml2_55])), (qb, .inl (cB, 4000, .inl f))]) E hr hlocks (hP.sub [1, 0] rfl) (hD.sub [1, 0] (by decide) rfl) hS ⟨a2_33, ml2_55, (by omega), (by omega), rfl⟩ d_Cursor_signed_50
      ·
        refine lv_aload_n E.1 E.2.1 d_Cursor_signed_37 rfl (lv_at hl 3 rfl) ?_
        refine lv_lload_n E.1 E.2.1 d_Cursor_signed_38 rfl (lv_at hl 0 rfl) ?_
        refine lv_iload E.1 E.2.1 d_Cursor_signed_39 (lv_at hl 2 rfl) ?_
        refine lv_bipush (v := 7) E.1 E.2.1 d_Cursor_signed_41 (by decide) ?_
        refine lv_iadd E.1 E.2.1 d_Cursor_signed_43 ?_
        refine lv_topi (fun vt_57 evt_57 => ?_)
        obtain rfl : vt_57 = 21 := evt_57.trans (by decide)
        refine lv_iload_n E.1 E.2.1 d_Cursor_signed_44 rfl (lv_at hl 4 rfl) ?_
        refine lv_iload E.1 E.2.1 d_Cursor_signed_45 (lv_at hl 1 rfl) ?_
        have hPc := hP.sub (ws' := [(h0, .inr (1, [.ref qb, .int ln, .int (nI a2_23), .int (nI b), .int ml2_24]))]) [0] rfl
        have hDc := hD.sub (ws' := [(h0, .inr (1, [.ref qb, .int ln, .int (nI a2_23), .int (nI b), .int ml2_24]))]) [0] (by decide) rfl
        have hFc := va_free (wc := [(h0, .inr (1, [.ref qb, .int ln, .int (nI a2_23), .int (nI b), .int ml2_24]))]) hD hS hA [0] rfl
        refine x_rl (ws := [(h0, .inr (1, [.ref qb, .int ln, .int (nI a2_23), .int (nI b), .int ml2_24])), (qb, .inl (cB, 4000, .inl f))]) (wc := [(h0, .inr (1, [.ref qb, .int ln, .int (nI a2_23), .int (nI b), .int ml2_24]))]) (wr := [(qb, .inl (cB, 4000, .inl f))]) (x_V (As := [.long v_29, .int 21, .int 32, .int r_26]) (C := "WasmReader$Cursor") E (c_Cursor_withSign l D cB cI cJ cZ H.size h0 qb ln (nI a2_23) (nI b) ml2_24 v_29 21 32 r_26 ) m_242 m_94 m_241 m_243 m_244 nm_Cursor_withSign hPc hDc hZ hS hFc rfl rfl rfl hl.1 rfl (Nat.le_of_ble_eq_true rfl) d_Cursor_signed_47 rfl rfl (by decide) (by decide) (by decide) (by decide)) hP hD hS hA [0] [1] rfl rfl (by decide) (by decide) (fun r_59 u H locs hw hP hD hS => ?_)
        obtain ⟨ml2_58, rfl⟩ := hw
        have hP : va_P D classes [(qb, .inl (cB, 4000, .inl f)), (h0, .inr (1, [.ref qb, .int ln, .int (nI a2_23), .int (nI b), .int ml2_58]))] H := hP
        have hD : va_D (va_A [(h0, .inr (1, [.ref qb, .int ln, .int (nI a), .int (nI b), .int ml])), (qb, .inl (cB, 4000, .inl f))] s.heap.size) [(qb, .inl (cB, 4000, .inl f)), (h0, .inr (1, [.ref qb, .int ln, .int (nI a2_23), .int (nI b), .int ml2_58]))] := hD
        refine W.widen (k := 0) (n := 0) (by decide) (by decide) ?_
        exact x_lret (ws := [(h0, .inr (1, [.ref qb, .int ln, .int (nI a2_23), .int (nI b), .int ml2_58])), (qb, .inl (cB, 4000, .inl f))]) E hr hlocks (hP.sub [1, 0] rfl) (hD.sub [1, 0] (by decide) rfl) hS ⟨a2_23, ml2_58, (by omega), (by omega), rfl⟩ d_Cursor_signed_50
    ·
      refine lv_aload_n E.1 E.2.1 d_Cursor_signed_37 rfl (lv_at hl 3 rfl) ?_
      refine lv_lload_n E.1 E.2.1 d_Cursor_signed_38 rfl (lv_at hl 0 rfl) ?_
      refine lv_iload E.1 E.2.1 d_Cursor_signed_39 (lv_at hl 2 rfl) ?_
      refine lv_bipush (v := 7) E.1 E.2.1 d_Cursor_signed_41 (by decide) ?_
      refine lv_iadd E.1 E.2.1 d_Cursor_signed_43 ?_
      refine lv_topi (fun vt_60 evt_60 => ?_)
      obtain rfl : vt_60 = 14 := evt_60.trans (by decide)
      refine lv_iload_n E.1 E.2.1 d_Cursor_signed_44 rfl (lv_at hl 4 rfl) ?_
      refine lv_iload E.1 E.2.1 d_Cursor_signed_45 (lv_at hl 1 rfl) ?_
      have hPc := hP.sub (ws' := [(h0, .inr (1, [.ref qb, .int ln, .int (nI a2_13), .int (nI b), .int ml2_14]))]) [0] rfl
      have hDc := hD.sub (ws' := [(h0, .inr (1, [.ref qb, .int ln, .int (nI a2_13), .int (nI b), .int ml2_14]))]) [0] (by decide) rfl
      have hFc := va_free (wc := [(h0, .inr (1, [.ref qb, .int ln, .int (nI a2_13), .int (nI b), .int ml2_14]))]) hD hS hA [0] rfl
      refine x_rl (ws := [(h0, .inr (1, [.ref qb, .int ln, .int (nI a2_13), .int (nI b), .int ml2_14])), (qb, .inl (cB, 4000, .inl f))]) (wc := [(h0, .inr (1, [.ref qb, .int ln, .int (nI a2_13), .int (nI b), .int ml2_14]))]) (wr := [(qb, .inl (cB, 4000, .inl f))]) (x_V (As := [.long v_19, .int 14, .int 32, .int r_16]) (C := "WasmReader$Cursor") E (c_Cursor_withSign l D cB cI cJ cZ H.size h0 qb ln (nI a2_13) (nI b) ml2_14 v_19 14 32 r_16 ) m_242 m_94 m_241 m_243 m_244 nm_Cursor_withSign hPc hDc hZ hS hFc rfl rfl rfl hl.1 rfl (Nat.le_of_ble_eq_true rfl) d_Cursor_signed_47 rfl rfl (by decide) (by decide) (by decide) (by decide)) hP hD hS hA [0] [1] rfl rfl (by decide) (by decide) (fun r_62 u H locs hw hP hD hS => ?_)
      obtain ⟨ml2_61, rfl⟩ := hw
      have hP : va_P D classes [(qb, .inl (cB, 4000, .inl f)), (h0, .inr (1, [.ref qb, .int ln, .int (nI a2_13), .int (nI b), .int ml2_61]))] H := hP
      have hD : va_D (va_A [(h0, .inr (1, [.ref qb, .int ln, .int (nI a), .int (nI b), .int ml])), (qb, .inl (cB, 4000, .inl f))] s.heap.size) [(qb, .inl (cB, 4000, .inl f)), (h0, .inr (1, [.ref qb, .int ln, .int (nI a2_13), .int (nI b), .int ml2_61]))] := hD
      refine W.widen (k := 0) (n := 0) (by decide) (by decide) ?_
      exact x_lret (ws := [(h0, .inr (1, [.ref qb, .int ln, .int (nI a2_13), .int (nI b), .int ml2_61])), (qb, .inl (cB, 4000, .inl f))]) E hr hlocks (hP.sub [1, 0] rfl) (hD.sub [1, 0] (by decide) rfl) hS ⟨a2_13, ml2_61, (by omega), (by omega), rfl⟩ d_Cursor_signed_50
  ·
    refine lv_aload_n E.1 E.2.1 d_Cursor_signed_37 rfl (lv_at hl 3 rfl) ?_
    refine lv_lload_n E.1 E.2.1 d_Cursor_signed_38 rfl (lv_at hl 0 rfl) ?_
    refine lv_iload E.1 E.2.1 d_Cursor_signed_39 (lv_at hl 2 rfl) ?_
    refine lv_bipush (v := 7) E.1 E.2.1 d_Cursor_signed_41 (by decide) ?_
    refine lv_iadd E.1 E.2.1 d_Cursor_signed_43 ?_
    refine lv_topi (fun vt_63 evt_63 => ?_)
    obtain rfl : vt_63 = 7 := evt_63.trans (by decide)
    refine lv_iload_n E.1 E.2.1 d_Cursor_signed_44 rfl (lv_at hl 4 rfl) ?_
    refine lv_iload E.1 E.2.1 d_Cursor_signed_45 (lv_at hl 1 rfl) ?_
    have hPc := hP.sub (ws' := [(h0, .inr (1, [.ref qb, .int ln, .int (nI a2_3), .int (nI b), .int ml2_4]))]) [0] rfl
    have hDc := hD.sub (ws' := [(h0, .inr (1, [.ref qb, .int ln, .int (nI a2_3), .int (nI b), .int ml2_4]))]) [0] (by decide) rfl
    have hFc := va_free (wc := [(h0, .inr (1, [.ref qb, .int ln, .int (nI a2_3), .int (nI b), .int ml2_4]))]) hD hS hA [0] rfl
    refine x_rl (ws := [(h0, .inr (1, [.ref qb, .int ln, .int (nI a2_3), .int (nI b), .int ml2_4])), (qb, .inl (cB, 4000, .inl f))]) (wc := [(h0, .inr (1, [.ref qb, .int ln, .int (nI a2_3), .int (nI b), .int ml2_4]))]) (wr := [(qb, .inl (cB, 4000, .inl f))]) (x_V (As := [.long v_9, .int 7, .int 32, .int r_6]) (C := "WasmReader$Cursor") E (c_Cursor_withSign l D cB cI cJ cZ H.size h0 qb ln (nI a2_3) (nI b) ml2_4 v_9 7 32 r_6 ) m_242 m_94 m_241 m_243 m_244 nm_Cursor_withSign hPc hDc hZ hS hFc rfl rfl rfl hl.1 rfl (Nat.le_of_ble_eq_true rfl) d_Cursor_signed_47 rfl rfl (by decide) (by decide) (by decide) (by decide)) hP hD hS hA [0] [1] rfl rfl (by decide) (by decide) (fun r_65 u H locs hw hP hD hS => ?_)
    obtain ⟨ml2_64, rfl⟩ := hw
    have hP : va_P D classes [(qb, .inl (cB, 4000, .inl f)), (h0, .inr (1, [.ref qb, .int ln, .int (nI a2_3), .int (nI b), .int ml2_64]))] H := hP
    have hD : va_D (va_A [(h0, .inr (1, [.ref qb, .int ln, .int (nI a), .int (nI b), .int ml])), (qb, .inl (cB, 4000, .inl f))] s.heap.size) [(qb, .inl (cB, 4000, .inl f)), (h0, .inr (1, [.ref qb, .int ln, .int (nI a2_3), .int (nI b), .int ml2_64]))] := hD
    refine W.widen (k := 0) (n := 0) (by decide) (by decide) ?_
    exact x_lret (ws := [(h0, .inr (1, [.ref qb, .int ln, .int (nI a2_3), .int (nI b), .int ml2_64])), (qb, .inl (cB, 4000, .inl f))]) E hr hlocks (hP.sub [1, 0] rfl) (hD.sub [1, 0] (by decide) rfl) hS ⟨a2_3, ml2_64, (by omega), (by omega), rfl⟩ d_Cursor_signed_50
set_option maxHeartbeats 4000000 in
set_option maxRecDepth 100000 in
theorem c_Cursor_signed64 (l : Launch) (D : va_G) (cB cI cJ cZ : ClassId) (sz : Nat) (h0 : Nat) (qb : Nat) (ln : Int32) (a : Nat) (b : Nat) (ml : Int32) (f : Nat → Int32) (hab : a ≤ b) (hb4 : b ≤ 4000) : Met l y_Cursor_signed (Cond.code y_Cursor_signed prog_2_method_10_code 6 (some .long) :: xtb) ({ frames := 2, cells := 0, slots := 0, locals := 47 }) (xP D [(cB, .byte), (cI, .int), (cJ, .long), (cZ, .boolean)] [.ref h0, .int 64] [(h0, .inr (1, [.ref qb, .int ln, .int (nI a), .int (nI b), .int ml])), (qb, .inl (cB, 4000, .inl f))] sz) (xQl D [(cB, .byte), (cI, .int), (cJ, .long), (cZ, .boolean)] [(h0, .inr (1, [.ref qb, .int ln, .int (nI a), .int (nI b), .int ml])), (qb, .inl (cB, 4000, .inl f))] sz (fun r u => ∃ (a2 : Nat), ∃ (ml2 : Int32), (a ≤ a2) ∧ (a2 ≤ b) ∧ u = [(h0, .inr (1, [.ref qb, .int ln, .int (nI a2), .int (nI b), .int ml2])), (qb, .inl (cB, 4000, .inl f))])) 0 0 (va_A [(h0, .inr (1, [.ref qb, .int ln, .int (nI a), .int (nI b), .int ml])), (qb, .inl (cB, 4000, .inl f))] sz) := by
  refine x_met (Qc := fun s => xQl D [(cB, .byte), (cI, .int), (cJ, .long), (cZ, .boolean)] [(h0, .inr (1, [.ref qb, .int ln, .int (nI a), .int (nI b), .int ml])), (qb, .inl (cB, 4000, .inl f))] s.heap.size (fun r u => ∃ (a2 : Nat), ∃ (ml2 : Int32), (a ≤ a2) ∧ (a2 ≤ b) ∧ u = [(h0, .inr (1, [.ref qb, .int ln, .int (nI a2), .int (nI b), .int ml2])), (qb, .inl (cB, 4000, .inl f))])) (fr := fun s => va_A [(h0, .inr (1, [.ref qb, .int ln, .int (nI a), .int (nI b), .int ml])), (qb, .inl (cB, 4000, .inl f))] s.heap.size) "WasmReader$Cursor" (by decide +kernel) rfl (Nat.le_of_ble_eq_true rfl) (fun s h => by rw [h]) (fun s h => by rw [h]) ?_
  intro p e s m below meth c ls E hr hlocks hinit hl hP hD hA hS hZ hadm
  have hl : lv_has ls 6 [(0, .ref h0), (1, .int 64)] := hl
  refine lv_lconst (v := 0) E.1 E.2.1 d_Cursor_signed_0 (by decide) ?_
  refine lv_lstore_n (lv' := [(2, .long 0), (0, .ref h0), (1, .int 64)]) E.1 E.2.1 d_Cursor_signed_1 rfl hl (by decide) rfl (fun ls hl => ?_)
  refine lv_iconst (v := 0) E.1 E.2.1 d_Cursor_signed_2 (by decide) ?_
  refine lv_istore (lv' := [(4, .int 0), (2, .long 0), (0, .ref h0), (1, .int 64)]) E.1 E.2.1 d_Cursor_signed_3 hl (by decide) rfl (fun ls hl => ?_)
  refine lv_iload E.1 E.2.1 d_Cursor_signed_5 (lv_at hl 0 rfl) ?_
  refine lv_iload_n E.1 E.2.1 d_Cursor_signed_7 rfl (lv_at hl 3 rfl) ?_
  refine lv_icmp_ge (tgt := 57) E.1 E.2.1 d_Cursor_signed_8 (by decide) (fun hc => absurd hc (by decide)) (fun _ => ?_)
  refine lv_aload_n E.1 E.2.1 d_Cursor_signed_11 rfl (lv_at hl 2 rfl) ?_
  have hPc := hP.sub (ws' := [(h0, .inr (1, [.ref qb, .int ln, .int (nI a), .int (nI b), .int ml])), (qb, .inl (cB, 4000, .inl f))]) [0, 1] rfl
  have hDc := hD.sub (ws' := [(h0, .inr (1, [.ref qb, .int ln, .int (nI a), .int (nI b), .int ml])), (qb, .inl (cB, 4000, .inl f))]) [0, 1] (by decide) rfl
  have hFc := va_free (wc := [(h0, .inr (1, [.ref qb, .int ln, .int (nI a), .int (nI b), .int ml])), (qb, .inl (cB, 4000, .inl f))]) hD hS hA [0, 1] rfl
  refine x_ri (ws := [(h0, .inr (1, [.ref qb, .int ln, .int (nI a), .int (nI b), .int ml])), (qb, .inl (cB, 4000, .inl f))]) (wc := [(h0, .inr (1, [.ref qb, .int ln, .int (nI a), .int (nI b), .int ml])), (qb, .inl (cB, 4000, .inl f))]) (wr := []) (x_V (As := []) (C := "WasmReader$Cursor") E (c_Cursor_nextByte l D cB cI cJ cZ s.heap.size h0 qb ln a b ml f (by omega) (by omega)) m_171 m_94 m_170 m_172 m_173 nm_Cursor_nextByte hPc hDc hZ hS hFc rfl rfl rfl hl.1 rfl (Nat.le_of_ble_eq_true rfl) d_Cursor_signed_12 rfl rfl (by decide) (by decide) (by decide) (by decide)) hP hD hS hA [0, 1] [] rfl rfl (by decide) (by decide) (fun r_71 u H locs hw hP hD hS => ?_)
  obtain ⟨a2_68, ml2_69, hf_66, hf_67, rfl⟩ := hw
  have hP : va_P D classes [(h0, .inr (1, [.ref qb, .int ln, .int (nI a2_68), .int (nI b), .int ml2_69])), (qb, .inl (cB, 4000, .inl f))] H := hP
  have hD : va_D (va_A [(h0, .inr (1, [.ref qb, .int ln, .int (nI a), .int (nI b), .int ml])), (qb, .inl (cB, 4000, .inl f))] s.heap.size) [(h0, .inr (1, [.ref qb, .int ln, .int (nI a2_68), .int (nI b), .int ml2_69])), (qb, .inl (cB, 4000, .inl f))] := hD
  refine lv_istore (lv' := [(5, .int r_71), (4, .int 0), (2, .long 0), (0, .ref h0), (1, .int 64)]) E.1 E.2.1 d_Cursor_signed_15 hl (by decide) rfl (fun ls hl => ?_)
  refine lv_lload_n E.1 E.2.1 d_Cursor_signed_17 rfl (lv_at hl 2 rfl) ?_
  refine lv_iload E.1 E.2.1 d_Cursor_signed_18 (lv_at hl 0 rfl) ?_
  refine lv_bipush (v := 127) E.1 E.2.1 d_Cursor_signed_20 (by decide) ?_
  refine lv_iand E.1 E.2.1 d_Cursor_signed_22 ?_
  refine lv_topi (fun v_72 ev_72 => ?_)
  refine lv_i2l (v := (v_72 : Int32).toInt64) E.1 E.2.1 d_Cursor_signed_23 rfl ?_
  refine lv_iload E.1 E.2.1 d_Cursor_signed_24 (lv_at hl 1 rfl) ?_
  obtain ⟨v_73, ev_73⟩ : ∃ z : Int64, z = ((v_72 : Int32).toInt64) <<< ((0 : Int32).toInt64 &&& 63) := ⟨_, rfl⟩
  refine lv_lshl (v := v_73) E.1 E.2.1 d_Cursor_signed_26 ev_73.symm ?_
  refine lv_lor E.1 E.2.1 d_Cursor_signed_27 ?_
  refine lv_topl (fun v_74 ev_74 => ?_)
  refine lv_lstore_n (lv' := [(2, .long v_74), (5, .int r_71), (4, .int 0), (0, .ref h0), (1, .int 64)]) E.1 E.2.1 d_Cursor_signed_28 rfl hl (by decide) rfl (fun ls hl => ?_)
  refine lv_iload E.1 E.2.1 d_Cursor_signed_29 (lv_at hl 1 rfl) ?_
  refine lv_sipush (v := 128) E.1 E.2.1 d_Cursor_signed_31 (by decide) ?_
  refine lv_icmp_ge (tgt := 51) E.1 E.2.1 d_Cursor_signed_34 (by decide) (fun hc_75 => ?_) (fun hc_75 => ?_)
  ·
    refine lv_iinc (v := 7) (lv' := [(4, .int 7), (2, .long v_74), (5, .int r_71), (0, .ref h0), (1, .int 64)]) E.1 E.2.1 d_Cursor_signed_51 hl (k := 2) rfl (by decide) (by decide) rfl (fun ls hl => ?_)
    refine lv_goto (tgt := 5) E.1 E.2.1 d_Cursor_signed_54 (by decide) ?_
    refine lv_iload E.1 E.2.1 d_Cursor_signed_5 (lv_at hl 0 rfl) ?_
    refine lv_iload_n E.1 E.2.1 d_Cursor_signed_7 rfl (lv_at hl 4 rfl) ?_
    refine lv_icmp_ge (tgt := 57) E.1 E.2.1 d_Cursor_signed_8 (by decide) (fun hc => absurd hc (by decide)) (fun _ => ?_)
    refine lv_aload_n E.1 E.2.1 d_Cursor_signed_11 rfl (lv_at hl 3 rfl) ?_
    have hPc := hP.sub (ws' := [(h0, .inr (1, [.ref qb, .int ln, .int (nI a2_68), .int (nI b), .int ml2_69])), (qb, .inl (cB, 4000, .inl f))]) [0, 1] rfl
    have hDc := hD.sub (ws' := [(h0, .inr (1, [.ref qb, .int ln, .int (nI a2_68), .int (nI b), .int ml2_69])), (qb, .inl (cB, 4000, .inl f))]) [0, 1] (by decide) rfl
    have hFc := va_free (wc := [(h0, .inr (1, [.ref qb, .int ln, .int (nI a2_68), .int (nI b), .int ml2_69])), (qb, .inl (cB, 4000, .inl f))]) hD hS hA [0, 1] rfl
    refine x_ri (ws := [(h0, .inr (1, [.ref qb, .int ln, .int (nI a2_68), .int (nI b), .int ml2_69])), (qb, .inl (cB, 4000, .inl f))]) (wc := [(h0, .inr (1, [.ref qb, .int ln, .int (nI a2_68), .int (nI b), .int ml2_69])), (qb, .inl (cB, 4000, .inl f))]) (wr := []) (x_V (As := []) (C := "WasmReader$Cursor") E (c_Cursor_nextByte l D cB cI cJ cZ H.size h0 qb ln a2_68 b ml2_69 f (by omega) (by omega)) m_171 m_94 m_170 m_172 m_173 nm_Cursor_nextByte hPc hDc hZ hS hFc rfl rfl rfl hl.1 rfl (Nat.le_of_ble_eq_true rfl) d_Cursor_signed_12 rfl rfl (by decide) (by decide) (by decide) (by decide)) hP hD hS hA [0, 1] [] rfl rfl (by decide) (by decide) (fun r_81 u H locs hw hP hD hS => ?_)
    obtain ⟨a2_78, ml2_79, hf_76, hf_77, rfl⟩ := hw
    have hP : va_P D classes [(h0, .inr (1, [.ref qb, .int ln, .int (nI a2_78), .int (nI b), .int ml2_79])), (qb, .inl (cB, 4000, .inl f))] H := hP
    have hD : va_D (va_A [(h0, .inr (1, [.ref qb, .int ln, .int (nI a), .int (nI b), .int ml])), (qb, .inl (cB, 4000, .inl f))] s.heap.size) [(h0, .inr (1, [.ref qb, .int ln, .int (nI a2_78), .int (nI b), .int ml2_79])), (qb, .inl (cB, 4000, .inl f))] := hD
    refine lv_istore (lv' := [(5, .int r_81), (4, .int 7), (2, .long v_74), (0, .ref h0), (1, .int 64)]) E.1 E.2.1 d_Cursor_signed_15 hl (by decide) rfl (fun ls hl => ?_)
    refine lv_lload_n E.1 E.2.1 d_Cursor_signed_17 rfl (lv_at hl 2 rfl) ?_
    refine lv_iload E.1 E.2.1 d_Cursor_signed_18 (lv_at hl 0 rfl) ?_
    refine lv_bipush (v := 127) E.1 E.2.1 d_Cursor_signed_20 (by decide) ?_
    refine lv_iand E.1 E.2.1 d_Cursor_signed_22 ?_
    refine lv_topi (fun v_82 ev_82 => ?_)
    refine lv_i2l (v := (v_82 : Int32).toInt64) E.1 E.2.1 d_Cursor_signed_23 rfl ?_
    refine lv_iload E.1 E.2.1 d_Cursor_signed_24 (lv_at hl 1 rfl) ?_
    obtain ⟨v_83, ev_83⟩ : ∃ z : Int64, z = ((v_82 : Int32).toInt64) <<< ((7 : Int32).toInt64 &&& 63) := ⟨_, rfl⟩
    refine lv_lshl (v := v_83) E.1 E.2.1 d_Cursor_signed_26 ev_83.symm ?_
    refine lv_lor E.1 E.2.1 d_Cursor_signed_27 ?_
    refine lv_topl (fun v_84 ev_84 => ?_)
    refine lv_lstore_n (lv' := [(2, .long v_84), (5, .int r_81), (4, .int 7), (0, .ref h0), (1, .int 64)]) E.1 E.2.1 d_Cursor_signed_28 rfl hl (by decide) rfl (fun ls hl => ?_)
    refine lv_iload E.1 E.2.1 d_Cursor_signed_29 (lv_at hl 1 rfl) ?_
    refine lv_sipush (v := 128) E.1 E.2.1 d_Cursor_signed_31 (by decide) ?_
    refine lv_icmp_ge (tgt := 51) E.1 E.2.1 d_Cursor_signed_34 (by decide) (fun hc_85 => ?_) (fun hc_85 => ?_)
    ·
      refine lv_iinc (v := 14) (lv' := [(4, .int 14), (2, .long v_84), (5, .int r_81), (0, .ref h0), (1, .int 64)]) E.1 E.2.1 d_Cursor_signed_51 hl (k := 2) rfl (by decide) (by decide) rfl (fun ls hl => ?_)
      refine lv_goto (tgt := 5) E.1 E.2.1 d_Cursor_signed_54 (by decide) ?_
      refine lv_iload E.1 E.2.1 d_Cursor_signed_5 (lv_at hl 0 rfl) ?_
      refine lv_iload_n E.1 E.2.1 d_Cursor_signed_7 rfl (lv_at hl 4 rfl) ?_
      refine lv_icmp_ge (tgt := 57) E.1 E.2.1 d_Cursor_signed_8 (by decide) (fun hc => absurd hc (by decide)) (fun _ => ?_)
      refine lv_aload_n E.1 E.2.1 d_Cursor_signed_11 rfl (lv_at hl 3 rfl) ?_
      have hPc := hP.sub (ws' := [(h0, .inr (1, [.ref qb, .int ln, .int (nI a2_78), .int (nI b), .int ml2_79])), (qb, .inl (cB, 4000, .inl f))]) [0, 1] rfl
      have hDc := hD.sub (ws' := [(h0, .inr (1, [.ref qb, .int ln, .int (nI a2_78), .int (nI b), .int ml2_79])), (qb, .inl (cB, 4000, .inl f))]) [0, 1] (by decide) rfl
      have hFc := va_free (wc := [(h0, .inr (1, [.ref qb, .int ln, .int (nI a2_78), .int (nI b), .int ml2_79])), (qb, .inl (cB, 4000, .inl f))]) hD hS hA [0, 1] rfl
      refine x_ri (ws := [(h0, .inr (1, [.ref qb, .int ln, .int (nI a2_78), .int (nI b), .int ml2_79])), (qb, .inl (cB, 4000, .inl f))]) (wc := [(h0, .inr (1, [.ref qb, .int ln, .int (nI a2_78), .int (nI b), .int ml2_79])), (qb, .inl (cB, 4000, .inl f))]) (wr := []) (x_V (As := []) (C := "WasmReader$Cursor") E (c_Cursor_nextByte l D cB cI cJ cZ H.size h0 qb ln a2_78 b ml2_79 f (by omega) (by omega)) m_171 m_94 m_170 m_172 m_173 nm_Cursor_nextByte hPc hDc hZ hS hFc rfl rfl rfl hl.1 rfl (Nat.le_of_ble_eq_true rfl) d_Cursor_signed_12 rfl rfl (by decide) (by decide) (by decide) (by decide)) hP hD hS hA [0, 1] [] rfl rfl (by decide) (by decide) (fun r_91 u H locs hw hP hD hS => ?_)
      obtain ⟨a2_88, ml2_89, hf_86, hf_87, rfl⟩ := hw
      have hP : va_P D classes [(h0, .inr (1, [.ref qb, .int ln, .int (nI a2_88), .int (nI b), .int ml2_89])), (qb, .inl (cB, 4000, .inl f))] H := hP
      have hD : va_D (va_A [(h0, .inr (1, [.ref qb, .int ln, .int (nI a), .int (nI b), .int ml])), (qb, .inl (cB, 4000, .inl f))] s.heap.size) [(h0, .inr (1, [.ref qb, .int ln, .int (nI a2_88), .int (nI b), .int ml2_89])), (qb, .inl (cB, 4000, .inl f))] := hD
      refine lv_istore (lv' := [(5, .int r_91), (4, .int 14), (2, .long v_84), (0, .ref h0), (1, .int 64)]) E.1 E.2.1 d_Cursor_signed_15 hl (by decide) rfl (fun ls hl => ?_)
      refine lv_lload_n E.1 E.2.1 d_Cursor_signed_17 rfl (lv_at hl 2 rfl) ?_
      refine lv_iload E.1 E.2.1 d_Cursor_signed_18 (lv_at hl 0 rfl) ?_
      refine lv_bipush (v := 127) E.1 E.2.1 d_Cursor_signed_20 (by decide) ?_
      refine lv_iand E.1 E.2.1 d_Cursor_signed_22 ?_
      refine lv_topi (fun v_92 ev_92 => ?_)
      refine lv_i2l (v := (v_92 : Int32).toInt64) E.1 E.2.1 d_Cursor_signed_23 rfl ?_
      refine lv_iload E.1 E.2.1 d_Cursor_signed_24 (lv_at hl 1 rfl) ?_
      obtain ⟨v_93, ev_93⟩ : ∃ z : Int64, z = ((v_92 : Int32).toInt64) <<< ((14 : Int32).toInt64 &&& 63) := ⟨_, rfl⟩
      refine lv_lshl (v := v_93) E.1 E.2.1 d_Cursor_signed_26 ev_93.symm ?_
      refine lv_lor E.1 E.2.1 d_Cursor_signed_27 ?_
      refine lv_topl (fun v_94 ev_94 => ?_)
      refine lv_lstore_n (lv' := [(2, .long v_94), (5, .int r_91), (4, .int 14), (0, .ref h0), (1, .int 64)]) E.1 E.2.1 d_Cursor_signed_28 rfl hl (by decide) rfl (fun ls hl => ?_)
      refine lv_iload E.1 E.2.1 d_Cursor_signed_29 (lv_at hl 1 rfl) ?_
      refine lv_sipush (v := 128) E.1 E.2.1 d_Cursor_signed_31 (by decide) ?_
      refine lv_icmp_ge (tgt := 51) E.1 E.2.1 d_Cursor_signed_34 (by decide) (fun hc_95 => ?_) (fun hc_95 => ?_)
      ·
        refine lv_iinc (v := 21) (lv' := [(4, .int 21), (2, .long v_94), (5, .int r_91), (0, .ref h0), (1, .int 64)]) E.1 E.2.1 d_Cursor_signed_51 hl (k := 2) rfl (by decide) (by decide) rfl (fun ls hl => ?_)
        refine lv_goto (tgt := 5) E.1 E.2.1 d_Cursor_signed_54 (by decide) ?_
        refine lv_iload E.1 E.2.1 d_Cursor_signed_5 (lv_at hl 0 rfl) ?_
        refine lv_iload_n E.1 E.2.1 d_Cursor_signed_7 rfl (lv_at hl 4 rfl) ?_
        refine lv_icmp_ge (tgt := 57) E.1 E.2.1 d_Cursor_signed_8 (by decide) (fun hc => absurd hc (by decide)) (fun _ => ?_)
        refine lv_aload_n E.1 E.2.1 d_Cursor_signed_11 rfl (lv_at hl 3 rfl) ?_
        have hPc := hP.sub (ws' := [(h0, .inr (1, [.ref qb, .int ln, .int (nI a2_88), .int (nI b), .int ml2_89])), (qb, .inl (cB, 4000, .inl f))]) [0, 1] rfl
        have hDc := hD.sub (ws' := [(h0, .inr (1, [.ref qb, .int ln, .int (nI a2_88), .int (nI b), .int ml2_89])), (qb, .inl (cB, 4000, .inl f))]) [0, 1] (by decide) rfl
        have hFc := va_free (wc := [(h0, .inr (1, [.ref qb, .int ln, .int (nI a2_88), .int (nI b), .int ml2_89])), (qb, .inl (cB, 4000, .inl f))]) hD hS hA [0, 1] rfl
        refine x_ri (ws := [(h0, .inr (1, [.ref qb, .int ln, .int (nI a2_88), .int (nI b), .int ml2_89])), (qb, .inl (cB, 4000, .inl f))]) (wc := [(h0, .inr (1, [.ref qb, .int ln, .int (nI a2_88), .int (nI b), .int ml2_89])), (qb, .inl (cB, 4000, .inl f))]) (wr := []) (x_V (As := []) (C := "WasmReader$Cursor") E (c_Cursor_nextByte l D cB cI cJ cZ H.size h0 qb ln a2_88 b ml2_89 f (by omega) (by omega)) m_171 m_94 m_170 m_172 m_173 nm_Cursor_nextByte hPc hDc hZ hS hFc rfl rfl rfl hl.1 rfl (Nat.le_of_ble_eq_true rfl) d_Cursor_signed_12 rfl rfl (by decide) (by decide) (by decide) (by decide)) hP hD hS hA [0, 1] [] rfl rfl (by decide) (by decide) (fun r_101 u H locs hw hP hD hS => ?_)
        obtain ⟨a2_98, ml2_99, hf_96, hf_97, rfl⟩ := hw
        have hP : va_P D classes [(h0, .inr (1, [.ref qb, .int ln, .int (nI a2_98), .int (nI b), .int ml2_99])), (qb, .inl (cB, 4000, .inl f))] H := hP
        have hD : va_D (va_A [(h0, .inr (1, [.ref qb, .int ln, .int (nI a), .int (nI b), .int ml])), (qb, .inl (cB, 4000, .inl f))] s.heap.size) [(h0, .inr (1, [.ref qb, .int ln, .int (nI a2_98), .int (nI b), .int ml2_99])), (qb, .inl (cB, 4000, .inl f))] := hD
        refine lv_istore (lv' := [(5, .int r_101), (4, .int 21), (2, .long v_94), (0, .ref h0), (1, .int 64)]) E.1 E.2.1 d_Cursor_signed_15 hl (by decide) rfl (fun ls hl => ?_)
        refine lv_lload_n E.1 E.2.1 d_Cursor_signed_17 rfl (lv_at hl 2 rfl) ?_
        refine lv_iload E.1 E.2.1 d_Cursor_signed_18 (lv_at hl 0 rfl) ?_
        refine lv_bipush (v := 127) E.1 E.2.1 d_Cursor_signed_20 (by decide) ?_
        refine lv_iand E.1 E.2.1 d_Cursor_signed_22 ?_
        refine lv_topi (fun v_102 ev_102 => ?_)
        refine lv_i2l (v := (v_102 : Int32).toInt64) E.1 E.2.1 d_Cursor_signed_23 rfl ?_
        refine lv_iload E.1 E.2.1 d_Cursor_signed_24 (lv_at hl 1 rfl) ?_
        obtain ⟨v_103, ev_103⟩ : ∃ z : Int64, z = ((v_102 : Int32).toInt64) <<< ((21 : Int32).toInt64 &&& 63) := ⟨_, rfl⟩
        refine lv_lshl (v := v_103) E.1 E.2.1 d_Cursor_signed_26 ev_103.symm ?_
        refine lv_lor E.1 E.2.1 d_Cursor_signed_27 ?_
        refine lv_topl (fun v_104 ev_104 => ?_)
        refine lv_lstore_n (lv' := [(2, .long v_104), (5, .int r_101), (4, .int 21), (0, .ref h0), (1, .int 64)]) E.1 E.2.1 d_Cursor_signed_28 rfl hl (by decide) rfl (fun ls hl => ?_)
        refine lv_iload E.1 E.2.1 d_Cursor_signed_29 (lv_at hl 1 rfl) ?_
        refine lv_sipush (v := 128) E.1 E.2.1 d_Cursor_signed_31 (by decide) ?_
        refine lv_icmp_ge (tgt := 51) E.1 E.2.1 d_Cursor_signed_34 (by decide) (fun hc_105 => ?_) (fun hc_105 => ?_)
        ·
          refine lv_iinc (v := 28) (lv' := [(4, .int 28), (2, .long v_104), (5, .int r_101), (0, .ref h0), (1, .int 64)]) E.1 E.2.1 d_Cursor_signed_51 hl (k := 2) rfl (by decide) (by decide) rfl (fun ls hl => ?_)
          refine lv_goto (tgt := 5) E.1 E.2.1 d_Cursor_signed_54 (by decide) ?_
          refine lv_iload E.1 E.2.1 d_Cursor_signed_5 (lv_at hl 0 rfl) ?_
          refine lv_iload_n E.1 E.2.1 d_Cursor_signed_7 rfl (lv_at hl 4 rfl) ?_
          refine lv_icmp_ge (tgt := 57) E.1 E.2.1 d_Cursor_signed_8 (by decide) (fun hc => absurd hc (by decide)) (fun _ => ?_)
          refine lv_aload_n E.1 E.2.1 d_Cursor_signed_11 rfl (lv_at hl 3 rfl) ?_
          have hPc := hP.sub (ws' := [(h0, .inr (1, [.ref qb, .int ln, .int (nI a2_98), .int (nI b), .int ml2_99])), (qb, .inl (cB, 4000, .inl f))]) [0, 1] rfl
          have hDc := hD.sub (ws' := [(h0, .inr (1, [.ref qb, .int ln, .int (nI a2_98), .int (nI b), .int ml2_99])), (qb, .inl (cB, 4000, .inl f))]) [0, 1] (by decide) rfl
          have hFc := va_free (wc := [(h0, .inr (1, [.ref qb, .int ln, .int (nI a2_98), .int (nI b), .int ml2_99])), (qb, .inl (cB, 4000, .inl f))]) hD hS hA [0, 1] rfl
          refine x_ri (ws := [(h0, .inr (1, [.ref qb, .int ln, .int (nI a2_98), .int (nI b), .int ml2_99])), (qb, .inl (cB, 4000, .inl f))]) (wc := [(h0, .inr (1, [.ref qb, .int ln, .int (nI a2_98), .int (nI b), .int ml2_99])), (qb, .inl (cB, 4000, .inl f))]) (wr := []) (x_V (As := []) (C := "WasmReader$Cursor") E (c_Cursor_nextByte l D cB cI cJ cZ H.size h0 qb ln a2_98 b ml2_99 f (by omega) (by omega)) m_171 m_94 m_170 m_172 m_173 nm_Cursor_nextByte hPc hDc hZ hS hFc rfl rfl rfl hl.1 rfl (Nat.le_of_ble_eq_true rfl) d_Cursor_signed_12 rfl rfl (by decide) (by decide) (by decide) (by decide)) hP hD hS hA [0, 1] [] rfl rfl (by decide) (by decide) (fun r_111 u H locs hw hP hD hS => ?_)
          obtain ⟨a2_108, ml2_109, hf_106, hf_107, rfl⟩ := hw
          have hP : va_P D classes [(h0, .inr (1, [.ref qb, .int ln, .int (nI a2_108), .int (nI b), .int ml2_109])), (qb, .inl (cB, 4000, .inl f))] H := hP
          have hD : va_D (va_A [(h0, .inr (1, [.ref qb, .int ln, .int (nI a), .int (nI b), .int ml])), (qb, .inl (cB, 4000, .inl f))] s.heap.size) [(h0, .inr (1, [.ref qb, .int ln, .int (nI a2_108), .int (nI b), .int ml2_109])), (qb, .inl (cB, 4000, .inl f))] := hD
          refine lv_istore (lv' := [(5, .int r_111), (4, .int 28), (2, .long v_104), (0, .ref h0), (1, .int 64)]) E.1 E.2.1 d_Cursor_signed_15 hl (by decide) rfl (fun ls hl => ?_)
          refine lv_lload_n E.1 E.2.1 d_Cursor_signed_17 rfl (lv_at hl 2 rfl) ?_
          refine lv_iload E.1 E.2.1 d_Cursor_signed_18 (lv_at hl 0 rfl) ?_
          refine lv_bipush (v := 127) E.1 E.2.1 d_Cursor_signed_20 (by decide) ?_
          refine lv_iand E.1 E.2.1 d_Cursor_signed_22 ?_
          refine lv_topi (fun v_112 ev_112 => ?_)
          refine lv_i2l (v := (v_112 : Int32).toInt64) E.1 E.2.1 d_Cursor_signed_23 rfl ?_
          refine lv_iload E.1 E.2.1 d_Cursor_signed_24 (lv_at hl 1 rfl) ?_
          obtain ⟨v_113, ev_113⟩ : ∃ z : Int64, z = ((v_112 : Int32).toInt64) <<< ((28 : Int32).toInt64 &&& 63) := ⟨_, rfl⟩
          refine lv_lshl (v := v_113) E.1 E.2.1 d_Cursor_signed_26 ev_113.symm ?_
          refine lv_lor E.1 E.2.1 d_Cursor_signed_27 ?_
          refine lv_topl (fun v_114 ev_114 => ?_)
          refine lv_lstore_n (lv' := [(2, .long v_114), (5, .int r_111), (4, .int 28), (0, .ref h0), (1, .int 64)]) E.1 E.2.1 d_Cursor_signed_28 rfl hl (by decide) rfl (fun ls hl => ?_)
          refine lv_iload E.1 E.2.1 d_Cursor_signed_29 (lv_at hl 1 rfl) ?_
          refine lv_sipush (v := 128) E.1 E.2.1 d_Cursor_signed_31 (by decide) ?_
          refine lv_icmp_ge (tgt := 51) E.1 E.2.1 d_Cursor_signed_34 (by decide) (fun hc_115 => ?_) (fun hc_115 => ?_)
          ·
            refine lv_iinc (v := 35) (lv' := [(4, .int 35), (2, .long v_114), (5, .int r_111), (0, .ref h0), (1, .int 64)]) E.1 E.2.1 d_Cursor_signed_51 hl (k := 2) rfl (by decide) (by decide) rfl (fun ls hl => ?_)
            refine lv_goto (tgt := 5) E.1 E.2.1 d_Cursor_signed_54 (by decide) ?_
            refine lv_iload E.1 E.2.1 d_Cursor_signed_5 (lv_at hl 0 rfl) ?_
            refine lv_iload_n E.1 E.2.1 d_Cursor_signed_7 rfl (lv_at hl 4 rfl) ?_
            refine lv_icmp_ge (tgt := 57) E.1 E.2.1 d_Cursor_signed_8 (by decide) (fun hc => absurd hc (by decide)) (fun _ => ?_)
            refine lv_aload_n E.1 E.2.1 d_Cursor_signed_11 rfl (lv_at hl 3 rfl) ?_
            have hPc := hP.sub (ws' := [(h0, .inr (1, [.ref qb, .int ln, .int (nI a2_108), .int (nI b), .int ml2_109])), (qb, .inl (cB, 4000, .inl f))]) [0, 1] rfl
            have hDc := hD.sub (ws' := [(h0, .inr (1, [.ref qb, .int ln, .int (nI a2_108), .int (nI b), .int ml2_109])), (qb, .inl (cB, 4000, .inl f))]) [0, 1] (by decide) rfl
            have hFc := va_free (wc := [(h0, .inr (1, [.ref qb, .int ln, .int (nI a2_108), .int (nI b), .int ml2_109])), (qb, .inl (cB, 4000, .inl f))]) hD hS hA [0, 1] rfl
            refine x_ri (ws := [(h0, .inr (1, [.ref qb, .int ln, .int (nI a2_108), .int (nI b), .int ml2_109])), (qb, .inl (cB, 4000, .inl f))]) (wc := [(h0, .inr (1, [.ref qb, .int ln, .int (nI a2_108), .int (nI b), .int ml2_109])), (qb, .inl (cB, 4000, .inl f))]) (wr := []) (x_V (As := []) (C := "WasmReader$Cursor") E (c_Cursor_nextByte l D cB cI cJ cZ H.size h0 qb ln a2_108 b ml2_109 f (by omega) (by omega)) m_171 m_94 m_170 m_172 m_173 nm_Cursor_nextByte hPc hDc hZ hS hFc rfl rfl rfl hl.1 rfl (Nat.le_of_ble_eq_true rfl) d_Cursor_signed_12 rfl rfl (by decide) (by decide) (by decide) (by decide)) hP hD hS hA [0, 1] [] rfl rfl (by decide) (by decide) (fun r_121 u H locs hw hP hD hS => ?_)
            obtain ⟨a2_118, ml2_119, hf_116, hf_117, rfl⟩ := hw
            have hP : va_P D classes [(h0, .inr (1, [.ref qb, .int ln, .int (nI a2_118), .int (nI b), .int ml2_119])), (qb, .inl (cB, 4000, .inl f))] H := hP
            have hD : va_D (va_A [(h0, .inr (1, [.ref qb, .int ln, .int (nI a), .int (nI b), .int ml])), (qb, .inl (cB, 4000, .inl f))] s.heap.size) [(h0, .inr (1, [.ref qb, .int ln, .int (nI a2_118), .int (nI b), .int ml2_119])), (qb, .inl (cB, 4000, .inl f))] := hD
            refine lv_istore (lv' := [(5, .int r_121), (4, .int 35), (2, .long v_114), (0, .ref h0), (1, .int 64)]) E.1 E.2.1 d_Cursor_signed_15 hl (by decide) rfl (fun ls hl => ?_)
            refine lv_lload_n E.1 E.2.1 d_Cursor_signed_17 rfl (lv_at hl 2 rfl) ?_
            refine lv_iload E.1 E.2.1 d_Cursor_signed_18 (lv_at hl 0 rfl) ?_
            refine lv_bipush (v := 127) E.1 E.2.1 d_Cursor_signed_20 (by decide) ?_
            refine lv_iand E.1 E.2.1 d_Cursor_signed_22 ?_
            refine lv_topi (fun v_122 ev_122 => ?_)
            refine lv_i2l (v := (v_122 : Int32).toInt64) E.1 E.2.1 d_Cursor_signed_23 rfl ?_
            refine lv_iload E.1 E.2.1 d_Cursor_signed_24 (lv_at hl 1 rfl) ?_
            obtain ⟨v_123, ev_123⟩ : ∃ z : Int64, z = ((v_122 : Int32).toInt64) <<< ((35 : Int32).toInt64 &&& 63) := ⟨_, rfl⟩
            refine lv_lshl (v := v_123) E.1 E.2.1 d_Cursor_signed_26 ev_123.symm ?_
            refine lv_lor E.1 E.2.1 d_Cursor_signed_27 ?_
            refine lv_topl (fun v_124 ev_124 => ?_)
            refine lv_lstore_n (lv' := [(2, .long v_124), (5, .int r_121), (4, .int 35), (0, .ref h0), (1, .int 64)]) E.1 E.2.1 d_Cursor_signed_28 rfl hl (by decide) rfl (fun ls hl => ?_)
            refine lv_iload E.1 E.2.1 d_Cursor_signed_29 (lv_at hl 1 rfl) ?_
            refine lv_sipush (v := 128) E.1 E.2.1 d_Cursor_signed_31 (by decide) ?_
            refine lv_icmp_ge (tgt := 51) E.1 E.2.1 d_Cursor_signed_34 (by decide) (fun hc_125 => ?_) (fun hc_125 => ?_)
            ·
              refine lv_iinc (v := 42) (lv' := [(4, .int 42), (2, .long v_124), (5, .int r_121), (0, .ref h0), (1, .int 64)]) E.1 E.2.1 d_Cursor_signed_51 hl (k := 2) rfl (by decide) (by decide) rfl (fun ls hl => ?_)
              refine lv_goto (tgt := 5) E.1 E.2.1 d_Cursor_signed_54 (by decide) ?_
              refine lv_iload E.1 E.2.1 d_Cursor_signed_5 (lv_at hl 0 rfl) ?_
              refine lv_iload_n E.1 E.2.1 d_Cursor_signed_7 rfl (lv_at hl 4 rfl) ?_
              refine lv_icmp_ge (tgt := 57) E.1 E.2.1 d_Cursor_signed_8 (by decide) (fun hc => absurd hc (by decide)) (fun _ => ?_)
              refine lv_aload_n E.1 E.2.1 d_Cursor_signed_11 rfl (lv_at hl 3 rfl) ?_
              have hPc := hP.sub (ws' := [(h0, .inr (1, [.ref qb, .int ln, .int (nI a2_118), .int (nI b), .int ml2_119])), (qb, .inl (cB, 4000, .inl f))]) [0, 1] rfl
              have hDc := hD.sub (ws' := [(h0, .inr (1, [.ref qb, .int ln, .int (nI a2_118), .int (nI b), .int ml2_119])), (qb, .inl (cB, 4000, .inl f))]) [0, 1] (by decide) rfl
              have hFc := va_free (wc := [(h0, .inr (1, [.ref qb, .int ln, .int (nI a2_118), .int (nI b), .int ml2_119])), (qb, .inl (cB, 4000, .inl f))]) hD hS hA [0, 1] rfl
              refine x_ri (ws := [(h0, .inr (1, [.ref qb, .int ln, .int (nI a2_118), .int (nI b), .int ml2_119])), (qb, .inl (cB, 4000, .inl f))]) (wc := [(h0, .inr (1, [.ref qb, .int ln, .int (nI a2_118), .int (nI b), .int ml2_119])), (qb, .inl (cB, 4000, .inl f))]) (wr := []) (x_V (As := []) (C := "WasmReader$Cursor") E (c_Cursor_nextByte l D cB cI cJ cZ H.size h0 qb ln a2_118 b ml2_119 f (by omega) (by omega)) m_171 m_94 m_170 m_172 m_173 nm_Cursor_nextByte hPc hDc hZ hS hFc rfl rfl rfl hl.1 rfl (Nat.le_of_ble_eq_true rfl) d_Cursor_signed_12 rfl rfl (by decide) (by decide) (by decide) (by decide)) hP hD hS hA [0, 1] [] rfl rfl (by decide) (by decide) (fun r_131 u H locs hw hP hD hS => ?_)
              obtain ⟨a2_128, ml2_129, hf_126, hf_127, rfl⟩ := hw
              have hP : va_P D classes [(h0, .inr (1, [.ref qb, .int ln, .int (nI a2_128), .int (nI b), .int ml2_129])), (qb, .inl (cB, 4000, .inl f))] H := hP
              have hD : va_D (va_A [(h0, .inr (1, [.ref qb, .int ln, .int (nI a), .int (nI b), .int ml])), (qb, .inl (cB, 4000, .inl f))] s.heap.size) [(h0, .inr (1, [.ref qb, .int ln, .int (nI a2_128), .int (nI b), .int ml2_129])), (qb, .inl (cB, 4000, .inl f))] := hD
              refine lv_istore (lv' := [(5, .int r_131), (4, .int 42), (2, .long v_124), (0, .ref h0), (1, .int 64)]) E.1 E.2.1 d_Cursor_signed_15 hl (by decide) rfl (fun ls hl => ?_)
              refine lv_lload_n E.1 E.2.1 d_Cursor_signed_17 rfl (lv_at hl 2 rfl) ?_
              refine lv_iload E.1 E.2.1 d_Cursor_signed_18 (lv_at hl 0 rfl) ?_
              refine lv_bipush (v := 127) E.1 E.2.1 d_Cursor_signed_20 (by decide) ?_
              refine lv_iand E.1 E.2.1 d_Cursor_signed_22 ?_
              refine lv_topi (fun v_132 ev_132 => ?_)
              refine lv_i2l (v := (v_132 : Int32).toInt64) E.1 E.2.1 d_Cursor_signed_23 rfl ?_
              refine lv_iload E.1 E.2.1 d_Cursor_signed_24 (lv_at hl 1 rfl) ?_
              obtain ⟨v_133, ev_133⟩ : ∃ z : Int64, z = ((v_132 : Int32).toInt64) <<< ((42 : Int32).toInt64 &&& 63) := ⟨_, rfl⟩
              refine lv_lshl (v := v_133) E.1 E.2.1 d_Cursor_signed_26 ev_133.symm ?_
              refine lv_lor E.1 E.2.1 d_Cursor_signed_27 ?_
              refine lv_topl (fun v_134 ev_134 => ?_)
              refine lv_lstore_n (lv' := [(2, .long v_134), (5, .int r_131), (4, .int 42), (0, .ref h0), (1, .int 64)]) E.1 E.2.1 d_Cursor_signed_28 rfl hl (by decide) rfl (fun ls hl => ?_)
              refine lv_iload E.1 E.2.1 d_Cursor_signed_29 (lv_at hl 1 rfl) ?_
              refine lv_sipush (v := 128) E.1 E.2.1 d_Cursor_signed_31 (by decide) ?_
              refine lv_icmp_ge (tgt := 51) E.1 E.2.1 d_Cursor_signed_34 (by decide) (fun hc_135 => ?_) (fun hc_135 => ?_)
              ·
                refine lv_iinc (v := 49) (lv' := [(4, .int 49), (2, .long v_134), (5, .int r_131), (0, .ref h0), (1, .int 64)]) E.1 E.2.1 d_Cursor_signed_51 hl (k := 2) rfl (by decide) (by decide) rfl (fun ls hl => ?_)
                refine lv_goto (tgt := 5) E.1 E.2.1 d_Cursor_signed_54 (by decide) ?_
                refine lv_iload E.1 E.2.1 d_Cursor_signed_5 (lv_at hl 0 rfl) ?_
                refine lv_iload_n E.1 E.2.1 d_Cursor_signed_7 rfl (lv_at hl 4 rfl) ?_
                refine lv_icmp_ge (tgt := 57) E.1 E.2.1 d_Cursor_signed_8 (by decide) (fun hc => absurd hc (by decide)) (fun _ => ?_)
                refine lv_aload_n E.1 E.2.1 d_Cursor_signed_11 rfl (lv_at hl 3 rfl) ?_
                have hPc := hP.sub (ws' := [(h0, .inr (1, [.ref qb, .int ln, .int (nI a2_128), .int (nI b), .int ml2_129])), (qb, .inl (cB, 4000, .inl f))]) [0, 1] rfl
                have hDc := hD.sub (ws' := [(h0, .inr (1, [.ref qb, .int ln, .int (nI a2_128), .int (nI b), .int ml2_129])), (qb, .inl (cB, 4000, .inl f))]) [0, 1] (by decide) rfl
                have hFc := va_free (wc := [(h0, .inr (1, [.ref qb, .int ln, .int (nI a2_128), .int (nI b), .int ml2_129])), (qb, .inl (cB, 4000, .inl f))]) hD hS hA [0, 1] rfl
                refine x_ri (ws := [(h0, .inr (1, [.ref qb, .int ln, .int (nI a2_128), .int (nI b), .int ml2_129])), (qb, .inl (cB, 4000, .inl f))]) (wc := [(h0, .inr (1, [.ref qb, .int ln, .int (nI a2_128), .int (nI b), .int ml2_129])), (qb, .inl (cB, 4000, .inl f))]) (wr := []) (x_V (As := []) (C := "WasmReader$Cursor") E (c_Cursor_nextByte l D cB cI cJ cZ H.size h0 qb ln a2_128 b ml2_129 f (by omega) (by omega)) m_171 m_94 m_170 m_172 m_173 nm_Cursor_nextByte hPc hDc hZ hS hFc rfl rfl rfl hl.1 rfl (Nat.le_of_ble_eq_true rfl) d_Cursor_signed_12 rfl rfl (by decide) (by decide) (by decide) (by decide)) hP hD hS hA [0, 1] [] rfl rfl (by decide) (by decide) (fun r_141 u H locs hw hP hD hS => ?_)
                obtain ⟨a2_138, ml2_139, hf_136, hf_137, rfl⟩ := hw
                have hP : va_P D classes [(h0, .inr (1, [.ref qb, .int ln, .int (nI a2_138), .int (nI b), .int ml2_139])), (qb, .inl (cB, 4000, .inl f))] H := hP
                have hD : va_D (va_A [(h0, .inr (1, [.ref qb, .int ln, .int (nI a), .int (nI b), .int ml])), (qb, .inl (cB, 4000, .inl f))] s.heap.size) [(h0, .inr (1, [.ref qb, .int ln, .int (nI a2_138), .int (nI b), .int ml2_139])), (qb, .inl (cB, 4000, .inl f))] := hD
                refine lv_istore (lv' := [(5, .int r_141), (4, .int 49), (2, .long v_134), (0, .ref h0), (1, .int 64)]) E.1 E.2.1 d_Cursor_signed_15 hl (by decide) rfl (fun ls hl => ?_)
                refine lv_lload_n E.1 E.2.1 d_Cursor_signed_17 rfl (lv_at hl 2 rfl) ?_
                refine lv_iload E.1 E.2.1 d_Cursor_signed_18 (lv_at hl 0 rfl) ?_
                refine lv_bipush (v := 127) E.1 E.2.1 d_Cursor_signed_20 (by decide) ?_
                refine lv_iand E.1 E.2.1 d_Cursor_signed_22 ?_
                refine lv_topi (fun v_142 ev_142 => ?_)
                refine lv_i2l (v := (v_142 : Int32).toInt64) E.1 E.2.1 d_Cursor_signed_23 rfl ?_
                refine lv_iload E.1 E.2.1 d_Cursor_signed_24 (lv_at hl 1 rfl) ?_
                obtain ⟨v_143, ev_143⟩ : ∃ z : Int64, z = ((v_142 : Int32).toInt64) <<< ((49 : Int32).toInt64 &&& 63) := ⟨_, rfl⟩
                refine lv_lshl (v := v_143) E.1 E.2.1 d_Cursor_signed_26 ev_143.symm ?_
                refine lv_lor E.1 E.2.1 d_Cursor_signed_27 ?_
                refine lv_topl (fun v_144 ev_144 => ?_)
                refine lv_lstore_n (lv' := [(2, .long v_144), (5, .int r_141), (4, .int 49), (0, .ref h0), (1, .int 64)]) E.1 E.2.1 d_Cursor_signed_28 rfl hl (by decide) rfl (fun ls hl => ?_)
                refine lv_iload E.1 E.2.1 d_Cursor_signed_29 (lv_at hl 1 rfl) ?_
                refine lv_sipush (v := 128) E.1 E.2.1 d_Cursor_signed_31 (by decide) ?_
                refine lv_icmp_ge (tgt := 51) E.1 E.2.1 d_Cursor_signed_34 (by decide) (fun hc_145 => ?_) (fun hc_145 => ?_)
                ·
                  refine lv_iinc (v := 56) (lv' := [(4, .int 56), (2, .long v_144), (5, .int r_141), (0, .ref h0), (1, .int 64)]) E.1 E.2.1 d_Cursor_signed_51 hl (k := 2) rfl (by decide) (by decide) rfl (fun ls hl => ?_)
                  refine lv_goto (tgt := 5) E.1 E.2.1 d_Cursor_signed_54 (by decide) ?_
                  refine lv_iload E.1 E.2.1 d_Cursor_signed_5 (lv_at hl 0 rfl) ?_
                  refine lv_iload_n E.1 E.2.1 d_Cursor_signed_7 rfl (lv_at hl 4 rfl) ?_
                  refine lv_icmp_ge (tgt := 57) E.1 E.2.1 d_Cursor_signed_8 (by decide) (fun hc => absurd hc (by decide)) (fun _ => ?_)
                  refine lv_aload_n E.1 E.2.1 d_Cursor_signed_11 rfl (lv_at hl 3 rfl) ?_
                  have hPc := hP.sub (ws' := [(h0, .inr (1, [.ref qb, .int ln, .int (nI a2_138), .int (nI b), .int ml2_139])), (qb, .inl (cB, 4000, .inl f))]) [0, 1] rfl
                  have hDc := hD.sub (ws' := [(h0, .inr (1, [.ref qb, .int ln, .int (nI a2_138), .int (nI b), .int ml2_139])), (qb, .inl (cB, 4000, .inl f))]) [0, 1] (by decide) rfl
                  have hFc := va_free (wc := [(h0, .inr (1, [.ref qb, .int ln, .int (nI a2_138), .int (nI b), .int ml2_139])), (qb, .inl (cB, 4000, .inl f))]) hD hS hA [0, 1] rfl
                  refine x_ri (ws := [(h0, .inr (1, [.ref qb, .int ln, .int (nI a2_138), .int (nI b), .int ml2_139])), (qb, .inl (cB, 4000, .inl f))]) (wc := [(h0, .inr (1, [.ref qb, .int ln, .int (nI a2_138), .int (nI b), .int ml2_139])), (qb, .inl (cB, 4000, .inl f))]) (wr := []) (x_V (As := []) (C := "WasmReader$Cursor") E (c_Cursor_nextByte l D cB cI cJ cZ H.size h0 qb ln a2_138 b ml2_139 f (by omega) (by omega)) m_171 m_94 m_170 m_172 m_173 nm_Cursor_nextByte hPc hDc hZ hS hFc rfl rfl rfl hl.1 rfl (Nat.le_of_ble_eq_true rfl) d_Cursor_signed_12 rfl rfl (by decide) (by decide) (by decide) (by decide)) hP hD hS hA [0, 1] [] rfl rfl (by decide) (by decide) (fun r_151 u H locs hw hP hD hS => ?_)
                  obtain ⟨a2_148, ml2_149, hf_146, hf_147, rfl⟩ := hw
                  have hP : va_P D classes [(h0, .inr (1, [.ref qb, .int ln, .int (nI a2_148), .int (nI b), .int ml2_149])), (qb, .inl (cB, 4000, .inl f))] H := hP
                  have hD : va_D (va_A [(h0, .inr (1, [.ref qb, .int ln, .int (nI a), .int (nI b), .int ml])), (qb, .inl (cB, 4000, .inl f))] s.heap.size) [(h0, .inr (1, [.ref qb, .int ln, .int (nI a2_148), .int (nI b), .int ml2_149])), (qb, .inl (cB, 4000, .inl f))] := hD
                  refine lv_istore (lv' := [(5, .int r_151), (4, .int 56), (2, .long v_144), (0, .ref h0), (1, .int 64)]) E.1 E.2.1 d_Cursor_signed_15 hl (by decide) rfl (fun ls hl => ?_)
                  refine lv_lload_n E.1 E.2.1 d_Cursor_signed_17 rfl (lv_at hl 2 rfl) ?_
                  refine lv_iload E.1 E.2.1 d_Cursor_signed_18 (lv_at hl 0 rfl) ?_
                  refine lv_bipush (v := 127) E.1 E.2.1 d_Cursor_signed_20 (by decide) ?_
                  refine lv_iand E.1 E.2.1 d_Cursor_signed_22 ?_
                  refine lv_topi (fun v_152 ev_152 => ?_)
                  refine lv_i2l (v := (v_152 : Int32).toInt64) E.1 E.2.1 d_Cursor_signed_23 rfl ?_
                  refine lv_iload E.1 E.2.1 d_Cursor_signed_24 (lv_at hl 1 rfl) ?_
                  obtain ⟨v_153, ev_153⟩ : ∃ z : Int64, z = ((v_152 : Int32).toInt64) <<< ((56 : Int32).toInt64 &&& 63) := ⟨_, rfl⟩
                  refine lv_lshl (v := v_153) E.1 E.2.1 d_Cursor_signed_26 ev_153.symm ?_
                  refine lv_lor E.1 E.2.1 d_Cursor_signed_27 ?_
                  refine lv_topl (fun v_154 ev_154 => ?_)
                  refine lv_lstore_n (lv' := [(2, .long v_154), (5, .int r_151), (4, .int 56), (0, .ref h0), (1, .int 64)]) E.1 E.2.1 d_Cursor_signed_28 rfl hl (by decide) rfl (fun ls hl => ?_)
                  refine lv_iload E.1 E.2.1 d_Cursor_signed_29 (lv_at hl 1 rfl) ?_
                  refine lv_sipush (v := 128) E.1 E.2.1 d_Cursor_signed_31 (by decide) ?_
                  refine lv_icmp_ge (tgt := 51) E.1 E.2.1 d_Cursor_signed_34 (by decide) (fun hc_155 => ?_) (fun hc_155 => ?_)
                  ·
                    refine lv_iinc (v := 63) (lv' := [(4, .int 63), (2, .long v_154), (5, .int r_151), (0, .ref h0), (1, .int 64)]) E.1 E.2.1 d_Cursor_signed_51 hl (k := 2) rfl (by decide) (by decide) rfl (fun ls hl => ?_)
                    refine lv_goto (tgt := 5) E.1 E.2.1 d_Cursor_signed_54 (by decide) ?_
                    refine lv_iload E.1 E.2.1 d_Cursor_signed_5 (lv_at hl 0 rfl) ?_
                    refine lv_iload_n E.1 E.2.1 d_Cursor_signed_7 rfl (lv_at hl 4 rfl) ?_
                    refine lv_icmp_ge (tgt := 57) E.1 E.2.1 d_Cursor_signed_8 (by decide) (fun hc => absurd hc (by decide)) (fun _ => ?_)
                    refine lv_aload_n E.1 E.2.1 d_Cursor_signed_11 rfl (lv_at hl 3 rfl) ?_
                    have hPc := hP.sub (ws' := [(h0, .inr (1, [.ref qb, .int ln, .int (nI a2_148), .int (nI b), .int ml2_149])), (qb, .inl (cB, 4000, .inl f))]) [0, 1] rfl
                    have hDc := hD.sub (ws' := [(h0, .inr (1, [.ref qb, .int ln, .int (nI a2_148), .int (nI b), .int ml2_149])), (qb, .inl (cB, 4000, .inl f))]) [0, 1] (by decide) rfl
                    have hFc := va_free (wc := [(h0, .inr (1, [.ref qb, .int ln, .int (nI a2_148), .int (nI b), .int ml2_149])), (qb, .inl (cB, 4000, .inl f))]) hD hS hA [0, 1] rfl
                    refine x_ri (ws := [(h0, .inr (1, [.ref qb, .int ln, .int (nI a2_148), .int (nI b), .int ml2_149])), (qb, .inl (cB, 4000, .inl f))]) (wc := [(h0, .inr (1, [.ref qb, .int ln, .int (nI a2_148), .int (nI b), .int ml2_149])), (qb, .inl (cB, 4000, .inl f))]) (wr := []) (x_V (As := []) (C := "WasmReader$Cursor") E (c_Cursor_nextByte l D cB cI cJ cZ H.size h0 qb ln a2_148 b ml2_149 f (by omega) (by omega)) m_171 m_94 m_170 m_172 m_173 nm_Cursor_nextByte hPc hDc hZ hS hFc rfl rfl rfl hl.1 rfl (Nat.le_of_ble_eq_true rfl) d_Cursor_signed_12 rfl rfl (by decide) (by decide) (by decide) (by decide)) hP hD hS hA [0, 1] [] rfl rfl (by decide) (by decide) (fun r_161 u H locs hw hP hD hS => ?_)
                    obtain ⟨a2_158, ml2_159, hf_156, hf_157, rfl⟩ := hw
                    have hP : va_P D classes [(h0, .inr (1, [.ref qb, .int ln, .int (nI a2_158), .int (nI b), .int ml2_159])), (qb, .inl (cB, 4000, .inl f))] H := hP
                    have hD : va_D (va_A [(h0, .inr (1, [.ref qb, .int ln, .int (nI a), .int (nI b), .int ml])), (qb, .inl (cB, 4000, .inl f))] s.heap.size) [(h0, .inr (1, [.ref qb, .int ln, .int (nI a2_158), .int (nI b), .int ml2_159])), (qb, .inl (cB, 4000, .inl f))] := hD
                    refine lv_istore (lv' := [(5, .int r_161), (4, .int 63), (2, .long v_154), (0, .ref h0), (1, .int 64)]) E.1 E.2.1 d_Cursor_signed_15 hl (by decide) rfl (fun ls hl => ?_)
                    refine lv_lload_n E.1 E.2.1 d_Cursor_signed_17 rfl (lv_at hl 2 rfl) ?_
                    refine lv_iload E.1 E.2.1 d_Cursor_signed_18 (lv_at hl 0 rfl) ?_
                    refine lv_bipush (v := 127) E.1 E.2.1 d_Cursor_signed_20 (by decide) ?_
                    refine lv_iand E.1 E.2.1 d_Cursor_signed_22 ?_
                    refine lv_topi (fun v_162 ev_162 => ?_)
                    refine lv_i2l (v := (v_162 : Int32).toInt64) E.1 E.2.1 d_Cursor_signed_23 rfl ?_
                    refine lv_iload E.1 E.2.1 d_Cursor_signed_24 (lv_at hl 1 rfl) ?_
                    obtain ⟨v_163, ev_163⟩ : ∃ z : Int64, z = ((v_162 : Int32).toInt64) <<< ((63 : Int32).toInt64 &&& 63) := ⟨_, rfl⟩
                    refine lv_lshl (v := v_163) E.1 E.2.1 d_Cursor_signed_26 ev_163.symm ?_
                    refine lv_lor E.1 E.2.1 d_Cursor_signed_27 ?_
                    refine lv_topl (fun v_164 ev_164 => ?_)
                    refine lv_lstore_n (lv' := [(2, .long v_164), (5, .int r_161), (4, .int 63), (0, .ref h0), (1, .int 64)]) E.1 E.2.1 d_Cursor_signed_28 rfl hl (by decide) rfl (fun ls hl => ?_)
                    refine lv_iload E.1 E.2.1 d_Cursor_signed_29 (lv_at hl 1 rfl) ?_
                    refine lv_sipush (v := 128) E.1 E.2.1 d_Cursor_signed_31 (by decide) ?_
                    refine lv_icmp_ge (tgt := 51) E.1 E.2.1 d_Cursor_signed_34 (by decide) (fun hc_165 => ?_) (fun hc_165 => ?_)
                    ·
                      refine lv_iinc (v := 70) (lv' := [(4, .int 70), (2, .long v_164), (5, .int r_161), (0, .ref h0), (1, .int 64)]) E.1 E.2.1 d_Cursor_signed_51 hl (k := 2) rfl (by decide) (by decide) rfl (fun ls hl => ?_)
                      refine lv_goto (tgt := 5) E.1 E.2.1 d_Cursor_signed_54 (by decide) ?_
                      refine lv_iload E.1 E.2.1 d_Cursor_signed_5 (lv_at hl 0 rfl) ?_
                      refine lv_iload_n E.1 E.2.1 d_Cursor_signed_7 rfl (lv_at hl 4 rfl) ?_
                      refine lv_icmp_ge (tgt := 57) E.1 E.2.1 d_Cursor_signed_8 (by decide) (fun _ => ?_) (fun hc => absurd (by decide) hc)
                      refine lv_aload_n E.1 E.2.1 d_Cursor_signed_57 rfl (lv_at hl 3 rfl) ?_
                      have hPc := hP.sub (ws' := [(h0, .inr (1, [.ref qb, .int ln, .int (nI a2_158), .int (nI b), .int ml2_159]))]) [0] rfl
                      have hDc := hD.sub (ws' := [(h0, .inr (1, [.ref qb, .int ln, .int (nI a2_158), .int (nI b), .int ml2_159]))]) [0] (by decide) rfl
                      have hFc := va_free (wc := [(h0, .inr (1, [.ref qb, .int ln, .int (nI a2_158), .int (nI b), .int ml2_159]))]) hD hS hA [0] rfl
                      refine x_rv (ws := [(h0, .inr (1, [.ref qb, .int ln, .int (nI a2_158), .int (nI b), .int ml2_159])), (qb, .inl (cB, 4000, .inl f))]) (wc := [(h0, .inr (1, [.ref qb, .int ln, .int (nI a2_158), .int (nI b), .int ml2_159]))]) (wr := [(qb, .inl (cB, 4000, .inl f))]) (x_V (As := []) (C := "WasmReader$Cursor") E (c_Cursor_fail l D cB cI cJ cZ H.size h0 qb ln (nI a2_158) (nI b) ml2_159 ) m_175 m_94 m_174 m_176 m_177 nm_Cursor_fail hPc hDc hZ hS hFc rfl rfl rfl hl.1 rfl (Nat.le_of_ble_eq_true rfl) d_Cursor_signed_58 rfl rfl (by decide) (by decide) (by decide) (by decide)) hP hD hS hA [0] [1] rfl rfl (by decide) (by decide) (fun u H locs hw hP hD hS => ?_)
                      obtain rfl := hw
                      have hP : va_P D classes [(qb, .inl (cB, 4000, .inl f)), (h0, .inr (1, [.ref qb, .int ln, .int (nI a2_158), .int (nI b), .int 1]))] H := hP
                      have hD : va_D (va_A [(h0, .inr (1, [.ref qb, .int ln, .int (nI a), .int (nI b), .int ml])), (qb, .inl (cB, 4000, .inl f))] s.heap.size) [(qb, .inl (cB, 4000, .inl f)), (h0, .inr (1, [.ref qb, .int ln, .int (nI a2_158), .int (nI b), .int 1]))] := hD
                      refine lv_lconst (v := 0) E.1 E.2.1 d_Cursor_signed_61 (by decide) ?_
                      refine W.widen (k := 0) (n := 0) (by decide) (by decide) ?_
                      exact x_lret (ws := [(h0, .inr (1, [.ref qb, .int ln, .int (nI a2_158), .int (nI b), .int 1])), (qb, .inl (cB, 4000, .inl f))]) E hr hlocks (hP.sub [1, 0] rfl) (hD.sub [1, 0] (by decide) rfl) hS ⟨a2_158, 1, (by omega), (by omega), rfl⟩ d_Cursor_signed_62
                    ·
                      refine lv_aload_n E.1 E.2.1 d_Cursor_signed_37 rfl (lv_at hl 3 rfl) ?_
                      refine lv_lload_n E.1 E.2.1 d_Cursor_signed_38 rfl (lv_at hl 0 rfl) ?_
                      refine lv_iload E.1 E.2.1 d_Cursor_signed_39 (lv_at hl 2 rfl) ?_
                      refine lv_bipush (v := 7) E.1 E.2.1 d_Cursor_signed_41 (by decide) ?_
                      refine lv_iadd E.1 E.2.1 d_Cursor_signed_43 ?_
                      refine lv_topi (fun vt_166 evt_166 => ?_)
                      obtain rfl : vt_166 = 70 := evt_166.trans (by decide)
                      refine lv_iload_n E.1 E.2.1 d_Cursor_signed_44 rfl (lv_at hl 4 rfl) ?_
                      refine lv_iload E.1 E.2.1 d_Cursor_signed_45 (lv_at hl 1 rfl) ?_
                      have hPc := hP.sub (ws' := [(h0, .inr (1, [.ref qb, .int ln, .int (nI a2_158), .int (nI b), .int ml2_159]))]) [0] rfl
                      have hDc := hD.sub (ws' := [(h0, .inr (1, [.ref qb, .int ln, .int (nI a2_158), .int (nI b), .int ml2_159]))]) [0] (by decide) rfl
                      have hFc := va_free (wc := [(h0, .inr (1, [.ref qb, .int ln, .int (nI a2_158), .int (nI b), .int ml2_159]))]) hD hS hA [0] rfl
                      refine x_rl (ws := [(h0, .inr (1, [.ref qb, .int ln, .int (nI a2_158), .int (nI b), .int ml2_159])), (qb, .inl (cB, 4000, .inl f))]) (wc := [(h0, .inr (1, [.ref qb, .int ln, .int (nI a2_158), .int (nI b), .int ml2_159]))]) (wr := [(qb, .inl (cB, 4000, .inl f))]) (x_V (As := [.long v_164, .int 70, .int 64, .int r_161]) (C := "WasmReader$Cursor") E (c_Cursor_withSign l D cB cI cJ cZ H.size h0 qb ln (nI a2_158) (nI b) ml2_159 v_164 70 64 r_161 ) m_242 m_94 m_241 m_243 m_244 nm_Cursor_withSign hPc hDc hZ hS hFc rfl rfl rfl hl.1 rfl (Nat.le_of_ble_eq_true rfl) d_Cursor_signed_47 rfl rfl (by decide) (by decide) (by decide) (by decide)) hP hD hS hA [0] [1] rfl rfl (by decide) (by decide) (fun r_168 u H locs hw hP hD hS => ?_)
                      obtain ⟨ml2_167, rfl⟩ := hw
                      have hP : va_P D classes [(qb, .inl (cB, 4000, .inl f)), (h0, .inr (1, [.ref qb, .int ln, .int (nI a2_158), .int (nI b), .int ml2_167]))] H := hP
                      have hD : va_D (va_A [(h0, .inr (1, [.ref qb, .int ln, .int (nI a), .int (nI b), .int ml])), (qb, .inl (cB, 4000, .inl f))] s.heap.size) [(qb, .inl (cB, 4000, .inl f)), (h0, .inr (1, [.ref qb, .int ln, .int (nI a2_158), .int (nI b), .int ml2_167]))] := hD
                      refine W.widen (k := 0) (n := 0) (by decide) (by decide) ?_
                      exact x_lret (ws := [(h0, .inr (1, [.ref qb, .int ln, .int (nI a2_158), .int (nI b), .int ml2_167])), (qb, .inl (cB, 4000, .inl f))]) E hr hlocks (hP.sub [1, 0] rfl) (hD.sub [1, 0] (by decide) rfl) hS ⟨a2_158, ml2_167, (by omega), (by omega), rfl⟩ d_Cursor_signed_50
                  ·
                    refine lv_aload_n E.1 E.2.1 d_Cursor_signed_37 rfl (lv_at hl 3 rfl) ?_
                    refine lv_lload_n E.1 E.2.1 d_Cursor_signed_38 rfl (lv_at hl 0 rfl) ?_
                    refine lv_iload E.1 E.2.1 d_Cursor_signed_39 (lv_at hl 2 rfl) ?_
                    refine lv_bipush (v := 7) E.1 E.2.1 d_Cursor_signed_41 (by decide) ?_
                    refine lv_iadd E.1 E.2.1 d_Cursor_signed_43 ?_
                    refine lv_topi (fun vt_169 evt_169 => ?_)
                    obtain rfl : vt_169 = 63 := evt_169.trans (by decide)
                    refine lv_iload_n E.1 E.2.1 d_Cursor_signed_44 rfl (lv_at hl 4 rfl) ?_
                    refine lv_iload E.1 E.2.1 d_Cursor_signed_45 (lv_at hl 1 rfl) ?_
                    have hPc := hP.sub (ws' := [(h0, .inr (1, [.ref qb, .int ln, .int (nI a2_148), .int (nI b), .int ml2_149]))]) [0] rfl
                    have hDc := hD.sub (ws' := [(h0, .inr (1, [.ref qb, .int ln, .int (nI a2_148), .int (nI b), .int ml2_149]))]) [0] (by decide) rfl
                    have hFc := va_free (wc := [(h0, .inr (1, [.ref qb, .int ln, .int (nI a2_148), .int (nI b), .int ml2_149]))]) hD hS hA [0] rfl
                    refine x_rl (ws := [(h0, .inr (1, [.ref qb, .int ln, .int (nI a2_148), .int (nI b), .int ml2_149])), (qb, .inl (cB, 4000, .inl f))]) (wc := [(h0, .inr (1, [.ref qb, .int ln, .int (nI a2_148), .int (nI b), .int ml2_149]))]) (wr := [(qb, .inl (cB, 4000, .inl f))]) (x_V (As := [.long v_154, .int 63, .int 64, .int r_151]) (C := "WasmReader$Cursor") E (c_Cursor_withSign l D cB cI cJ cZ H.size h0 qb ln (nI a2_148) (nI b) ml2_149 v_154 63 64 r_151 ) m_242 m_94 m_241 m_243 m_244 nm_Cursor_withSign hPc hDc hZ hS hFc rfl rfl rfl hl.1 rfl (Nat.le_of_ble_eq_true rfl) d_Cursor_signed_47 rfl rfl (by decide) (by decide) (by decide) (by decide)) hP hD hS hA [0] [1] rfl rfl (by decide) (by decide) (fun r_171 u H locs hw hP hD hS => ?_)
                    obtain ⟨ml2_170, rfl⟩ := hw
                    have hP : va_P D classes [(qb, .inl (cB, 4000, .inl f)), (h0, .inr (1, [.ref qb, .int ln, .int (nI a2_148), .int (nI b), .int ml2_170]))] H := hP
                    have hD : va_D (va_A [(h0, .inr (1, [.ref qb, .int ln, .int (nI a), .int (nI b), .int ml])), (qb, .inl (cB, 4000, .inl f))] s.heap.size) [(qb, .inl (cB, 4000, .inl f)), (h0, .inr (1, [.ref qb, .int ln, .int (nI a2_148), .int (nI b), .int ml2_170]))] := hD
                    refine W.widen (k := 0) (n := 0) (by decide) (by decide) ?_
                    exact x_lret (ws := [(h0, .inr (1, [.ref qb, .int ln, .int (nI a2_148), .int (nI b), .int ml2_170])), (qb, .inl (cB, 4000, .inl f))]) E hr hlocks (hP.sub [1, 0] rfl) (hD.sub [1, 0] (by decide) rfl) hS ⟨a2_148, ml2_170, (by omega), (by omega), rfl⟩ d_Cursor_signed_50
                ·
                  refine lv_aload_n E.1 E.2.1 d_Cursor_signed_37 rfl (lv_at hl 3 rfl) ?_
                  refine lv_lload_n E.1 E.2.1 d_Cursor_signed_38 rfl (lv_at hl 0 rfl) ?_
                  refine lv_iload E.1 E.2.1 d_Cursor_signed_39 (lv_at hl 2 rfl) ?_
                  refine lv_bipush (v := 7) E.1 E.2.1 d_Cursor_signed_41 (by decide) ?_
                  refine lv_iadd E.1 E.2.1 d_Cursor_signed_43 ?_
                  refine lv_topi (fun vt_172 evt_172 => ?_)
                  obtain rfl : vt_172 = 56 := evt_172.trans (by decide)
                  refine lv_iload_n E.1 E.2.1 d_Cursor_signed_44 rfl (lv_at hl 4 rfl) ?_
                  refine lv_iload E.1 E.2.1 d_Cursor_signed_45 (lv_at hl 1 rfl) ?_
                  have hPc := hP.sub (ws' := [(h0, .inr (1, [.ref qb, .int ln, .int (nI a2_138), .int (nI b), .int ml2_139]))]) [0] rfl
                  have hDc := hD.sub (ws' := [(h0, .inr (1, [.ref qb, .int ln, .int (nI a2_138), .int (nI b), .int ml2_139]))]) [0] (by decide) rfl
                  have hFc := va_free (wc := [(h0, .inr (1, [.ref qb, .int ln, .int (nI a2_138), .int (nI b), .int ml2_139]))]) hD hS hA [0] rfl
                  refine x_rl (ws := [(h0, .inr (1, [.ref qb, .int ln, .int (nI a2_138), .int (nI b), .int ml2_139])), (qb, .inl (cB, 4000, .inl f))]) (wc := [(h0, .inr (1, [.ref qb, .int ln, .int (nI a2_138), .int (nI b), .int ml2_139]))]) (wr := [(qb, .inl (cB, 4000, .inl f))]) (x_V (As := [.long v_144, .int 56, .int 64, .int r_141]) (C := "WasmReader$Cursor") E (c_Cursor_withSign l D cB cI cJ cZ H.size h0 qb ln (nI a2_138) (nI b) ml2_139 v_144 56 64 r_141 ) m_242 m_94 m_241 m_243 m_244 nm_Cursor_withSign hPc hDc hZ hS hFc rfl rfl rfl hl.1 rfl (Nat.le_of_ble_eq_true rfl) d_Cursor_signed_47 rfl rfl (by decide) (by decide) (by decide) (by decide)) hP hD hS hA [0] [1] rfl rfl (by decide) (by decide) (fun r_174 u H locs hw hP hD hS => ?_)
                  obtain ⟨ml2_173, rfl⟩ := hw
                  have hP : va_P D classes [(qb, .inl (cB, 4000, .inl f)), (h0, .inr (1, [.ref qb, .int ln, .int (nI a2_138), .int (nI b), .int ml2_173]))] H := hP
                  have hD : va_D (va_A [(h0, .inr (1, [.ref qb, .int ln, .int (nI a), .int (nI b), .int ml])), (qb, .inl (cB, 4000, .inl f))] s.heap.size) [(qb, .inl (cB, 4000, .inl f)), (h0, .inr (1, [.ref qb, .int ln, .int (nI a2_138), .int (nI b), .int ml2_173]))] := hD
                  refine W.widen (k := 0) (n := 0) (by decide) (by decide) ?_
                  exact x_lret (ws := [(h0, .inr (1, [.ref qb, .int ln, .int (nI a2_138), .int (nI b), .int ml2_173])), (qb, .inl (cB, 4000, .inl f))]) E hr hlocks (hP.sub [1, 0] rfl) (hD.sub [1, 0] (by decide) rfl) hS ⟨a2_138, ml2_173, (by omega), (by omega), rfl⟩ d_Cursor_signed_50
              ·
                refine lv_aload_n E.1 E.2.1 d_Cursor_signed_37 rfl (lv_at hl 3 rfl) ?_
                refine lv_lload_n E.1 E.2.1 d_Cursor_signed_38 rfl (lv_at hl 0 rfl) ?_
                refine lv_iload E.1 E.2.1 d_Cursor_signed_39 (lv_at hl 2 rfl) ?_
                refine lv_bipush (v := 7) E.1 E.2.1 d_Cursor_signed_41 (by decide) ?_
                refine lv_iadd E.1 E.2.1 d_Cursor_signed_43 ?_
                refine lv_topi (fun vt_175 evt_175 => ?_)
                obtain rfl : vt_175 = 49 := evt_175.trans (by decide)
                refine lv_iload_n E.1 E.2.1 d_Cursor_signed_44 rfl (lv_at hl 4 rfl) ?_
                refine lv_iload E.1 E.2.1 d_Cursor_signed_45 (lv_at hl 1 rfl) ?_
                have hPc := hP.sub (ws' := [(h0, .inr (1, [.ref qb, .int ln, .int (nI a2_128), .int (nI b), .int ml2_129]))]) [0] rfl
                have hDc := hD.sub (ws' := [(h0, .inr (1, [.ref qb, .int ln, .int (nI a2_128), .int (nI b), .int ml2_129]))]) [0] (by decide) rfl
                have hFc := va_free (wc := [(h0, .inr (1, [.ref qb, .int ln, .int (nI a2_128), .int (nI b), .int ml2_129]))]) hD hS hA [0] rfl
                refine x_rl (ws := [(h0, .inr (1, [.ref qb, .int ln, .int (nI a2_128), .int (nI b), .int ml2_129])), (qb, .inl (cB, 4000, .inl f))]) (wc := [(h0, .inr (1, [.ref qb, .int ln, .int (nI a2_128), .int (nI b), .int ml2_129]))]) (wr := [(qb, .inl (cB, 4000, .inl f))]) (x_V (As := [.long v_134, .int 49, .int 64, .int r_131]) (C := "WasmReader$Cursor") E (c_Cursor_withSign l D cB cI cJ cZ H.size h0 qb ln (nI a2_128) (nI b) ml2_129 v_134 49 64 r_131 ) m_242 m_94 m_241 m_243 m_244 nm_Cursor_withSign hPc hDc hZ hS hFc rfl rfl rfl hl.1 rfl (Nat.le_of_ble_eq_true rfl) d_Cursor_signed_47 rfl rfl (by decide) (by decide) (by decide) (by decide)) hP hD hS hA [0] [1] rfl rfl (by decide) (by decide) (fun r_177 u H locs hw hP hD hS => ?_)
                obtain ⟨ml2_176, rfl⟩ := hw
                have hP : va_P D classes [(qb, .inl (cB, 4000, .inl f)), (h0, .inr (1, [.ref qb, .int ln, .int (nI a2_128), .int (nI b), .int ml2_176]))] H := hP
                have hD : va_D (va_A [(h0, .inr (1, [.ref qb, .int ln, .int (nI a), .int (nI b), .int ml])), (qb, .inl (cB, 4000, .inl f))] s.heap.size) [(qb, .inl (cB, 4000, .inl f)), (h0, .inr (1, [.ref qb, .int ln, .int (nI a2_128), .int (nI b), .int ml2_176]))] := hD
                refine W.widen (k := 0) (n := 0) (by decide) (by decide) ?_
                exact x_lret (ws := [(h0, .inr (1, [.ref qb, .int ln, .int (nI a2_128), .int (nI b), .int ml2_176])), (qb, .inl (cB, 4000, .inl f))]) E hr hlocks (hP.sub [1, 0] rfl) (hD.sub [1, 0] (by decide) rfl) hS ⟨a2_128, ml2_176, (by omega), (by omega), rfl⟩ d_Cursor_signed_50
            ·
              refine lv_aload_n E.1 E.2.1 d_Cursor_signed_37 rfl (lv_at hl 3 rfl) ?_
              refine lv_lload_n E.1 E.2.1 d_Cursor_signed_38 rfl (lv_at hl 0 rfl) ?_
              refine lv_iload E.1 E.2.1 d_Cursor_signed_39 (lv_at hl 2 rfl) ?_
              refine lv_bipush (v := 7) E.1 E.2.1 d_Cursor_signed_41 (by decide) ?_
              refine lv_iadd E.1 E.2.1 d_Cursor_signed_43 ?_
              refine lv_topi (fun vt_178 evt_178 => ?_)
              obtain rfl : vt_178 = 42 := evt_178.trans (by decide)
              refine lv_iload_n E.1 E.2.1 d_Cursor_signed_44 rfl (lv_at hl 4 rfl) ?_
              refine lv_iload E.1 E.2.1 d_Cursor_signed_45 (lv_at hl 1 rfl) ?_
              have hPc := hP.sub (ws' := [(h0, .inr (1, [.ref qb, .int ln, .int (nI a2_118), .int (nI b), .int ml2_119]))]) [0] rfl
              have hDc := hD.sub (ws' := [(h0, .inr (1, [.ref qb, .int ln, .int (nI a2_118), .int (nI b), .int ml2_119]))]) [0] (by decide) rfl
              have hFc := va_free (wc := [(h0, .inr (1, [.ref qb, .int ln, .int (nI a2_118), .int (nI b), .int ml2_119]))]) hD hS hA [0] rfl
              refine x_rl (ws := [(h0, .inr (1, [.ref qb, .int ln, .int (nI a2_118), .int (nI b), .int ml2_119])), (qb, .inl (cB, 4000, .inl f))]) (wc := [(h0, .inr (1, [.ref qb, .int ln, .int (nI a2_118), .int (nI b), .int ml2_119]))]) (wr := [(qb, .inl (cB, 4000, .inl f))]) (x_V (As := [.long v_124, .int 42, .int 64, .int r_121]) (C := "WasmReader$Cursor") E (c_Cursor_withSign l D cB cI cJ cZ H.size h0 qb ln (nI a2_118) (nI b) ml2_119 v_124 42 64 r_121 ) m_242 m_94 m_241 m_243 m_244 nm_Cursor_withSign hPc hDc hZ hS hFc rfl rfl rfl hl.1 rfl (Nat.le_of_ble_eq_true rfl) d_Cursor_signed_47 rfl rfl (by decide) (by decide) (by decide) (by decide)) hP hD hS hA [0] [1] rfl rfl (by decide) (by decide) (fun r_180 u H locs hw hP hD hS => ?_)
              obtain ⟨ml2_179, rfl⟩ := hw
              have hP : va_P D classes [(qb, .inl (cB, 4000, .inl f)), (h0, .inr (1, [.ref qb, .int ln, .int (nI a2_118), .int (nI b), .int ml2_179]))] H := hP
              have hD : va_D (va_A [(h0, .inr (1, [.ref qb, .int ln, .int (nI a), .int (nI b), .int ml])), (qb, .inl (cB, 4000, .inl f))] s.heap.size) [(qb, .inl (cB, 4000, .inl f)), (h0, .inr (1, [.ref qb, .int ln, .int (nI a2_118), .int (nI b), .int ml2_179]))] := hD
              refine W.widen (k := 0) (n := 0) (by decide) (by decide) ?_
              exact x_lret (ws := [(h0, .inr (1, [.ref qb, .int ln, .int (nI a2_118), .int (nI b), .int ml2_179])), (qb, .inl (cB, 4000, .inl f))]) E hr hlocks (hP.sub [1, 0] rfl) (hD.sub [1, 0] (by decide) rfl) hS ⟨a2_118, ml2_179, (by omega), (by omega), rfl⟩ d_Cursor_signed_50
          ·
            refine lv_aload_n E.1 E.2.1 d_Cursor_signed_37 rfl (lv_at hl 3 rfl) ?_
            refine lv_lload_n E.1 E.2.1 d_Cursor_signed_38 rfl (lv_at hl 0 rfl) ?_
            refine lv_iload E.1 E.2.1 d_Cursor_signed_39 (lv_at hl 2 rfl) ?_
            refine lv_bipush (v := 7) E.1 E.2.1 d_Cursor_signed_41 (by decide) ?_
            refine lv_iadd E.1 E.2.1 d_Cursor_signed_43 ?_
            refine lv_topi (fun vt_181 evt_181 => ?_)
            obtain rfl : vt_181 = 35 := evt_181.trans (by decide)
            refine lv_iload_n E.1 E.2.1 d_Cursor_signed_44 rfl (lv_at hl 4 rfl) ?_
            refine lv_iload E.1 E.2.1 d_Cursor_signed_45 (lv_at hl 1 rfl) ?_
            have hPc := hP.sub (ws' := [(h0, .inr (1, [.ref qb, .int ln, .int (nI a2_108), .int (nI b), .int ml2_109]))]) [0] rfl
            have hDc := hD.sub (ws' := [(h0, .inr (1, [.ref qb, .int ln, .int (nI a2_108), .int (nI b), .int ml2_109]))]) [0] (by decide) rfl
            have hFc := va_free (wc := [(h0, .inr (1, [.ref qb, .int ln, .int (nI a2_108), .int (nI b), .int ml2_109]))]) hD hS hA [0] rfl
            refine x_rl (ws := [(h0, .inr (1, [.ref qb, .int ln, .int (nI a2_108), .int (nI b), .int ml2_109])), (qb, .inl (cB, 4000, .inl f))]) (wc := [(h0, .inr (1, [.ref qb, .int ln, .int (nI a2_108), .int (nI b), .int ml2_109]))]) (wr := [(qb, .inl (cB, 4000, .inl f))]) (x_V (As := [.long v_114, .int 35, .int 64, .int r_111]) (C := "WasmReader$Cursor") E (c_Cursor_withSign l D cB cI cJ cZ H.size h0 qb ln (nI a2_108) (nI b) ml2_109 v_114 35 64 r_111 ) m_242 m_94 m_241 m_243 m_244 nm_Cursor_withSign hPc hDc hZ hS hFc rfl rfl rfl hl.1 rfl (Nat.le_of_ble_eq_true rfl) d_Cursor_signed_47 rfl rfl (by decide) (by decide) (by decide) (by decide)) hP hD hS hA [0] [1] rfl rfl (by decide) (by decide) (fun r_183 u H locs hw hP hD hS => ?_)
            obtain ⟨ml2_182, rfl⟩ := hw
            have hP : va_P D classes [(qb, .inl (cB, 4000, .inl f)), (h0, .inr (1, [.ref qb, .int ln, .int (nI a2_108), .int (nI b), .int ml2_182]))] H := hP
            have hD : va_D (va_A [(h0, .inr (1, [.ref qb, .int ln, .int (nI a), .int (nI b), .int ml])), (qb, .inl (cB, 4000, .inl f))] s.heap.size) [(qb, .inl (cB, 4000, .inl f)), (h0, .inr (1, [.ref qb, .int ln, .int (nI a2_108), .int (nI b), .int ml2_182]))] := hD
            refine W.widen (k := 0) (n := 0) (by decide) (by decide) ?_
            exact x_lret (ws := [(h0, .inr (1, [.ref qb, .int ln, .int (nI a2_108), .int (nI b), .int ml2_182])), (qb, .inl (cB, 4000, .inl f))]) E hr hlocks (hP.sub [1, 0] rfl) (hD.sub [1, 0] (by decide) rfl) hS ⟨a2_108, ml2_182, (by omega), (by omega), rfl⟩ d_Cursor_signed_50
        ·
          refine lv_aload_n E.1 E.2.1 d_Cursor_signed_37 rfl (lv_at hl 3 rfl) ?_
          refine lv_lload_n E.1 E.2.1 d_Cursor_signed_38 rfl (lv_at hl 0 rfl) ?_
          refine lv_iload E.1 E.2.1 d_Cursor_signed_39 (lv_at hl 2 rfl) ?_
          refine lv_bipush (v := 7) E.1 E.2.1 d_Cursor_signed_41 (by decide) ?_
          refine lv_iadd E.1 E.2.1 d_Cursor_signed_43 ?_
          refine lv_topi (fun vt_184 evt_184 => ?_)
          obtain rfl : vt_184 = 28 := evt_184.trans (by decide)
          refine lv_iload_n E.1 E.2.1 d_Cursor_signed_44 rfl (lv_at hl 4 rfl) ?_
          refine lv_iload E.1 E.2.1 d_Cursor_signed_45 (lv_at hl 1 rfl) ?_
          have hPc := hP.sub (ws' := [(h0, .inr (1, [.ref qb, .int ln, .int (nI a2_98), .int (nI b), .int ml2_99]))]) [0] rfl
          have hDc := hD.sub (ws' := [(h0, .inr (1, [.ref qb, .int ln, .int (nI a2_98), .int (nI b), .int ml2_99]))]) [0] (by decide) rfl
          have hFc := va_free (wc := [(h0, .inr (1, [.ref qb, .int ln, .int (nI a2_98), .int (nI b), .int ml2_99]))]) hD hS hA [0] rfl
          refine x_rl (ws := [(h0, .inr (1, [.ref qb, .int ln, .int (nI a2_98), .int (nI b), .int ml2_99])), (qb, .inl (cB, 4000, .inl f))]) (wc := [(h0, .inr (1, [.ref qb, .int ln, .int (nI a2_98), .int (nI b), .int ml2_99]))]) (wr := [(qb, .inl (cB, 4000, .inl f))]) (x_V (As := [.long v_104, .int 28, .int 64, .int r_101]) (C := "WasmReader$Cursor") E (c_Cursor_withSign l D cB cI cJ cZ H.size h0 qb ln (nI a2_98) (nI b) ml2_99 v_104 28 64 r_101 ) m_242 m_94 m_241 m_243 m_244 nm_Cursor_withSign hPc hDc hZ hS hFc rfl rfl rfl hl.1 rfl (Nat.le_of_ble_eq_true rfl) d_Cursor_signed_47 rfl rfl (by decide) (by decide) (by decide) (by decide)) hP hD hS hA [0] [1] rfl rfl (by decide) (by decide) (fun r_186 u H locs hw hP hD hS => ?_)
          obtain ⟨ml2_185, rfl⟩ := hw
          have hP : va_P D classes [(qb, .inl (cB, 4000, .inl f)), (h0, .inr (1, [.ref qb, .int ln, .int (nI a2_98), .int (nI b), .int ml2_185]))] H := hP
          have hD : va_D (va_A [(h0, .inr (1, [.ref qb, .int ln, .int (nI a), .int (nI b), .int ml])), (qb, .inl (cB, 4000, .inl f))] s.heap.size) [(qb, .inl (cB, 4000, .inl f)), (h0, .inr (1, [.ref qb, .int ln, .int (nI a2_98), .int (nI b), .int ml2_185]))] := hD
          refine W.widen (k := 0) (n := 0) (by decide) (by decide) ?_
          exact x_lret (ws := [(h0, .inr (1, [.ref qb, .int ln, .int (nI a2_98), .int (nI b), .int ml2_185])), (qb, .inl (cB, 4000, .inl f))]) E hr hlocks (hP.sub [1, 0] rfl) (hD.sub [1, 0] (by decide) rfl) hS ⟨a2_98, ml2_185, (by omega), (by omega), rfl⟩ d_Cursor_signed_50
      ·
        refine lv_aload_n E.1 E.2.1 d_Cursor_signed_37 rfl (lv_at hl 3 rfl) ?_
        refine lv_lload_n E.1 E.2.1 d_Cursor_signed_38 rfl (lv_at hl 0 rfl) ?_
        refine lv_iload E.1 E.2.1 d_Cursor_signed_39 (lv_at hl 2 rfl) ?_
        refine lv_bipush (v := 7) E.1 E.2.1 d_Cursor_signed_41 (by decide) ?_
        refine lv_iadd E.1 E.2.1 d_Cursor_signed_43 ?_
        refine lv_topi (fun vt_187 evt_187 => ?_)
        obtain rfl : vt_187 = 21 := evt_187.trans (by decide)
        refine lv_iload_n E.1 E.2.1 d_Cursor_signed_44 rfl (lv_at hl 4 rfl) ?_
        refine lv_iload E.1 E.2.1 d_Cursor_signed_45 (lv_at hl 1 rfl) ?_
        have hPc := hP.sub (ws' := [(h0, .inr (1, [.ref qb, .int ln, .int (nI a2_88), .int (nI b), .int ml2_89]))]) [0] rfl
        have hDc := hD.sub (ws' := [(h0, .inr (1, [.ref qb, .int ln, .int (nI a2_88), .int (nI b), .int ml2_89]))]) [0] (by decide) rfl
        have hFc := va_free (wc := [(h0, .inr (1, [.ref qb, .int ln, .int (nI a2_88), .int (nI b), .int ml2_89]))]) hD hS hA [0] rfl
        refine x_rl (ws := [(h0, .inr (1, [.ref qb, .int ln, .int (nI a2_88), .int (nI b), .int ml2_89])), (qb, .inl (cB, 4000, .inl f))]) (wc := [(h0, .inr (1, [.ref qb, .int ln, .int (nI a2_88), .int (nI b), .int ml2_89]))]) (wr := [(qb, .inl (cB, 4000, .inl f))]) (x_V (As := [.long v_94, .int 21, .int 64, .int r_91]) (C := "WasmReader$Cursor") E (c_Cursor_withSign l D cB cI cJ cZ H.size h0 qb ln (nI a2_88) (nI b) ml2_89 v_94 21 64 r_91 ) m_242 m_94 m_241 m_243 m_244 nm_Cursor_withSign hPc hDc hZ hS hFc rfl rfl rfl hl.1 rfl (Nat.le_of_ble_eq_true rfl) d_Cursor_signed_47 rfl rfl (by decide) (by decide) (by decide) (by decide)) hP hD hS hA [0] [1] rfl rfl (by decide) (by decide) (fun r_189 u H locs hw hP hD hS => ?_)
        obtain ⟨ml2_188, rfl⟩ := hw
        have hP : va_P D classes [(qb, .inl (cB, 4000, .inl f)), (h0, .inr (1, [.ref qb, .int ln, .int (nI a2_88), .int (nI b), .int ml2_188]))] H := hP
        have hD : va_D (va_A [(h0, .inr (1, [.ref qb, .int ln, .int (nI a), .int (nI b), .int ml])), (qb, .inl (cB, 4000, .inl f))] s.heap.size) [(qb, .inl (cB, 4000, .inl f)), (h0, .inr (1, [.ref qb, .int ln, .int (nI a2_88), .int (nI b), .int ml2_188]))] := hD
        refine W.widen (k := 0) (n := 0) (by decide) (by decide) ?_
        exact x_lret (ws := [(h0, .inr (1, [.ref qb, .int ln, .int (nI a2_88), .int (nI b), .int ml2_188])), (qb, .inl (cB, 4000, .inl f))]) E hr hlocks (hP.sub [1, 0] rfl) (hD.sub [1, 0] (by decide) rfl) hS ⟨a2_88, ml2_188, (by omega), (by omega), rfl⟩ d_Cursor_signed_50
    ·
      refine lv_aload_n E.1 E.2.1 d_Cursor_signed_37 rfl (lv_at hl 3 rfl) ?_
      refine lv_lload_n E.1 E.2.1 d_Cursor_signed_38 rfl (lv_at hl 0 rfl) ?_
      refine lv_iload E.1 E.2.1 d_Cursor_signed_39 (lv_at hl 2 rfl) ?_
      refine lv_bipush (v := 7) E.1 E.2.1 d_Cursor_signed_41 (by decide) ?_
      refine lv_iadd E.1 E.2.1 d_Cursor_signed_43 ?_
      refine lv_topi (fun vt_190 evt_190 => ?_)
      obtain rfl : vt_190 = 14 := evt_190.trans (by decide)
      refine lv_iload_n E.1 E.2.1 d_Cursor_signed_44 rfl (lv_at hl 4 rfl) ?_
      refine lv_iload E.1 E.2.1 d_Cursor_signed_45 (lv_at hl 1 rfl) ?_
      have hPc := hP.sub (ws' := [(h0, .inr (1, [.ref qb, .int ln, .int (nI a2_78), .int (nI b), .int ml2_79]))]) [0] rfl
      have hDc := hD.sub (ws' := [(h0, .inr (1, [.ref qb, .int ln, .int (nI a2_78), .int (nI b), .int ml2_79]))]) [0] (by decide) rfl
      have hFc := va_free (wc := [(h0, .inr (1, [.ref qb, .int ln, .int (nI a2_78), .int (nI b), .int ml2_79]))]) hD hS hA [0] rfl
      refine x_rl (ws := [(h0, .inr (1, [.ref qb, .int ln, .int (nI a2_78), .int (nI b), .int ml2_79])), (qb, .inl (cB, 4000, .inl f))]) (wc := [(h0, .inr (1, [.ref qb, .int ln, .int (nI a2_78), .int (nI b), .int ml2_79]))]) (wr := [(qb, .inl (cB, 4000, .inl f))]) (x_V (As := [.long v_84, .int 14, .int 64, .int r_81]) (C := "WasmReader$Cursor") E (c_Cursor_withSign l D cB cI cJ cZ H.size h0 qb ln (nI a2_78) (nI b) ml2_79 v_84 14 64 r_81 ) m_242 m_94 m_241 m_243 m_244 nm_Cursor_withSign hPc hDc hZ hS hFc rfl rfl rfl hl.1 rfl (Nat.le_of_ble_eq_true rfl) d_Cursor_signed_47 rfl rfl (by decide) (by decide) (by decide) (by decide)) hP hD hS hA [0] [1] rfl rfl (by decide) (by decide) (fun r_192 u H locs hw hP hD hS => ?_)
      obtain ⟨ml2_191, rfl⟩ := hw
      have hP : va_P D classes [(qb, .inl (cB, 4000, .inl f)), (h0, .inr (1, [.ref qb, .int ln, .int (nI a2_78), .int (nI b), .int ml2_191]))] H := hP
      have hD : va_D (va_A [(h0, .inr (1, [.ref qb, .int ln, .int (nI a), .int (nI b), .int ml])), (qb, .inl (cB, 4000, .inl f))] s.heap.size) [(qb, .inl (cB, 4000, .inl f)), (h0, .inr (1, [.ref qb, .int ln, .int (nI a2_78), .int (nI b), .int ml2_191]))] := hD
      refine W.widen (k := 0) (n := 0) (by decide) (by decide) ?_
      exact x_lret (ws := [(h0, .inr (1, [.ref qb, .int ln, .int (nI a2_78), .int (nI b), .int ml2_191])), (qb, .inl (cB, 4000, .inl f))]) E hr hlocks (hP.sub [1, 0] rfl) (hD.sub [1, 0] (by decide) rfl) hS ⟨a2_78, ml2_191, (by omega), (by omega), rfl⟩ d_Cursor_signed_50
  ·
    refine lv_aload_n E.1 E.2.1 d_Cursor_signed_37 rfl (lv_at hl 3 rfl) ?_
    refine lv_lload_n E.1 E.2.1 d_Cursor_signed_38 rfl (lv_at hl 0 rfl) ?_
    refine lv_iload E.1 E.2.1 d_Cursor_signed_39 (lv_at hl 2 rfl) ?_
    refine lv_bipush (v := 7) E.1 E.2.1 d_Cursor_signed_41 (by decide) ?_
    refine lv_iadd E.1 E.2.1 d_Cursor_signed_43 ?_
    refine lv_topi (fun vt_193 evt_193 => ?_)
    obtain rfl : vt_193 = 7 := evt_193.trans (by decide)
    refine lv_iload_n E.1 E.2.1 d_Cursor_signed_44 rfl (lv_at hl 4 rfl) ?_
    refine lv_iload E.1 E.2.1 d_Cursor_signed_45 (lv_at hl 1 rfl) ?_
    have hPc := hP.sub (ws' := [(h0, .inr (1, [.ref qb, .int ln, .int (nI a2_68), .int (nI b), .int ml2_69]))]) [0] rfl
    have hDc := hD.sub (ws' := [(h0, .inr (1, [.ref qb, .int ln, .int (nI a2_68), .int (nI b), .int ml2_69]))]) [0] (by decide) rfl
    have hFc := va_free (wc := [(h0, .inr (1, [.ref qb, .int ln, .int (nI a2_68), .int (nI b), .int ml2_69]))]) hD hS hA [0] rfl
    refine x_rl (ws := [(h0, .inr (1, [.ref qb, .int ln, .int (nI a2_68), .int (nI b), .int ml2_69])), (qb, .inl (cB, 4000, .inl f))]) (wc := [(h0, .inr (1, [.ref qb, .int ln, .int (nI a2_68), .int (nI b), .int ml2_69]))]) (wr := [(qb, .inl (cB, 4000, .inl f))]) (x_V (As := [.long v_74, .int 7, .int 64, .int r_71]) (C := "WasmReader$Cursor") E (c_Cursor_withSign l D cB cI cJ cZ H.size h0 qb ln (nI a2_68) (nI b) ml2_69 v_74 7 64 r_71 ) m_242 m_94 m_241 m_243 m_244 nm_Cursor_withSign hPc hDc hZ hS hFc rfl rfl rfl hl.1 rfl (Nat.le_of_ble_eq_true rfl) d_Cursor_signed_47 rfl rfl (by decide) (by decide) (by decide) (by decide)) hP hD hS hA [0] [1] rfl rfl (by decide) (by decide) (fun r_195 u H locs hw hP hD hS => ?_)
    obtain ⟨ml2_194, rfl⟩ := hw
    have hP : va_P D classes [(qb, .inl (cB, 4000, .inl f)), (h0, .inr (1, [.ref qb, .int ln, .int (nI a2_68), .int (nI b), .int ml2_194]))] H := hP
    have hD : va_D (va_A [(h0, .inr (1, [.ref qb, .int ln, .int (nI a), .int (nI b), .int ml])), (qb, .inl (cB, 4000, .inl f))] s.heap.size) [(qb, .inl (cB, 4000, .inl f)), (h0, .inr (1, [.ref qb, .int ln, .int (nI a2_68), .int (nI b), .int ml2_194]))] := hD
    refine W.widen (k := 0) (n := 0) (by decide) (by decide) ?_
    exact x_lret (ws := [(h0, .inr (1, [.ref qb, .int ln, .int (nI a2_68), .int (nI b), .int ml2_194])), (qb, .inl (cB, 4000, .inl f))]) E hr hlocks (hP.sub [1, 0] rfl) (hD.sub [1, 0] (by decide) rfl) hS ⟨a2_68, ml2_194, (by omega), (by omega), rfl⟩ d_Cursor_signed_50
