set_option maxHeartbeats 4000000 in
set_option maxRecDepth 100000 in
theorem c_Throwable_init4 (l : Launch) (D : va_G) (cB cI cJ cZ : ClassId) (sz : Nat) (h0 : Nat) (why : Int32)  : Met l y_Throwable_init (Cond.code y_Throwable_init prog_24_method_5_code 5 none :: xtb) ({ frames := 1, cells := 0, slots := 0, locals := 12 }) (xP D [(cB, .byte), (cI, .int), (cJ, .long), (cZ, .boolean)] [.ref h0, .null, .null, .int 0, .int 0] [(h0, .inr (14, [.null, .null, .null, .null, .null, .int why, .int 0]))] sz) (xQv D [(cB, .byte), (cI, .int), (cJ, .long), (cZ, .boolean)] [(h0, .inr (14, [.null, .null, .null, .null, .null, .int why, .int 0]))] sz (fun u => u = [(h0, .inr (14, [.null, .null, .null, .null, .null, .int why, .int 0]))])) 0 0 (va_A [(h0, .inr (14, [.null, .null, .null, .null, .null, .int why, .int 0]))] sz) := by
  refine x_met (Qc := fun s => xQv D [(cB, .byte), (cI, .int), (cJ, .long), (cZ, .boolean)] [(h0, .inr (14, [.null, .null, .null, .null, .null, .int why, .int 0]))] s.heap.size (fun u => u = [(h0, .inr (14, [.null, .null, .null, .null, .null, .int why, .int 0]))])) (fr := fun s => va_A [(h0, .inr (14, [.null, .null, .null, .null, .null, .int why, .int 0]))] s.heap.size) "java/lang/Throwable" (by decide +kernel) rfl (Nat.le_of_ble_eq_true rfl) (fun s h => by rw [h]) (fun s h => by rw [h]) ?_
  intro p e s m below meth c ls E hr hlocks hinit hl hP hD hA hS hZ hadm
  have hl : lv_has ls 5 [(0, .ref h0), (1, .null), (2, .null), (3, .int 0), (4, .int 0)] := hl
  refine lv_aload_n E.1 E.2.1 d_Throwable_init_0 rfl (lv_at hl 0 rfl) ?_
  refine x_objInit E hl.1 m_695 m_2 m_3 d_Throwable_init_1 (Nat.le_of_ble_eq_true rfl) (Nat.le_of_ble_eq_true rfl) ?_
  refine lv_aload_n E.1 E.2.1 d_Throwable_init_4 rfl (lv_at hl 0 rfl) ?_
  refine lv_aload_n E.1 E.2.1 d_Throwable_init_5 rfl (lv_at hl 0 rfl) ?_
  refine x_put E hP hD hS (C := "WasmReaderModel$Stop") (T := T_Stop) (N := 7) (ci := 14) 0 (v := .ref h0) 0 (t0 := t_Stop) (tk := .object "java/lang/Throwable") in_Stop tok_Stop nok_Stop rfl rfl (by decide) m_696 rfl rfl rfl rfl (Nat.le_of_ble_eq_true rfl) d_Throwable_init_6 (fun H locs hP hD hS => ?_)
  have hP : va_P D classes [(h0, .inr (14, [.ref h0, .null, .null, .null, .null, .int why, .int 0]))] H := hP
  have hD : va_D (va_A [(h0, .inr (14, [.null, .null, .null, .null, .null, .int why, .int 0]))] s.heap.size) [(h0, .inr (14, [.ref h0, .null, .null, .null, .null, .int why, .int 0]))] := hD
  refine lv_aload_n E.1 E.2.1 d_Throwable_init_9 rfl (lv_at hl 0 rfl) ?_
  obtain ⟨v_1, hv_1, hzv_1⟩ := hZ.1.1.get
  refine va_gets E.1 E.2.1 hzv_1 hS E.2.2.2.2.1 (E.2.2.2.1 _ m_697) (fun _ h => h) d_Throwable_init_10 ?_
  refine x_put E hP hD hS (C := "WasmReaderModel$Stop") (T := T_Stop) (N := 7) (ci := 14) 0 (v := v_1) 1 (t0 := t_Stop) (tk := .array (.object "java/lang/StackTraceElement")) in_Stop tok_Stop nok_Stop rfl rfl (by decide) m_698 rfl rfl (by rcases hv_1 with rfl | ⟨t, rfl⟩ <;> rfl) (by rcases hv_1 with rfl | ⟨t, rfl⟩ <;> rfl) (Nat.le_of_ble_eq_true rfl) d_Throwable_init_13 (fun H locs hP hD hS => ?_)
  have hP : va_P D classes [(h0, .inr (14, [.ref h0, v_1, .null, .null, .null, .int why, .int 0]))] H := hP
  have hD : va_D (va_A [(h0, .inr (14, [.null, .null, .null, .null, .null, .int why, .int 0]))] s.heap.size) [(h0, .inr (14, [.ref h0, v_1, .null, .null, .null, .int why, .int 0]))] := hD
  refine lv_aload_n E.1 E.2.1 d_Throwable_init_16 rfl (lv_at hl 0 rfl) ?_
  obtain ⟨v_2, hv_2, hzv_2⟩ := hZ.1.2.get
  refine va_gets E.1 E.2.1 hzv_2 hS E.2.2.2.2.1 (E.2.2.2.1 _ m_699) (fun _ h => h) d_Throwable_init_17 ?_
  refine x_put E hP hD hS (C := "WasmReaderModel$Stop") (T := T_Stop) (N := 7) (ci := 14) 0 (v := v_2) 2 (t0 := t_Stop) (tk := .object "java/util/List") in_Stop tok_Stop nok_Stop rfl rfl (by decide) m_700 rfl rfl (by rcases hv_2 with rfl | ⟨t, rfl⟩ <;> rfl) (by rcases hv_2 with rfl | ⟨t, rfl⟩ <;> rfl) (Nat.le_of_ble_eq_true rfl) d_Throwable_init_20 (fun H locs hP hD hS => ?_)
  have hP : va_P D classes [(h0, .inr (14, [.ref h0, v_1, v_2, .null, .null, .int why, .int 0]))] H := hP
  have hD : va_D (va_A [(h0, .inr (14, [.null, .null, .null, .null, .null, .int why, .int 0]))] s.heap.size) [(h0, .inr (14, [.ref h0, v_1, v_2, .null, .null, .int why, .int 0]))] := hD
  refine lv_iload E.1 E.2.1 d_Throwable_init_23 (lv_at hl 4 rfl) ?_
  refine lv_if_eq (tgt := 36) E.1 E.2.1 d_Throwable_init_25 (by decide) (fun _ => ?_) (fun hc => absurd (by decide) hc)
  refine lv_aload_n E.1 E.2.1 d_Throwable_init_36 rfl (lv_at hl 0 rfl) ?_
  refine lv_null E.1 E.2.1 d_Throwable_init_37 ?_
  refine x_put E hP hD hS (C := "WasmReaderModel$Stop") (T := T_Stop) (N := 7) (ci := 14) 0 (v := .null) 1 (t0 := t_Stop) (tk := .array (.object "java/lang/StackTraceElement")) in_Stop tok_Stop nok_Stop rfl rfl (by decide) m_698 rfl rfl rfl rfl (Nat.le_of_ble_eq_true rfl) d_Throwable_init_38 (fun H locs hP hD hS => ?_)
  have hP : va_P D classes [(h0, .inr (14, [.ref h0, .null, v_2, .null, .null, .int why, .int 0]))] H := hP
  have hD : va_D (va_A [(h0, .inr (14, [.null, .null, .null, .null, .null, .int why, .int 0]))] s.heap.size) [(h0, .inr (14, [.ref h0, .null, v_2, .null, .null, .int why, .int 0]))] := hD
  refine lv_aload_n E.1 E.2.1 d_Throwable_init_41 rfl (lv_at hl 0 rfl) ?_
  refine lv_aload_nN E.1 E.2.1 d_Throwable_init_42 rfl (lv_at hl 1 rfl) ?_
  refine x_put E hP hD hS (C := "WasmReaderModel$Stop") (T := T_Stop) (N := 7) (ci := 14) 0 (v := .null) 3 (t0 := t_Stop) (tk := .object "java/lang/String") in_Stop tok_Stop nok_Stop rfl rfl (by decide) m_701 rfl rfl rfl rfl (Nat.le_of_ble_eq_true rfl) d_Throwable_init_43 (fun H locs hP hD hS => ?_)
  have hP : va_P D classes [(h0, .inr (14, [.ref h0, .null, v_2, .null, .null, .int why, .int 0]))] H := hP
  have hD : va_D (va_A [(h0, .inr (14, [.null, .null, .null, .null, .null, .int why, .int 0]))] s.heap.size) [(h0, .inr (14, [.ref h0, .null, v_2, .null, .null, .int why, .int 0]))] := hD
  refine lv_aload_n E.1 E.2.1 d_Throwable_init_46 rfl (lv_at hl 0 rfl) ?_
  refine lv_aload_nN E.1 E.2.1 d_Throwable_init_47 rfl (lv_at hl 2 rfl) ?_
  refine x_put E hP hD hS (C := "WasmReaderModel$Stop") (T := T_Stop) (N := 7) (ci := 14) 0 (v := .null) 0 (t0 := t_Stop) (tk := .object "java/lang/Throwable") in_Stop tok_Stop nok_Stop rfl rfl (by decide) m_696 rfl rfl rfl rfl (Nat.le_of_ble_eq_true rfl) d_Throwable_init_48 (fun H locs hP hD hS => ?_)
  have hP : va_P D classes [(h0, .inr (14, [.null, .null, v_2, .null, .null, .int why, .int 0]))] H := hP
  have hD : va_D (va_A [(h0, .inr (14, [.null, .null, .null, .null, .null, .int why, .int 0]))] s.heap.size) [(h0, .inr (14, [.null, .null, v_2, .null, .null, .int why, .int 0]))] := hD
  refine lv_iload_n E.1 E.2.1 d_Throwable_init_51 rfl (lv_at hl 3 rfl) ?_
  refine lv_if_ne (tgt := 60) E.1 E.2.1 d_Throwable_init_52 (by decide) (fun hc => absurd (by decide) hc) (fun _ => ?_)
  refine lv_aload_n E.1 E.2.1 d_Throwable_init_55 rfl (lv_at hl 0 rfl) ?_
  refine lv_null E.1 E.2.1 d_Throwable_init_56 ?_
  refine x_put E hP hD hS (C := "WasmReaderModel$Stop") (T := T_Stop) (N := 7) (ci := 14) 0 (v := .null) 2 (t0 := t_Stop) (tk := .object "java/util/List") in_Stop tok_Stop nok_Stop rfl rfl (by decide) m_700 rfl rfl rfl rfl (Nat.le_of_ble_eq_true rfl) d_Throwable_init_57 (fun H locs hP hD hS => ?_)
  have hP : va_P D classes [(h0, .inr (14, [.null, .null, .null, .null, .null, .int why, .int 0]))] H := hP
  have hD : va_D (va_A [(h0, .inr (14, [.null, .null, .null, .null, .null, .int why, .int 0]))] s.heap.size) [(h0, .inr (14, [.null, .null, .null, .null, .null, .int why, .int 0]))] := hD
  refine W.widen (k := 0) (n := 0) (by decide) (by decide) ?_
  exact x_vret (ws := [(h0, .inr (14, [.null, .null, .null, .null, .null, .int why, .int 0]))]) E hr hlocks (hP.sub [0] rfl) (hD.sub [0] (by decide) rfl) hS rfl d_Throwable_init_60
set_option maxHeartbeats 4000000 in
set_option maxRecDepth 100000 in
theorem c_Exception_init4 (l : Launch) (D : va_G) (cB cI cJ cZ : ClassId) (sz : Nat) (h0 : Nat) (why : Int32)  : Met l y_Exception_init (Cond.code y_Exception_init prog_17_method_5_code 5 none :: xtb) ({ frames := 2, cells := 0, slots := 0, locals := 36 }) (xP D [(cB, .byte), (cI, .int), (cJ, .long), (cZ, .boolean)] [.ref h0, .null, .null, .int 0, .int 0] [(h0, .inr (14, [.null, .null, .null, .null, .null, .int why, .int 0]))] sz) (xQv D [(cB, .byte), (cI, .int), (cJ, .long), (cZ, .boolean)] [(h0, .inr (14, [.null, .null, .null, .null, .null, .int why, .int 0]))] sz (fun u => u = [(h0, .inr (14, [.null, .null, .null, .null, .null, .int why, .int 0]))])) 0 0 (va_A [(h0, .inr (14, [.null, .null, .null, .null, .null, .int why, .int 0]))] sz) := by
  refine x_met (Qc := fun s => xQv D [(cB, .byte), (cI, .int), (cJ, .long), (cZ, .boolean)] [(h0, .inr (14, [.null, .null, .null, .null, .null, .int why, .int 0]))] s.heap.size (fun u => u = [(h0, .inr (14, [.null, .null, .null, .null, .null, .int why, .int 0]))])) (fr := fun s => va_A [(h0, .inr (14, [.null, .null, .null, .null, .null, .int why, .int 0]))] s.heap.size) "java/lang/Exception" (by decide +kernel) rfl (Nat.le_of_ble_eq_true rfl) (fun s h => by rw [h]) (fun s h => by rw [h]) ?_
  intro p e s m below meth c ls E hr hlocks hinit hl hP hD hA hS hZ hadm
  have hl : lv_has ls 5 [(0, .ref h0), (1, .null), (2, .null), (3, .int 0), (4, .int 0)] := hl
  refine lv_aload_n E.1 E.2.1 d_Exception_init_0 rfl (lv_at hl 0 rfl) ?_
  refine lv_aload_nN E.1 E.2.1 d_Exception_init_1 rfl (lv_at hl 1 rfl) ?_
  refine lv_aload_nN E.1 E.2.1 d_Exception_init_2 rfl (lv_at hl 2 rfl) ?_
  refine lv_iload_n E.1 E.2.1 d_Exception_init_3 rfl (lv_at hl 3 rfl) ?_
  refine lv_iload E.1 E.2.1 d_Exception_init_4 (lv_at hl 4 rfl) ?_
  have hPc := hP.sub (ws' := [(h0, .inr (14, [.null, .null, .null, .null, .null, .int why, .int 0]))]) [0] rfl
  have hDc := hD.sub (ws' := [(h0, .inr (14, [.null, .null, .null, .null, .null, .int why, .int 0]))]) [0] (by decide) rfl
  have hFc := va_free (wc := [(h0, .inr (14, [.null, .null, .null, .null, .null, .int why, .int 0]))]) hD hS hA [0] rfl
  refine x_rv (ws := [(h0, .inr (14, [.null, .null, .null, .null, .null, .int why, .int 0]))]) (wc := [(h0, .inr (14, [.null, .null, .null, .null, .null, .int why, .int 0]))]) (wr := []) (x_I (As := [.null, .null, .int 0, .int 0]) E (c_Throwable_init4 l D cB cI cJ cZ s.heap.size h0 why ) m_703 m_704 m_702 m_705 rfl nm_Throwable_init hPc hDc hZ hS hFc hl.1 rfl (Nat.le_of_ble_eq_true rfl) d_Exception_init_6 rfl rfl (by decide) (by decide) (by decide) (by decide)) hP hD hS hA [0] [] rfl rfl (by decide) (by decide) (fun u H locs hw hP hD hS => ?_)
  obtain rfl := hw
  have hP : va_P D classes [(h0, .inr (14, [.null, .null, .null, .null, .null, .int why, .int 0]))] H := hP
  have hD : va_D (va_A [(h0, .inr (14, [.null, .null, .null, .null, .null, .int why, .int 0]))] s.heap.size) [(h0, .inr (14, [.null, .null, .null, .null, .null, .int why, .int 0]))] := hD
  refine W.widen (k := 0) (n := 0) (by decide) (by decide) ?_
  exact x_vret (ws := [(h0, .inr (14, [.null, .null, .null, .null, .null, .int why, .int 0]))]) E hr hlocks (hP.sub [0] rfl) (hD.sub [0] (by decide) rfl) hS rfl d_Exception_init_9
set_option maxHeartbeats 4000000 in
set_option maxRecDepth 100000 in
theorem c_RuntimeEx_init4 (l : Launch) (D : va_G) (cB cI cJ cZ : ClassId) (sz : Nat) (h0 : Nat) (why : Int32)  : Met l y_RuntimeEx_init (Cond.code y_RuntimeEx_init prog_22_method_5_code 5 none :: xtb) ({ frames := 3, cells := 0, slots := 0, locals := 60 }) (xP D [(cB, .byte), (cI, .int), (cJ, .long), (cZ, .boolean)] [.ref h0, .null, .null, .int 0, .int 0] [(h0, .inr (14, [.null, .null, .null, .null, .null, .int why, .int 0]))] sz) (xQv D [(cB, .byte), (cI, .int), (cJ, .long), (cZ, .boolean)] [(h0, .inr (14, [.null, .null, .null, .null, .null, .int why, .int 0]))] sz (fun u => u = [(h0, .inr (14, [.null, .null, .null, .null, .null, .int why, .int 0]))])) 0 0 (va_A [(h0, .inr (14, [.null, .null, .null, .null, .null, .int why, .int 0]))] sz) := by
  refine x_met (Qc := fun s => xQv D [(cB, .byte), (cI, .int), (cJ, .long), (cZ, .boolean)] [(h0, .inr (14, [.null, .null, .null, .null, .null, .int why, .int 0]))] s.heap.size (fun u => u = [(h0, .inr (14, [.null, .null, .null, .null, .null, .int why, .int 0]))])) (fr := fun s => va_A [(h0, .inr (14, [.null, .null, .null, .null, .null, .int why, .int 0]))] s.heap.size) "java/lang/RuntimeException" (by decide +kernel) rfl (Nat.le_of_ble_eq_true rfl) (fun s h => by rw [h]) (fun s h => by rw [h]) ?_
  intro p e s m below meth c ls E hr hlocks hinit hl hP hD hA hS hZ hadm
  have hl : lv_has ls 5 [(0, .ref h0), (1, .null), (2, .null), (3, .int 0), (4, .int 0)] := hl
  refine lv_aload_n E.1 E.2.1 d_RuntimeEx_init_0 rfl (lv_at hl 0 rfl) ?_
  refine lv_aload_nN E.1 E.2.1 d_RuntimeEx_init_1 rfl (lv_at hl 1 rfl) ?_
  refine lv_aload_nN E.1 E.2.1 d_RuntimeEx_init_2 rfl (lv_at hl 2 rfl) ?_
  refine lv_iload_n E.1 E.2.1 d_RuntimeEx_init_3 rfl (lv_at hl 3 rfl) ?_
  refine lv_iload E.1 E.2.1 d_RuntimeEx_init_4 (lv_at hl 4 rfl) ?_
  have hPc := hP.sub (ws' := [(h0, .inr (14, [.null, .null, .null, .null, .null, .int why, .int 0]))]) [0] rfl
  have hDc := hD.sub (ws' := [(h0, .inr (14, [.null, .null, .null, .null, .null, .int why, .int 0]))]) [0] (by decide) rfl
  have hFc := va_free (wc := [(h0, .inr (14, [.null, .null, .null, .null, .null, .int why, .int 0]))]) hD hS hA [0] rfl
  refine x_rv (ws := [(h0, .inr (14, [.null, .null, .null, .null, .null, .int why, .int 0]))]) (wc := [(h0, .inr (14, [.null, .null, .null, .null, .null, .int why, .int 0]))]) (wr := []) (x_I (As := [.null, .null, .int 0, .int 0]) E (c_Exception_init4 l D cB cI cJ cZ s.heap.size h0 why ) m_707 m_708 m_706 m_709 rfl nm_Exception_init hPc hDc hZ hS hFc hl.1 rfl (Nat.le_of_ble_eq_true rfl) d_RuntimeEx_init_6 rfl rfl (by decide) (by decide) (by decide) (by decide)) hP hD hS hA [0] [] rfl rfl (by decide) (by decide) (fun u H locs hw hP hD hS => ?_)
  obtain rfl := hw
  have hP : va_P D classes [(h0, .inr (14, [.null, .null, .null, .null, .null, .int why, .int 0]))] H := hP
  have hD : va_D (va_A [(h0, .inr (14, [.null, .null, .null, .null, .null, .int why, .int 0]))] s.heap.size) [(h0, .inr (14, [.null, .null, .null, .null, .null, .int why, .int 0]))] := hD
  refine W.widen (k := 0) (n := 0) (by decide) (by decide) ?_
  exact x_vret (ws := [(h0, .inr (14, [.null, .null, .null, .null, .null, .int why, .int 0]))]) E hr hlocks (hP.sub [0] rfl) (hD.sub [0] (by decide) rfl) hS rfl d_RuntimeEx_init_9
set_option maxHeartbeats 4000000 in
set_option maxRecDepth 100000 in
theorem c_Stop_init (l : Launch) (D : va_G) (cB cI cJ cZ : ClassId) (sz : Nat) (h0 : Nat) (y : Int32)  : Met l y_Stop_init (Cond.code y_Stop_init prog_15_method_1_code 2 none :: xtb) ({ frames := 4, cells := 0, slots := 0, locals := 84 }) (xP D [(cB, .byte), (cI, .int), (cJ, .long), (cZ, .boolean)] [.ref h0, .int y] [(h0, .inr (14, [.null, .null, .null, .null, .null, .int 0, .int 0]))] sz) (xQv D [(cB, .byte), (cI, .int), (cJ, .long), (cZ, .boolean)] [(h0, .inr (14, [.null, .null, .null, .null, .null, .int 0, .int 0]))] sz (fun u => u = [(h0, .inr (14, [.null, .null, .null, .null, .null, .int y, .int 0]))])) 0 0 (va_A [(h0, .inr (14, [.null, .null, .null, .null, .null, .int 0, .int 0]))] sz) := by
  refine x_met (Qc := fun s => xQv D [(cB, .byte), (cI, .int), (cJ, .long), (cZ, .boolean)] [(h0, .inr (14, [.null, .null, .null, .null, .null, .int 0, .int 0]))] s.heap.size (fun u => u = [(h0, .inr (14, [.null, .null, .null, .null, .null, .int y, .int 0]))])) (fr := fun s => va_A [(h0, .inr (14, [.null, .null, .null, .null, .null, .int 0, .int 0]))] s.heap.size) "WasmReaderModel$Stop" (by decide +kernel) rfl (Nat.le_of_ble_eq_true rfl) (fun s h => by rw [h]) (fun s h => by rw [h]) ?_
  intro p e s m below meth c ls E hr hlocks hinit hl hP hD hA hS hZ hadm
  have hl : lv_has ls 2 [(0, .ref h0), (1, .int y)] := hl
  refine lv_aload_n E.1 E.2.1 d_Stop_init_0 rfl (lv_at hl 0 rfl) ?_
  refine lv_null E.1 E.2.1 d_Stop_init_1 ?_
  refine lv_null E.1 E.2.1 d_Stop_init_2 ?_
  refine lv_iconst (v := 0) E.1 E.2.1 d_Stop_init_3 (by decide) ?_
  refine lv_iconst (v := 0) E.1 E.2.1 d_Stop_init_4 (by decide) ?_
  have hPc := hP.sub (ws' := [(h0, .inr (14, [.null, .null, .null, .null, .null, .int 0, .int 0]))]) [0] rfl
  have hDc := hD.sub (ws' := [(h0, .inr (14, [.null, .null, .null, .null, .null, .int 0, .int 0]))]) [0] (by decide) rfl
  have hFc := va_free (wc := [(h0, .inr (14, [.null, .null, .null, .null, .null, .int 0, .int 0]))]) hD hS hA [0] rfl
  refine x_rv (ws := [(h0, .inr (14, [.null, .null, .null, .null, .null, .int 0, .int 0]))]) (wc := [(h0, .inr (14, [.null, .null, .null, .null, .null, .int 0, .int 0]))]) (wr := []) (x_I (As := [.null, .null, .int 0, .int 0]) E (c_RuntimeEx_init4 l D cB cI cJ cZ s.heap.size h0 0 ) m_711 m_712 m_710 m_713 rfl nm_RuntimeEx_init hPc hDc hZ hS hFc hl.1 rfl (Nat.le_of_ble_eq_true rfl) d_Stop_init_5 rfl rfl (by decide) (by decide) (by decide) (by decide)) hP hD hS hA [0] [] rfl rfl (by decide) (by decide) (fun u H locs hw hP hD hS => ?_)
  obtain rfl := hw
  have hP : va_P D classes [(h0, .inr (14, [.null, .null, .null, .null, .null, .int 0, .int 0]))] H := hP
  have hD : va_D (va_A [(h0, .inr (14, [.null, .null, .null, .null, .null, .int 0, .int 0]))] s.heap.size) [(h0, .inr (14, [.null, .null, .null, .null, .null, .int 0, .int 0]))] := hD
  refine lv_aload_n E.1 E.2.1 d_Stop_init_8 rfl (lv_at hl 0 rfl) ?_
  refine lv_iload_n E.1 E.2.1 d_Stop_init_9 rfl (lv_at hl 1 rfl) ?_
  refine x_putF E hinit hP hD hS (C := "WasmReaderModel$Stop") (T := T_Stop) (N := 7) (ci := 14) 0 (v := .int y) 5 (t0 := t_Stop) (tk := .int) in_Stop tok_Stop nok_Stop rfl rfl (by decide) m_714 rfl rfl rfl rfl rfl (Nat.le_of_ble_eq_true rfl) d_Stop_init_10 (fun H locs hP hD hS => ?_)
  have hP : va_P D classes [(h0, .inr (14, [.null, .null, .null, .null, .null, .int y, .int 0]))] H := hP
  have hD : va_D (va_A [(h0, .inr (14, [.null, .null, .null, .null, .null, .int 0, .int 0]))] s.heap.size) [(h0, .inr (14, [.null, .null, .null, .null, .null, .int y, .int 0]))] := hD
  refine W.widen (k := 0) (n := 0) (by decide) (by decide) ?_
  exact x_vret (ws := [(h0, .inr (14, [.null, .null, .null, .null, .null, .int y, .int 0]))]) E hr hlocks (hP.sub [0] rfl) (hD.sub [0] (by decide) rfl) hS rfl d_Stop_init_13
