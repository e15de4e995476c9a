set_option maxHeartbeats 4000000 in
set_option maxRecDepth 100000 in
theorem c_Grammar_init (l : Launch) (D : va_G) (cB cI cJ cZ : ClassId) (sz : Nat) (h0 : Nat) (qc : Nat) (qm : Nat) (qe : Nat)  : Met l y_Grammar_init (Cond.code y_Grammar_init prog_6_method_1_code 4 none :: xtb) ({ frames := 1, cells := 0, slots := 0, locals := 12 }) (xP D [(cB, .byte), (cI, .int), (cJ, .long), (cZ, .boolean)] [.ref h0, .ref qc, .ref qm, .ref qe] [(h0, .inr (10, [.null, .null, .null]))] sz) (xQv D [(cB, .byte), (cI, .int), (cJ, .long), (cZ, .boolean)] [(h0, .inr (10, [.null, .null, .null]))] sz (fun u => u = [(h0, .inr (10, [.ref qc, .ref qm, .ref qe]))])) 0 0 (va_A [(h0, .inr (10, [.null, .null, .null]))] sz) := by
  refine x_met (Qc := fun s => xQv D [(cB, .byte), (cI, .int), (cJ, .long), (cZ, .boolean)] [(h0, .inr (10, [.null, .null, .null]))] s.heap.size (fun u => u = [(h0, .inr (10, [.ref qc, .ref qm, .ref qe]))])) (fr := fun s => va_A [(h0, .inr (10, [.null, .null, .null]))] s.heap.size) "WasmReader$Grammar" (by decide +kernel) rfl (Nat.le_of_ble_eq_true rfl) (fun s h => by rw [h]) (fun s h => by rw [h]) ?_
  intro p e s m below meth c ls E hr hlocks hinit hl hP hD hA hS hZ hadm
  have hl : lv_has ls 4 [(0, .ref h0), (1, .ref qc), (2, .ref qm), (3, .ref qe)] := hl
  refine lv_aload_n E.1 E.2.1 d_Grammar_init_0 rfl (lv_at hl 0 rfl) ?_
  refine x_objInit E hl.1 m_178 m_2 m_3 d_Grammar_init_1 (Nat.le_of_ble_eq_true rfl) (Nat.le_of_ble_eq_true rfl) ?_
  refine lv_aload_n E.1 E.2.1 d_Grammar_init_4 rfl (lv_at hl 0 rfl) ?_
  refine lv_aload_n E.1 E.2.1 d_Grammar_init_5 rfl (lv_at hl 1 rfl) ?_
  refine x_putF E hinit hP hD hS (C := "WasmReader$Grammar") (T := T_Grammar) (N := 3) (ci := 10) 0 (v := .ref qc) 0 (t0 := t_Grammar) (tk := .object "WasmReader$Cursor") in_Grammar tok_Grammar nok_Grammar rfl rfl (by decide) m_179 rfl rfl rfl rfl rfl (Nat.le_of_ble_eq_true rfl) d_Grammar_init_6 (fun H locs hP hD hS => ?_)
  have hP : va_P D classes [(h0, .inr (10, [.ref qc, .null, .null]))] H := hP
  have hD : va_D (va_A [(h0, .inr (10, [.null, .null, .null]))] s.heap.size) [(h0, .inr (10, [.ref qc, .null, .null]))] := hD
  refine lv_aload_n E.1 E.2.1 d_Grammar_init_9 rfl (lv_at hl 0 rfl) ?_
  refine lv_aload_n E.1 E.2.1 d_Grammar_init_10 rfl (lv_at hl 2 rfl) ?_
  refine x_putF E hinit hP hD hS (C := "WasmReader$Grammar") (T := T_Grammar) (N := 3) (ci := 10) 0 (v := .ref qm) 1 (t0 := t_Grammar) (tk := .object "WasmReader$WasmModule") in_Grammar tok_Grammar nok_Grammar rfl rfl (by decide) m_180 rfl rfl rfl rfl rfl (Nat.le_of_ble_eq_true rfl) d_Grammar_init_11 (fun H locs hP hD hS => ?_)
  have hP : va_P D classes [(h0, .inr (10, [.ref qc, .ref qm, .null]))] H := hP
  have hD : va_D (va_A [(h0, .inr (10, [.null, .null, .null]))] s.heap.size) [(h0, .inr (10, [.ref qc, .ref qm, .null]))] := hD
  refine lv_aload_n E.1 E.2.1 d_Grammar_init_14 rfl (lv_at hl 0 rfl) ?_
  refine lv_aload_n E.1 E.2.1 d_Grammar_init_15 rfl (lv_at hl 3 rfl) ?_
  refine x_putF E hinit hP hD hS (C := "WasmReader$Grammar") (T := T_Grammar) (N := 3) (ci := 10) 0 (v := .ref qe) 2 (t0 := t_Grammar) (tk := .array .boolean) in_Grammar tok_Grammar nok_Grammar rfl rfl (by decide) m_181 rfl rfl rfl rfl rfl (Nat.le_of_ble_eq_true rfl) d_Grammar_init_16 (fun H locs hP hD hS => ?_)
  have hP : va_P D classes [(h0, .inr (10, [.ref qc, .ref qm, .ref qe]))] H := hP
  have hD : va_D (va_A [(h0, .inr (10, [.null, .null, .null]))] s.heap.size) [(h0, .inr (10, [.ref qc, .ref qm, .ref qe]))] := hD
  refine W.widen (k := 0) (n := 0) (by decide) (by decide) ?_
  exact x_vret (ws := [(h0, .inr (10, [.ref qc, .ref qm, .ref qe]))]) E hr hlocks (hP.sub [0] rfl) (hD.sub [0] (by decide) rfl) hS rfl d_Grammar_init_19
set_option maxHeartbeats 4000000 in
set_option maxRecDepth 100000 in
/-- the header of nothing -/
theorem c_Grammar_header_0 (l : Launch) (D : va_G) (cB cI cJ cZ : ClassId) (sz : Nat) (h0 : Nat) (qc : Nat) (qm : Nat) (qe : Nat) (qb : Nat) (ln : Int32) (mal : Int32)  : Met l y_Grammar_header (Cond.code y_Grammar_header prog_6_method_2_code 1 none :: xtb) ({ frames := 2, cells := 0, slots := 0, locals := 42 }) (xP D [(cB, .byte), (cI, .int), (cJ, .long), (cZ, .boolean)] [.ref h0] [(h0, .inr (10, [.ref qc, .ref qm, .ref qe])), (qc, .inr (1, [.ref qb, .int ln, .int 0, .int 0, .int mal]))] sz) (xQv D [(cB, .byte), (cI, .int), (cJ, .long), (cZ, .boolean)] [(h0, .inr (10, [.ref qc, .ref qm, .ref qe])), (qc, .inr (1, [.ref qb, .int ln, .int 0, .int 0, .int mal]))] sz (fun u => u = [(h0, .inr (10, [.ref qc, .ref qm, .ref qe])), (qc, .inr (1, [.ref qb, .int ln, .int 0, .int 0, .int 1]))])) 0 0 (va_A [(h0, .inr (10, [.ref qc, .ref qm, .ref qe])), (qc, .inr (1, [.ref qb, .int ln, .int 0, .int 0, .int mal]))] sz) := by
  refine x_met (Qc := fun s => xQv D [(cB, .byte), (cI, .int), (cJ, .long), (cZ, .boolean)] [(h0, .inr (10, [.ref qc, .ref qm, .ref qe])), (qc, .inr (1, [.ref qb, .int ln, .int 0, .int 0, .int mal]))] s.heap.size (fun u => u = [(h0, .inr (10, [.ref qc, .ref qm, .ref qe])), (qc, .inr (1, [.ref qb, .int ln, .int 0, .int 0, .int 1]))])) (fr := fun s => va_A [(h0, .inr (10, [.ref qc, .ref qm, .ref qe])), (qc, .inr (1, [.ref qb, .int ln, .int 0, .int 0, .int mal]))] s.heap.size) "WasmReader$Grammar" (by decide +kernel) rfl (Nat.le_of_ble_eq_true rfl) (fun s h => by rw [h]) (fun s h => by rw [h]) ?_
  intro p e s m below meth c ls E hr hlocks hinit hl hP hD hA hS hZ hadm
  have hl : lv_has ls 1 [(0, .ref h0)] := hl
  refine lv_aload_n E.1 E.2.1 d_Grammar_header_0 rfl (lv_at hl 0 rfl) ?_
  refine x_get E hP (C := "WasmReader$Grammar") (T := T_Grammar) (N := 3) (ci := 10) 0 (v := .ref qc) 0 in_Grammar rfl rfl (by decide) m_179 rfl d_Grammar_header_1 ?_
  refine lv_iconst (v := 0) E.1 E.2.1 d_Grammar_header_4 (by decide) ?_
  have hPc := hP.sub (ws' := [(qc, .inr (1, [.ref qb, .int ln, .int 0, .int 0, .int mal]))]) [1] rfl
  have hDc := hD.sub (ws' := [(qc, .inr (1, [.ref qb, .int ln, .int 0, .int 0, .int mal]))]) [1] (by decide) rfl
  have hFc := va_free (wc := [(qc, .inr (1, [.ref qb, .int ln, .int 0, .int 0, .int mal]))]) hD hS hA [1] rfl
  refine x_rv (ws := [(h0, .inr (10, [.ref qc, .ref qm, .ref qe])), (qc, .inr (1, [.ref qb, .int ln, .int 0, .int 0, .int mal]))]) (wc := [(qc, .inr (1, [.ref qb, .int ln, .int 0, .int 0, .int mal]))]) (wr := [(h0, .inr (10, [.ref qc, .ref qm, .ref qe]))]) (x_V (As := [.int 0]) (C := "WasmReader$Cursor") E (c_Cursor_expect_0 l D cB cI cJ cZ s.heap.size qc qb ln 0 0 mal 0 ) m_183 m_94 m_182 m_184 m_185 nm_Cursor_expect hPc hDc hZ hS hFc rfl rfl rfl hl.1 rfl (Nat.le_of_ble_eq_true rfl) d_Grammar_header_5 rfl rfl (by decide) (by decide) (by decide) (by decide)) hP hD hS hA [1] [0] rfl rfl (by decide) (by decide) (fun u H locs hw hP hD hS => ?_)
  obtain rfl := hw
  have hP : va_P D classes [(h0, .inr (10, [.ref qc, .ref qm, .ref qe])), (qc, .inr (1, [.ref qb, .int ln, .int 0, .int 0, .int 1]))] H := hP
  have hD : va_D (va_A [(h0, .inr (10, [.ref qc, .ref qm, .ref qe])), (qc, .inr (1, [.ref qb, .int ln, .int 0, .int 0, .int mal]))] s.heap.size) [(h0, .inr (10, [.ref qc, .ref qm, .ref qe])), (qc, .inr (1, [.ref qb, .int ln, .int 0, .int 0, .int 1]))] := hD
  refine lv_aload_n E.1 E.2.1 d_Grammar_header_8 rfl (lv_at hl 0 rfl) ?_
  refine x_get E hP (C := "WasmReader$Grammar") (T := T_Grammar) (N := 3) (ci := 10) 0 (v := .ref qc) 0 in_Grammar rfl rfl (by decide) m_179 rfl d_Grammar_header_9 ?_
  refine lv_bipush (v := 97) E.1 E.2.1 d_Grammar_header_12 (by decide) ?_
  have hPc := hP.sub (ws' := [(qc, .inr (1, [.ref qb, .int ln, .int 0, .int 0, .int 1]))]) [1] rfl
  have hDc := hD.sub (ws' := [(qc, .inr (1, [.ref qb, .int ln, .int 0, .int 0, .int 1]))]) [1] (by decide) rfl
  have hFc := va_free (wc := [(qc, .inr (1, [.ref qb, .int ln, .int 0, .int 0, .int 1]))]) hD hS hA [1] rfl
  refine x_rv (ws := [(h0, .inr (10, [.ref qc, .ref qm, .ref qe])), (qc, .inr (1, [.ref qb, .int ln, .int 0, .int 0, .int 1]))]) (wc := [(qc, .inr (1, [.ref qb, .int ln, .int 0, .int 0, .int 1]))]) (wr := [(h0, .inr (10, [.ref qc, .ref qm, .ref qe]))]) (x_V (As := [.int 97]) (C := "WasmReader$Cursor") E (c_Cursor_expect_0 l D cB cI cJ cZ H.size qc qb ln 0 0 1 97 ) m_183 m_94 m_182 m_184 m_185 nm_Cursor_expect hPc hDc hZ hS hFc rfl rfl rfl hl.1 rfl (Nat.le_of_ble_eq_true rfl) d_Grammar_header_14 rfl rfl (by decide) (by decide) (by decide) (by decide)) hP hD hS hA [1] [0] rfl rfl (by decide) (by decide) (fun u H locs hw hP hD hS => ?_)
  obtain rfl := hw
  have hP : va_P D classes [(h0, .inr (10, [.ref qc, .ref qm, .ref qe])), (qc, .inr (1, [.ref qb, .int ln, .int 0, .int 0, .int 1]))] H := hP
  have hD : va_D (va_A [(h0, .inr (10, [.ref qc, .ref qm, .ref qe])), (qc, .inr (1, [.ref qb, .int ln, .int 0, .int 0, .int mal]))] s.heap.size) [(h0, .inr (10, [.ref qc, .ref qm, .ref qe])), (qc, .inr (1, [.ref qb, .int ln, .int 0, .int 0, .int 1]))] := hD
  refine lv_aload_n E.1 E.2.1 d_Grammar_header_17 rfl (lv_at hl 0 rfl) ?_
  refine x_get E hP (C := "WasmReader$Grammar") (T := T_Grammar) (N := 3) (ci := 10) 0 (v := .ref qc) 0 in_Grammar rfl rfl (by decide) m_179 rfl d_Grammar_header_18 ?_
  refine lv_bipush (v := 115) E.1 E.2.1 d_Grammar_header_21 (by decide) ?_
  have hPc := hP.sub (ws' := [(qc, .inr (1, [.ref qb, .int ln, .int 0, .int 0, .int 1]))]) [1] rfl
  have hDc := hD.sub (ws' := [(qc, .inr (1, [.ref qb, .int ln, .int 0, .int 0, .int 1]))]) [1] (by decide) rfl
  have hFc := va_free (wc := [(qc, .inr (1, [.ref qb, .int ln, .int 0, .int 0, .int 1]))]) hD hS hA [1] rfl
  refine x_rv (ws := [(h0, .inr (10, [.ref qc, .ref qm, .ref qe])), (qc, .inr (1, [.ref qb, .int ln, .int 0, .int 0, .int 1]))]) (wc := [(qc, .inr (1, [.ref qb, .int ln, .int 0, .int 0, .int 1]))]) (wr := [(h0, .inr (10, [.ref qc, .ref qm, .ref qe]))]) (x_V (As := [.int 115]) (C := "WasmReader$Cursor") E (c_Cursor_expect_0 l D cB cI cJ cZ H.size qc qb ln 0 0 1 115 ) m_183 m_94 m_182 m_184 m_185 nm_Cursor_expect hPc hDc hZ hS hFc rfl rfl rfl hl.1 rfl (Nat.le_of_ble_eq_true rfl) d_Grammar_header_23 rfl rfl (by decide) (by decide) (by decide) (by decide)) hP hD hS hA [1] [0] rfl rfl (by decide) (by decide) (fun u H locs hw hP hD hS => ?_)
  obtain rfl := hw
  have hP : va_P D classes [(h0, .inr (10, [.ref qc, .ref qm, .ref qe])), (qc, .inr (1, [.ref qb, .int ln, .int 0, .int 0, .int 1]))] H := hP
  have hD : va_D (va_A [(h0, .inr (10, [.ref qc, .ref qm, .ref qe])), (qc, .inr (1, [.ref qb, .int ln, .int 0, .int 0, .int mal]))] s.heap.size) [(h0, .inr (10, [.ref qc, .ref qm, .ref qe])), (qc, .inr (1, [.ref qb, .int ln, .int 0, .int 0, .int 1]))] := hD
  refine lv_aload_n E.1 E.2.1 d_Grammar_header_26 rfl (lv_at hl 0 rfl) ?_
  refine x_get E hP (C := "WasmReader$Grammar") (T := T_Grammar) (N := 3) (ci := 10) 0 (v := .ref qc) 0 in_Grammar rfl rfl (by decide) m_179 rfl d_Grammar_header_27 ?_
  refine lv_bipush (v := 109) E.1 E.2.1 d_Grammar_header_30 (by decide) ?_
  have hPc := hP.sub (ws' := [(qc, .inr (1, [.ref qb, .int ln, .int 0, .int 0, .int 1]))]) [1] rfl
  have hDc := hD.sub (ws' := [(qc, .inr (1, [.ref qb, .int ln, .int 0, .int 0, .int 1]))]) [1] (by decide) rfl
  have hFc := va_free (wc := [(qc, .inr (1, [.ref qb, .int ln, .int 0, .int 0, .int 1]))]) hD hS hA [1] rfl
  refine x_rv (ws := [(h0, .inr (10, [.ref qc, .ref qm, .ref qe])), (qc, .inr (1, [.ref qb, .int ln, .int 0, .int 0, .int 1]))]) (wc := [(qc, .inr (1, [.ref qb, .int ln, .int 0, .int 0, .int 1]))]) (wr := [(h0, .inr (10, [.ref qc, .ref qm, .ref qe]))]) (x_V (As := [.int 109]) (C := "WasmReader$Cursor") E (c_Cursor_expect_0 l D cB cI cJ cZ H.size qc qb ln 0 0 1 109 ) m_183 m_94 m_182 m_184 m_185 nm_Cursor_expect hPc hDc hZ hS hFc rfl rfl rfl hl.1 rfl (Nat.le_of_ble_eq_true rfl) d_Grammar_header_32 rfl rfl (by decide) (by decide) (by decide) (by decide)) hP hD hS hA [1] [0] rfl rfl (by decide) (by decide) (fun u H locs hw hP hD hS => ?_)
  obtain rfl := hw
  have hP : va_P D classes [(h0, .inr (10, [.ref qc, .ref qm, .ref qe])), (qc, .inr (1, [.ref qb, .int ln, .int 0, .int 0, .int 1]))] H := hP
  have hD : va_D (va_A [(h0, .inr (10, [.ref qc, .ref qm, .ref qe])), (qc, .inr (1, [.ref qb, .int ln, .int 0, .int 0, .int mal]))] s.heap.size) [(h0, .inr (10, [.ref qc, .ref qm, .ref qe])), (qc, .inr (1, [.ref qb, .int ln, .int 0, .int 0, .int 1]))] := hD
  refine lv_aload_n E.1 E.2.1 d_Grammar_header_35 rfl (lv_at hl 0 rfl) ?_
  refine x_get E hP (C := "WasmReader$Grammar") (T := T_Grammar) (N := 3) (ci := 10) 0 (v := .ref qc) 0 in_Grammar rfl rfl (by decide) m_179 rfl d_Grammar_header_36 ?_
  refine lv_iconst (v := 1) E.1 E.2.1 d_Grammar_header_39 (by decide) ?_
  have hPc := hP.sub (ws' := [(qc, .inr (1, [.ref qb, .int ln, .int 0, .int 0, .int 1]))]) [1] rfl
  have hDc := hD.sub (ws' := [(qc, .inr (1, [.ref qb, .int ln, .int 0, .int 0, .int 1]))]) [1] (by decide) rfl
  have hFc := va_free (wc := [(qc, .inr (1, [.ref qb, .int ln, .int 0, .int 0, .int 1]))]) hD hS hA [1] rfl
  refine x_rv (ws := [(h0, .inr (10, [.ref qc, .ref qm, .ref qe])), (qc, .inr (1, [.ref qb, .int ln, .int 0, .int 0, .int 1]))]) (wc := [(qc, .inr (1, [.ref qb, .int ln, .int 0, .int 0, .int 1]))]) (wr := [(h0, .inr (10, [.ref qc, .ref qm, .ref qe]))]) (x_V (As := [.int 1]) (C := "WasmReader$Cursor") E (c_Cursor_expect_0 l D cB cI cJ cZ H.size qc qb ln 0 0 1 1 ) m_183 m_94 m_182 m_184 m_185 nm_Cursor_expect hPc hDc hZ hS hFc rfl rfl rfl hl.1 rfl (Nat.le_of_ble_eq_true rfl) d_Grammar_header_40 rfl rfl (by decide) (by decide) (by decide) (by decide)) hP hD hS hA [1] [0] rfl rfl (by decide) (by decide) (fun u H locs hw hP hD hS => ?_)
  obtain rfl := hw
  have hP : va_P D classes [(h0, .inr (10, [.ref qc, .ref qm, .ref qe])), (qc, .inr (1, [.ref qb, .int ln, .int 0, .int 0, .int 1]))] H := hP
  have hD : va_D (va_A [(h0, .inr (10, [.ref qc, .ref qm, .ref qe])), (qc, .inr (1, [.ref qb, .int ln, .int 0, .int 0, .int mal]))] s.heap.size) [(h0, .inr (10, [.ref qc, .ref qm, .ref qe])), (qc, .inr (1, [.ref qb, .int ln, .int 0, .int 0, .int 1]))] := hD
  refine lv_aload_n E.1 E.2.1 d_Grammar_header_43 rfl (lv_at hl 0 rfl) ?_
  refine x_get E hP (C := "WasmReader$Grammar") (T := T_Grammar) (N := 3) (ci := 10) 0 (v := .ref qc) 0 in_Grammar rfl rfl (by decide) m_179 rfl d_Grammar_header_44 ?_
  refine lv_iconst (v := 0) E.1 E.2.1 d_Grammar_header_47 (by decide) ?_
  have hPc := hP.sub (ws' := [(qc, .inr (1, [.ref qb, .int ln, .int 0, .int 0, .int 1]))]) [1] rfl
  have hDc := hD.sub (ws' := [(qc, .inr (1, [.ref qb, .int ln, .int 0, .int 0, .int 1]))]) [1] (by decide) rfl
  have hFc := va_free (wc := [(qc, .inr (1, [.ref qb, .int ln, .int 0, .int 0, .int 1]))]) hD hS hA [1] rfl
  refine x_rv (ws := [(h0, .inr (10, [.ref qc, .ref qm, .ref qe])), (qc, .inr (1, [.ref qb, .int ln, .int 0, .int 0, .int 1]))]) (wc := [(qc, .inr (1, [.ref qb, .int ln, .int 0, .int 0, .int 1]))]) (wr := [(h0, .inr (10, [.ref qc, .ref qm, .ref qe]))]) (x_V (As := [.int 0]) (C := "WasmReader$Cursor") E (c_Cursor_expect_0 l D cB cI cJ cZ H.size qc qb ln 0 0 1 0 ) m_183 m_94 m_182 m_184 m_185 nm_Cursor_expect hPc hDc hZ hS hFc rfl rfl rfl hl.1 rfl (Nat.le_of_ble_eq_true rfl) d_Grammar_header_48 rfl rfl (by decide) (by decide) (by decide) (by decide)) hP hD hS hA [1] [0] rfl rfl (by decide) (by decide) (fun u H locs hw hP hD hS => ?_)
  obtain rfl := hw
  have hP : va_P D classes [(h0, .inr (10, [.ref qc, .ref qm, .ref qe])), (qc, .inr (1, [.ref qb, .int ln, .int 0, .int 0, .int 1]))] H := hP
  have hD : va_D (va_A [(h0, .inr (10, [.ref qc, .ref qm, .ref qe])), (qc, .inr (1, [.ref qb, .int ln, .int 0, .int 0, .int mal]))] s.heap.size) [(h0, .inr (10, [.ref qc, .ref qm, .ref qe])), (qc, .inr (1, [.ref qb, .int ln, .int 0, .int 0, .int 1]))] := hD
  refine lv_aload_n E.1 E.2.1 d_Grammar_header_51 rfl (lv_at hl 0 rfl) ?_
  refine x_get E hP (C := "WasmReader$Grammar") (T := T_Grammar) (N := 3) (ci := 10) 0 (v := .ref qc) 0 in_Grammar rfl rfl (by decide) m_179 rfl d_Grammar_header_52 ?_
  refine lv_iconst (v := 0) E.1 E.2.1 d_Grammar_header_55 (by decide) ?_
  have hPc := hP.sub (ws' := [(qc, .inr (1, [.ref qb, .int ln, .int 0, .int 0, .int 1]))]) [1] rfl
  have hDc := hD.sub (ws' := [(qc, .inr (1, [.ref qb, .int ln, .int 0, .int 0, .int 1]))]) [1] (by decide) rfl
  have hFc := va_free (wc := [(qc, .inr (1, [.ref qb, .int ln, .int 0, .int 0, .int 1]))]) hD hS hA [1] rfl
  refine x_rv (ws := [(h0, .inr (10, [.ref qc, .ref qm, .ref qe])), (qc, .inr (1, [.ref qb, .int ln, .int 0, .int 0, .int 1]))]) (wc := [(qc, .inr (1, [.ref qb, .int ln, .int 0, .int 0, .int 1]))]) (wr := [(h0, .inr (10, [.ref qc, .ref qm, .ref qe]))]) (x_V (As := [.int 0]) (C := "WasmReader$Cursor") E (c_Cursor_expect_0 l D cB cI cJ cZ H.size qc qb ln 0 0 1 0 ) m_183 m_94 m_182 m_184 m_185 nm_Cursor_expect hPc hDc hZ hS hFc rfl rfl rfl hl.1 rfl (Nat.le_of_ble_eq_true rfl) d_Grammar_header_56 rfl rfl (by decide) (by decide) (by decide) (by decide)) hP hD hS hA [1] [0] rfl rfl (by decide) (by decide) (fun u H locs hw hP hD hS => ?_)
  obtain rfl := hw
  have hP : va_P D classes [(h0, .inr (10, [.ref qc, .ref qm, .ref qe])), (qc, .inr (1, [.ref qb, .int ln, .int 0, .int 0, .int 1]))] H := hP
  have hD : va_D (va_A [(h0, .inr (10, [.ref qc, .ref qm, .ref qe])), (qc, .inr (1, [.ref qb, .int ln, .int 0, .int 0, .int mal]))] s.heap.size) [(h0, .inr (10, [.ref qc, .ref qm, .ref qe])), (qc, .inr (1, [.ref qb, .int ln, .int 0, .int 0, .int 1]))] := hD
  refine lv_aload_n E.1 E.2.1 d_Grammar_header_59 rfl (lv_at hl 0 rfl) ?_
  refine x_get E hP (C := "WasmReader$Grammar") (T := T_Grammar) (N := 3) (ci := 10) 0 (v := .ref qc) 0 in_Grammar rfl rfl (by decide) m_179 rfl d_Grammar_header_60 ?_
  refine lv_iconst (v := 0) E.1 E.2.1 d_Grammar_header_63 (by decide) ?_
  have hPc := hP.sub (ws' := [(qc, .inr (1, [.ref qb, .int ln, .int 0, .int 0, .int 1]))]) [1] rfl
  have hDc := hD.sub (ws' := [(qc, .inr (1, [.ref qb, .int ln, .int 0, .int 0, .int 1]))]) [1] (by decide) rfl
  have hFc := va_free (wc := [(qc, .inr (1, [.ref qb, .int ln, .int 0, .int 0, .int 1]))]) hD hS hA [1] rfl
  refine x_rv (ws := [(h0, .inr (10, [.ref qc, .ref qm, .ref qe])), (qc, .inr (1, [.ref qb, .int ln, .int 0, .int 0, .int 1]))]) (wc := [(qc, .inr (1, [.ref qb, .int ln, .int 0, .int 0, .int 1]))]) (wr := [(h0, .inr (10, [.ref qc, .ref qm, .ref qe]))]) (x_V (As := [.int 0]) (C := "WasmReader$Cursor") E (c_Cursor_expect_0 l D cB cI cJ cZ H.size qc qb ln 0 0 1 0 ) m_183 m_94 m_182 m_184 m_185 nm_Cursor_expect hPc hDc hZ hS hFc rfl rfl rfl hl.1 rfl (Nat.le_of_ble_eq_true rfl) d_Grammar_header_64 rfl rfl (by decide) (by decide) (by decide) (by decide)) hP hD hS hA [1] [0] rfl rfl (by decide) (by decide) (fun u H locs hw hP hD hS => ?_)
  obtain rfl := hw
  have hP : va_P D classes [(h0, .inr (10, [.ref qc, .ref qm, .ref qe])), (qc, .inr (1, [.ref qb, .int ln, .int 0, .int 0, .int 1]))] H := hP
  have hD : va_D (va_A [(h0, .inr (10, [.ref qc, .ref qm, .ref qe])), (qc, .inr (1, [.ref qb, .int ln, .int 0, .int 0, .int mal]))] s.heap.size) [(h0, .inr (10, [.ref qc, .ref qm, .ref qe])), (qc, .inr (1, [.ref qb, .int ln, .int 0, .int 0, .int 1]))] := hD
  refine W.widen (k := 0) (n := 0) (by decide) (by decide) ?_
  exact x_vret (ws := [(h0, .inr (10, [.ref qc, .ref qm, .ref qe])), (qc, .inr (1, [.ref qb, .int ln, .int 0, .int 0, .int 1]))]) E hr hlocks (hP.sub [0, 1] rfl) (hD.sub [0, 1] (by decide) rfl) hS rfl d_Grammar_header_67
set_option maxHeartbeats 4000000 in
set_option maxRecDepth 100000 in
/-- no sections, where something is malformed -/
theorem c_Grammar_sections_0 (l : Launch) (D : va_G) (cB cI cJ cZ : ClassId) (sz : Nat) (h0 : Nat) (qc : Nat) (qm : Nat) (qe : Nat) (qb : Nat) (ln : Int32) (m0 : Nat) (m1 : Nat) (m2 : Nat) (m3 : Nat) (m4 : Nat) (m5 : Nat) (m6 : Nat) (m7 : Nat) (f0 : Nat) (f1 : Nat) (f2 : Nat) (f3 : Nat) (f4 : Nat) (f5 : Nat) (f6 : Nat)  : Met l y_Grammar_sections (Cond.code y_Grammar_sections prog_6_method_3_code 5 none :: xtb) ({ frames := 1, cells := 0, slots := 0, locals := 20 }) (xP D [(cB, .byte), (cI, .int), (cJ, .long), (cZ, .boolean)] [.ref h0] [(h0, .inr (10, [.ref qc, .ref qm, .ref qe])), (qc, .inr (1, [.ref qb, .int ln, .int 0, .int 0, .int 1])), (qm, .inr (2, [.ref m0, .ref m1, .ref m2, .ref m3, .ref m4, .ref m5, .ref m6, .ref m7, .int 0, .int ((-1)), .int 0])), (m1, .inr (4, [.int 0, .int 0, .int 0, .ref f0, .ref f1, .ref f2, .ref f3, .ref f4, .ref f5, .ref f6]))] sz) (xQv D [(cB, .byte), (cI, .int), (cJ, .long), (cZ, .boolean)] [(h0, .inr (10, [.ref qc, .ref qm, .ref qe])), (qc, .inr (1, [.ref qb, .int ln, .int 0, .int 0, .int 1])), (qm, .inr (2, [.ref m0, .ref m1, .ref m2, .ref m3, .ref m4, .ref m5, .ref m6, .ref m7, .int 0, .int ((-1)), .int 0])), (m1, .inr (4, [.int 0, .int 0, .int 0, .ref f0, .ref f1, .ref f2, .ref f3, .ref f4, .ref f5, .ref f6]))] sz (fun u => u = [(h0, .inr (10, [.ref qc, .ref qm, .ref qe])), (qc, .inr (1, [.ref qb, .int ln, .int 0, .int 0, .int 1])), (qm, .inr (2, [.ref m0, .ref m1, .ref m2, .ref m3, .ref m4, .ref m5, .ref m6, .ref m7, .int 0, .int ((-1)), .int 0])), (m1, .inr (4, [.int 0, .int 0, .int 0, .ref f0, .ref f1, .ref f2, .ref f3, .ref f4, .ref f5, .ref f6]))])) 0 0 (va_A [(h0, .inr (10, [.ref qc, .ref qm, .ref qe])), (qc, .inr (1, [.ref qb, .int ln, .int 0, .int 0, .int 1])), (qm, .inr (2, [.ref m0, .ref m1, .ref m2, .ref m3, .ref m4, .ref m5, .ref m6, .ref m7, .int 0, .int ((-1)), .int 0])), (m1, .inr (4, [.int 0, .int 0, .int 0, .ref f0, .ref f1, .ref f2, .ref f3, .ref f4, .ref f5, .ref f6]))] sz) := by
  refine x_met (Qc := fun s => xQv D [(cB, .byte), (cI, .int), (cJ, .long), (cZ, .boolean)] [(h0, .inr (10, [.ref qc, .ref qm, .ref qe])), (qc, .inr (1, [.ref qb, .int ln, .int 0, .int 0, .int 1])), (qm, .inr (2, [.ref m0, .ref m1, .ref m2, .ref m3, .ref m4, .ref m5, .ref m6, .ref m7, .int 0, .int ((-1)), .int 0])), (m1, .inr (4, [.int 0, .int 0, .int 0, .ref f0, .ref f1, .ref f2, .ref f3, .ref f4, .ref f5, .ref f6]))] s.heap.size (fun u => u = [(h0, .inr (10, [.ref qc, .ref qm, .ref qe])), (qc, .inr (1, [.ref qb, .int ln, .int 0, .int 0, .int 1])), (qm, .inr (2, [.ref m0, .ref m1, .ref m2, .ref m3, .ref m4, .ref m5, .ref m6, .ref m7, .int 0, .int ((-1)), .int 0])), (m1, .inr (4, [.int 0, .int 0, .int 0, .ref f0, .ref f1, .ref f2, .ref f3, .ref f4, .ref f5, .ref f6]))])) (fr := fun s => va_A [(h0, .inr (10, [.ref qc, .ref qm, .ref qe])), (qc, .inr (1, [.ref qb, .int ln, .int 0, .int 0, .int 1])), (qm, .inr (2, [.ref m0, .ref m1, .ref m2, .ref m3, .ref m4, .ref m5, .ref m6, .ref m7, .int 0, .int ((-1)), .int 0])), (m1, .inr (4, [.int 0, .int 0, .int 0, .ref f0, .ref f1, .ref f2, .ref f3, .ref f4, .ref f5, .ref f6]))] s.heap.size) "WasmReader$Grammar" (by decide +kernel) rfl (Nat.le_of_ble_eq_true rfl) (fun s h => by rw [h]) (fun s h => by rw [h]) ?_
  intro p e s m below meth c ls E hr hlocks hinit hl hP hD hA hS hZ hadm
  have hl : lv_has ls 5 [(0, .ref h0)] := hl
  refine lv_iconst (v := 0) E.1 E.2.1 d_Grammar_sections_0 (by decide) ?_
  refine lv_istore_n (lv' := [(1, .int 0), (0, .ref h0)]) E.1 E.2.1 d_Grammar_sections_1 rfl hl (by decide) rfl (fun ls hl => ?_)
  refine lv_iconst (v := 0) E.1 E.2.1 d_Grammar_sections_2 (by decide) ?_
  refine lv_istore_n (lv' := [(2, .int 0), (1, .int 0), (0, .ref h0)]) E.1 E.2.1 d_Grammar_sections_3 rfl hl (by decide) rfl (fun ls hl => ?_)
  refine lv_iload_n E.1 E.2.1 d_Grammar_sections_4 rfl (lv_at hl 0 rfl) ?_
  refine lv_sipush (v := 4000) E.1 E.2.1 d_Grammar_sections_5 (by decide) ?_
  refine lv_icmp_ge (tgt := 240) E.1 E.2.1 d_Grammar_sections_8 (by decide) (fun hc => absurd hc (by decide)) (fun _ => ?_)
  refine lv_aload_n E.1 E.2.1 d_Grammar_sections_11 rfl (lv_at hl 2 rfl) ?_
  refine x_get E hP (C := "WasmReader$Grammar") (T := T_Grammar) (N := 3) (ci := 10) 0 (v := .ref qc) 0 in_Grammar rfl rfl (by decide) m_179 rfl d_Grammar_sections_12 ?_
  have hPc := hP.sub (ws' := [(qc, .inr (1, [.ref qb, .int ln, .int 0, .int 0, .int 1]))]) [1] rfl
  have hDc := hD.sub (ws' := [(qc, .inr (1, [.ref qb, .int ln, .int 0, .int 0, .int 1]))]) [1] (by decide) rfl
  have hFc := va_free (wc := [(qc, .inr (1, [.ref qb, .int ln, .int 0, .int 0, .int 1]))]) hD hS hA [1] rfl
  refine x_ri (ws := [(h0, .inr (10, [.ref qc, .ref qm, .ref qe])), (qc, .inr (1, [.ref qb, .int ln, .int 0, .int 0, .int 1])), (qm, .inr (2, [.ref m0, .ref m1, .ref m2, .ref m3, .ref m4, .ref m5, .ref m6, .ref m7, .int 0, .int ((-1)), .int 0])), (m1, .inr (4, [.int 0, .int 0, .int 0, .ref f0, .ref f1, .ref f2, .ref f3, .ref f4, .ref f5, .ref f6]))]) (wc := [(qc, .inr (1, [.ref qb, .int ln, .int 0, .int 0, .int 1]))]) (wr := [(h0, .inr (10, [.ref qc, .ref qm, .ref qe])), (qm, .inr (2, [.ref m0, .ref m1, .ref m2, .ref m3, .ref m4, .ref m5, .ref m6, .ref m7, .int 0, .int ((-1)), .int 0])), (m1, .inr (4, [.int 0, .int 0, .int 0, .ref f0, .ref f1, .ref f2, .ref f3, .ref f4, .ref f5, .ref f6]))]) (x_V (As := []) (C := "WasmReader$Cursor") E (c_Cursor_more_m l D cB cI cJ cZ s.heap.size qc qb ln 0 0 1 ) m_187 m_94 m_186 m_188 m_189 nm_Cursor_more hPc hDc hZ hS hFc rfl rfl rfl hl.1 rfl (Nat.le_of_ble_eq_true rfl) d_Grammar_sections_15 rfl rfl (by decide) (by decide) (by decide) (by decide)) hP hD hS hA [1] [0, 2, 3] rfl rfl (by decide) (by decide) (fun r_2 u H locs hw hP hD hS => ?_)
  obtain ⟨er_1, rfl⟩ := hw
  have er_1 := er_1.symm
  subst er_1
  have hP : va_P D classes [(h0, .inr (10, [.ref qc, .ref qm, .ref qe])), (qm, .inr (2, [.ref m0, .ref m1, .ref m2, .ref m3, .ref m4, .ref m5, .ref m6, .ref m7, .int 0, .int ((-1)), .int 0])), (m1, .inr (4, [.int 0, .int 0, .int 0, .ref f0, .ref f1, .ref f2, .ref f3, .ref f4, .ref f5, .ref f6])), (qc, .inr (1, [.ref qb, .int ln, .int 0, .int 0, .int 1]))] H := hP
  have hD : va_D (va_A [(h0, .inr (10, [.ref qc, .ref qm, .ref qe])), (qc, .inr (1, [.ref qb, .int ln, .int 0, .int 0, .int 1])), (qm, .inr (2, [.ref m0, .ref m1, .ref m2, .ref m3, .ref m4, .ref m5, .ref m6, .ref m7, .int 0, .int ((-1)), .int 0])), (m1, .inr (4, [.int 0, .int 0, .int 0, .ref f0, .ref f1, .ref f2, .ref f3, .ref f4, .ref f5, .ref f6]))] s.heap.size) [(h0, .inr (10, [.ref qc, .ref qm, .ref qe])), (qm, .inr (2, [.ref m0, .ref m1, .ref m2, .ref m3, .ref m4, .ref m5, .ref m6, .ref m7, .int 0, .int ((-1)), .int 0])), (m1, .inr (4, [.int 0, .int 0, .int 0, .ref f0, .ref f1, .ref f2, .ref f3, .ref f4, .ref f5, .ref f6])), (qc, .inr (1, [.ref qb, .int ln, .int 0, .int 0, .int 1]))] := hD
  refine lv_if_eq (tgt := 240) E.1 E.2.1 d_Grammar_sections_18 (by decide) (fun _ => ?_) (fun hc => absurd (by decide) hc)
  refine lv_aload_n E.1 E.2.1 d_Grammar_sections_240 rfl (lv_at hl 2 rfl) ?_
  refine x_get E hP (C := "WasmReader$Grammar") (T := T_Grammar) (N := 3) (ci := 10) 0 (v := .ref qm) 1 in_Grammar rfl rfl (by decide) m_180 rfl d_Grammar_sections_241 ?_
  refine x_get E hP (C := "WasmReader$WasmModule") (T := T_WasmModule) (N := 11) (ci := 2) 1 (v := .ref m1) 1 in_WasmModule rfl rfl (by decide) m_190 rfl d_Grammar_sections_244 ?_
  refine x_get E hP (C := "WasmReader$Functions") (T := T_Functions) (N := 10) (ci := 4) 2 (v := .int 0) 2 in_Functions rfl rfl (by decide) m_191 rfl d_Grammar_sections_247 ?_
  refine lv_aload_n E.1 E.2.1 d_Grammar_sections_250 rfl (lv_at hl 2 rfl) ?_
  refine x_get E hP (C := "WasmReader$Grammar") (T := T_Grammar) (N := 3) (ci := 10) 0 (v := .ref qm) 1 in_Grammar rfl rfl (by decide) m_180 rfl d_Grammar_sections_251 ?_
  refine x_get E hP (C := "WasmReader$WasmModule") (T := T_WasmModule) (N := 11) (ci := 2) 1 (v := .ref m1) 1 in_WasmModule rfl rfl (by decide) m_190 rfl d_Grammar_sections_254 ?_
  refine x_get E hP (C := "WasmReader$Functions") (T := T_Functions) (N := 10) (ci := 4) 2 (v := .int 0) 0 in_Functions rfl rfl (by decide) m_192 rfl d_Grammar_sections_257 ?_
  refine lv_aload_n E.1 E.2.1 d_Grammar_sections_260 rfl (lv_at hl 2 rfl) ?_
  refine x_get E hP (C := "WasmReader$Grammar") (T := T_Grammar) (N := 3) (ci := 10) 0 (v := .ref qm) 1 in_Grammar rfl rfl (by decide) m_180 rfl d_Grammar_sections_261 ?_
  refine x_get E hP (C := "WasmReader$WasmModule") (T := T_WasmModule) (N := 11) (ci := 2) 1 (v := .ref m1) 1 in_WasmModule rfl rfl (by decide) m_190 rfl d_Grammar_sections_264 ?_
  refine x_get E hP (C := "WasmReader$Functions") (T := T_Functions) (N := 10) (ci := 4) 2 (v := .int 0) 1 in_Functions rfl rfl (by decide) m_193 rfl d_Grammar_sections_267 ?_
  refine lv_isub E.1 E.2.1 d_Grammar_sections_270 ?_
  refine lv_icmp_eq (tgt := 281) E.1 E.2.1 d_Grammar_sections_271 (by decide) (fun _ => ?_) (fun hc => absurd (by decide) hc)
  refine W.widen (k := 0) (n := 0) (by decide) (by decide) ?_
  exact x_vret (ws := [(h0, .inr (10, [.ref qc, .ref qm, .ref qe])), (qc, .inr (1, [.ref qb, .int ln, .int 0, .int 0, .int 1])), (qm, .inr (2, [.ref m0, .ref m1, .ref m2, .ref m3, .ref m4, .ref m5, .ref m6, .ref m7, .int 0, .int ((-1)), .int 0])), (m1, .inr (4, [.int 0, .int 0, .int 0, .ref f0, .ref f1, .ref f2, .ref f3, .ref f4, .ref f5, .ref f6]))]) E hr hlocks (hP.sub [0, 3, 1, 2] rfl) (hD.sub [0, 3, 1, 2] (by decide) rfl) hS rfl d_Grammar_sections_281
