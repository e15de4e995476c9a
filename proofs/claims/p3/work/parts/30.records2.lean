set_option maxHeartbeats 4000000 in
set_option maxRecDepth 100000 in
theorem c_Functions_addLocals (l : Launch) (D : va_G) (cB cI cJ cZ : ClassId) (sz : Nat) (h0 : Nat) (cn : Nat) (im : Nat) (bd : Int32) (f0 : Nat) (f1 : Nat) (f2 : Nat) (f3 : Nat) (f4 : Nat) (f5 : Nat) (f6 : Nat) (vf0 : Nat → Int32) (vf1 : Nat → Int32) (vf2 : Nat → Int32) (vf3 : Nat → Int32) (vf4 : Nat → Int32) (vf5 : Nat → Int32) (vf6 : Nat → Int32) (x : Nat) (mn : Int64) (ty : Int32) (hc : cn ≤ 20000000) (hx : x < 2 ^ 31) : Met l y_Functions_addLocals (Cond.code y_Functions_addLocals prog_4_method_4_code 7 (some .boolean) :: xtb) ({ frames := 1, cells := 0, slots := 0, locals := 21 }) (xP D [(cB, .byte), (cI, .int), (cJ, .long), (cZ, .boolean)] [.ref h0, .int (nI x), .long mn, .int ty] [(h0, .inr (4, [.int (nI cn), .int (nI im), .int bd, .ref f0, .ref f1, .ref f2, .ref f3, .ref f4, .ref f5, .ref f6])), (f0, .inl (cI, 60, .inl vf0)), (f1, .inl (cI, 60, .inl vf1)), (f2, .inl (cI, 60, .inl vf2)), (f3, .inl (cI, 60, .inl vf3)), (f4, .inl (cI, 60, .inl vf4)), (f5, .inl (cI, 60, .inl vf5)), (f6, .inl (cI, 60, .inl vf6))] sz) (xQi D [(cB, .byte), (cI, .int), (cJ, .long), (cZ, .boolean)] [(h0, .inr (4, [.int (nI cn), .int (nI im), .int bd, .ref f0, .ref f1, .ref f2, .ref f3, .ref f4, .ref f5, .ref f6])), (f0, .inl (cI, 60, .inl vf0)), (f1, .inl (cI, 60, .inl vf1)), (f2, .inl (cI, 60, .inl vf2)), (f3, .inl (cI, 60, .inl vf3)), (f4, .inl (cI, 60, .inl vf4)), (f5, .inl (cI, 60, .inl vf5)), (f6, .inl (cI, 60, .inl vf6))] sz (fun r u => ∃ (u3 : Nat → Int32), ∃ (u4 : Nat → Int32), u = [(h0, .inr (4, [.int (nI cn), .int (nI im), .int bd, .ref f0, .ref f1, .ref f2, .ref f3, .ref f4, .ref f5, .ref f6])), (f0, .inl (cI, 60, .inl vf0)), (f1, .inl (cI, 60, .inl vf1)), (f2, .inl (cI, 60, .inl vf2)), (f3, .inl (cI, 60, .inl u3)), (f4, .inl (cI, 60, .inl u4)), (f5, .inl (cI, 60, .inl vf5)), (f6, .inl (cI, 60, .inl vf6))])) 0 0 (va_A [(h0, .inr (4, [.int (nI cn), .int (nI im), .int bd, .ref f0, .ref f1, .ref f2, .ref f3, .ref f4, .ref f5, .ref f6])), (f0, .inl (cI, 60, .inl vf0)), (f1, .inl (cI, 60, .inl vf1)), (f2, .inl (cI, 60, .inl vf2)), (f3, .inl (cI, 60, .inl vf3)), (f4, .inl (cI, 60, .inl vf4)), (f5, .inl (cI, 60, .inl vf5)), (f6, .inl (cI, 60, .inl vf6))] sz) := by
  refine x_met (Qc := fun s => xQi D [(cB, .byte), (cI, .int), (cJ, .long), (cZ, .boolean)] [(h0, .inr (4, [.int (nI cn), .int (nI im), .int bd, .ref f0, .ref f1, .ref f2, .ref f3, .ref f4, .ref f5, .ref f6])), (f0, .inl (cI, 60, .inl vf0)), (f1, .inl (cI, 60, .inl vf1)), (f2, .inl (cI, 60, .inl vf2)), (f3, .inl (cI, 60, .inl vf3)), (f4, .inl (cI, 60, .inl vf4)), (f5, .inl (cI, 60, .inl vf5)), (f6, .inl (cI, 60, .inl vf6))] s.heap.size (fun r u => ∃ (u3 : Nat → Int32), ∃ (u4 : Nat → Int32), u = [(h0, .inr (4, [.int (nI cn), .int (nI im), .int bd, .ref f0, .ref f1, .ref f2, .ref f3, .ref f4, .ref f5, .ref f6])), (f0, .inl (cI, 60, .inl vf0)), (f1, .inl (cI, 60, .inl vf1)), (f2, .inl (cI, 60, .inl vf2)), (f3, .inl (cI, 60, .inl u3)), (f4, .inl (cI, 60, .inl u4)), (f5, .inl (cI, 60, .inl vf5)), (f6, .inl (cI, 60, .inl vf6))])) (fr := fun s => va_A [(h0, .inr (4, [.int (nI cn), .int (nI im), .int bd, .ref f0, .ref f1, .ref f2, .ref f3, .ref f4, .ref f5, .ref f6])), (f0, .inl (cI, 60, .inl vf0)), (f1, .inl (cI, 60, .inl vf1)), (f2, .inl (cI, 60, .inl vf2)), (f3, .inl (cI, 60, .inl vf3)), (f4, .inl (cI, 60, .inl vf4)), (f5, .inl (cI, 60, .inl vf5)), (f6, .inl (cI, 60, .inl vf6))] s.heap.size) "WasmReader$Functions" (by decide +kernel) rfl (Nat.le_of_ble_eq_true rfl) (fun s h => by rw [h]) (fun s h => by rw [h]) ?_
  intro p e s m below meth c ls E hr hlocks hinit hl hP hD hA hS hZ hadm
  have hl : lv_has ls 7 [(0, .ref h0), (1, .int (nI x)), (2, .long mn), (4, .int ty)] := hl
  refine lv_aload_n E.1 E.2.1 d_Functions_addLocals_0 rfl (lv_at hl 0 rfl) ?_
  refine lv_iload_n E.1 E.2.1 d_Functions_addLocals_1 rfl (lv_at hl 1 rfl) ?_
  have hPc := hP.sub (ws' := [(h0, .inr (4, [.int (nI cn), .int (nI im), .int bd, .ref f0, .ref f1, .ref f2, .ref f3, .ref f4, .ref f5, .ref f6]))]) [0] rfl
  have hDc := hD.sub (ws' := [(h0, .inr (4, [.int (nI cn), .int (nI im), .int bd, .ref f0, .ref f1, .ref f2, .ref f3, .ref f4, .ref f5, .ref f6]))]) [0] (by decide) rfl
  have hFc := va_free (wc := [(h0, .inr (4, [.int (nI cn), .int (nI im), .int bd, .ref f0, .ref f1, .ref f2, .ref f3, .ref f4, .ref f5, .ref f6]))]) hD hS hA [0] rfl
  refine x_ri (ws := [(h0, .inr (4, [.int (nI cn), .int (nI im), .int bd, .ref f0, .ref f1, .ref f2, .ref f3, .ref f4, .ref f5, .ref f6])), (f0, .inl (cI, 60, .inl vf0)), (f1, .inl (cI, 60, .inl vf1)), (f2, .inl (cI, 60, .inl vf2)), (f3, .inl (cI, 60, .inl vf3)), (f4, .inl (cI, 60, .inl vf4)), (f5, .inl (cI, 60, .inl vf5)), (f6, .inl (cI, 60, .inl vf6))]) (wc := [(h0, .inr (4, [.int (nI cn), .int (nI im), .int bd, .ref f0, .ref f1, .ref f2, .ref f3, .ref f4, .ref f5, .ref f6]))]) (wr := [(f0, .inl (cI, 60, .inl vf0)), (f1, .inl (cI, 60, .inl vf1)), (f2, .inl (cI, 60, .inl vf2)), (f3, .inl (cI, 60, .inl vf3)), (f4, .inl (cI, 60, .inl vf4)), (f5, .inl (cI, 60, .inl vf5)), (f6, .inl (cI, 60, .inl vf6))]) (x_V (As := [.int (nI x)]) (C := "WasmReader$Functions") E (c_Functions_has l D cB cI cJ cZ s.heap.size h0 cn im bd f0 f1 f2 f3 f4 f5 f6 x (by omega) (by omega)) m_259 m_59 m_258 m_260 m_261 nm_Functions_has hPc hDc hZ hS hFc rfl rfl rfl hl.1 rfl (Nat.le_of_ble_eq_true rfl) d_Functions_addLocals_2 rfl rfl (by decide) (by decide) (by decide) (by decide)) hP hD hS hA [0] [1, 2, 3, 4, 5, 6, 7] rfl rfl (by decide) (by decide) (fun r_3 u H locs hw hP hD hS => ?_)
  obtain ⟨hal_1, rfl⟩ := hw
  have hP : va_P D classes [(f0, .inl (cI, 60, .inl vf0)), (f1, .inl (cI, 60, .inl vf1)), (f2, .inl (cI, 60, .inl vf2)), (f3, .inl (cI, 60, .inl vf3)), (f4, .inl (cI, 60, .inl vf4)), (f5, .inl (cI, 60, .inl vf5)), (f6, .inl (cI, 60, .inl vf6)), (h0, .inr (4, [.int (nI cn), .int (nI im), .int bd, .ref f0, .ref f1, .ref f2, .ref f3, .ref f4, .ref f5, .ref f6]))] H := hP
  have hD : va_D (va_A [(h0, .inr (4, [.int (nI cn), .int (nI im), .int bd, .ref f0, .ref f1, .ref f2, .ref f3, .ref f4, .ref f5, .ref f6])), (f0, .inl (cI, 60, .inl vf0)), (f1, .inl (cI, 60, .inl vf1)), (f2, .inl (cI, 60, .inl vf2)), (f3, .inl (cI, 60, .inl vf3)), (f4, .inl (cI, 60, .inl vf4)), (f5, .inl (cI, 60, .inl vf5)), (f6, .inl (cI, 60, .inl vf6))] s.heap.size) [(f0, .inl (cI, 60, .inl vf0)), (f1, .inl (cI, 60, .inl vf1)), (f2, .inl (cI, 60, .inl vf2)), (f3, .inl (cI, 60, .inl vf3)), (f4, .inl (cI, 60, .inl vf4)), (f5, .inl (cI, 60, .inl vf5)), (f6, .inl (cI, 60, .inl vf6)), (h0, .inr (4, [.int (nI cn), .int (nI im), .int bd, .ref f0, .ref f1, .ref f2, .ref f3, .ref f4, .ref f5, .ref f6]))] := hD
  rcases hal_1 with ha_4 | ⟨ha_5, hb_6, hb_7⟩
  ·
    subst ha_4
    refine lv_if_ne (tgt := 10) E.1 E.2.1 d_Functions_addLocals_5 (by decide) (fun hc => absurd (by decide) hc) (fun _ => ?_)
    refine lv_iconst (v := 1) E.1 E.2.1 d_Functions_addLocals_8 (by decide) ?_
    refine W.widen (k := 0) (n := 0) (by decide) (by decide) ?_
    exact x_zret (ws := [(h0, .inr (4, [.int (nI cn), .int (nI im), .int bd, .ref f0, .ref f1, .ref f2, .ref f3, .ref f4, .ref f5, .ref f6])), (f0, .inl (cI, 60, .inl vf0)), (f1, .inl (cI, 60, .inl vf1)), (f2, .inl (cI, 60, .inl vf2)), (f3, .inl (cI, 60, .inl vf3)), (f4, .inl (cI, 60, .inl vf4)), (f5, .inl (cI, 60, .inl vf5)), (f6, .inl (cI, 60, .inl vf6))]) E hr (by decide) hlocks (hP.sub [7, 0, 1, 2, 3, 4, 5, 6] rfl) (hD.sub [7, 0, 1, 2, 3, 4, 5, 6] (by decide) rfl) hS ⟨vf3, vf4, rfl⟩ d_Functions_addLocals_9
  ·
    subst ha_5
    refine lv_if_ne (tgt := 10) E.1 E.2.1 d_Functions_addLocals_5 (by decide) (fun _ => ?_) (fun hc => absurd hc (by decide))
    refine lv_aload_n E.1 E.2.1 d_Functions_addLocals_10 rfl (lv_at hl 0 rfl) ?_
    refine x_get E hP (C := "WasmReader$Functions") (T := T_Functions) (N := 10) (ci := 4) 7 (v := .ref f1) 4 in_Functions rfl rfl (by decide) m_11 rfl d_Functions_addLocals_11 ?_
    refine lv_iload_n E.1 E.2.1 d_Functions_addLocals_14 rfl (lv_at hl 1 rfl) ?_
    refine va_iald E.1 E.2.1 E.2.2.2.2.2 hP 1 1 rfl rfl (i := nI x) (vp_in_nI (n := x) (by omega) (by decide)) d_Functions_addLocals_15 ?_
    refine lv_topi (fun v_8 ev_8 => ?_)
    refine lv_aload_n E.1 E.2.1 d_Functions_addLocals_16 rfl (lv_at hl 0 rfl) ?_
    refine x_get E hP (C := "WasmReader$Functions") (T := T_Functions) (N := 10) (ci := 4) 7 (v := .ref f3) 6 in_Functions rfl rfl (by decide) m_13 rfl d_Functions_addLocals_17 ?_
    refine lv_iload_n E.1 E.2.1 d_Functions_addLocals_20 rfl (lv_at hl 1 rfl) ?_
    refine va_iald E.1 E.2.1 E.2.2.2.2.2 hP 3 1 rfl rfl (i := nI x) (vp_in_nI (n := x) (by omega) (by decide)) d_Functions_addLocals_21 ?_
    refine lv_topi (fun v_9 ev_9 => ?_)
    refine lv_iadd E.1 E.2.1 d_Functions_addLocals_22 ?_
    refine lv_topi (fun v_10 ev_10 => ?_)
    refine lv_istore (lv' := [(5, .int v_10), (0, .ref h0), (1, .int (nI x)), (2, .long mn), (4, .int ty)]) E.1 E.2.1 d_Functions_addLocals_23 hl (by decide) rfl (fun ls hl => ?_)
    refine lv_lload_n E.1 E.2.1 d_Functions_addLocals_25 rfl (lv_at hl 3 rfl) ?_
    refine lv_bipush (v := 30) E.1 E.2.1 d_Functions_addLocals_26 (by decide) ?_
    refine lv_iload E.1 E.2.1 d_Functions_addLocals_28 (lv_at hl 0 rfl) ?_
    refine lv_isub E.1 E.2.1 d_Functions_addLocals_30 ?_
    refine lv_topi (fun v_11 ev_11 => ?_)
    refine lv_i2l (v := (v_11 : Int32).toInt64) E.1 E.2.1 d_Functions_addLocals_31 rfl ?_
    refine W.lcmp E.1 E.2.1 d_Functions_addLocals_32 ?_
    refine lv_if_le (tgt := 38) E.1 E.2.1 d_Functions_addLocals_33 (by decide) (fun hc_12 => ?_) (fun hc_12 => ?_)
    ·
      refine lv_iload E.1 E.2.1 d_Functions_addLocals_38 (lv_at hl 0 rfl) ?_
      refine lv_istore (lv' := [(6, .int v_10), (5, .int v_10), (0, .ref h0), (1, .int (nI x)), (2, .long mn), (4, .int ty)]) E.1 E.2.1 d_Functions_addLocals_40 hl (by decide) rfl (fun ls hl => ?_)
      have loop_13 : ∀ (j : Nat) (kv : Int32) (gl : Nat → Int32) (hj : (30 - kv.toInt).toNat < j) (H : Heap) (locs : List Loc) (ls : Array Slot), va_P D classes [(f0, .inl (cI, 60, .inl vf0)), (f1, .inl (cI, 60, .inl vf1)), (f2, .inl (cI, 60, .inl vf2)), (f3, .inl (cI, 60, .inl vf3)), (f4, .inl (cI, 60, .inl gl)), (f5, .inl (cI, 60, .inl vf5)), (f6, .inl (cI, 60, .inl vf6)), (h0, .inr (4, [.int (nI cn), .int (nI im), .int bd, .ref f0, .ref f1, .ref f2, .ref f3, .ref f4, .ref f5, .ref f6]))] H → va_D (va_A [(h0, .inr (4, [.int (nI cn), .int (nI im), .int bd, .ref f0, .ref f1, .ref f2, .ref f3, .ref f4, .ref f5, .ref f6])), (f0, .inl (cI, 60, .inl vf0)), (f1, .inl (cI, 60, .inl vf1)), (f2, .inl (cI, 60, .inl vf2)), (f3, .inl (cI, 60, .inl vf3)), (f4, .inl (cI, 60, .inl vf4)), (f5, .inl (cI, 60, .inl vf5)), (f6, .inl (cI, 60, .inl vf6))] s.heap.size) [(f0, .inl (cI, 60, .inl vf0)), (f1, .inl (cI, 60, .inl vf1)), (f2, .inl (cI, 60, .inl vf2)), (f3, .inl (cI, 60, .inl vf3)), (f4, .inl (cI, 60, .inl gl)), (f5, .inl (cI, 60, .inl vf5)), (f6, .inl (cI, 60, .inl vf6)), (h0, .inr (4, [.int (nI cn), .int (nI im), .int bd, .ref f0, .ref f1, .ref f2, .ref f3, .ref f4, .ref f5, .ref f6]))] → va_S (va_A [(h0, .inr (4, [.int (nI cn), .int (nI im), .int bd, .ref f0, .ref f1, .ref f2, .ref f3, .ref f4, .ref f5, .ref f6])), (f0, .inl (cI, 60, .inl vf0)), (f1, .inl (cI, 60, .inl vf1)), (f2, .inl (cI, 60, .inl vf2)), (f3, .inl (cI, 60, .inl vf3)), (f4, .inl (cI, 60, .inl vf4)), (f5, .inl (cI, 60, .inl vf5)), (f6, .inl (cI, 60, .inl vf6))] s.heap.size) s.heap H locs → lv_has ls 7 [(6, .int kv), (5, .int v_10), (0, .ref h0), (1, .int (nI x)), (2, .long mn), (4, .int ty)] → W p l e (({ frames := 1, cells := 0, slots := 0, locals := 21 }) : Room) s m ([.ref h0, .int (nI x), .long mn, .int ty] : List Value).toArray below meth c H locs 0 0 (MQ below (xQi D [(cB, .byte), (cI, .int), (cJ, .long), (cZ, .boolean)] [(h0, .inr (4, [.int (nI cn), .int (nI im), .int bd, .ref f0, .ref f1, .ref f2, .ref f3, .ref f4, .ref f5, .ref f6])), (f0, .inl (cI, 60, .inl vf0)), (f1, .inl (cI, 60, .inl vf1)), (f2, .inl (cI, 60, .inl vf2)), (f3, .inl (cI, 60, .inl vf3)), (f4, .inl (cI, 60, .inl vf4)), (f5, .inl (cI, 60, .inl vf5)), (f6, .inl (cI, 60, .inl vf6))] s.heap.size (fun r u => ∃ (u3 : Nat → Int32), ∃ (u4 : Nat → Int32), u = [(h0, .inr (4, [.int (nI cn), .int (nI im), .int bd, .ref f0, .ref f1, .ref f2, .ref f3, .ref f4, .ref f5, .ref f6])), (f0, .inl (cI, 60, .inl vf0)), (f1, .inl (cI, 60, .inl vf1)), (f2, .inl (cI, 60, .inl vf2)), (f3, .inl (cI, 60, .inl u3)), (f4, .inl (cI, 60, .inl u4)), (f5, .inl (cI, 60, .inl vf5)), (f6, .inl (cI, 60, .inl vf6))])) ([.ref h0, .int (nI x), .long mn, .int ty] : List Value).toArray s 0 0 (va_A [(h0, .inr (4, [.int (nI cn), .int (nI im), .int bd, .ref f0, .ref f1, .ref f2, .ref f3, .ref f4, .ref f5, .ref f6])), (f0, .inl (cI, 60, .inl vf0)), (f1, .inl (cI, 60, .inl vf1)), (f2, .inl (cI, 60, .inl vf2)), (f3, .inl (cI, 60, .inl vf3)), (f4, .inl (cI, 60, .inl vf4)), (f5, .inl (cI, 60, .inl vf5)), (f6, .inl (cI, 60, .inl vf6))] s.heap.size)) (F0 m 42 ls []) := by
        intro j
        induction j with
        | zero =>
          intro kv gl hj
          exact absurd hj (by omega)
        | succ j ih_j =>
          intro kv gl hj H locs ls hP hD hS hl
          refine lv_iload E.1 E.2.1 d_Functions_addLocals_42 (lv_at hl 0 rfl) ?_
          refine lv_i2l (v := (kv : Int32).toInt64) E.1 E.2.1 d_Functions_addLocals_44 rfl ?_
          refine lv_iload E.1 E.2.1 d_Functions_addLocals_45 (lv_at hl 1 rfl) ?_
          refine lv_i2l (v := (v_10 : Int32).toInt64) E.1 E.2.1 d_Functions_addLocals_47 rfl ?_
          refine lv_lload_n E.1 E.2.1 d_Functions_addLocals_48 rfl (lv_at hl 4 rfl) ?_
          refine lv_ladd E.1 E.2.1 d_Functions_addLocals_49 ?_
          refine lv_topl (fun v_14 ev_14 => ?_)
          refine W.lcmp E.1 E.2.1 d_Functions_addLocals_50 ?_
          refine lv_if_ge (tgt := 90) E.1 E.2.1 d_Functions_addLocals_51 (by decide) (fun hc_15 => ?_) (fun hc_15 => ?_)
          ·
            refine lv_aload_n E.1 E.2.1 d_Functions_addLocals_90 rfl (lv_at hl 2 rfl) ?_
            refine x_get E hP (C := "WasmReader$Functions") (T := T_Functions) (N := 10) (ci := 4) 7 (v := .ref f3) 6 in_Functions rfl rfl (by decide) m_13 rfl d_Functions_addLocals_91 ?_
            refine lv_iload_n E.1 E.2.1 d_Functions_addLocals_94 rfl (lv_at hl 3 rfl) ?_
            refine lv_dup2_11 E.1 E.2.1 d_Functions_addLocals_95 rfl rfl ?_
            refine va_iald E.1 E.2.1 E.2.2.2.2.2 hP 3 1 rfl rfl (i := nI x) (vp_in_nI (n := x) (by omega) (by decide)) d_Functions_addLocals_96 ?_
            refine lv_topi (fun v_16 ev_16 => ?_)
            refine lv_lload_n E.1 E.2.1 d_Functions_addLocals_97 rfl (lv_at hl 4 rfl) ?_
            refine lv_l2i (v := (mn : Int64).toInt32) E.1 E.2.1 d_Functions_addLocals_98 rfl ?_
            refine lv_topi (fun v_17 ev_17 => ?_)
            refine lv_iadd E.1 E.2.1 d_Functions_addLocals_99 ?_
            refine lv_topi (fun v_18 ev_18 => ?_)
            refine va_iast E.1 E.2.1 E.2.2.2.2.2 hP hD hS 3 1 rfl rfl (i := nI x) (x := v_18) (vp_in_nI (n := x) (by omega) (by decide)) d_Functions_addLocals_100 (fun H locs hP hD hS => ?_)
            generalize upd vf3 (Int32.toNatClampNeg (nI x)) v_18 = g_19 at hP hD
            have hP : va_P D classes [(f0, .inl (cI, 60, .inl vf0)), (f1, .inl (cI, 60, .inl vf1)), (f2, .inl (cI, 60, .inl vf2)), (f3, .inl (cI, 60, .inl g_19)), (f4, .inl (cI, 60, .inl gl)), (f5, .inl (cI, 60, .inl vf5)), (f6, .inl (cI, 60, .inl vf6)), (h0, .inr (4, [.int (nI cn), .int (nI im), .int bd, .ref f0, .ref f1, .ref f2, .ref f3, .ref f4, .ref f5, .ref f6]))] H := hP
            have hD : va_D (va_A [(h0, .inr (4, [.int (nI cn), .int (nI im), .int bd, .ref f0, .ref f1, .ref f2, .ref f3, .ref f4, .ref f5, .ref f6])), (f0, .inl (cI, 60, .inl vf0)), (f1, .inl (cI, 60, .inl vf1)), (f2, .inl (cI, 60, .inl vf2)), (f3, .inl (cI, 60, .inl vf3)), (f4, .inl (cI, 60, .inl vf4)), (f5, .inl (cI, 60, .inl vf5)), (f6, .inl (cI, 60, .inl vf6))] s.heap.size) [(f0, .inl (cI, 60, .inl vf0)), (f1, .inl (cI, 60, .inl vf1)), (f2, .inl (cI, 60, .inl vf2)), (f3, .inl (cI, 60, .inl g_19)), (f4, .inl (cI, 60, .inl gl)), (f5, .inl (cI, 60, .inl vf5)), (f6, .inl (cI, 60, .inl vf6)), (h0, .inr (4, [.int (nI cn), .int (nI im), .int bd, .ref f0, .ref f1, .ref f2, .ref f3, .ref f4, .ref f5, .ref f6]))] := hD
            refine lv_iconst (v := 1) E.1 E.2.1 d_Functions_addLocals_101 (by decide) ?_
            refine W.widen (k := 0) (n := 0) (by decide) (by decide) ?_
            exact x_zret (ws := [(h0, .inr (4, [.int (nI cn), .int (nI im), .int bd, .ref f0, .ref f1, .ref f2, .ref f3, .ref f4, .ref f5, .ref f6])), (f0, .inl (cI, 60, .inl vf0)), (f1, .inl (cI, 60, .inl vf1)), (f2, .inl (cI, 60, .inl vf2)), (f3, .inl (cI, 60, .inl g_19)), (f4, .inl (cI, 60, .inl gl)), (f5, .inl (cI, 60, .inl vf5)), (f6, .inl (cI, 60, .inl vf6))]) E hr (by decide) hlocks (hP.sub [7, 0, 1, 2, 3, 4, 5, 6] rfl) (hD.sub [7, 0, 1, 2, 3, 4, 5, 6] (by decide) rfl) hS ⟨g_19, gl, rfl⟩ d_Functions_addLocals_102
          ·
            refine lv_iload E.1 E.2.1 d_Functions_addLocals_54 (lv_at hl 0 rfl) ?_
            refine lv_bipush (v := 30) E.1 E.2.1 d_Functions_addLocals_56 (by decide) ?_
            refine lv_icmp_ge (tgt := 90) E.1 E.2.1 d_Functions_addLocals_58 (by decide) (fun hc_20 => ?_) (fun hc_20 => ?_)
            ·
              refine lv_aload_n E.1 E.2.1 d_Functions_addLocals_90 rfl (lv_at hl 2 rfl) ?_
              refine x_get E hP (C := "WasmReader$Functions") (T := T_Functions) (N := 10) (ci := 4) 7 (v := .ref f3) 6 in_Functions rfl rfl (by decide) m_13 rfl d_Functions_addLocals_91 ?_
              refine lv_iload_n E.1 E.2.1 d_Functions_addLocals_94 rfl (lv_at hl 3 rfl) ?_
              refine lv_dup2_11 E.1 E.2.1 d_Functions_addLocals_95 rfl rfl ?_
              refine va_iald E.1 E.2.1 E.2.2.2.2.2 hP 3 1 rfl rfl (i := nI x) (vp_in_nI (n := x) (by omega) (by decide)) d_Functions_addLocals_96 ?_
              refine lv_topi (fun v_21 ev_21 => ?_)
              refine lv_lload_n E.1 E.2.1 d_Functions_addLocals_97 rfl (lv_at hl 4 rfl) ?_
              refine lv_l2i (v := (mn : Int64).toInt32) E.1 E.2.1 d_Functions_addLocals_98 rfl ?_
              refine lv_topi (fun v_22 ev_22 => ?_)
              refine lv_iadd E.1 E.2.1 d_Functions_addLocals_99 ?_
              refine lv_topi (fun v_23 ev_23 => ?_)
              refine va_iast E.1 E.2.1 E.2.2.2.2.2 hP hD hS 3 1 rfl rfl (i := nI x) (x := v_23) (vp_in_nI (n := x) (by omega) (by decide)) d_Functions_addLocals_100 (fun H locs hP hD hS => ?_)
              generalize upd vf3 (Int32.toNatClampNeg (nI x)) v_23 = g_24 at hP hD
              have hP : va_P D classes [(f0, .inl (cI, 60, .inl vf0)), (f1, .inl (cI, 60, .inl vf1)), (f2, .inl (cI, 60, .inl vf2)), (f3, .inl (cI, 60, .inl g_24)), (f4, .inl (cI, 60, .inl gl)), (f5, .inl (cI, 60, .inl vf5)), (f6, .inl (cI, 60, .inl vf6)), (h0, .inr (4, [.int (nI cn), .int (nI im), .int bd, .ref f0, .ref f1, .ref f2, .ref f3, .ref f4, .ref f5, .ref f6]))] H := hP
              have hD : va_D (va_A [(h0, .inr (4, [.int (nI cn), .int (nI im), .int bd, .ref f0, .ref f1, .ref f2, .ref f3, .ref f4, .ref f5, .ref f6])), (f0, .inl (cI, 60, .inl vf0)), (f1, .inl (cI, 60, .inl vf1)), (f2, .inl (cI, 60, .inl vf2)), (f3, .inl (cI, 60, .inl vf3)), (f4, .inl (cI, 60, .inl vf4)), (f5, .inl (cI, 60, .inl vf5)), (f6, .inl (cI, 60, .inl vf6))] s.heap.size) [(f0, .inl (cI, 60, .inl vf0)), (f1, .inl (cI, 60, .inl vf1)), (f2, .inl (cI, 60, .inl vf2)), (f3, .inl (cI, 60, .inl g_24)), (f4, .inl (cI, 60, .inl gl)), (f5, .inl (cI, 60, .inl vf5)), (f6, .inl (cI, 60, .inl vf6)), (h0, .inr (4, [.int (nI cn), .int (nI im), .int bd, .ref f0, .ref f1, .ref f2, .ref f3, .ref f4, .ref f5, .ref f6]))] := hD
              refine lv_iconst (v := 1) E.1 E.2.1 d_Functions_addLocals_101 (by decide) ?_
              refine W.widen (k := 0) (n := 0) (by decide) (by decide) ?_
              exact x_zret (ws := [(h0, .inr (4, [.int (nI cn), .int (nI im), .int bd, .ref f0, .ref f1, .ref f2, .ref f3, .ref f4, .ref f5, .ref f6])), (f0, .inl (cI, 60, .inl vf0)), (f1, .inl (cI, 60, .inl vf1)), (f2, .inl (cI, 60, .inl vf2)), (f3, .inl (cI, 60, .inl g_24)), (f4, .inl (cI, 60, .inl gl)), (f5, .inl (cI, 60, .inl vf5)), (f6, .inl (cI, 60, .inl vf6))]) E hr (by decide) hlocks (hP.sub [7, 0, 1, 2, 3, 4, 5, 6] rfl) (hD.sub [7, 0, 1, 2, 3, 4, 5, 6] (by decide) rfl) hS ⟨g_24, gl, rfl⟩ d_Functions_addLocals_102
            ·
              refine lv_aload_n E.1 E.2.1 d_Functions_addLocals_61 rfl (lv_at hl 2 rfl) ?_
              refine x_get E hP (C := "WasmReader$Functions") (T := T_Functions) (N := 10) (ci := 4) 7 (v := .ref f4) 7 in_Functions rfl rfl (by decide) m_14 rfl d_Functions_addLocals_62 ?_
              refine lv_iload_n E.1 E.2.1 d_Functions_addLocals_65 rfl (lv_at hl 3 rfl) ?_
              refine lv_dup2_11 E.1 E.2.1 d_Functions_addLocals_66 rfl rfl ?_
              refine va_iald E.1 E.2.1 E.2.2.2.2.2 hP 4 1 rfl rfl (i := nI x) (vp_in_nI (n := x) (by omega) (by decide)) d_Functions_addLocals_67 ?_
              refine lv_topi (fun v_25 ev_25 => ?_)
              refine lv_iload E.1 E.2.1 d_Functions_addLocals_68 (lv_at hl 5 rfl) ?_
              refine lv_iconst (v := 1) E.1 E.2.1 d_Functions_addLocals_70 (by decide) ?_
              refine lv_icmp_ne (tgt := 81) E.1 E.2.1 d_Functions_addLocals_71 (by decide) (fun hc_26 => ?_) (fun hc_26 => ?_)
              ·
                refine lv_iconst (v := 0) E.1 E.2.1 d_Functions_addLocals_81 (by decide) ?_
                refine lv_ior E.1 E.2.1 d_Functions_addLocals_82 ?_
                refine lv_topi (fun v_27 ev_27 => ?_)
                refine va_iast E.1 E.2.1 E.2.2.2.2.2 hP hD hS 4 1 rfl rfl (i := nI x) (x := v_27) (vp_in_nI (n := x) (by omega) (by decide)) d_Functions_addLocals_83 (fun H locs hP hD hS => ?_)
                generalize upd gl (Int32.toNatClampNeg (nI x)) v_27 = g_28 at hP hD
                have hP : va_P D classes [(f0, .inl (cI, 60, .inl vf0)), (f1, .inl (cI, 60, .inl vf1)), (f2, .inl (cI, 60, .inl vf2)), (f3, .inl (cI, 60, .inl vf3)), (f4, .inl (cI, 60, .inl g_28)), (f5, .inl (cI, 60, .inl vf5)), (f6, .inl (cI, 60, .inl vf6)), (h0, .inr (4, [.int (nI cn), .int (nI im), .int bd, .ref f0, .ref f1, .ref f2, .ref f3, .ref f4, .ref f5, .ref f6]))] H := hP
                have hD : va_D (va_A [(h0, .inr (4, [.int (nI cn), .int (nI im), .int bd, .ref f0, .ref f1, .ref f2, .ref f3, .ref f4, .ref f5, .ref f6])), (f0, .inl (cI, 60, .inl vf0)), (f1, .inl (cI, 60, .inl vf1)), (f2, .inl (cI, 60, .inl vf2)), (f3, .inl (cI, 60, .inl vf3)), (f4, .inl (cI, 60, .inl vf4)), (f5, .inl (cI, 60, .inl vf5)), (f6, .inl (cI, 60, .inl vf6))] s.heap.size) [(f0, .inl (cI, 60, .inl vf0)), (f1, .inl (cI, 60, .inl vf1)), (f2, .inl (cI, 60, .inl vf2)), (f3, .inl (cI, 60, .inl vf3)), (f4, .inl (cI, 60, .inl g_28)), (f5, .inl (cI, 60, .inl vf5)), (f6, .inl (cI, 60, .inl vf6)), (h0, .inr (4, [.int (nI cn), .int (nI im), .int bd, .ref f0, .ref f1, .ref f2, .ref f3, .ref f4, .ref f5, .ref f6]))] := hD
                obtain ⟨vi_29, evi_29⟩ : ∃ z : Int32, z = kv + (1) := ⟨_, rfl⟩
                refine lv_iinc (v := vi_29) (lv' := [(6, .int vi_29), (5, .int v_10), (0, .ref h0), (1, .int (nI x)), (2, .long mn), (4, .int ty)]) E.1 E.2.1 d_Functions_addLocals_84 hl (k := 0) rfl evi_29.symm (by decide) rfl (fun ls hl => ?_)
                refine lv_goto (tgt := 42) E.1 E.2.1 d_Functions_addLocals_87 (by decide) ?_
                exact ih_j vi_29 g_28 (by rw [evi_29]; exact x_dec30 hc_20 hj) _ _ _ (hP.sub [0, 1, 2, 3, 4, 5, 6, 7] rfl) (hD.sub [0, 1, 2, 3, 4, 5, 6, 7] (by decide) rfl) hS (lv_sub hl [0, 1, 2, 3, 4, 5] rfl)
              ·
                refine lv_iconst (v := 1) E.1 E.2.1 d_Functions_addLocals_74 (by decide) ?_
                refine lv_iload E.1 E.2.1 d_Functions_addLocals_75 (lv_at hl 0 rfl) ?_
                refine lv_ishl E.1 E.2.1 d_Functions_addLocals_77 ?_
                refine lv_topi (fun v_30 ev_30 => ?_)
                refine lv_goto (tgt := 82) E.1 E.2.1 d_Functions_addLocals_78 (by decide) ?_
                refine lv_ior E.1 E.2.1 d_Functions_addLocals_82 ?_
                refine lv_topi (fun v_31 ev_31 => ?_)
                refine va_iast E.1 E.2.1 E.2.2.2.2.2 hP hD hS 4 1 rfl rfl (i := nI x) (x := v_31) (vp_in_nI (n := x) (by omega) (by decide)) d_Functions_addLocals_83 (fun H locs hP hD hS => ?_)
                generalize upd gl (Int32.toNatClampNeg (nI x)) v_31 = g_32 at hP hD
                have hP : va_P D classes [(f0, .inl (cI, 60, .inl vf0)), (f1, .inl (cI, 60, .inl vf1)), (f2, .inl (cI, 60, .inl vf2)), (f3, .inl (cI, 60, .inl vf3)), (f4, .inl (cI, 60, .inl g_32)), (f5, .inl (cI, 60, .inl vf5)), (f6, .inl (cI, 60, .inl vf6)), (h0, .inr (4, [.int (nI cn), .int (nI im), .int bd, .ref f0, .ref f1, .ref f2, .ref f3, .ref f4, .ref f5, .ref f6]))] H := hP
                have hD : va_D (va_A [(h0, .inr (4, [.int (nI cn), .int (nI im), .int bd, .ref f0, .ref f1, .ref f2, .ref f3, .ref f4, .ref f5, .ref f6])), (f0, .inl (cI, 60, .inl vf0)), (f1, .inl (cI, 60, .inl vf1)), (f2, .inl (cI, 60, .inl vf2)), (f3, .inl (cI, 60, .inl vf3)), (f4, .inl (cI, 60, .inl vf4)), (f5, .inl (cI, 60, .inl vf5)), (f6, .inl (cI, 60, .inl vf6))] s.heap.size) [(f0, .inl (cI, 60, .inl vf0)), (f1, .inl (cI, 60, .inl vf1)), (f2, .inl (cI, 60, .inl vf2)), (f3, .inl (cI, 60, .inl vf3)), (f4, .inl (cI, 60, .inl g_32)), (f5, .inl (cI, 60, .inl vf5)), (f6, .inl (cI, 60, .inl vf6)), (h0, .inr (4, [.int (nI cn), .int (nI im), .int bd, .ref f0, .ref f1, .ref f2, .ref f3, .ref f4, .ref f5, .ref f6]))] := hD
                obtain ⟨vi_33, evi_33⟩ : ∃ z : Int32, z = kv + (1) := ⟨_, rfl⟩
                refine lv_iinc (v := vi_33) (lv' := [(6, .int vi_33), (5, .int v_10), (0, .ref h0), (1, .int (nI x)), (2, .long mn), (4, .int ty)]) E.1 E.2.1 d_Functions_addLocals_84 hl (k := 0) rfl evi_33.symm (by decide) rfl (fun ls hl => ?_)
                refine lv_goto (tgt := 42) E.1 E.2.1 d_Functions_addLocals_87 (by decide) ?_
                exact ih_j vi_33 g_32 (by rw [evi_33]; exact x_dec30 hc_20 hj) _ _ _ (hP.sub [0, 1, 2, 3, 4, 5, 6, 7] rfl) (hD.sub [0, 1, 2, 3, 4, 5, 6, 7] (by decide) rfl) hS (lv_sub hl [0, 1, 2, 3, 4, 5] rfl)
      exact loop_13 ((30 - (v_10 : Int32).toInt).toNat + 1) v_10 vf4 (by omega) _ _ _ (hP.sub [0, 1, 2, 3, 4, 5, 6, 7] rfl) (hD.sub [0, 1, 2, 3, 4, 5, 6, 7] (by decide) rfl) hS (lv_sub hl [0, 1, 2, 3, 4, 5] rfl)
    ·
      refine lv_iconst (v := 0) E.1 E.2.1 d_Functions_addLocals_36 (by decide) ?_
      refine W.widen (k := 0) (n := 0) (by decide) (by decide) ?_
      exact x_zret (ws := [(h0, .inr (4, [.int (nI cn), .int (nI im), .int bd, .ref f0, .ref f1, .ref f2, .ref f3, .ref f4, .ref f5, .ref f6])), (f0, .inl (cI, 60, .inl vf0)), (f1, .inl (cI, 60, .inl vf1)), (f2, .inl (cI, 60, .inl vf2)), (f3, .inl (cI, 60, .inl vf3)), (f4, .inl (cI, 60, .inl vf4)), (f5, .inl (cI, 60, .inl vf5)), (f6, .inl (cI, 60, .inl vf6))]) E hr (by decide) hlocks (hP.sub [7, 0, 1, 2, 3, 4, 5, 6] rfl) (hD.sub [7, 0, 1, 2, 3, 4, 5, 6] (by decide) rfl) hS ⟨vf3, vf4, rfl⟩ d_Functions_addLocals_37
set_option maxHeartbeats 4000000 in
set_option maxRecDepth 100000 in
theorem c_Functions_addLocalsr (l : Launch) (D : va_G) (cB cI cJ cZ : ClassId) (sz : Nat) (h0 : Nat) (cn : Nat) (im : Nat) (bd : Int32) (f0 : Nat) (f1 : Nat) (f2 : Nat) (f3 : Nat) (f4 : Nat) (f5 : Nat) (f6 : Nat) (vf0 : Nat → Int32) (vf1 : Nat → Int32) (vf2 : Nat → Int32) (vf3 : Nat → Int32) (vf4 : Nat → Int32) (vf5 : Nat → Int32) (vf6 : Nat → Int32) (t : Int32) (mn : Int64) (ty : Int32) (hc : cn ≤ 20000000) : Met l y_Functions_addLocals (Cond.code y_Functions_addLocals prog_4_method_4_code 7 (some .boolean) :: xtb) ({ frames := 1, cells := 0, slots := 0, locals := 21 }) (xP D [(cB, .byte), (cI, .int), (cJ, .long), (cZ, .boolean)] [.ref h0, .int t, .long mn, .int ty] [(h0, .inr (4, [.int (nI cn), .int (nI im), .int bd, .ref f0, .ref f1, .ref f2, .ref f3, .ref f4, .ref f5, .ref f6])), (f0, .inl (cI, 60, .inl vf0)), (f1, .inl (cI, 60, .inl vf1)), (f2, .inl (cI, 60, .inl vf2)), (f3, .inl (cI, 60, .inl vf3)), (f4, .inl (cI, 60, .inl vf4)), (f5, .inl (cI, 60, .inl vf5)), (f6, .inl (cI, 60, .inl vf6))] sz) (xQi D [(cB, .byte), (cI, .int), (cJ, .long), (cZ, .boolean)] [(h0, .inr (4, [.int (nI cn), .int (nI im), .int bd, .ref f0, .ref f1, .ref f2, .ref f3, .ref f4, .ref f5, .ref f6])), (f0, .inl (cI, 60, .inl vf0)), (f1, .inl (cI, 60, .inl vf1)), (f2, .inl (cI, 60, .inl vf2)), (f3, .inl (cI, 60, .inl vf3)), (f4, .inl (cI, 60, .inl vf4)), (f5, .inl (cI, 60, .inl vf5)), (f6, .inl (cI, 60, .inl vf6))] sz (fun r u => ∃ (u3 : Nat → Int32), ∃ (u4 : Nat → Int32), u = [(h0, .inr (4, [.int (nI cn), .int (nI im), .int bd, .ref f0, .ref f1, .ref f2, .ref f3, .ref f4, .ref f5, .ref f6])), (f0, .inl (cI, 60, .inl vf0)), (f1, .inl (cI, 60, .inl vf1)), (f2, .inl (cI, 60, .inl vf2)), (f3, .inl (cI, 60, .inl u3)), (f4, .inl (cI, 60, .inl u4)), (f5, .inl (cI, 60, .inl vf5)), (f6, .inl (cI, 60, .inl vf6))])) 0 0 (va_A [(h0, .inr (4, [.int (nI cn), .int (nI im), .int bd, .ref f0, .ref f1, .ref f2, .ref f3, .ref f4, .ref f5, .ref f6])), (f0, .inl (cI, 60, .inl vf0)), (f1, .inl (cI, 60, .inl vf1)), (f2, .inl (cI, 60, .inl vf2)), (f3, .inl (cI, 60, .inl vf3)), (f4, .inl (cI, 60, .inl vf4)), (f5, .inl (cI, 60, .inl vf5)), (f6, .inl (cI, 60, .inl vf6))] sz) := by
  refine x_met (Qc := fun s => xQi D [(cB, .byte), (cI, .int), (cJ, .long), (cZ, .boolean)] [(h0, .inr (4, [.int (nI cn), .int (nI im), .int bd, .ref f0, .ref f1, .ref f2, .ref f3, .ref f4, .ref f5, .ref f6])), (f0, .inl (cI, 60, .inl vf0)), (f1, .inl (cI, 60, .inl vf1)), (f2, .inl (cI, 60, .inl vf2)), (f3, .inl (cI, 60, .inl vf3)), (f4, .inl (cI, 60, .inl vf4)), (f5, .inl (cI, 60, .inl vf5)), (f6, .inl (cI, 60, .inl vf6))] s.heap.size (fun r u => ∃ (u3 : Nat → Int32), ∃ (u4 : Nat → Int32), u = [(h0, .inr (4, [.int (nI cn), .int (nI im), .int bd, .ref f0, .ref f1, .ref f2, .ref f3, .ref f4, .ref f5, .ref f6])), (f0, .inl (cI, 60, .inl vf0)), (f1, .inl (cI, 60, .inl vf1)), (f2, .inl (cI, 60, .inl vf2)), (f3, .inl (cI, 60, .inl u3)), (f4, .inl (cI, 60, .inl u4)), (f5, .inl (cI, 60, .inl vf5)), (f6, .inl (cI, 60, .inl vf6))])) (fr := fun s => va_A [(h0, .inr (4, [.int (nI cn), .int (nI im), .int bd, .ref f0, .ref f1, .ref f2, .ref f3, .ref f4, .ref f5, .ref f6])), (f0, .inl (cI, 60, .inl vf0)), (f1, .inl (cI, 60, .inl vf1)), (f2, .inl (cI, 60, .inl vf2)), (f3, .inl (cI, 60, .inl vf3)), (f4, .inl (cI, 60, .inl vf4)), (f5, .inl (cI, 60, .inl vf5)), (f6, .inl (cI, 60, .inl vf6))] s.heap.size) "WasmReader$Functions" (by decide +kernel) rfl (Nat.le_of_ble_eq_true rfl) (fun s h => by rw [h]) (fun s h => by rw [h]) ?_
  intro p e s m below meth c ls E hr hlocks hinit hl hP hD hA hS hZ hadm
  have hl : lv_has ls 7 [(0, .ref h0), (1, .int t), (2, .long mn), (4, .int ty)] := hl
  refine lv_aload_n E.1 E.2.1 d_Functions_addLocals_0 rfl (lv_at hl 0 rfl) ?_
  refine lv_iload_n E.1 E.2.1 d_Functions_addLocals_1 rfl (lv_at hl 1 rfl) ?_
  have hPc := hP.sub (ws' := [(h0, .inr (4, [.int (nI cn), .int (nI im), .int bd, .ref f0, .ref f1, .ref f2, .ref f3, .ref f4, .ref f5, .ref f6]))]) [0] rfl
  have hDc := hD.sub (ws' := [(h0, .inr (4, [.int (nI cn), .int (nI im), .int bd, .ref f0, .ref f1, .ref f2, .ref f3, .ref f4, .ref f5, .ref f6]))]) [0] (by decide) rfl
  have hFc := va_free (wc := [(h0, .inr (4, [.int (nI cn), .int (nI im), .int bd, .ref f0, .ref f1, .ref f2, .ref f3, .ref f4, .ref f5, .ref f6]))]) hD hS hA [0] rfl
  refine x_ri (ws := [(h0, .inr (4, [.int (nI cn), .int (nI im), .int bd, .ref f0, .ref f1, .ref f2, .ref f3, .ref f4, .ref f5, .ref f6])), (f0, .inl (cI, 60, .inl vf0)), (f1, .inl (cI, 60, .inl vf1)), (f2, .inl (cI, 60, .inl vf2)), (f3, .inl (cI, 60, .inl vf3)), (f4, .inl (cI, 60, .inl vf4)), (f5, .inl (cI, 60, .inl vf5)), (f6, .inl (cI, 60, .inl vf6))]) (wc := [(h0, .inr (4, [.int (nI cn), .int (nI im), .int bd, .ref f0, .ref f1, .ref f2, .ref f3, .ref f4, .ref f5, .ref f6]))]) (wr := [(f0, .inl (cI, 60, .inl vf0)), (f1, .inl (cI, 60, .inl vf1)), (f2, .inl (cI, 60, .inl vf2)), (f3, .inl (cI, 60, .inl vf3)), (f4, .inl (cI, 60, .inl vf4)), (f5, .inl (cI, 60, .inl vf5)), (f6, .inl (cI, 60, .inl vf6))]) (x_V (As := [.int t]) (C := "WasmReader$Functions") E (c_Functions_hasr l D cB cI cJ cZ s.heap.size h0 cn im bd f0 f1 f2 f3 f4 f5 f6 t (by omega)) m_259 m_59 m_258 m_260 m_261 nm_Functions_has hPc hDc hZ hS hFc rfl rfl rfl hl.1 rfl (Nat.le_of_ble_eq_true rfl) d_Functions_addLocals_2 rfl rfl (by decide) (by decide) (by decide) (by decide)) hP hD hS hA [0] [1, 2, 3, 4, 5, 6, 7] rfl rfl (by decide) (by decide) (fun r_36 u H locs hw hP hD hS => ?_)
  obtain ⟨hal_34, rfl⟩ := hw
  have hP : va_P D classes [(f0, .inl (cI, 60, .inl vf0)), (f1, .inl (cI, 60, .inl vf1)), (f2, .inl (cI, 60, .inl vf2)), (f3, .inl (cI, 60, .inl vf3)), (f4, .inl (cI, 60, .inl vf4)), (f5, .inl (cI, 60, .inl vf5)), (f6, .inl (cI, 60, .inl vf6)), (h0, .inr (4, [.int (nI cn), .int (nI im), .int bd, .ref f0, .ref f1, .ref f2, .ref f3, .ref f4, .ref f5, .ref f6]))] H := hP
  have hD : va_D (va_A [(h0, .inr (4, [.int (nI cn), .int (nI im), .int bd, .ref f0, .ref f1, .ref f2, .ref f3, .ref f4, .ref f5, .ref f6])), (f0, .inl (cI, 60, .inl vf0)), (f1, .inl (cI, 60, .inl vf1)), (f2, .inl (cI, 60, .inl vf2)), (f3, .inl (cI, 60, .inl vf3)), (f4, .inl (cI, 60, .inl vf4)), (f5, .inl (cI, 60, .inl vf5)), (f6, .inl (cI, 60, .inl vf6))] s.heap.size) [(f0, .inl (cI, 60, .inl vf0)), (f1, .inl (cI, 60, .inl vf1)), (f2, .inl (cI, 60, .inl vf2)), (f3, .inl (cI, 60, .inl vf3)), (f4, .inl (cI, 60, .inl vf4)), (f5, .inl (cI, 60, .inl vf5)), (f6, .inl (cI, 60, .inl vf6)), (h0, .inr (4, [.int (nI cn), .int (nI im), .int bd, .ref f0, .ref f1, .ref f2, .ref f3, .ref f4, .ref f5, .ref f6]))] := hD
  rcases hal_34 with ha_37 | ⟨x_38, ha_39, hb_40, hb_41, hb_42⟩
  ·
    subst ha_37
    refine lv_if_ne (tgt := 10) E.1 E.2.1 d_Functions_addLocals_5 (by decide) (fun hc => absurd (by decide) hc) (fun _ => ?_)
    refine lv_iconst (v := 1) E.1 E.2.1 d_Functions_addLocals_8 (by decide) ?_
    refine W.widen (k := 0) (n := 0) (by decide) (by decide) ?_
    exact x_zret (ws := [(h0, .inr (4, [.int (nI cn), .int (nI im), .int bd, .ref f0, .ref f1, .ref f2, .ref f3, .ref f4, .ref f5, .ref f6])), (f0, .inl (cI, 60, .inl vf0)), (f1, .inl (cI, 60, .inl vf1)), (f2, .inl (cI, 60, .inl vf2)), (f3, .inl (cI, 60, .inl vf3)), (f4, .inl (cI, 60, .inl vf4)), (f5, .inl (cI, 60, .inl vf5)), (f6, .inl (cI, 60, .inl vf6))]) E hr (by decide) hlocks (hP.sub [7, 0, 1, 2, 3, 4, 5, 6] rfl) (hD.sub [7, 0, 1, 2, 3, 4, 5, 6] (by decide) rfl) hS ⟨vf3, vf4, rfl⟩ d_Functions_addLocals_9
  ·
    subst ha_39
    subst hb_40
    refine lv_if_ne (tgt := 10) E.1 E.2.1 d_Functions_addLocals_5 (by decide) (fun _ => ?_) (fun hc => absurd hc (by decide))
    refine lv_aload_n E.1 E.2.1 d_Functions_addLocals_10 rfl (lv_at hl 0 rfl) ?_
    refine x_get E hP (C := "WasmReader$Functions") (T := T_Functions) (N := 10) (ci := 4) 7 (v := .ref f1) 4 in_Functions rfl rfl (by decide) m_11 rfl d_Functions_addLocals_11 ?_
    refine lv_iload_n E.1 E.2.1 d_Functions_addLocals_14 rfl (lv_at hl 1 rfl) ?_
    refine va_iald E.1 E.2.1 E.2.2.2.2.2 hP 1 1 rfl rfl (i := nI x_38) (vp_in_nI (n := x_38) (by omega) (by decide)) d_Functions_addLocals_15 ?_
    refine lv_topi (fun v_43 ev_43 => ?_)
    refine lv_aload_n E.1 E.2.1 d_Functions_addLocals_16 rfl (lv_at hl 0 rfl) ?_
    refine x_get E hP (C := "WasmReader$Functions") (T := T_Functions) (N := 10) (ci := 4) 7 (v := .ref f3) 6 in_Functions rfl rfl (by decide) m_13 rfl d_Functions_addLocals_17 ?_
    refine lv_iload_n E.1 E.2.1 d_Functions_addLocals_20 rfl (lv_at hl 1 rfl) ?_
    refine va_iald E.1 E.2.1 E.2.2.2.2.2 hP 3 1 rfl rfl (i := nI x_38) (vp_in_nI (n := x_38) (by omega) (by decide)) d_Functions_addLocals_21 ?_
    refine lv_topi (fun v_44 ev_44 => ?_)
    refine lv_iadd E.1 E.2.1 d_Functions_addLocals_22 ?_
    refine lv_topi (fun v_45 ev_45 => ?_)
    refine lv_istore (lv' := [(5, .int v_45), (0, .ref h0), (1, .int (nI x_38)), (2, .long mn), (4, .int ty)]) E.1 E.2.1 d_Functions_addLocals_23 hl (by decide) rfl (fun ls hl => ?_)
    refine lv_lload_n E.1 E.2.1 d_Functions_addLocals_25 rfl (lv_at hl 3 rfl) ?_
    refine lv_bipush (v := 30) E.1 E.2.1 d_Functions_addLocals_26 (by decide) ?_
    refine lv_iload E.1 E.2.1 d_Functions_addLocals_28 (lv_at hl 0 rfl) ?_
    refine lv_isub E.1 E.2.1 d_Functions_addLocals_30 ?_
    refine lv_topi (fun v_46 ev_46 => ?_)
    refine lv_i2l (v := (v_46 : Int32).toInt64) E.1 E.2.1 d_Functions_addLocals_31 rfl ?_
    refine W.lcmp E.1 E.2.1 d_Functions_addLocals_32 ?_
    refine lv_if_le (tgt := 38) E.1 E.2.1 d_Functions_addLocals_33 (by decide) (fun hc_47 => ?_) (fun hc_47 => ?_)
    ·
      refine lv_iload E.1 E.2.1 d_Functions_addLocals_38 (lv_at hl 0 rfl) ?_
      refine lv_istore (lv' := [(6, .int v_45), (5, .int v_45), (0, .ref h0), (1, .int (nI x_38)), (2, .long mn), (4, .int ty)]) E.1 E.2.1 d_Functions_addLocals_40 hl (by decide) rfl (fun ls hl => ?_)
      have loop_48 : ∀ (j : Nat) (kv : Int32) (gl : Nat → Int32) (hj : (30 - kv.toInt).toNat < j) (H : Heap) (locs : List Loc) (ls : Array Slot), va_P D classes [(f0, .inl (cI, 60, .inl vf0)), (f1, .inl (cI, 60, .inl vf1)), (f2, .inl (cI, 60, .inl vf2)), (f3, .inl (cI, 60, .inl vf3)), (f4, .inl (cI, 60, .inl gl)), (f5, .inl (cI, 60, .inl vf5)), (f6, .inl (cI, 60, .inl vf6)), (h0, .inr (4, [.int (nI cn), .int (nI im), .int bd, .ref f0, .ref f1, .ref f2, .ref f3, .ref f4, .ref f5, .ref f6]))] H → va_D (va_A [(h0, .inr (4, [.int (nI cn), .int (nI im), .int bd, .ref f0, .ref f1, .ref f2, .ref f3, .ref f4, .ref f5, .ref f6])), (f0, .inl (cI, 60, .inl vf0)), (f1, .inl (cI, 60, .inl vf1)), (f2, .inl (cI, 60, .inl vf2)), (f3, .inl (cI, 60, .inl vf3)), (f4, .inl (cI, 60, .inl vf4)), (f5, .inl (cI, 60, .inl vf5)), (f6, .inl (cI, 60, .inl vf6))] s.heap.size) [(f0, .inl (cI, 60, .inl vf0)), (f1, .inl (cI, 60, .inl vf1)), (f2, .inl (cI, 60, .inl vf2)), (f3, .inl (cI, 60, .inl vf3)), (f4, .inl (cI, 60, .inl gl)), (f5, .inl (cI, 60, .inl vf5)), (f6, .inl (cI, 60, .inl vf6)), (h0, .inr (4, [.int (nI cn), .int (nI im), .int bd, .ref f0, .ref f1, .ref f2, .ref f3, .ref f4, .ref f5, .ref f6]))] → va_S (va_A [(h0, .inr (4, [.int (nI cn), .int (nI im), .int bd, .ref f0, .ref f1, .ref f2, .ref f3, .ref f4, .ref f5, .ref f6])), (f0, .inl (cI, 60, .inl vf0)), (f1, .inl (cI, 60, .inl vf1)), (f2, .inl (cI, 60, .inl vf2)), (f3, .inl (cI, 60, .inl vf3)), (f4, .inl (cI, 60, .inl vf4)), (f5, .inl (cI, 60, .inl vf5)), (f6, .inl (cI, 60, .inl vf6))] s.heap.size) s.heap H locs → lv_has ls 7 [(6, .int kv), (5, .int v_45), (0, .ref h0), (1, .int (nI x_38)), (2, .long mn), (4, .int ty)] → W p l e (({ frames := 1, cells := 0, slots := 0, locals := 21 }) : Room) s m ([.ref h0, .int (nI x_38), .long mn, .int ty] : List Value).toArray below meth c H locs 0 0 (MQ below (xQi D [(cB, .byte), (cI, .int), (cJ, .long), (cZ, .boolean)] [(h0, .inr (4, [.int (nI cn), .int (nI im), .int bd, .ref f0, .ref f1, .ref f2, .ref f3, .ref f4, .ref f5, .ref f6])), (f0, .inl (cI, 60, .inl vf0)), (f1, .inl (cI, 60, .inl vf1)), (f2, .inl (cI, 60, .inl vf2)), (f3, .inl (cI, 60, .inl vf3)), (f4, .inl (cI, 60, .inl vf4)), (f5, .inl (cI, 60, .inl vf5)), (f6, .inl (cI, 60, .inl vf6))] s.heap.size (fun r u => ∃ (u3 : Nat → Int32), ∃ (u4 : Nat → Int32), u = [(h0, .inr (4, [.int (nI cn), .int (nI im), .int bd, .ref f0, .ref f1, .ref f2, .ref f3, .ref f4, .ref f5, .ref f6])), (f0, .inl (cI, 60, .inl vf0)), (f1, .inl (cI, 60, .inl vf1)), (f2, .inl (cI, 60, .inl vf2)), (f3, .inl (cI, 60, .inl u3)), (f4, .inl (cI, 60, .inl u4)), (f5, .inl (cI, 60, .inl vf5)), (f6, .inl (cI, 60, .inl vf6))])) ([.ref h0, .int (nI x_38), .long mn, .int ty] : List Value).toArray s 0 0 (va_A [(h0, .inr (4, [.int (nI cn), .int (nI im), .int bd, .ref f0, .ref f1, .ref f2, .ref f3, .ref f4, .ref f5, .ref f6])), (f0, .inl (cI, 60, .inl vf0)), (f1, .inl (cI, 60, .inl vf1)), (f2, .inl (cI, 60, .inl vf2)), (f3, .inl (cI, 60, .inl vf3)), (f4, .inl (cI, 60, .inl vf4)), (f5, .inl (cI, 60, .inl vf5)), (f6, .inl (cI, 60, .inl vf6))] s.heap.size)) (F0 m 42 ls []) := by
        intro j
        induction j with
        | zero =>
          intro kv gl hj
          exact absurd hj (by omega)
        | succ j ih_j =>
          intro kv gl hj H locs ls hP hD hS hl
          refine lv_iload E.1 E.2.1 d_Functions_addLocals_42 (lv_at hl 0 rfl) ?_
          refine lv_i2l (v := (kv : Int32).toInt64) E.1 E.2.1 d_Functions_addLocals_44 rfl ?_
          refine lv_iload E.1 E.2.1 d_Functions_addLocals_45 (lv_at hl 1 rfl) ?_
          refine lv_i2l (v := (v_45 : Int32).toInt64) E.1 E.2.1 d_Functions_addLocals_47 rfl ?_
          refine lv_lload_n E.1 E.2.1 d_Functions_addLocals_48 rfl (lv_at hl 4 rfl) ?_
          refine lv_ladd E.1 E.2.1 d_Functions_addLocals_49 ?_
          refine lv_topl (fun v_49 ev_49 => ?_)
          refine W.lcmp E.1 E.2.1 d_Functions_addLocals_50 ?_
          refine lv_if_ge (tgt := 90) E.1 E.2.1 d_Functions_addLocals_51 (by decide) (fun hc_50 => ?_) (fun hc_50 => ?_)
          ·
            refine lv_aload_n E.1 E.2.1 d_Functions_addLocals_90 rfl (lv_at hl 2 rfl) ?_
            refine x_get E hP (C := "WasmReader$Functions") (T := T_Functions) (N := 10) (ci := 4) 7 (v := .ref f3) 6 in_Functions rfl rfl (by decide) m_13 rfl d_Functions_addLocals_91 ?_
            refine lv_iload_n E.1 E.2.1 d_Functions_addLocals_94 rfl (lv_at hl 3 rfl) ?_
            refine lv_dup2_11 E.1 E.2.1 d_Functions_addLocals_95 rfl rfl ?_
            refine va_iald E.1 E.2.1 E.2.2.2.2.2 hP 3 1 rfl rfl (i := nI x_38) (vp_in_nI (n := x_38) (by omega) (by decide)) d_Functions_addLocals_96 ?_
            refine lv_topi (fun v_51 ev_51 => ?_)
            refine lv_lload_n E.1 E.2.1 d_Functions_addLocals_97 rfl (lv_at hl 4 rfl) ?_
            refine lv_l2i (v := (mn : Int64).toInt32) E.1 E.2.1 d_Functions_addLocals_98 rfl ?_
            refine lv_topi (fun v_52 ev_52 => ?_)
            refine lv_iadd E.1 E.2.1 d_Functions_addLocals_99 ?_
            refine lv_topi (fun v_53 ev_53 => ?_)
            refine va_iast E.1 E.2.1 E.2.2.2.2.2 hP hD hS 3 1 rfl rfl (i := nI x_38) (x := v_53) (vp_in_nI (n := x_38) (by omega) (by decide)) d_Functions_addLocals_100 (fun H locs hP hD hS => ?_)
            generalize upd vf3 (Int32.toNatClampNeg (nI x_38)) v_53 = g_54 at hP hD
            have hP : va_P D classes [(f0, .inl (cI, 60, .inl vf0)), (f1, .inl (cI, 60, .inl vf1)), (f2, .inl (cI, 60, .inl vf2)), (f3, .inl (cI, 60, .inl g_54)), (f4, .inl (cI, 60, .inl gl)), (f5, .inl (cI, 60, .inl vf5)), (f6, .inl (cI, 60, .inl vf6)), (h0, .inr (4, [.int (nI cn), .int (nI im), .int bd, .ref f0, .ref f1, .ref f2, .ref f3, .ref f4, .ref f5, .ref f6]))] H := hP
            have hD : va_D (va_A [(h0, .inr (4, [.int (nI cn), .int (nI im), .int bd, .ref f0, .ref f1, .ref f2, .ref f3, .ref f4, .ref f5, .ref f6])), (f0, .inl (cI, 60, .inl vf0)), (f1, .inl (cI, 60, .inl vf1)), (f2, .inl (cI, 60, .inl vf2)), (f3, .inl (cI, 60, .inl vf3)), (f4, .inl (cI, 60, .inl vf4)), (f5, .inl (cI, 60, .inl vf5)), (f6, .inl (cI, 60, .inl vf6))] s.heap.size) [(f0, .inl (cI, 60, .inl vf0)), (f1, .inl (cI, 60, .inl vf1)), (f2, .inl (cI, 60, .inl vf2)), (f3, .inl (cI, 60, .inl g_54)), (f4, .inl (cI, 60, .inl gl)), (f5, .inl (cI, 60, .inl vf5)), (f6, .inl (cI, 60, .inl vf6)), (h0, .inr (4, [.int (nI cn), .int (nI im), .int bd, .ref f0, .ref f1, .ref f2, .ref f3, .ref f4, .ref f5, .ref f6]))] := hD
            refine lv_iconst (v := 1) E.1 E.2.1 d_Functions_addLocals_101 (by decide) ?_
            refine W.widen (k := 0) (n := 0) (by decide) (by decide) ?_
            exact x_zret (ws := [(h0, .inr (4, [.int (nI cn), .int (nI im), .int bd, .ref f0, .ref f1, .ref f2, .ref f3, .ref f4, .ref f5, .ref f6])), (f0, .inl (cI, 60, .inl vf0)), (f1, .inl (cI, 60, .inl vf1)), (f2, .inl (cI, 60, .inl vf2)), (f3, .inl (cI, 60, .inl g_54)), (f4, .inl (cI, 60, .inl gl)), (f5, .inl (cI, 60, .inl vf5)), (f6, .inl (cI, 60, .inl vf6))]) E hr (by decide) hlocks (hP.sub [7, 0, 1, 2, 3, 4, 5, 6] rfl) (hD.sub [7, 0, 1, 2, 3, 4, 5, 6] (by decide) rfl) hS ⟨g_54, gl, rfl⟩ d_Functions_addLocals_102
          ·
            refine lv_iload E.1 E.2.1 d_Functions_addLocals_54 (lv_at hl 0 rfl) ?_
            refine lv_bipush (v := 30) E.1 E.2.1 d_Functions_addLocals_56 (by decide) ?_
            refine lv_icmp_ge (tgt := 90) E.1 E.2.1 d_Functions_addLocals_58 (by decide) (fun hc_55 => ?_) (fun hc_55 => ?_)
            ·
              refine lv_aload_n E.1 E.2.1 d_Functions_addLocals_90 rfl (lv_at hl 2 rfl) ?_
              refine x_get E hP (C := "WasmReader$Functions") (T := T_Functions) (N := 10) (ci := 4) 7 (v := .ref f3) 6 in_Functions rfl rfl (by decide) m_13 rfl d_Functions_addLocals_91 ?_
              refine lv_iload_n E.1 E.2.1 d_Functions_addLocals_94 rfl (lv_at hl 3 rfl) ?_
              refine lv_dup2_11 E.1 E.2.1 d_Functions_addLocals_95 rfl rfl ?_
              refine va_iald E.1 E.2.1 E.2.2.2.2.2 hP 3 1 rfl rfl (i := nI x_38) (vp_in_nI (n := x_38) (by omega) (by decide)) d_Functions_addLocals_96 ?_
              refine lv_topi (fun v_56 ev_56 => ?_)
              refine lv_lload_n E.1 E.2.1 d_Functions_addLocals_97 rfl (lv_at hl 4 rfl) ?_
              refine lv_l2i (v := (mn : Int64).toInt32) E.1 E.2.1 d_Functions_addLocals_98 rfl ?_
              refine lv_topi (fun v_57 ev_57 => ?_)
              refine lv_iadd E.1 E.2.1 d_Functions_addLocals_99 ?_
              refine lv_topi (fun v_58 ev_58 => ?_)
              refine va_iast E.1 E.2.1 E.2.2.2.2.2 hP hD hS 3 1 rfl rfl (i := nI x_38) (x := v_58) (vp_in_nI (n := x_38) (by omega) (by decide)) d_Functions_addLocals_100 (fun H locs hP hD hS => ?_)
              generalize upd vf3 (Int32.toNatClampNeg (nI x_38)) v_58 = g_59 at hP hD
              have hP : va_P D classes [(f0, .inl (cI, 60, .inl vf0)), (f1, .inl (cI, 60, .inl vf1)), (f2, .inl (cI, 60, .inl vf2)), (f3, .inl (cI, 60, .inl g_59)), (f4, .inl (cI, 60, .inl gl)), (f5, .inl (cI, 60, .inl vf5)), (f6, .inl (cI, 60, .inl vf6)), (h0, .inr (4, [.int (nI cn), .int (nI im), .int bd, .ref f0, .ref f1, .ref f2, .ref f3, .ref f4, .ref f5, .ref f6]))] H := hP
              have hD : va_D (va_A [(h0, .inr (4, [.int (nI cn), .int (nI im), .int bd, .ref f0, .ref f1, .ref f2, .ref f3, .ref f4, .ref f5, .ref f6])), (f0, .inl (cI, 60, .inl vf0)), (f1, .inl (cI, 60, .inl vf1)), (f2, .inl (cI, 60, .inl vf2)), (f3, .inl (cI, 60, .inl vf3)), (f4, .inl (cI, 60, .inl vf4)), (f5, .inl (cI, 60, .inl vf5)), (f6, .inl (cI, 60, .inl vf6))] s.heap.size) [(f0, .inl (cI, 60, .inl vf0)), (f1, .inl (cI, 60, .inl vf1)), (f2, .inl (cI, 60, .inl vf2)), (f3, .inl (cI, 60, .inl g_59)), (f4, .inl (cI, 60, .inl gl)), (f5, .inl (cI, 60, .inl vf5)), (f6, .inl (cI, 60, .inl vf6)), (h0, .inr (4, [.int (nI cn), .int (nI im), .int bd, .ref f0, .ref f1, .ref f2, .ref f3, .ref f4, .ref f5, .ref f6]))] := hD
              refine lv_iconst (v := 1) E.1 E.2.1 d_Functions_addLocals_101 (by decide) ?_
              refine W.widen (k := 0) (n := 0) (by decide) (by decide) ?_
              exact x_zret (ws := [(h0, .inr (4, [.int (nI cn), .int (nI im), .int bd, .ref f0, .ref f1, .ref f2, .ref f3, .ref f4, .ref f5, .ref f6])), (f0, .inl (cI, 60, .inl vf0)), (f1, .inl (cI, 60, .inl vf1)), (f2, .inl (cI, 60, .inl vf2)), (f3, .inl (cI, 60, .inl g_59)), (f4, .inl (cI, 60, .inl gl)), (f5, .inl (cI, 60, .inl vf5)), (f6, .inl (cI, 60, .inl vf6))]) E hr (by decide) hlocks (hP.sub [7, 0, 1, 2, 3, 4, 5, 6] rfl) (hD.sub [7, 0, 1, 2, 3, 4, 5, 6] (by decide) rfl) hS ⟨g_59, gl, rfl⟩ d_Functions_addLocals_102
            ·
              refine lv_aload_n E.1 E.2.1 d_Functions_addLocals_61 rfl (lv_at hl 2 rfl) ?_
              refine x_get E hP (C := "WasmReader$Functions") (T := T_Functions) (N := 10) (ci := 4) 7 (v := .ref f4) 7 in_Functions rfl rfl (by decide) m_14 rfl d_Functions_addLocals_62 ?_
              refine lv_iload_n E.1 E.2.1 d_Functions_addLocals_65 rfl (lv_at hl 3 rfl) ?_
              refine lv_dup2_11 E.1 E.2.1 d_Functions_addLocals_66 rfl rfl ?_
              refine va_iald E.1 E.2.1 E.2.2.2.2.2 hP 4 1 rfl rfl (i := nI x_38) (vp_in_nI (n := x_38) (by omega) (by decide)) d_Functions_addLocals_67 ?_
              refine lv_topi (fun v_60 ev_60 => ?_)
              refine lv_iload E.1 E.2.1 d_Functions_addLocals_68 (lv_at hl 5 rfl) ?_
              refine lv_iconst (v := 1) E.1 E.2.1 d_Functions_addLocals_70 (by decide) ?_
              refine lv_icmp_ne (tgt := 81) E.1 E.2.1 d_Functions_addLocals_71 (by decide) (fun hc_61 => ?_) (fun hc_61 => ?_)
              ·
                refine lv_iconst (v := 0) E.1 E.2.1 d_Functions_addLocals_81 (by decide) ?_
                refine lv_ior E.1 E.2.1 d_Functions_addLocals_82 ?_
                refine lv_topi (fun v_62 ev_62 => ?_)
                refine va_iast E.1 E.2.1 E.2.2.2.2.2 hP hD hS 4 1 rfl rfl (i := nI x_38) (x := v_62) (vp_in_nI (n := x_38) (by omega) (by decide)) d_Functions_addLocals_83 (fun H locs hP hD hS => ?_)
                generalize upd gl (Int32.toNatClampNeg (nI x_38)) v_62 = g_63 at hP hD
                have hP : va_P D classes [(f0, .inl (cI, 60, .inl vf0)), (f1, .inl (cI, 60, .inl vf1)), (f2, .inl (cI, 60, .inl vf2)), (f3, .inl (cI, 60, .inl vf3)), (f4, .inl (cI, 60, .inl g_63)), (f5, .inl (cI, 60, .inl vf5)), (f6, .inl (cI, 60, .inl vf6)), (h0, .inr (4, [.int (nI cn), .int (nI im), .int bd, .ref f0, .ref f1, .ref f2, .ref f3, .ref f4, .ref f5, .ref f6]))] H := hP
                have hD : va_D (va_A [(h0, .inr (4, [.int (nI cn), .int (nI im), .int bd, .ref f0, .ref f1, .ref f2, .ref f3, .ref f4, .ref f5, .ref f6])), (f0, .inl (cI, 60, .inl vf0)), (f1, .inl (cI, 60, .inl vf1)), (f2, .inl (cI, 60, .inl vf2)), (f3, .inl (cI, 60, .inl vf3)), (f4, .inl (cI, 60, .inl vf4)), (f5, .inl (cI, 60, .inl vf5)), (f6, .inl (cI, 60, .inl vf6))] s.heap.size) [(f0, .inl (cI, 60, .inl vf0)), (f1, .inl (cI, 60, .inl vf1)), (f2, .inl (cI, 60, .inl vf2)), (f3, .inl (cI, 60, .inl vf3)), (f4, .inl (cI, 60, .inl g_63)), (f5, .inl (cI, 60, .inl vf5)), (f6, .inl (cI, 60, .inl vf6)), (h0, .inr (4, [.int (nI cn), .int (nI im), .int bd, .ref f0, .ref f1, .ref f2, .ref f3, .ref f4, .ref f5, .ref f6]))] := hD
                obtain ⟨vi_64, evi_64⟩ : ∃ z : Int32, z = kv + (1) := ⟨_, rfl⟩
                refine lv_iinc (v := vi_64) (lv' := [(6, .int vi_64), (5, .int v_45), (0, .ref h0), (1, .int (nI x_38)), (2, .long mn), (4, .int ty)]) E.1 E.2.1 d_Functions_addLocals_84 hl (k := 0) rfl evi_64.symm (by decide) rfl (fun ls hl => ?_)
                refine lv_goto (tgt := 42) E.1 E.2.1 d_Functions_addLocals_87 (by decide) ?_
                exact ih_j vi_64 g_63 (by rw [evi_64]; exact x_dec30 hc_55 hj) _ _ _ (hP.sub [0, 1, 2, 3, 4, 5, 6, 7] rfl) (hD.sub [0, 1, 2, 3, 4, 5, 6, 7] (by decide) rfl) hS (lv_sub hl [0, 1, 2, 3, 4, 5] rfl)
              ·
                refine lv_iconst (v := 1) E.1 E.2.1 d_Functions_addLocals_74 (by decide) ?_
                refine lv_iload E.1 E.2.1 d_Functions_addLocals_75 (lv_at hl 0 rfl) ?_
                refine lv_ishl E.1 E.2.1 d_Functions_addLocals_77 ?_
                refine lv_topi (fun v_65 ev_65 => ?_)
                refine lv_goto (tgt := 82) E.1 E.2.1 d_Functions_addLocals_78 (by decide) ?_
                refine lv_ior E.1 E.2.1 d_Functions_addLocals_82 ?_
                refine lv_topi (fun v_66 ev_66 => ?_)
                refine va_iast E.1 E.2.1 E.2.2.2.2.2 hP hD hS 4 1 rfl rfl (i := nI x_38) (x := v_66) (vp_in_nI (n := x_38) (by omega) (by decide)) d_Functions_addLocals_83 (fun H locs hP hD hS => ?_)
                generalize upd gl (Int32.toNatClampNeg (nI x_38)) v_66 = g_67 at hP hD
                have hP : va_P D classes [(f0, .inl (cI, 60, .inl vf0)), (f1, .inl (cI, 60, .inl vf1)), (f2, .inl (cI, 60, .inl vf2)), (f3, .inl (cI, 60, .inl vf3)), (f4, .inl (cI, 60, .inl g_67)), (f5, .inl (cI, 60, .inl vf5)), (f6, .inl (cI, 60, .inl vf6)), (h0, .inr (4, [.int (nI cn), .int (nI im), .int bd, .ref f0, .ref f1, .ref f2, .ref f3, .ref f4, .ref f5, .ref f6]))] H := hP
                have hD : va_D (va_A [(h0, .inr (4, [.int (nI cn), .int (nI im), .int bd, .ref f0, .ref f1, .ref f2, .ref f3, .ref f4, .ref f5, .ref f6])), (f0, .inl (cI, 60, .inl vf0)), (f1, .inl (cI, 60, .inl vf1)), (f2, .inl (cI, 60, .inl vf2)), (f3, .inl (cI, 60, .inl vf3)), (f4, .inl (cI, 60, .inl vf4)), (f5, .inl (cI, 60, .inl vf5)), (f6, .inl (cI, 60, .inl vf6))] s.heap.size) [(f0, .inl (cI, 60, .inl vf0)), (f1, .inl (cI, 60, .inl vf1)), (f2, .inl (cI, 60, .inl vf2)), (f3, .inl (cI, 60, .inl vf3)), (f4, .inl (cI, 60, .inl g_67)), (f5, .inl (cI, 60, .inl vf5)), (f6, .inl (cI, 60, .inl vf6)), (h0, .inr (4, [.int (nI cn), .int (nI im), .int bd, .ref f0, .ref f1, .ref f2, .ref f3, .ref f4, .ref f5, .ref f6]))] := hD
                obtain ⟨vi_68, evi_68⟩ : ∃ z : Int32, z = kv + (1) := ⟨_, rfl⟩
                refine lv_iinc (v := vi_68) (lv' := [(6, .int vi_68), (5, .int v_45), (0, .ref h0), (1, .int (nI x_38)), (2, .long mn), (4, .int ty)]) E.1 E.2.1 d_Functions_addLocals_84 hl (k := 0) rfl evi_68.symm (by decide) rfl (fun ls hl => ?_)
                refine lv_goto (tgt := 42) E.1 E.2.1 d_Functions_addLocals_87 (by decide) ?_
                exact ih_j vi_68 g_67 (by rw [evi_68]; exact x_dec30 hc_55 hj) _ _ _ (hP.sub [0, 1, 2, 3, 4, 5, 6, 7] rfl) (hD.sub [0, 1, 2, 3, 4, 5, 6, 7] (by decide) rfl) hS (lv_sub hl [0, 1, 2, 3, 4, 5] rfl)
      exact loop_48 ((30 - (v_45 : Int32).toInt).toNat + 1) v_45 vf4 (by omega) _ _ _ (hP.sub [0, 1, 2, 3, 4, 5, 6, 7] rfl) (hD.sub [0, 1, 2, 3, 4, 5, 6, 7] (by decide) rfl) hS (lv_sub hl [0, 1, 2, 3, 4, 5] rfl)
    ·
      refine lv_iconst (v := 0) E.1 E.2.1 d_Functions_addLocals_36 (by decide) ?_
      refine W.widen (k := 0) (n := 0) (by decide) (by decide) ?_
      exact x_zret (ws := [(h0, .inr (4, [.int (nI cn), .int (nI im), .int bd, .ref f0, .ref f1, .ref f2, .ref f3, .ref f4, .ref f5, .ref f6])), (f0, .inl (cI, 60, .inl vf0)), (f1, .inl (cI, 60, .inl vf1)), (f2, .inl (cI, 60, .inl vf2)), (f3, .inl (cI, 60, .inl vf3)), (f4, .inl (cI, 60, .inl vf4)), (f5, .inl (cI, 60, .inl vf5)), (f6, .inl (cI, 60, .inl vf6))]) E hr (by decide) hlocks (hP.sub [7, 0, 1, 2, 3, 4, 5, 6] rfl) (hD.sub [7, 0, 1, 2, 3, 4, 5, 6] (by decide) rfl) hS ⟨vf3, vf4, rfl⟩ d_Functions_addLocals_37
set_option maxHeartbeats 4000000 in
set_option maxRecDepth 100000 in
theorem c_Functions_setBody (l : Launch) (D : va_G) (cB cI cJ cZ : ClassId) (sz : Nat) (h0 : Nat) (cn : Nat) (im : Nat) (bd : Int32) (f0 : Nat) (f1 : Nat) (f2 : Nat) (f3 : Nat) (f4 : Nat) (f5 : Nat) (f6 : Nat) (vf0 : Nat → Int32) (vf1 : Nat → Int32) (vf2 : Nat → Int32) (vf3 : Nat → Int32) (vf4 : Nat → Int32) (vf5 : Nat → Int32) (vf6 : Nat → Int32) (x : Nat) (y1 : Int32) (y2 : Int32) (hc : cn ≤ 20000000) (hx : x < 2 ^ 31) : Met l y_Functions_setBody (Cond.code y_Functions_setBody prog_4_method_5_code 4 none :: xtb) ({ frames := 1, cells := 0, slots := 0, locals := 21 }) (xP D [(cB, .byte), (cI, .int), (cJ, .long), (cZ, .boolean)] [.ref h0, .int (nI x), .int y1, .int y2] [(h0, .inr (4, [.int (nI cn), .int (nI im), .int bd, .ref f0, .ref f1, .ref f2, .ref f3, .ref f4, .ref f5, .ref f6])), (f0, .inl (cI, 60, .inl vf0)), (f1, .inl (cI, 60, .inl vf1)), (f2, .inl (cI, 60, .inl vf2)), (f3, .inl (cI, 60, .inl vf3)), (f4, .inl (cI, 60, .inl vf4)), (f5, .inl (cI, 60, .inl vf5)), (f6, .inl (cI, 60, .inl vf6))] sz) (xQv D [(cB, .byte), (cI, .int), (cJ, .long), (cZ, .boolean)] [(h0, .inr (4, [.int (nI cn), .int (nI im), .int bd, .ref f0, .ref f1, .ref f2, .ref f3, .ref f4, .ref f5, .ref f6])), (f0, .inl (cI, 60, .inl vf0)), (f1, .inl (cI, 60, .inl vf1)), (f2, .inl (cI, 60, .inl vf2)), (f3, .inl (cI, 60, .inl vf3)), (f4, .inl (cI, 60, .inl vf4)), (f5, .inl (cI, 60, .inl vf5)), (f6, .inl (cI, 60, .inl vf6))] sz (fun u => ∃ (u5 : Nat → Int32), ∃ (u6 : Nat → Int32), u = [(h0, .inr (4, [.int (nI cn), .int (nI im), .int bd, .ref f0, .ref f1, .ref f2, .ref f3, .ref f4, .ref f5, .ref f6])), (f0, .inl (cI, 60, .inl vf0)), (f1, .inl (cI, 60, .inl vf1)), (f2, .inl (cI, 60, .inl vf2)), (f3, .inl (cI, 60, .inl vf3)), (f4, .inl (cI, 60, .inl vf4)), (f5, .inl (cI, 60, .inl u5)), (f6, .inl (cI, 60, .inl u6))])) 0 0 (va_A [(h0, .inr (4, [.int (nI cn), .int (nI im), .int bd, .ref f0, .ref f1, .ref f2, .ref f3, .ref f4, .ref f5, .ref f6])), (f0, .inl (cI, 60, .inl vf0)), (f1, .inl (cI, 60, .inl vf1)), (f2, .inl (cI, 60, .inl vf2)), (f3, .inl (cI, 60, .inl vf3)), (f4, .inl (cI, 60, .inl vf4)), (f5, .inl (cI, 60, .inl vf5)), (f6, .inl (cI, 60, .inl vf6))] sz) := by
  refine x_met (Qc := fun s => xQv D [(cB, .byte), (cI, .int), (cJ, .long), (cZ, .boolean)] [(h0, .inr (4, [.int (nI cn), .int (nI im), .int bd, .ref f0, .ref f1, .ref f2, .ref f3, .ref f4, .ref f5, .ref f6])), (f0, .inl (cI, 60, .inl vf0)), (f1, .inl (cI, 60, .inl vf1)), (f2, .inl (cI, 60, .inl vf2)), (f3, .inl (cI, 60, .inl vf3)), (f4, .inl (cI, 60, .inl vf4)), (f5, .inl (cI, 60, .inl vf5)), (f6, .inl (cI, 60, .inl vf6))] s.heap.size (fun u => ∃ (u5 : Nat → Int32), ∃ (u6 : Nat → Int32), u = [(h0, .inr (4, [.int (nI cn), .int (nI im), .int bd, .ref f0, .ref f1, .ref f2, .ref f3, .ref f4, .ref f5, .ref f6])), (f0, .inl (cI, 60, .inl vf0)), (f1, .inl (cI, 60, .inl vf1)), (f2, .inl (cI, 60, .inl vf2)), (f3, .inl (cI, 60, .inl vf3)), (f4, .inl (cI, 60, .inl vf4)), (f5, .inl (cI, 60, .inl u5)), (f6, .inl (cI, 60, .inl u6))])) (fr := fun s => va_A [(h0, .inr (4, [.int (nI cn), .int (nI im), .int bd, .ref f0, .ref f1, .ref f2, .ref f3, .ref f4, .ref f5, .ref f6])), (f0, .inl (cI, 60, .inl vf0)), (f1, .inl (cI, 60, .inl vf1)), (f2, .inl (cI, 60, .inl vf2)), (f3, .inl (cI, 60, .inl vf3)), (f4, .inl (cI, 60, .inl vf4)), (f5, .inl (cI, 60, .inl vf5)), (f6, .inl (cI, 60, .inl vf6))] s.heap.size) "WasmReader$Functions" (by decide +kernel) rfl (Nat.le_of_ble_eq_true rfl) (fun s h => by rw [h]) (fun s h => by rw [h]) ?_
  intro p e s m below meth c ls E hr hlocks hinit hl hP hD hA hS hZ hadm
  have hl : lv_has ls 4 [(0, .ref h0), (1, .int (nI x)), (2, .int y1), (3, .int y2)] := hl
  refine lv_aload_n E.1 E.2.1 d_Functions_setBody_0 rfl (lv_at hl 0 rfl) ?_
  refine lv_iload_n E.1 E.2.1 d_Functions_setBody_1 rfl (lv_at hl 1 rfl) ?_
  have hPc := hP.sub (ws' := [(h0, .inr (4, [.int (nI cn), .int (nI im), .int bd, .ref f0, .ref f1, .ref f2, .ref f3, .ref f4, .ref f5, .ref f6]))]) [0] rfl
  have hDc := hD.sub (ws' := [(h0, .inr (4, [.int (nI cn), .int (nI im), .int bd, .ref f0, .ref f1, .ref f2, .ref f3, .ref f4, .ref f5, .ref f6]))]) [0] (by decide) rfl
  have hFc := va_free (wc := [(h0, .inr (4, [.int (nI cn), .int (nI im), .int bd, .ref f0, .ref f1, .ref f2, .ref f3, .ref f4, .ref f5, .ref f6]))]) hD hS hA [0] rfl
  refine x_ri (ws := [(h0, .inr (4, [.int (nI cn), .int (nI im), .int bd, .ref f0, .ref f1, .ref f2, .ref f3, .ref f4, .ref f5, .ref f6])), (f0, .inl (cI, 60, .inl vf0)), (f1, .inl (cI, 60, .inl vf1)), (f2, .inl (cI, 60, .inl vf2)), (f3, .inl (cI, 60, .inl vf3)), (f4, .inl (cI, 60, .inl vf4)), (f5, .inl (cI, 60, .inl vf5)), (f6, .inl (cI, 60, .inl vf6))]) (wc := [(h0, .inr (4, [.int (nI cn), .int (nI im), .int bd, .ref f0, .ref f1, .ref f2, .ref f3, .ref f4, .ref f5, .ref f6]))]) (wr := [(f0, .inl (cI, 60, .inl vf0)), (f1, .inl (cI, 60, .inl vf1)), (f2, .inl (cI, 60, .inl vf2)), (f3, .inl (cI, 60, .inl vf3)), (f4, .inl (cI, 60, .inl vf4)), (f5, .inl (cI, 60, .inl vf5)), (f6, .inl (cI, 60, .inl vf6))]) (x_V (As := [.int (nI x)]) (C := "WasmReader$Functions") E (c_Functions_has l D cB cI cJ cZ s.heap.size h0 cn im bd f0 f1 f2 f3 f4 f5 f6 x (by omega) (by omega)) m_259 m_59 m_258 m_260 m_261 nm_Functions_has hPc hDc hZ hS hFc rfl rfl rfl hl.1 rfl (Nat.le_of_ble_eq_true rfl) d_Functions_setBody_2 rfl rfl (by decide) (by decide) (by decide) (by decide)) hP hD hS hA [0] [1, 2, 3, 4, 5, 6, 7] rfl rfl (by decide) (by decide) (fun r_3 u H locs hw hP hD hS => ?_)
  obtain ⟨hal_1, rfl⟩ := hw
  have hP : va_P D classes [(f0, .inl (cI, 60, .inl vf0)), (f1, .inl (cI, 60, .inl vf1)), (f2, .inl (cI, 60, .inl vf2)), (f3, .inl (cI, 60, .inl vf3)), (f4, .inl (cI, 60, .inl vf4)), (f5, .inl (cI, 60, .inl vf5)), (f6, .inl (cI, 60, .inl vf6)), (h0, .inr (4, [.int (nI cn), .int (nI im), .int bd, .ref f0, .ref f1, .ref f2, .ref f3, .ref f4, .ref f5, .ref f6]))] H := hP
  have hD : va_D (va_A [(h0, .inr (4, [.int (nI cn), .int (nI im), .int bd, .ref f0, .ref f1, .ref f2, .ref f3, .ref f4, .ref f5, .ref f6])), (f0, .inl (cI, 60, .inl vf0)), (f1, .inl (cI, 60, .inl vf1)), (f2, .inl (cI, 60, .inl vf2)), (f3, .inl (cI, 60, .inl vf3)), (f4, .inl (cI, 60, .inl vf4)), (f5, .inl (cI, 60, .inl vf5)), (f6, .inl (cI, 60, .inl vf6))] s.heap.size) [(f0, .inl (cI, 60, .inl vf0)), (f1, .inl (cI, 60, .inl vf1)), (f2, .inl (cI, 60, .inl vf2)), (f3, .inl (cI, 60, .inl vf3)), (f4, .inl (cI, 60, .inl vf4)), (f5, .inl (cI, 60, .inl vf5)), (f6, .inl (cI, 60, .inl vf6)), (h0, .inr (4, [.int (nI cn), .int (nI im), .int bd, .ref f0, .ref f1, .ref f2, .ref f3, .ref f4, .ref f5, .ref f6]))] := hD
  rcases hal_1 with ha_4 | ⟨ha_5, hb_6, hb_7⟩
  ·
    subst ha_4
    refine lv_if_eq (tgt := 22) E.1 E.2.1 d_Functions_setBody_5 (by decide) (fun _ => ?_) (fun hc => absurd (by decide) hc)
    refine W.widen (k := 0) (n := 0) (by decide) (by decide) ?_
    exact x_vret (ws := [(h0, .inr (4, [.int (nI cn), .int (nI im), .int bd, .ref f0, .ref f1, .ref f2, .ref f3, .ref f4, .ref f5, .ref f6])), (f0, .inl (cI, 60, .inl vf0)), (f1, .inl (cI, 60, .inl vf1)), (f2, .inl (cI, 60, .inl vf2)), (f3, .inl (cI, 60, .inl vf3)), (f4, .inl (cI, 60, .inl vf4)), (f5, .inl (cI, 60, .inl vf5)), (f6, .inl (cI, 60, .inl vf6))]) E hr hlocks (hP.sub [7, 0, 1, 2, 3, 4, 5, 6] rfl) (hD.sub [7, 0, 1, 2, 3, 4, 5, 6] (by decide) rfl) hS ⟨vf5, vf6, rfl⟩ d_Functions_setBody_22
  ·
    subst ha_5
    refine lv_if_eq (tgt := 22) E.1 E.2.1 d_Functions_setBody_5 (by decide) (fun hc => absurd hc (by decide)) (fun _ => ?_)
    refine lv_aload_n E.1 E.2.1 d_Functions_setBody_8 rfl (lv_at hl 0 rfl) ?_
    refine x_get E hP (C := "WasmReader$Functions") (T := T_Functions) (N := 10) (ci := 4) 7 (v := .ref f5) 8 in_Functions rfl rfl (by decide) m_15 rfl d_Functions_setBody_9 ?_
    refine lv_iload_n E.1 E.2.1 d_Functions_setBody_12 rfl (lv_at hl 1 rfl) ?_
    refine lv_iload_n E.1 E.2.1 d_Functions_setBody_13 rfl (lv_at hl 2 rfl) ?_
    refine va_iast E.1 E.2.1 E.2.2.2.2.2 hP hD hS 5 1 rfl rfl (i := nI x) (x := y1) (vp_in_nI (n := x) (by omega) (by decide)) d_Functions_setBody_14 (fun H locs hP hD hS => ?_)
    generalize upd vf5 (Int32.toNatClampNeg (nI x)) y1 = g_8 at hP hD
    have hP : va_P D classes [(f0, .inl (cI, 60, .inl vf0)), (f1, .inl (cI, 60, .inl vf1)), (f2, .inl (cI, 60, .inl vf2)), (f3, .inl (cI, 60, .inl vf3)), (f4, .inl (cI, 60, .inl vf4)), (f5, .inl (cI, 60, .inl g_8)), (f6, .inl (cI, 60, .inl vf6)), (h0, .inr (4, [.int (nI cn), .int (nI im), .int bd, .ref f0, .ref f1, .ref f2, .ref f3, .ref f4, .ref f5, .ref f6]))] H := hP
    have hD : va_D (va_A [(h0, .inr (4, [.int (nI cn), .int (nI im), .int bd, .ref f0, .ref f1, .ref f2, .ref f3, .ref f4, .ref f5, .ref f6])), (f0, .inl (cI, 60, .inl vf0)), (f1, .inl (cI, 60, .inl vf1)), (f2, .inl (cI, 60, .inl vf2)), (f3, .inl (cI, 60, .inl vf3)), (f4, .inl (cI, 60, .inl vf4)), (f5, .inl (cI, 60, .inl vf5)), (f6, .inl (cI, 60, .inl vf6))] s.heap.size) [(f0, .inl (cI, 60, .inl vf0)), (f1, .inl (cI, 60, .inl vf1)), (f2, .inl (cI, 60, .inl vf2)), (f3, .inl (cI, 60, .inl vf3)), (f4, .inl (cI, 60, .inl vf4)), (f5, .inl (cI, 60, .inl g_8)), (f6, .inl (cI, 60, .inl vf6)), (h0, .inr (4, [.int (nI cn), .int (nI im), .int bd, .ref f0, .ref f1, .ref f2, .ref f3, .ref f4, .ref f5, .ref f6]))] := hD
    refine lv_aload_n E.1 E.2.1 d_Functions_setBody_15 rfl (lv_at hl 0 rfl) ?_
    refine x_get E hP (C := "WasmReader$Functions") (T := T_Functions) (N := 10) (ci := 4) 7 (v := .ref f6) 9 in_Functions rfl rfl (by decide) m_16 rfl d_Functions_setBody_16 ?_
    refine lv_iload_n E.1 E.2.1 d_Functions_setBody_19 rfl (lv_at hl 1 rfl) ?_
    refine lv_iload_n E.1 E.2.1 d_Functions_setBody_20 rfl (lv_at hl 3 rfl) ?_
    refine va_iast E.1 E.2.1 E.2.2.2.2.2 hP hD hS 6 1 rfl rfl (i := nI x) (x := y2) (vp_in_nI (n := x) (by omega) (by decide)) d_Functions_setBody_21 (fun H locs hP hD hS => ?_)
    generalize upd vf6 (Int32.toNatClampNeg (nI x)) y2 = g_9 at hP hD
    have hP : va_P D classes [(f0, .inl (cI, 60, .inl vf0)), (f1, .inl (cI, 60, .inl vf1)), (f2, .inl (cI, 60, .inl vf2)), (f3, .inl (cI, 60, .inl vf3)), (f4, .inl (cI, 60, .inl vf4)), (f5, .inl (cI, 60, .inl g_8)), (f6, .inl (cI, 60, .inl g_9)), (h0, .inr (4, [.int (nI cn), .int (nI im), .int bd, .ref f0, .ref f1, .ref f2, .ref f3, .ref f4, .ref f5, .ref f6]))] H := hP
    have hD : va_D (va_A [(h0, .inr (4, [.int (nI cn), .int (nI im), .int bd, .ref f0, .ref f1, .ref f2, .ref f3, .ref f4, .ref f5, .ref f6])), (f0, .inl (cI, 60, .inl vf0)), (f1, .inl (cI, 60, .inl vf1)), (f2, .inl (cI, 60, .inl vf2)), (f3, .inl (cI, 60, .inl vf3)), (f4, .inl (cI, 60, .inl vf4)), (f5, .inl (cI, 60, .inl vf5)), (f6, .inl (cI, 60, .inl vf6))] s.heap.size) [(f0, .inl (cI, 60, .inl vf0)), (f1, .inl (cI, 60, .inl vf1)), (f2, .inl (cI, 60, .inl vf2)), (f3, .inl (cI, 60, .inl vf3)), (f4, .inl (cI, 60, .inl vf4)), (f5, .inl (cI, 60, .inl g_8)), (f6, .inl (cI, 60, .inl g_9)), (h0, .inr (4, [.int (nI cn), .int (nI im), .int bd, .ref f0, .ref f1, .ref f2, .ref f3, .ref f4, .ref f5, .ref f6]))] := hD
    refine W.widen (k := 0) (n := 0) (by decide) (by decide) ?_
    exact x_vret (ws := [(h0, .inr (4, [.int (nI cn), .int (nI im), .int bd, .ref f0, .ref f1, .ref f2, .ref f3, .ref f4, .ref f5, .ref f6])), (f0, .inl (cI, 60, .inl vf0)), (f1, .inl (cI, 60, .inl vf1)), (f2, .inl (cI, 60, .inl vf2)), (f3, .inl (cI, 60, .inl vf3)), (f4, .inl (cI, 60, .inl vf4)), (f5, .inl (cI, 60, .inl g_8)), (f6, .inl (cI, 60, .inl g_9))]) E hr hlocks (hP.sub [7, 0, 1, 2, 3, 4, 5, 6] rfl) (hD.sub [7, 0, 1, 2, 3, 4, 5, 6] (by decide) rfl) hS ⟨g_8, g_9, rfl⟩ d_Functions_setBody_22
set_option maxHeartbeats 4000000 in
set_option maxRecDepth 100000 in
theorem c_Functions_setBodyr (l : Launch) (D : va_G) (cB cI cJ cZ : ClassId) (sz : Nat) (h0 : Nat) (cn : Nat) (im : Nat) (bd : Int32) (f0 : Nat) (f1 : Nat) (f2 : Nat) (f3 : Nat) (f4 : Nat) (f5 : Nat) (f6 : Nat) (vf0 : Nat → Int32) (vf1 : Nat → Int32) (vf2 : Nat → Int32) (vf3 : Nat → Int32) (vf4 : Nat → Int32) (vf5 : Nat → Int32) (vf6 : Nat → Int32) (t : Int32) (y1 : Int32) (y2 : Int32) (hc : cn ≤ 20000000) : Met l y_Functions_setBody (Cond.code y_Functions_setBody prog_4_method_5_code 4 none :: xtb) ({ frames := 1, cells := 0, slots := 0, locals := 21 }) (xP D [(cB, .byte), (cI, .int), (cJ, .long), (cZ, .boolean)] [.ref h0, .int t, .int y1, .int y2] [(h0, .inr (4, [.int (nI cn), .int (nI im), .int bd, .ref f0, .ref f1, .ref f2, .ref f3, .ref f4, .ref f5, .ref f6])), (f0, .inl (cI, 60, .inl vf0)), (f1, .inl (cI, 60, .inl vf1)), (f2, .inl (cI, 60, .inl vf2)), (f3, .inl (cI, 60, .inl vf3)), (f4, .inl (cI, 60, .inl vf4)), (f5, .inl (cI, 60, .inl vf5)), (f6, .inl (cI, 60, .inl vf6))] sz) (xQv D [(cB, .byte), (cI, .int), (cJ, .long), (cZ, .boolean)] [(h0, .inr (4, [.int (nI cn), .int (nI im), .int bd, .ref f0, .ref f1, .ref f2, .ref f3, .ref f4, .ref f5, .ref f6])), (f0, .inl (cI, 60, .inl vf0)), (f1, .inl (cI, 60, .inl vf1)), (f2, .inl (cI, 60, .inl vf2)), (f3, .inl (cI, 60, .inl vf3)), (f4, .inl (cI, 60, .inl vf4)), (f5, .inl (cI, 60, .inl vf5)), (f6, .inl (cI, 60, .inl vf6))] sz (fun u => ∃ (u5 : Nat → Int32), ∃ (u6 : Nat → Int32), u = [(h0, .inr (4, [.int (nI cn), .int (nI im), .int bd, .ref f0, .ref f1, .ref f2, .ref f3, .ref f4, .ref f5, .ref f6])), (f0, .inl (cI, 60, .inl vf0)), (f1, .inl (cI, 60, .inl vf1)), (f2, .inl (cI, 60, .inl vf2)), (f3, .inl (cI, 60, .inl vf3)), (f4, .inl (cI, 60, .inl vf4)), (f5, .inl (cI, 60, .inl u5)), (f6, .inl (cI, 60, .inl u6))])) 0 0 (va_A [(h0, .inr (4, [.int (nI cn), .int (nI im), .int bd, .ref f0, .ref f1, .ref f2, .ref f3, .ref f4, .ref f5, .ref f6])), (f0, .inl (cI, 60, .inl vf0)), (f1, .inl (cI, 60, .inl vf1)), (f2, .inl (cI, 60, .inl vf2)), (f3, .inl (cI, 60, .inl vf3)), (f4, .inl (cI, 60, .inl vf4)), (f5, .inl (cI, 60, .inl vf5)), (f6, .inl (cI, 60, .inl vf6))] sz) := by
  refine x_met (Qc := fun s => xQv D [(cB, .byte), (cI, .int), (cJ, .long), (cZ, .boolean)] [(h0, .inr (4, [.int (nI cn), .int (nI im), .int bd, .ref f0, .ref f1, .ref f2, .ref f3, .ref f4, .ref f5, .ref f6])), (f0, .inl (cI, 60, .inl vf0)), (f1, .inl (cI, 60, .inl vf1)), (f2, .inl (cI, 60, .inl vf2)), (f3, .inl (cI, 60, .inl vf3)), (f4, .inl (cI, 60, .inl vf4)), (f5, .inl (cI, 60, .inl vf5)), (f6, .inl (cI, 60, .inl vf6))] s.heap.size (fun u => ∃ (u5 : Nat → Int32), ∃ (u6 : Nat → Int32), u = [(h0, .inr (4, [.int (nI cn), .int (nI im), .int bd, .ref f0, .ref f1, .ref f2, .ref f3, .ref f4, .ref f5, .ref f6])), (f0, .inl (cI, 60, .inl vf0)), (f1, .inl (cI, 60, .inl vf1)), (f2, .inl (cI, 60, .inl vf2)), (f3, .inl (cI, 60, .inl vf3)), (f4, .inl (cI, 60, .inl vf4)), (f5, .inl (cI, 60, .inl u5)), (f6, .inl (cI, 60, .inl u6))])) (fr := fun s => va_A [(h0, .inr (4, [.int (nI cn), .int (nI im), .int bd, .ref f0, .ref f1, .ref f2, .ref f3, .ref f4, .ref f5, .ref f6])), (f0, .inl (cI, 60, .inl vf0)), (f1, .inl (cI, 60, .inl vf1)), (f2, .inl (cI, 60, .inl vf2)), (f3, .inl (cI, 60, .inl vf3)), (f4, .inl (cI, 60, .inl vf4)), (f5, .inl (cI, 60, .inl vf5)), (f6, .inl (cI, 60, .inl vf6))] s.heap.size) "WasmReader$Functions" (by decide +kernel) rfl (Nat.le_of_ble_eq_true rfl) (fun s h => by rw [h]) (fun s h => by rw [h]) ?_
  intro p e s m below meth c ls E hr hlocks hinit hl hP hD hA hS hZ hadm
  have hl : lv_has ls 4 [(0, .ref h0), (1, .int t), (2, .int y1), (3, .int y2)] := hl
  refine lv_aload_n E.1 E.2.1 d_Functions_setBody_0 rfl (lv_at hl 0 rfl) ?_
  refine lv_iload_n E.1 E.2.1 d_Functions_setBody_1 rfl (lv_at hl 1 rfl) ?_
  have hPc := hP.sub (ws' := [(h0, .inr (4, [.int (nI cn), .int (nI im), .int bd, .ref f0, .ref f1, .ref f2, .ref f3, .ref f4, .ref f5, .ref f6]))]) [0] rfl
  have hDc := hD.sub (ws' := [(h0, .inr (4, [.int (nI cn), .int (nI im), .int bd, .ref f0, .ref f1, .ref f2, .ref f3, .ref f4, .ref f5, .ref f6]))]) [0] (by decide) rfl
  have hFc := va_free (wc := [(h0, .inr (4, [.int (nI cn), .int (nI im), .int bd, .ref f0, .ref f1, .ref f2, .ref f3, .ref f4, .ref f5, .ref f6]))]) hD hS hA [0] rfl
  refine x_ri (ws := [(h0, .inr (4, [.int (nI cn), .int (nI im), .int bd, .ref f0, .ref f1, .ref f2, .ref f3, .ref f4, .ref f5, .ref f6])), (f0, .inl (cI, 60, .inl vf0)), (f1, .inl (cI, 60, .inl vf1)), (f2, .inl (cI, 60, .inl vf2)), (f3, .inl (cI, 60, .inl vf3)), (f4, .inl (cI, 60, .inl vf4)), (f5, .inl (cI, 60, .inl vf5)), (f6, .inl (cI, 60, .inl vf6))]) (wc := [(h0, .inr (4, [.int (nI cn), .int (nI im), .int bd, .ref f0, .ref f1, .ref f2, .ref f3, .ref f4, .ref f5, .ref f6]))]) (wr := [(f0, .inl (cI, 60, .inl vf0)), (f1, .inl (cI, 60, .inl vf1)), (f2, .inl (cI, 60, .inl vf2)), (f3, .inl (cI, 60, .inl vf3)), (f4, .inl (cI, 60, .inl vf4)), (f5, .inl (cI, 60, .inl vf5)), (f6, .inl (cI, 60, .inl vf6))]) (x_V (As := [.int t]) (C := "WasmReader$Functions") E (c_Functions_hasr l D cB cI cJ cZ s.heap.size h0 cn im bd f0 f1 f2 f3 f4 f5 f6 t (by omega)) m_259 m_59 m_258 m_260 m_261 nm_Functions_has hPc hDc hZ hS hFc rfl rfl rfl hl.1 rfl (Nat.le_of_ble_eq_true rfl) d_Functions_setBody_2 rfl rfl (by decide) (by decide) (by decide) (by decide)) hP hD hS hA [0] [1, 2, 3, 4, 5, 6, 7] rfl rfl (by decide) (by decide) (fun r_12 u H locs hw hP hD hS => ?_)
  obtain ⟨hal_10, rfl⟩ := hw
  have hP : va_P D classes [(f0, .inl (cI, 60, .inl vf0)), (f1, .inl (cI, 60, .inl vf1)), (f2, .inl (cI, 60, .inl vf2)), (f3, .inl (cI, 60, .inl vf3)), (f4, .inl (cI, 60, .inl vf4)), (f5, .inl (cI, 60, .inl vf5)), (f6, .inl (cI, 60, .inl vf6)), (h0, .inr (4, [.int (nI cn), .int (nI im), .int bd, .ref f0, .ref f1, .ref f2, .ref f3, .ref f4, .ref f5, .ref f6]))] H := hP
  have hD : va_D (va_A [(h0, .inr (4, [.int (nI cn), .int (nI im), .int bd, .ref f0, .ref f1, .ref f2, .ref f3, .ref f4, .ref f5, .ref f6])), (f0, .inl (cI, 60, .inl vf0)), (f1, .inl (cI, 60, .inl vf1)), (f2, .inl (cI, 60, .inl vf2)), (f3, .inl (cI, 60, .inl vf3)), (f4, .inl (cI, 60, .inl vf4)), (f5, .inl (cI, 60, .inl vf5)), (f6, .inl (cI, 60, .inl vf6))] s.heap.size) [(f0, .inl (cI, 60, .inl vf0)), (f1, .inl (cI, 60, .inl vf1)), (f2, .inl (cI, 60, .inl vf2)), (f3, .inl (cI, 60, .inl vf3)), (f4, .inl (cI, 60, .inl vf4)), (f5, .inl (cI, 60, .inl vf5)), (f6, .inl (cI, 60, .inl vf6)), (h0, .inr (4, [.int (nI cn), .int (nI im), .int bd, .ref f0, .ref f1, .ref f2, .ref f3, .ref f4, .ref f5, .ref f6]))] := hD
  rcases hal_10 with ha_13 | ⟨x_14, ha_15, hb_16, hb_17, hb_18⟩
  ·
    subst ha_13
    refine lv_if_eq (tgt := 22) E.1 E.2.1 d_Functions_setBody_5 (by decide) (fun _ => ?_) (fun hc => absurd (by decide) hc)
    refine W.widen (k := 0) (n := 0) (by decide) (by decide) ?_
    exact x_vret (ws := [(h0, .inr (4, [.int (nI cn), .int (nI im), .int bd, .ref f0, .ref f1, .ref f2, .ref f3, .ref f4, .ref f5, .ref f6])), (f0, .inl (cI, 60, .inl vf0)), (f1, .inl (cI, 60, .inl vf1)), (f2, .inl (cI, 60, .inl vf2)), (f3, .inl (cI, 60, .inl vf3)), (f4, .inl (cI, 60, .inl vf4)), (f5, .inl (cI, 60, .inl vf5)), (f6, .inl (cI, 60, .inl vf6))]) E hr hlocks (hP.sub [7, 0, 1, 2, 3, 4, 5, 6] rfl) (hD.sub [7, 0, 1, 2, 3, 4, 5, 6] (by decide) rfl) hS ⟨vf5, vf6, rfl⟩ d_Functions_setBody_22
  ·
    subst ha_15
    subst hb_16
    refine lv_if_eq (tgt := 22) E.1 E.2.1 d_Functions_setBody_5 (by decide) (fun hc => absurd hc (by decide)) (fun _ => ?_)
    refine lv_aload_n E.1 E.2.1 d_Functions_setBody_8 rfl (lv_at hl 0 rfl) ?_
    refine x_get E hP (C := "WasmReader$Functions") (T := T_Functions) (N := 10) (ci := 4) 7 (v := .ref f5) 8 in_Functions rfl rfl (by decide) m_15 rfl d_Functions_setBody_9 ?_
    refine lv_iload_n E.1 E.2.1 d_Functions_setBody_12 rfl (lv_at hl 1 rfl) ?_
    refine lv_iload_n E.1 E.2.1 d_Functions_setBody_13 rfl (lv_at hl 2 rfl) ?_
    refine va_iast E.1 E.2.1 E.2.2.2.2.2 hP hD hS 5 1 rfl rfl (i := nI x_14) (x := y1) (vp_in_nI (n := x_14) (by omega) (by decide)) d_Functions_setBody_14 (fun H locs hP hD hS => ?_)
    generalize upd vf5 (Int32.toNatClampNeg (nI x_14)) y1 = g_19 at hP hD
    have hP : va_P D classes [(f0, .inl (cI, 60, .inl vf0)), (f1, .inl (cI, 60, .inl vf1)), (f2, .inl (cI, 60, .inl vf2)), (f3, .inl (cI, 60, .inl vf3)), (f4, .inl (cI, 60, .inl vf4)), (f5, .inl (cI, 60, .inl g_19)), (f6, .inl (cI, 60, .inl vf6)), (h0, .inr (4, [.int (nI cn), .int (nI im), .int bd, .ref f0, .ref f1, .ref f2, .ref f3, .ref f4, .ref f5, .ref f6]))] H := hP
    have hD : va_D (va_A [(h0, .inr (4, [.int (nI cn), .int (nI im), .int bd, .ref f0, .ref f1, .ref f2, .ref f3, .ref f4, .ref f5, .ref f6])), (f0, .inl (cI, 60, .inl vf0)), (f1, .inl (cI, 60, .inl vf1)), (f2, .inl (cI, 60, .inl vf2)), (f3, .inl (cI, 60, .inl vf3)), (f4, .inl (cI, 60, .inl vf4)), (f5, .inl (cI, 60, .inl vf5)), (f6, .inl (cI, 60, .inl vf6))] s.heap.size) [(f0, .inl (cI, 60, .inl vf0)), (f1, .inl (cI, 60, .inl vf1)), (f2, .inl (cI, 60, .inl vf2)), (f3, .inl (cI, 60, .inl vf3)), (f4, .inl (cI, 60, .inl vf4)), (f5, .inl (cI, 60, .inl g_19)), (f6, .inl (cI, 60, .inl vf6)), (h0, .inr (4, [.int (nI cn), .int (nI im), .int bd, .ref f0, .ref f1, .ref f2, .ref f3, .ref f4, .ref f5, .ref f6]))] := hD
    refine lv_aload_n E.1 E.2.1 d_Functions_setBody_15 rfl (lv_at hl 0 rfl) ?_
    refine x_get E hP (C := "WasmReader$Functions") (T := T_Functions) (N := 10) (ci := 4) 7 (v := .ref f6) 9 in_Functions rfl rfl (by decide) m_16 rfl d_Functions_setBody_16 ?_
    refine lv_iload_n E.1 E.2.1 d_Functions_setBody_19 rfl (lv_at hl 1 rfl) ?_
    refine lv_iload_n E.1 E.2.1 d_Functions_setBody_20 rfl (lv_at hl 3 rfl) ?_
    refine va_iast E.1 E.2.1 E.2.2.2.2.2 hP hD hS 6 1 rfl rfl (i := nI x_14) (x := y2) (vp_in_nI (n := x_14) (by omega) (by decide)) d_Functions_setBody_21 (fun H locs hP hD hS => ?_)
    generalize upd vf6 (Int32.toNatClampNeg (nI x_14)) y2 = g_20 at hP hD
    have hP : va_P D classes [(f0, .inl (cI, 60, .inl vf0)), (f1, .inl (cI, 60, .inl vf1)), (f2, .inl (cI, 60, .inl vf2)), (f3, .inl (cI, 60, .inl vf3)), (f4, .inl (cI, 60, .inl vf4)), (f5, .inl (cI, 60, .inl g_19)), (f6, .inl (cI, 60, .inl g_20)), (h0, .inr (4, [.int (nI cn), .int (nI im), .int bd, .ref f0, .ref f1, .ref f2, .ref f3, .ref f4, .ref f5, .ref f6]))] H := hP
    have hD : va_D (va_A [(h0, .inr (4, [.int (nI cn), .int (nI im), .int bd, .ref f0, .ref f1, .ref f2, .ref f3, .ref f4, .ref f5, .ref f6])), (f0, .inl (cI, 60, .inl vf0)), (f1, .inl (cI, 60, .inl vf1)), (f2, .inl (cI, 60, .inl vf2)), (f3, .inl (cI, 60, .inl vf3)), (f4, .inl (cI, 60, .inl vf4)), (f5, .inl (cI, 60, .inl vf5)), (f6, .inl (cI, 60, .inl vf6))] s.heap.size) [(f0, .inl (cI, 60, .inl vf0)), (f1, .inl (cI, 60, .inl vf1)), (f2, .inl (cI, 60, .inl vf2)), (f3, .inl (cI, 60, .inl vf3)), (f4, .inl (cI, 60, .inl vf4)), (f5, .inl (cI, 60, .inl g_19)), (f6, .inl (cI, 60, .inl g_20)), (h0, .inr (4, [.int (nI cn), .int (nI im), .int bd, .ref f0, .ref f1, .ref f2, .ref f3, .ref f4, .ref f5, .ref f6]))] := hD
    refine W.widen (k := 0) (n := 0) (by decide) (by decide) ?_
    exact x_vret (ws := [(h0, .inr (4, [.int (nI cn), .int (nI im), .int bd, .ref f0, .ref f1, .ref f2, .ref f3, .ref f4, .ref f5, .ref f6])), (f0, .inl (cI, 60, .inl vf0)), (f1, .inl (cI, 60, .inl vf1)), (f2, .inl (cI, 60, .inl vf2)), (f3, .inl (cI, 60, .inl vf3)), (f4, .inl (cI, 60, .inl vf4)), (f5, .inl (cI, 60, .inl g_19)), (f6, .inl (cI, 60, .inl g_20))]) E hr hlocks (hP.sub [7, 0, 1, 2, 3, 4, 5, 6] rfl) (hD.sub [7, 0, 1, 2, 3, 4, 5, 6] (by decide) rfl) hS ⟨g_19, g_20, rfl⟩ d_Functions_setBody_22
set_option maxHeartbeats 4000000 in
set_option maxRecDepth 100000 in
theorem c_Functions_hasLocal (l : Launch) (D : va_G) (cB cI cJ cZ : ClassId) (sz : Nat) (h0 : Nat) (cn : Nat) (im : Nat) (bd : Int32) (f0 : Nat) (f1 : Nat) (f2 : Nat) (f3 : Nat) (f4 : Nat) (f5 : Nat) (f6 : Nat) (vf0 : Nat → Int32) (vf1 : Nat → Int32) (vf2 : Nat → Int32) (vf3 : Nat → Int32) (vf4 : Nat → Int32) (vf5 : Nat → Int32) (vf6 : Nat → Int32) (x : Nat) (kk : Int32) (hc : cn ≤ 20000000) (hx : x < 2 ^ 31) : Met l y_Functions_hasLocal (Cond.code y_Functions_hasLocal prog_4_method_6_code 3 (some .boolean) :: xtb) ({ frames := 1, cells := 0, slots := 0, locals := 21 }) (xP D [(cB, .byte), (cI, .int), (cJ, .long), (cZ, .boolean)] [.ref h0, .int (nI x), .int kk] [(h0, .inr (4, [.int (nI cn), .int (nI im), .int bd, .ref f0, .ref f1, .ref f2, .ref f3, .ref f4, .ref f5, .ref f6])), (f0, .inl (cI, 60, .inl vf0)), (f1, .inl (cI, 60, .inl vf1)), (f2, .inl (cI, 60, .inl vf2)), (f3, .inl (cI, 60, .inl vf3)), (f4, .inl (cI, 60, .inl vf4)), (f5, .inl (cI, 60, .inl vf5)), (f6, .inl (cI, 60, .inl vf6))] sz) (xQi D [(cB, .byte), (cI, .int), (cJ, .long), (cZ, .boolean)] [(h0, .inr (4, [.int (nI cn), .int (nI im), .int bd, .ref f0, .ref f1, .ref f2, .ref f3, .ref f4, .ref f5, .ref f6])), (f0, .inl (cI, 60, .inl vf0)), (f1, .inl (cI, 60, .inl vf1)), (f2, .inl (cI, 60, .inl vf2)), (f3, .inl (cI, 60, .inl vf3)), (f4, .inl (cI, 60, .inl vf4)), (f5, .inl (cI, 60, .inl vf5)), (f6, .inl (cI, 60, .inl vf6))] sz (fun r u => ((r = 0) ∨ (r = 1 ∧ (x < cn) ∧ (x < 60))) ∧ u = [(h0, .inr (4, [.int (nI cn), .int (nI im), .int bd, .ref f0, .ref f1, .ref f2, .ref f3, .ref f4, .ref f5, .ref f6])), (f0, .inl (cI, 60, .inl vf0)), (f1, .inl (cI, 60, .inl vf1)), (f2, .inl (cI, 60, .inl vf2)), (f3, .inl (cI, 60, .inl vf3)), (f4, .inl (cI, 60, .inl vf4)), (f5, .inl (cI, 60, .inl vf5)), (f6, .inl (cI, 60, .inl vf6))])) 0 0 (va_A [(h0, .inr (4, [.int (nI cn), .int (nI im), .int bd, .ref f0, .ref f1, .ref f2, .ref f3, .ref f4, .ref f5, .ref f6])), (f0, .inl (cI, 60, .inl vf0)), (f1, .inl (cI, 60, .inl vf1)), (f2, .inl (cI, 60, .inl vf2)), (f3, .inl (cI, 60, .inl vf3)), (f4, .inl (cI, 60, .inl vf4)), (f5, .inl (cI, 60, .inl vf5)), (f6, .inl (cI, 60, .inl vf6))] sz) := by
  refine x_met (Qc := fun s => xQi D [(cB, .byte), (cI, .int), (cJ, .long), (cZ, .boolean)] [(h0, .inr (4, [.int (nI cn), .int (nI im), .int bd, .ref f0, .ref f1, .ref f2, .ref f3, .ref f4, .ref f5, .ref f6])), (f0, .inl (cI, 60, .inl vf0)), (f1, .inl (cI, 60, .inl vf1)), (f2, .inl (cI, 60, .inl vf2)), (f3, .inl (cI, 60, .inl vf3)), (f4, .inl (cI, 60, .inl vf4)), (f5, .inl (cI, 60, .inl vf5)), (f6, .inl (cI, 60, .inl vf6))] s.heap.size (fun r u => ((r = 0) ∨ (r = 1 ∧ (x < cn) ∧ (x < 60))) ∧ u = [(h0, .inr (4, [.int (nI cn), .int (nI im), .int bd, .ref f0, .ref f1, .ref f2, .ref f3, .ref f4, .ref f5, .ref f6])), (f0, .inl (cI, 60, .inl vf0)), (f1, .inl (cI, 60, .inl vf1)), (f2, .inl (cI, 60, .inl vf2)), (f3, .inl (cI, 60, .inl vf3)), (f4, .inl (cI, 60, .inl vf4)), (f5, .inl (cI, 60, .inl vf5)), (f6, .inl (cI, 60, .inl vf6))])) (fr := fun s => va_A [(h0, .inr (4, [.int (nI cn), .int (nI im), .int bd, .ref f0, .ref f1, .ref f2, .ref f3, .ref f4, .ref f5, .ref f6])), (f0, .inl (cI, 60, .inl vf0)), (f1, .inl (cI, 60, .inl vf1)), (f2, .inl (cI, 60, .inl vf2)), (f3, .inl (cI, 60, .inl vf3)), (f4, .inl (cI, 60, .inl vf4)), (f5, .inl (cI, 60, .inl vf5)), (f6, .inl (cI, 60, .inl vf6))] s.heap.size) "WasmReader$Functions" (by decide +kernel) rfl (Nat.le_of_ble_eq_true rfl) (fun s h => by rw [h]) (fun s h => by rw [h]) ?_
  intro p e s m below meth c ls E hr hlocks hinit hl hP hD hA hS hZ hadm
  have hl : lv_has ls 3 [(0, .ref h0), (1, .int (nI x)), (2, .int kk)] := hl
  refine lv_aload_n E.1 E.2.1 d_Functions_hasLocal_0 rfl (lv_at hl 0 rfl) ?_
  refine lv_iload_n E.1 E.2.1 d_Functions_hasLocal_1 rfl (lv_at hl 1 rfl) ?_
  have hPc := hP.sub (ws' := [(h0, .inr (4, [.int (nI cn), .int (nI im), .int bd, .ref f0, .ref f1, .ref f2, .ref f3, .ref f4, .ref f5, .ref f6]))]) [0] rfl
  have hDc := hD.sub (ws' := [(h0, .inr (4, [.int (nI cn), .int (nI im), .int bd, .ref f0, .ref f1, .ref f2, .ref f3, .ref f4, .ref f5, .ref f6]))]) [0] (by decide) rfl
  have hFc := va_free (wc := [(h0, .inr (4, [.int (nI cn), .int (nI im), .int bd, .ref f0, .ref f1, .ref f2, .ref f3, .ref f4, .ref f5, .ref f6]))]) hD hS hA [0] rfl
  refine x_ri (ws := [(h0, .inr (4, [.int (nI cn), .int (nI im), .int bd, .ref f0, .ref f1, .ref f2, .ref f3, .ref f4, .ref f5, .ref f6])), (f0, .inl (cI, 60, .inl vf0)), (f1, .inl (cI, 60, .inl vf1)), (f2, .inl (cI, 60, .inl vf2)), (f3, .inl (cI, 60, .inl vf3)), (f4, .inl (cI, 60, .inl vf4)), (f5, .inl (cI, 60, .inl vf5)), (f6, .inl (cI, 60, .inl vf6))]) (wc := [(h0, .inr (4, [.int (nI cn), .int (nI im), .int bd, .ref f0, .ref f1, .ref f2, .ref f3, .ref f4, .ref f5, .ref f6]))]) (wr := [(f0, .inl (cI, 60, .inl vf0)), (f1, .inl (cI, 60, .inl vf1)), (f2, .inl (cI, 60, .inl vf2)), (f3, .inl (cI, 60, .inl vf3)), (f4, .inl (cI, 60, .inl vf4)), (f5, .inl (cI, 60, .inl vf5)), (f6, .inl (cI, 60, .inl vf6))]) (x_V (As := [.int (nI x)]) (C := "WasmReader$Functions") E (c_Functions_has l D cB cI cJ cZ s.heap.size h0 cn im bd f0 f1 f2 f3 f4 f5 f6 x (by omega) (by omega)) m_259 m_59 m_258 m_260 m_261 nm_Functions_has hPc hDc hZ hS hFc rfl rfl rfl hl.1 rfl (Nat.le_of_ble_eq_true rfl) d_Functions_hasLocal_2 rfl rfl (by decide) (by decide) (by decide) (by decide)) hP hD hS hA [0] [1, 2, 3, 4, 5, 6, 7] rfl rfl (by decide) (by decide) (fun r_3 u H locs hw hP hD hS => ?_)
  obtain ⟨hal_1, rfl⟩ := hw
  have hP : va_P D classes [(f0, .inl (cI, 60, .inl vf0)), (f1, .inl (cI, 60, .inl vf1)), (f2, .inl (cI, 60, .inl vf2)), (f3, .inl (cI, 60, .inl vf3)), (f4, .inl (cI, 60, .inl vf4)), (f5, .inl (cI, 60, .inl vf5)), (f6, .inl (cI, 60, .inl vf6)), (h0, .inr (4, [.int (nI cn), .int (nI im), .int bd, .ref f0, .ref f1, .ref f2, .ref f3, .ref f4, .ref f5, .ref f6]))] H := hP
  have hD : va_D (va_A [(h0, .inr (4, [.int (nI cn), .int (nI im), .int bd, .ref f0, .ref f1, .ref f2, .ref f3, .ref f4, .ref f5, .ref f6])), (f0, .inl (cI, 60, .inl vf0)), (f1, .inl (cI, 60, .inl vf1)), (f2, .inl (cI, 60, .inl vf2)), (f3, .inl (cI, 60, .inl vf3)), (f4, .inl (cI, 60, .inl vf4)), (f5, .inl (cI, 60, .inl vf5)), (f6, .inl (cI, 60, .inl vf6))] s.heap.size) [(f0, .inl (cI, 60, .inl vf0)), (f1, .inl (cI, 60, .inl vf1)), (f2, .inl (cI, 60, .inl vf2)), (f3, .inl (cI, 60, .inl vf3)), (f4, .inl (cI, 60, .inl vf4)), (f5, .inl (cI, 60, .inl vf5)), (f6, .inl (cI, 60, .inl vf6)), (h0, .inr (4, [.int (nI cn), .int (nI im), .int bd, .ref f0, .ref f1, .ref f2, .ref f3, .ref f4, .ref f5, .ref f6]))] := hD
  rcases hal_1 with ha_4 | ⟨ha_5, hb_6, hb_7⟩
  ·
    subst ha_4
    refine lv_if_eq (tgt := 33) E.1 E.2.1 d_Functions_hasLocal_5 (by decide) (fun _ => ?_) (fun hc => absurd (by decide) hc)
    refine lv_iconst (v := 0) E.1 E.2.1 d_Functions_hasLocal_33 (by decide) ?_
    refine W.widen (k := 0) (n := 0) (by decide) (by decide) ?_
    exact x_zret (ws := [(h0, .inr (4, [.int (nI cn), .int (nI im), .int bd, .ref f0, .ref f1, .ref f2, .ref f3, .ref f4, .ref f5, .ref f6])), (f0, .inl (cI, 60, .inl vf0)), (f1, .inl (cI, 60, .inl vf1)), (f2, .inl (cI, 60, .inl vf2)), (f3, .inl (cI, 60, .inl vf3)), (f4, .inl (cI, 60, .inl vf4)), (f5, .inl (cI, 60, .inl vf5)), (f6, .inl (cI, 60, .inl vf6))]) E hr (by decide) hlocks (hP.sub [7, 0, 1, 2, 3, 4, 5, 6] rfl) (hD.sub [7, 0, 1, 2, 3, 4, 5, 6] (by decide) rfl) hS ⟨(Or.inl rfl), rfl⟩ d_Functions_hasLocal_34
  ·
    subst ha_5
    refine lv_if_eq (tgt := 33) E.1 E.2.1 d_Functions_hasLocal_5 (by decide) (fun hc => absurd hc (by decide)) (fun _ => ?_)
    refine lv_iload_n E.1 E.2.1 d_Functions_hasLocal_8 rfl (lv_at hl 2 rfl) ?_
    refine lv_if_lt (tgt := 33) E.1 E.2.1 d_Functions_hasLocal_9 (by decide) (fun hc_8 => ?_) (fun hc_8 => ?_)
    ·
      refine lv_iconst (v := 0) E.1 E.2.1 d_Functions_hasLocal_33 (by decide) ?_
      refine W.widen (k := 0) (n := 0) (by decide) (by decide) ?_
      exact x_zret (ws := [(h0, .inr (4, [.int (nI cn), .int (nI im), .int bd, .ref f0, .ref f1, .ref f2, .ref f3, .ref f4, .ref f5, .ref f6])), (f0, .inl (cI, 60, .inl vf0)), (f1, .inl (cI, 60, .inl vf1)), (f2, .inl (cI, 60, .inl vf2)), (f3, .inl (cI, 60, .inl vf3)), (f4, .inl (cI, 60, .inl vf4)), (f5, .inl (cI, 60, .inl vf5)), (f6, .inl (cI, 60, .inl vf6))]) E hr (by decide) hlocks (hP.sub [7, 0, 1, 2, 3, 4, 5, 6] rfl) (hD.sub [7, 0, 1, 2, 3, 4, 5, 6] (by decide) rfl) hS ⟨(Or.inl rfl), rfl⟩ d_Functions_hasLocal_34
    ·
      refine lv_iload_n E.1 E.2.1 d_Functions_hasLocal_12 rfl (lv_at hl 2 rfl) ?_
      refine lv_aload_n E.1 E.2.1 d_Functions_hasLocal_13 rfl (lv_at hl 0 rfl) ?_
      refine x_get E hP (C := "WasmReader$Functions") (T := T_Functions) (N := 10) (ci := 4) 7 (v := .ref f1) 4 in_Functions rfl rfl (by decide) m_11 rfl d_Functions_hasLocal_14 ?_
      refine lv_iload_n E.1 E.2.1 d_Functions_hasLocal_17 rfl (lv_at hl 1 rfl) ?_
      refine va_iald E.1 E.2.1 E.2.2.2.2.2 hP 1 1 rfl rfl (i := nI x) (vp_in_nI (n := x) (by omega) (by decide)) d_Functions_hasLocal_18 ?_
      refine lv_topi (fun v_9 ev_9 => ?_)
      refine lv_aload_n E.1 E.2.1 d_Functions_hasLocal_19 rfl (lv_at hl 0 rfl) ?_
      refine x_get E hP (C := "WasmReader$Functions") (T := T_Functions) (N := 10) (ci := 4) 7 (v := .ref f3) 6 in_Functions rfl rfl (by decide) m_13 rfl d_Functions_hasLocal_20 ?_
      refine lv_iload_n E.1 E.2.1 d_Functions_hasLocal_23 rfl (lv_at hl 1 rfl) ?_
      refine va_iald E.1 E.2.1 E.2.2.2.2.2 hP 3 1 rfl rfl (i := nI x) (vp_in_nI (n := x) (by omega) (by decide)) d_Functions_hasLocal_24 ?_
      refine lv_topi (fun v_10 ev_10 => ?_)
      refine lv_iadd E.1 E.2.1 d_Functions_hasLocal_25 ?_
      refine lv_topi (fun v_11 ev_11 => ?_)
      refine lv_icmp_ge (tgt := 33) E.1 E.2.1 d_Functions_hasLocal_26 (by decide) (fun hc_12 => ?_) (fun hc_12 => ?_)
      ·
        refine lv_iconst (v := 0) E.1 E.2.1 d_Functions_hasLocal_33 (by decide) ?_
        refine W.widen (k := 0) (n := 0) (by decide) (by decide) ?_
        exact x_zret (ws := [(h0, .inr (4, [.int (nI cn), .int (nI im), .int bd, .ref f0, .ref f1, .ref f2, .ref f3, .ref f4, .ref f5, .ref f6])), (f0, .inl (cI, 60, .inl vf0)), (f1, .inl (cI, 60, .inl vf1)), (f2, .inl (cI, 60, .inl vf2)), (f3, .inl (cI, 60, .inl vf3)), (f4, .inl (cI, 60, .inl vf4)), (f5, .inl (cI, 60, .inl vf5)), (f6, .inl (cI, 60, .inl vf6))]) E hr (by decide) hlocks (hP.sub [7, 0, 1, 2, 3, 4, 5, 6] rfl) (hD.sub [7, 0, 1, 2, 3, 4, 5, 6] (by decide) rfl) hS ⟨(Or.inl rfl), rfl⟩ d_Functions_hasLocal_34
      ·
        refine lv_iconst (v := 1) E.1 E.2.1 d_Functions_hasLocal_29 (by decide) ?_
        refine lv_goto (tgt := 34) E.1 E.2.1 d_Functions_hasLocal_30 (by decide) ?_
        refine W.widen (k := 0) (n := 0) (by decide) (by decide) ?_
        exact x_zret (ws := [(h0, .inr (4, [.int (nI cn), .int (nI im), .int bd, .ref f0, .ref f1, .ref f2, .ref f3, .ref f4, .ref f5, .ref f6])), (f0, .inl (cI, 60, .inl vf0)), (f1, .inl (cI, 60, .inl vf1)), (f2, .inl (cI, 60, .inl vf2)), (f3, .inl (cI, 60, .inl vf3)), (f4, .inl (cI, 60, .inl vf4)), (f5, .inl (cI, 60, .inl vf5)), (f6, .inl (cI, 60, .inl vf6))]) E hr (by decide) hlocks (hP.sub [7, 0, 1, 2, 3, 4, 5, 6] rfl) (hD.sub [7, 0, 1, 2, 3, 4, 5, 6] (by decide) rfl) hS ⟨(Or.inr (⟨rfl, (by omega), (by omega)⟩)), rfl⟩ d_Functions_hasLocal_34
set_option maxHeartbeats 4000000 in
set_option maxRecDepth 100000 in
theorem c_Functions_typeOfLocal (l : Launch) (D : va_G) (cB cI cJ cZ : ClassId) (sz : Nat) (h0 : Nat) (cn : Nat) (im : Nat) (bd : Int32) (f0 : Nat) (f1 : Nat) (f2 : Nat) (f3 : Nat) (f4 : Nat) (f5 : Nat) (f6 : Nat) (vf0 : Nat → Int32) (vf1 : Nat → Int32) (vf2 : Nat → Int32) (vf3 : Nat → Int32) (vf4 : Nat → Int32) (vf5 : Nat → Int32) (vf6 : Nat → Int32) (x : Nat) (kk : Int32) (hc : cn ≤ 20000000) (hx : x < 2 ^ 31) : Met l y_Functions_typeOfLocal (Cond.code y_Functions_typeOfLocal prog_4_method_7_code 3 (some .int) :: xtb) ({ frames := 2, cells := 0, slots := 0, locals := 43 }) (xP D [(cB, .byte), (cI, .int), (cJ, .long), (cZ, .boolean)] [.ref h0, .int (nI x), .int kk] [(h0, .inr (4, [.int (nI cn), .int (nI im), .int bd, .ref f0, .ref f1, .ref f2, .ref f3, .ref f4, .ref f5, .ref f6])), (f0, .inl (cI, 60, .inl vf0)), (f1, .inl (cI, 60, .inl vf1)), (f2, .inl (cI, 60, .inl vf2)), (f3, .inl (cI, 60, .inl vf3)), (f4, .inl (cI, 60, .inl vf4)), (f5, .inl (cI, 60, .inl vf5)), (f6, .inl (cI, 60, .inl vf6))] sz) (xQi D [(cB, .byte), (cI, .int), (cJ, .long), (cZ, .boolean)] [(h0, .inr (4, [.int (nI cn), .int (nI im), .int bd, .ref f0, .ref f1, .ref f2, .ref f3, .ref f4, .ref f5, .ref f6])), (f0, .inl (cI, 60, .inl vf0)), (f1, .inl (cI, 60, .inl vf1)), (f2, .inl (cI, 60, .inl vf2)), (f3, .inl (cI, 60, .inl vf3)), (f4, .inl (cI, 60, .inl vf4)), (f5, .inl (cI, 60, .inl vf5)), (f6, .inl (cI, 60, .inl vf6))] sz (fun r u => u = [(h0, .inr (4, [.int (nI cn), .int (nI im), .int bd, .ref f0, .ref f1, .ref f2, .ref f3, .ref f4, .ref f5, .ref f6])), (f0, .inl (cI, 60, .inl vf0)), (f1, .inl (cI, 60, .inl vf1)), (f2, .inl (cI, 60, .inl vf2)), (f3, .inl (cI, 60, .inl vf3)), (f4, .inl (cI, 60, .inl vf4)), (f5, .inl (cI, 60, .inl vf5)), (f6, .inl (cI, 60, .inl vf6))])) 0 0 (va_A [(h0, .inr (4, [.int (nI cn), .int (nI im), .int bd, .ref f0, .ref f1, .ref f2, .ref f3, .ref f4, .ref f5, .ref f6])), (f0, .inl (cI, 60, .inl vf0)), (f1, .inl (cI, 60, .inl vf1)), (f2, .inl (cI, 60, .inl vf2)), (f3, .inl (cI, 60, .inl vf3)), (f4, .inl (cI, 60, .inl vf4)), (f5, .inl (cI, 60, .inl vf5)), (f6, .inl (cI, 60, .inl vf6))] sz) := by
  refine x_met (Qc := fun s => xQi D [(cB, .byte), (cI, .int), (cJ, .long), (cZ, .boolean)] [(h0, .inr (4, [.int (nI cn), .int (nI im), .int bd, .ref f0, .ref f1, .ref f2, .ref f3, .ref f4, .ref f5, .ref f6])), (f0, .inl (cI, 60, .inl vf0)), (f1, .inl (cI, 60, .inl vf1)), (f2, .inl (cI, 60, .inl vf2)), (f3, .inl (cI, 60, .inl vf3)), (f4, .inl (cI, 60, .inl vf4)), (f5, .inl (cI, 60, .inl vf5)), (f6, .inl (cI, 60, .inl vf6))] s.heap.size (fun r u => u = [(h0, .inr (4, [.int (nI cn), .int (nI im), .int bd, .ref f0, .ref f1, .ref f2, .ref f3, .ref f4, .ref f5, .ref f6])), (f0, .inl (cI, 60, .inl vf0)), (f1, .inl (cI, 60, .inl vf1)), (f2, .inl (cI, 60, .inl vf2)), (f3, .inl (cI, 60, .inl vf3)), (f4, .inl (cI, 60, .inl vf4)), (f5, .inl (cI, 60, .inl vf5)), (f6, .inl (cI, 60, .inl vf6))])) (fr := fun s => va_A [(h0, .inr (4, [.int (nI cn), .int (nI im), .int bd, .ref f0, .ref f1, .ref f2, .ref f3, .ref f4, .ref f5, .ref f6])), (f0, .inl (cI, 60, .inl vf0)), (f1, .inl (cI, 60, .inl vf1)), (f2, .inl (cI, 60, .inl vf2)), (f3, .inl (cI, 60, .inl vf3)), (f4, .inl (cI, 60, .inl vf4)), (f5, .inl (cI, 60, .inl vf5)), (f6, .inl (cI, 60, .inl vf6))] s.heap.size) "WasmReader$Functions" (by decide +kernel) rfl (Nat.le_of_ble_eq_true rfl) (fun s h => by rw [h]) (fun s h => by rw [h]) ?_
  intro p e s m below meth c ls E hr hlocks hinit hl hP hD hA hS hZ hadm
  have hl : lv_has ls 3 [(0, .ref h0), (1, .int (nI x)), (2, .int kk)] := hl
  refine lv_aload_n E.1 E.2.1 d_Functions_typeOfLocal_0 rfl (lv_at hl 0 rfl) ?_
  refine lv_iload_n E.1 E.2.1 d_Functions_typeOfLocal_1 rfl (lv_at hl 1 rfl) ?_
  refine lv_iload_n E.1 E.2.1 d_Functions_typeOfLocal_2 rfl (lv_at hl 2 rfl) ?_
  have hPc := hP.sub (ws' := [(h0, .inr (4, [.int (nI cn), .int (nI im), .int bd, .ref f0, .ref f1, .ref f2, .ref f3, .ref f4, .ref f5, .ref f6])), (f0, .inl (cI, 60, .inl vf0)), (f1, .inl (cI, 60, .inl vf1)), (f2, .inl (cI, 60, .inl vf2)), (f3, .inl (cI, 60, .inl vf3)), (f4, .inl (cI, 60, .inl vf4)), (f5, .inl (cI, 60, .inl vf5)), (f6, .inl (cI, 60, .inl vf6))]) [0, 1, 2, 3, 4, 5, 6, 7] rfl
  have hDc := hD.sub (ws' := [(h0, .inr (4, [.int (nI cn), .int (nI im), .int bd, .ref f0, .ref f1, .ref f2, .ref f3, .ref f4, .ref f5, .ref f6])), (f0, .inl (cI, 60, .inl vf0)), (f1, .inl (cI, 60, .inl vf1)), (f2, .inl (cI, 60, .inl vf2)), (f3, .inl (cI, 60, .inl vf3)), (f4, .inl (cI, 60, .inl vf4)), (f5, .inl (cI, 60, .inl vf5)), (f6, .inl (cI, 60, .inl vf6))]) [0, 1, 2, 3, 4, 5, 6, 7] (by decide) rfl
  have hFc := va_free (wc := [(h0, .inr (4, [.int (nI cn), .int (nI im), .int bd, .ref f0, .ref f1, .ref f2, .ref f3, .ref f4, .ref f5, .ref f6])), (f0, .inl (cI, 60, .inl vf0)), (f1, .inl (cI, 60, .inl vf1)), (f2, .inl (cI, 60, .inl vf2)), (f3, .inl (cI, 60, .inl vf3)), (f4, .inl (cI, 60, .inl vf4)), (f5, .inl (cI, 60, .inl vf5)), (f6, .inl (cI, 60, .inl vf6))]) hD hS hA [0, 1, 2, 3, 4, 5, 6, 7] rfl
  refine x_ri (ws := [(h0, .inr (4, [.int (nI cn), .int (nI im), .int bd, .ref f0, .ref f1, .ref f2, .ref f3, .ref f4, .ref f5, .ref f6])), (f0, .inl (cI, 60, .inl vf0)), (f1, .inl (cI, 60, .inl vf1)), (f2, .inl (cI, 60, .inl vf2)), (f3, .inl (cI, 60, .inl vf3)), (f4, .inl (cI, 60, .inl vf4)), (f5, .inl (cI, 60, .inl vf5)), (f6, .inl (cI, 60, .inl vf6))]) (wc := [(h0, .inr (4, [.int (nI cn), .int (nI im), .int bd, .ref f0, .ref f1, .ref f2, .ref f3, .ref f4, .ref f5, .ref f6])), (f0, .inl (cI, 60, .inl vf0)), (f1, .inl (cI, 60, .inl vf1)), (f2, .inl (cI, 60, .inl vf2)), (f3, .inl (cI, 60, .inl vf3)), (f4, .inl (cI, 60, .inl vf4)), (f5, .inl (cI, 60, .inl vf5)), (f6, .inl (cI, 60, .inl vf6))]) (wr := []) (x_V (As := [.int (nI x), .int kk]) (C := "WasmReader$Functions") E (c_Functions_hasLocal l D cB cI cJ cZ s.heap.size h0 cn im bd f0 f1 f2 f3 f4 f5 f6 vf0 vf1 vf2 vf3 vf4 vf5 vf6 x kk (by omega) (by omega)) m_263 m_59 m_262 m_264 m_265 nm_Functions_hasLocal hPc hDc hZ hS hFc rfl rfl rfl hl.1 rfl (Nat.le_of_ble_eq_true rfl) d_Functions_typeOfLocal_3 rfl rfl (by decide) (by decide) (by decide) (by decide)) hP hD hS hA [0, 1, 2, 3, 4, 5, 6, 7] [] rfl rfl (by decide) (by decide) (fun r_3 u H locs hw hP hD hS => ?_)
  obtain ⟨hal_1, rfl⟩ := hw
  have hP : va_P D classes [(h0, .inr (4, [.int (nI cn), .int (nI im), .int bd, .ref f0, .ref f1, .ref f2, .ref f3, .ref f4, .ref f5, .ref f6])), (f0, .inl (cI, 60, .inl vf0)), (f1, .inl (cI, 60, .inl vf1)), (f2, .inl (cI, 60, .inl vf2)), (f3, .inl (cI, 60, .inl vf3)), (f4, .inl (cI, 60, .inl vf4)), (f5, .inl (cI, 60, .inl vf5)), (f6, .inl (cI, 60, .inl vf6))] H := hP
  have hD : va_D (va_A [(h0, .inr (4, [.int (nI cn), .int (nI im), .int bd, .ref f0, .ref f1, .ref f2, .ref f3, .ref f4, .ref f5, .ref f6])), (f0, .inl (cI, 60, .inl vf0)), (f1, .inl (cI, 60, .inl vf1)), (f2, .inl (cI, 60, .inl vf2)), (f3, .inl (cI, 60, .inl vf3)), (f4, .inl (cI, 60, .inl vf4)), (f5, .inl (cI, 60, .inl vf5)), (f6, .inl (cI, 60, .inl vf6))] s.heap.size) [(h0, .inr (4, [.int (nI cn), .int (nI im), .int bd, .ref f0, .ref f1, .ref f2, .ref f3, .ref f4, .ref f5, .ref f6])), (f0, .inl (cI, 60, .inl vf0)), (f1, .inl (cI, 60, .inl vf1)), (f2, .inl (cI, 60, .inl vf2)), (f3, .inl (cI, 60, .inl vf3)), (f4, .inl (cI, 60, .inl vf4)), (f5, .inl (cI, 60, .inl vf5)), (f6, .inl (cI, 60, .inl vf6))] := hD
  rcases hal_1 with ha_4 | ⟨ha_5, hb_6, hb_7⟩
  ·
    subst ha_4
    refine lv_if_ne (tgt := 11) E.1 E.2.1 d_Functions_typeOfLocal_6 (by decide) (fun hc => absurd (by decide) hc) (fun _ => ?_)
    refine lv_iconst (v := 2) E.1 E.2.1 d_Functions_typeOfLocal_9 (by decide) ?_
    refine W.widen (k := 0) (n := 0) (by decide) (by decide) ?_
    exact x_iret (ws := [(h0, .inr (4, [.int (nI cn), .int (nI im), .int bd, .ref f0, .ref f1, .ref f2, .ref f3, .ref f4, .ref f5, .ref f6])), (f0, .inl (cI, 60, .inl vf0)), (f1, .inl (cI, 60, .inl vf1)), (f2, .inl (cI, 60, .inl vf2)), (f3, .inl (cI, 60, .inl vf3)), (f4, .inl (cI, 60, .inl vf4)), (f5, .inl (cI, 60, .inl vf5)), (f6, .inl (cI, 60, .inl vf6))]) E hr hlocks (hP.sub [0, 1, 2, 3, 4, 5, 6, 7] rfl) (hD.sub [0, 1, 2, 3, 4, 5, 6, 7] (by decide) rfl) hS rfl d_Functions_typeOfLocal_10
  ·
    subst ha_5
    refine lv_if_ne (tgt := 11) E.1 E.2.1 d_Functions_typeOfLocal_6 (by decide) (fun _ => ?_) (fun hc => absurd hc (by decide))
    refine lv_aload_n E.1 E.2.1 d_Functions_typeOfLocal_11 rfl (lv_at hl 0 rfl) ?_
    refine x_get E hP (C := "WasmReader$Functions") (T := T_Functions) (N := 10) (ci := 4) 0 (v := .ref f4) 7 in_Functions rfl rfl (by decide) m_14 rfl d_Functions_typeOfLocal_12 ?_
    refine lv_iload_n E.1 E.2.1 d_Functions_typeOfLocal_15 rfl (lv_at hl 1 rfl) ?_
    refine va_iald E.1 E.2.1 E.2.2.2.2.2 hP 5 1 rfl rfl (i := nI x) (vp_in_nI (n := x) (by omega) (by decide)) d_Functions_typeOfLocal_16 ?_
    refine lv_topi (fun v_8 ev_8 => ?_)
    refine lv_iload_n E.1 E.2.1 d_Functions_typeOfLocal_17 rfl (lv_at hl 2 rfl) ?_
    refine lv_ishr E.1 E.2.1 d_Functions_typeOfLocal_18 ?_
    refine lv_topi (fun v_9 ev_9 => ?_)
    refine lv_iconst (v := 1) E.1 E.2.1 d_Functions_typeOfLocal_19 (by decide) ?_
    refine lv_iand E.1 E.2.1 d_Functions_typeOfLocal_20 ?_
    refine lv_topi (fun v_10 ev_10 => ?_)
    refine lv_iconst (v := 1) E.1 E.2.1 d_Functions_typeOfLocal_21 (by decide) ?_
    refine lv_icmp_ne (tgt := 29) E.1 E.2.1 d_Functions_typeOfLocal_22 (by decide) (fun hc_11 => ?_) (fun hc_11 => ?_)
    ·
      refine lv_iconst (v := 0) E.1 E.2.1 d_Functions_typeOfLocal_29 (by decide) ?_
      refine W.widen (k := 0) (n := 0) (by decide) (by decide) ?_
      exact x_iret (ws := [(h0, .inr (4, [.int (nI cn), .int (nI im), .int bd, .ref f0, .ref f1, .ref f2, .ref f3, .ref f4, .ref f5, .ref f6])), (f0, .inl (cI, 60, .inl vf0)), (f1, .inl (cI, 60, .inl vf1)), (f2, .inl (cI, 60, .inl vf2)), (f3, .inl (cI, 60, .inl vf3)), (f4, .inl (cI, 60, .inl vf4)), (f5, .inl (cI, 60, .inl vf5)), (f6, .inl (cI, 60, .inl vf6))]) E hr hlocks (hP.sub [0, 1, 2, 3, 4, 5, 6, 7] rfl) (hD.sub [0, 1, 2, 3, 4, 5, 6, 7] (by decide) rfl) hS rfl d_Functions_typeOfLocal_30
    ·
      refine lv_iconst (v := 1) E.1 E.2.1 d_Functions_typeOfLocal_25 (by decide) ?_
      refine lv_goto (tgt := 30) E.1 E.2.1 d_Functions_typeOfLocal_26 (by decide) ?_
      refine W.widen (k := 0) (n := 0) (by decide) (by decide) ?_
      exact x_iret (ws := [(h0, .inr (4, [.int (nI cn), .int (nI im), .int bd, .ref f0, .ref f1, .ref f2, .ref f3, .ref f4, .ref f5, .ref f6])), (f0, .inl (cI, 60, .inl vf0)), (f1, .inl (cI, 60, .inl vf1)), (f2, .inl (cI, 60, .inl vf2)), (f3, .inl (cI, 60, .inl vf3)), (f4, .inl (cI, 60, .inl vf4)), (f5, .inl (cI, 60, .inl vf5)), (f6, .inl (cI, 60, .inl vf6))]) E hr hlocks (hP.sub [0, 1, 2, 3, 4, 5, 6, 7] rfl) (hD.sub [0, 1, 2, 3, 4, 5, 6, 7] (by decide) rfl) hS rfl d_Functions_typeOfLocal_30
set_option maxHeartbeats 4000000 in
set_option maxRecDepth 100000 in
theorem c_Functions_hasLocalr (l : Launch) (D : va_G) (cB cI cJ cZ : ClassId) (sz : Nat) (h0 : Nat) (cn : Nat) (im : Nat) (bd : Int32) (f0 : Nat) (f1 : Nat) (f2 : Nat) (f3 : Nat) (f4 : Nat) (f5 : Nat) (f6 : Nat) (vf0 : Nat → Int32) (vf1 : Nat → Int32) (vf2 : Nat → Int32) (vf3 : Nat → Int32) (vf4 : Nat → Int32) (vf5 : Nat → Int32) (vf6 : Nat → Int32) (t : Int32) (kk : Int32) (hc : cn ≤ 20000000) : Met l y_Functions_hasLocal (Cond.code y_Functions_hasLocal prog_4_method_6_code 3 (some .boolean) :: xtb) ({ frames := 1, cells := 0, slots := 0, locals := 21 }) (xP D [(cB, .byte), (cI, .int), (cJ, .long), (cZ, .boolean)] [.ref h0, .int t, .int kk] [(h0, .inr (4, [.int (nI cn), .int (nI im), .int bd, .ref f0, .ref f1, .ref f2, .ref f3, .ref f4, .ref f5, .ref f6])), (f0, .inl (cI, 60, .inl vf0)), (f1, .inl (cI, 60, .inl vf1)), (f2, .inl (cI, 60, .inl vf2)), (f3, .inl (cI, 60, .inl vf3)), (f4, .inl (cI, 60, .inl vf4)), (f5, .inl (cI, 60, .inl vf5)), (f6, .inl (cI, 60, .inl vf6))] sz) (xQi D [(cB, .byte), (cI, .int), (cJ, .long), (cZ, .boolean)] [(h0, .inr (4, [.int (nI cn), .int (nI im), .int bd, .ref f0, .ref f1, .ref f2, .ref f3, .ref f4, .ref f5, .ref f6])), (f0, .inl (cI, 60, .inl vf0)), (f1, .inl (cI, 60, .inl vf1)), (f2, .inl (cI, 60, .inl vf2)), (f3, .inl (cI, 60, .inl vf3)), (f4, .inl (cI, 60, .inl vf4)), (f5, .inl (cI, 60, .inl vf5)), (f6, .inl (cI, 60, .inl vf6))] sz (fun r u => ((r = 0) ∨ (∃ (x : Nat), r = 1 ∧ (t = nI x) ∧ (x < cn) ∧ (x < 60))) ∧ u = [(h0, .inr (4, [.int (nI cn), .int (nI im), .int bd, .ref f0, .ref f1, .ref f2, .ref f3, .ref f4, .ref f5, .ref f6])), (f0, .inl (cI, 60, .inl vf0)), (f1, .inl (cI, 60, .inl vf1)), (f2, .inl (cI, 60, .inl vf2)), (f3, .inl (cI, 60, .inl vf3)), (f4, .inl (cI, 60, .inl vf4)), (f5, .inl (cI, 60, .inl vf5)), (f6, .inl (cI, 60, .inl vf6))])) 0 0 (va_A [(h0, .inr (4, [.int (nI cn), .int (nI im), .int bd, .ref f0, .ref f1, .ref f2, .ref f3, .ref f4, .ref f5, .ref f6])), (f0, .inl (cI, 60, .inl vf0)), (f1, .inl (cI, 60, .inl vf1)), (f2, .inl (cI, 60, .inl vf2)), (f3, .inl (cI, 60, .inl vf3)), (f4, .inl (cI, 60, .inl vf4)), (f5, .inl (cI, 60, .inl vf5)), (f6, .inl (cI, 60, .inl vf6))] sz) := by
  refine x_met (Qc := fun s => xQi D [(cB, .byte), (cI, .int), (cJ, .long), (cZ, .boolean)] [(h0, .inr (4, [.int (nI cn), .int (nI im), .int bd, .ref f0, .ref f1, .ref f2, .ref f3, .ref f4, .ref f5, .ref f6])), (f0, .inl (cI, 60, .inl vf0)), (f1, .inl (cI, 60, .inl vf1)), (f2, .inl (cI, 60, .inl vf2)), (f3, .inl (cI, 60, .inl vf3)), (f4, .inl (cI, 60, .inl vf4)), (f5, .inl (cI, 60, .inl vf5)), (f6, .inl (cI, 60, .inl vf6))] s.heap.size (fun r u => ((r = 0) ∨ (∃ (x : Nat), r = 1 ∧ (t = nI x) ∧ (x < cn) ∧ (x < 60))) ∧ u = [(h0, .inr (4, [.int (nI cn), .int (nI im), .int bd, .ref f0, .ref f1, .ref f2, .ref f3, .ref f4, .ref f5, .ref f6])), (f0, .inl (cI, 60, .inl vf0)), (f1, .inl (cI, 60, .inl vf1)), (f2, .inl (cI, 60, .inl vf2)), (f3, .inl (cI, 60, .inl vf3)), (f4, .inl (cI, 60, .inl vf4)), (f5, .inl (cI, 60, .inl vf5)), (f6, .inl (cI, 60, .inl vf6))])) (fr := fun s => va_A [(h0, .inr (4, [.int (nI cn), .int (nI im), .int bd, .ref f0, .ref f1, .ref f2, .ref f3, .ref f4, .ref f5, .ref f6])), (f0, .inl (cI, 60, .inl vf0)), (f1, .inl (cI, 60, .inl vf1)), (f2, .inl (cI, 60, .inl vf2)), (f3, .inl (cI, 60, .inl vf3)), (f4, .inl (cI, 60, .inl vf4)), (f5, .inl (cI, 60, .inl vf5)), (f6, .inl (cI, 60, .inl vf6))] s.heap.size) "WasmReader$Functions" (by decide +kernel) rfl (Nat.le_of_ble_eq_true rfl) (fun s h => by rw [h]) (fun s h => by rw [h]) ?_
  intro p e s m below meth c ls E hr hlocks hinit hl hP hD hA hS hZ hadm
  have hl : lv_has ls 3 [(0, .ref h0), (1, .int t), (2, .int kk)] := hl
  refine lv_aload_n E.1 E.2.1 d_Functions_hasLocal_0 rfl (lv_at hl 0 rfl) ?_
  refine lv_iload_n E.1 E.2.1 d_Functions_hasLocal_1 rfl (lv_at hl 1 rfl) ?_
  have hPc := hP.sub (ws' := [(h0, .inr (4, [.int (nI cn), .int (nI im), .int bd, .ref f0, .ref f1, .ref f2, .ref f3, .ref f4, .ref f5, .ref f6]))]) [0] rfl
  have hDc := hD.sub (ws' := [(h0, .inr (4, [.int (nI cn), .int (nI im), .int bd, .ref f0, .ref f1, .ref f2, .ref f3, .ref f4, .ref f5, .ref f6]))]) [0] (by decide) rfl
  have hFc := va_free (wc := [(h0, .inr (4, [.int (nI cn), .int (nI im), .int bd, .ref f0, .ref f1, .ref f2, .ref f3, .ref f4, .ref f5, .ref f6]))]) hD hS hA [0] rfl
  refine x_ri (ws := [(h0, .inr (4, [.int (nI cn), .int (nI im), .int bd, .ref f0, .ref f1, .ref f2, .ref f3, .ref f4, .ref f5, .ref f6])), (f0, .inl (cI, 60, .inl vf0)), (f1, .inl (cI, 60, .inl vf1)), (f2, .inl (cI, 60, .inl vf2)), (f3, .inl (cI, 60, .inl vf3)), (f4, .inl (cI, 60, .inl vf4)), (f5, .inl (cI, 60, .inl vf5)), (f6, .inl (cI, 60, .inl vf6))]) (wc := [(h0, .inr (4, [.int (nI cn), .int (nI im), .int bd, .ref f0, .ref f1, .ref f2, .ref f3, .ref f4, .ref f5, .ref f6]))]) (wr := [(f0, .inl (cI, 60, .inl vf0)), (f1, .inl (cI, 60, .inl vf1)), (f2, .inl (cI, 60, .inl vf2)), (f3, .inl (cI, 60, .inl vf3)), (f4, .inl (cI, 60, .inl vf4)), (f5, .inl (cI, 60, .inl vf5)), (f6, .inl (cI, 60, .inl vf6))]) (x_V (As := [.int t]) (C := "WasmReader$Functions") E (c_Functions_hasr l D cB cI cJ cZ s.heap.size h0 cn im bd f0 f1 f2 f3 f4 f5 f6 t (by omega)) m_259 m_59 m_258 m_260 m_261 nm_Functions_has hPc hDc hZ hS hFc rfl rfl rfl hl.1 rfl (Nat.le_of_ble_eq_true rfl) d_Functions_hasLocal_2 rfl rfl (by decide) (by decide) (by decide) (by decide)) hP hD hS hA [0] [1, 2, 3, 4, 5, 6, 7] rfl rfl (by decide) (by decide) (fun r_15 u H locs hw hP hD hS => ?_)
  obtain ⟨hal_13, rfl⟩ := hw
  have hP : va_P D classes [(f0, .inl (cI, 60, .inl vf0)), (f1, .inl (cI, 60, .inl vf1)), (f2, .inl (cI, 60, .inl vf2)), (f3, .inl (cI, 60, .inl vf3)), (f4, .inl (cI, 60, .inl vf4)), (f5, .inl (cI, 60, .inl vf5)), (f6, .inl (cI, 60, .inl vf6)), (h0, .inr (4, [.int (nI cn), .int (nI im), .int bd, .ref f0, .ref f1, .ref f2, .ref f3, .ref f4, .ref f5, .ref f6]))] H := hP
  have hD : va_D (va_A [(h0, .inr (4, [.int (nI cn), .int (nI im), .int bd, .ref f0, .ref f1, .ref f2, .ref f3, .ref f4, .ref f5, .ref f6])), (f0, .inl (cI, 60, .inl vf0)), (f1, .inl (cI, 60, .inl vf1)), (f2, .inl (cI, 60, .inl vf2)), (f3, .inl (cI, 60, .inl vf3)), (f4, .inl (cI, 60, .inl vf4)), (f5, .inl (cI, 60, .inl vf5)), (f6, .inl (cI, 60, .inl vf6))] s.heap.size) [(f0, .inl (cI, 60, .inl vf0)), (f1, .inl (cI, 60, .inl vf1)), (f2, .inl (cI, 60, .inl vf2)), (f3, .inl (cI, 60, .inl vf3)), (f4, .inl (cI, 60, .inl vf4)), (f5, .inl (cI, 60, .inl vf5)), (f6, .inl (cI, 60, .inl vf6)), (h0, .inr (4, [.int (nI cn), .int (nI im), .int bd, .ref f0, .ref f1, .ref f2, .ref f3, .ref f4, .ref f5, .ref f6]))] := hD
  rcases hal_13 with ha_16 | ⟨x_17, ha_18, hb_19, hb_20, hb_21⟩
  ·
    subst ha_16
    refine lv_if_eq (tgt := 33) E.1 E.2.1 d_Functions_hasLocal_5 (by decide) (fun _ => ?_) (fun hc => absurd (by decide) hc)
    refine lv_iconst (v := 0) E.1 E.2.1 d_Functions_hasLocal_33 (by decide) ?_
    refine W.widen (k := 0) (n := 0) (by decide) (by decide) ?_
    exact x_zret (ws := [(h0, .inr (4, [.int (nI cn), .int (nI im), .int bd, .ref f0, .ref f1, .ref f2, .ref f3, .ref f4, .ref f5, .ref f6])), (f0, .inl (cI, 60, .inl vf0)), (f1, .inl (cI, 60, .inl vf1)), (f2, .inl (cI, 60, .inl vf2)), (f3, .inl (cI, 60, .inl vf3)), (f4, .inl (cI, 60, .inl vf4)), (f5, .inl (cI, 60, .inl vf5)), (f6, .inl (cI, 60, .inl vf6))]) E hr (by decide) hlocks (hP.sub [7, 0, 1, 2, 3, 4, 5, 6] rfl) (hD.sub [7, 0, 1, 2, 3, 4, 5, 6] (by decide) rfl) hS ⟨(Or.inl rfl), rfl⟩ d_Functions_hasLocal_34
  ·
    subst ha_18
    subst hb_19
    refine lv_if_eq (tgt := 33) E.1 E.2.1 d_Functions_hasLocal_5 (by decide) (fun hc => absurd hc (by decide)) (fun _ => ?_)
    refine lv_iload_n E.1 E.2.1 d_Functions_hasLocal_8 rfl (lv_at hl 2 rfl) ?_
    refine lv_if_lt (tgt := 33) E.1 E.2.1 d_Functions_hasLocal_9 (by decide) (fun hc_22 => ?_) (fun hc_22 => ?_)
    ·
      refine lv_iconst (v := 0) E.1 E.2.1 d_Functions_hasLocal_33 (by decide) ?_
      refine W.widen (k := 0) (n := 0) (by decide) (by decide) ?_
      exact x_zret (ws := [(h0, .inr (4, [.int (nI cn), .int (nI im), .int bd, .ref f0, .ref f1, .ref f2, .ref f3, .ref f4, .ref f5, .ref f6])), (f0, .inl (cI, 60, .inl vf0)), (f1, .inl (cI, 60, .inl vf1)), (f2, .inl (cI, 60, .inl vf2)), (f3, .inl (cI, 60, .inl vf3)), (f4, .inl (cI, 60, .inl vf4)), (f5, .inl (cI, 60, .inl vf5)), (f6, .inl (cI, 60, .inl vf6))]) E hr (by decide) hlocks (hP.sub [7, 0, 1, 2, 3, 4, 5, 6] rfl) (hD.sub [7, 0, 1, 2, 3, 4, 5, 6] (by decide) rfl) hS ⟨(Or.inl rfl), rfl⟩ d_Functions_hasLocal_34
    ·
      refine lv_iload_n E.1 E.2.1 d_Functions_hasLocal_12 rfl (lv_at hl 2 rfl) ?_
      refine lv_aload_n E.1 E.2.1 d_Functions_hasLocal_13 rfl (lv_at hl 0 rfl) ?_
      refine x_get E hP (C := "WasmReader$Functions") (T := T_Functions) (N := 10) (ci := 4) 7 (v := .ref f1) 4 in_Functions rfl rfl (by decide) m_11 rfl d_Functions_hasLocal_14 ?_
      refine lv_iload_n E.1 E.2.1 d_Functions_hasLocal_17 rfl (lv_at hl 1 rfl) ?_
      refine va_iald E.1 E.2.1 E.2.2.2.2.2 hP 1 1 rfl rfl (i := nI x_17) (vp_in_nI (n := x_17) (by omega) (by decide)) d_Functions_hasLocal_18 ?_
      refine lv_topi (fun v_23 ev_23 => ?_)
      refine lv_aload_n E.1 E.2.1 d_Functions_hasLocal_19 rfl (lv_at hl 0 rfl) ?_
      refine x_get E hP (C := "WasmReader$Functions") (T := T_Functions) (N := 10) (ci := 4) 7 (v := .ref f3) 6 in_Functions rfl rfl (by decide) m_13 rfl d_Functions_hasLocal_20 ?_
      refine lv_iload_n E.1 E.2.1 d_Functions_hasLocal_23 rfl (lv_at hl 1 rfl) ?_
      refine va_iald E.1 E.2.1 E.2.2.2.2.2 hP 3 1 rfl rfl (i := nI x_17) (vp_in_nI (n := x_17) (by omega) (by decide)) d_Functions_hasLocal_24 ?_
      refine lv_topi (fun v_24 ev_24 => ?_)
      refine lv_iadd E.1 E.2.1 d_Functions_hasLocal_25 ?_
      refine lv_topi (fun v_25 ev_25 => ?_)
      refine lv_icmp_ge (tgt := 33) E.1 E.2.1 d_Functions_hasLocal_26 (by decide) (fun hc_26 => ?_) (fun hc_26 => ?_)
      ·
        refine lv_iconst (v := 0) E.1 E.2.1 d_Functions_hasLocal_33 (by decide) ?_
        refine W.widen (k := 0) (n := 0) (by decide) (by decide) ?_
        exact x_zret (ws := [(h0, .inr (4, [.int (nI cn), .int (nI im), .int bd, .ref f0, .ref f1, .ref f2, .ref f3, .ref f4, .ref f5, .ref f6])), (f0, .inl (cI, 60, .inl vf0)), (f1, .inl (cI, 60, .inl vf1)), (f2, .inl (cI, 60, .inl vf2)), (f3, .inl (cI, 60, .inl vf3)), (f4, .inl (cI, 60, .inl vf4)), (f5, .inl (cI, 60, .inl vf5)), (f6, .inl (cI, 60, .inl vf6))]) E hr (by decide) hlocks (hP.sub [7, 0, 1, 2, 3, 4, 5, 6] rfl) (hD.sub [7, 0, 1, 2, 3, 4, 5, 6] (by decide) rfl) hS ⟨(Or.inl rfl), rfl⟩ d_Functions_hasLocal_34
      ·
        refine lv_iconst (v := 1) E.1 E.2.1 d_Functions_hasLocal_29 (by decide) ?_
        refine lv_goto (tgt := 34) E.1 E.2.1 d_Functions_hasLocal_30 (by decide) ?_
        refine W.widen (k := 0) (n := 0) (by decide) (by decide) ?_
        exact x_zret (ws := [(h0, .inr (4, [.int (nI cn), .int (nI im), .int bd, .ref f0, .ref f1, .ref f2, .ref f3, .ref f4, .ref f5, .ref f6])), (f0, .inl (cI, 60, .inl vf0)), (f1, .inl (cI, 60, .inl vf1)), (f2, .inl (cI, 60, .inl vf2)), (f3, .inl (cI, 60, .inl vf3)), (f4, .inl (cI, 60, .inl vf4)), (f5, .inl (cI, 60, .inl vf5)), (f6, .inl (cI, 60, .inl vf6))]) E hr (by decide) hlocks (hP.sub [7, 0, 1, 2, 3, 4, 5, 6] rfl) (hD.sub [7, 0, 1, 2, 3, 4, 5, 6] (by decide) rfl) hS ⟨(Or.inr (⟨x_17, rfl, rfl, (by omega), (by omega)⟩)), rfl⟩ d_Functions_hasLocal_34
set_option maxHeartbeats 4000000 in
set_option maxRecDepth 100000 in
theorem c_Functions_typeOfLocalr (l : Launch) (D : va_G) (cB cI cJ cZ : ClassId) (sz : Nat) (h0 : Nat) (cn : Nat) (im : Nat) (bd : Int32) (f0 : Nat) (f1 : Nat) (f2 : Nat) (f3 : Nat) (f4 : Nat) (f5 : Nat) (f6 : Nat) (vf0 : Nat → Int32) (vf1 : Nat → Int32) (vf2 : Nat → Int32) (vf3 : Nat → Int32) (vf4 : Nat → Int32) (vf5 : Nat → Int32) (vf6 : Nat → Int32) (t : Int32) (kk : Int32) (hc : cn ≤ 20000000) : Met l y_Functions_typeOfLocal (Cond.code y_Functions_typeOfLocal prog_4_method_7_code 3 (some .int) :: xtb) ({ frames := 2, cells := 0, slots := 0, locals := 43 }) (xP D [(cB, .byte), (cI, .int), (cJ, .long), (cZ, .boolean)] [.ref h0, .int t, .int kk] [(h0, .inr (4, [.int (nI cn), .int (nI im), .int bd, .ref f0, .ref f1, .ref f2, .ref f3, .ref f4, .ref f5, .ref f6])), (f0, .inl (cI, 60, .inl vf0)), (f1, .inl (cI, 60, .inl vf1)), (f2, .inl (cI, 60, .inl vf2)), (f3, .inl (cI, 60, .inl vf3)), (f4, .inl (cI, 60, .inl vf4)), (f5, .inl (cI, 60, .inl vf5)), (f6, .inl (cI, 60, .inl vf6))] sz) (xQi D [(cB, .byte), (cI, .int), (cJ, .long), (cZ, .boolean)] [(h0, .inr (4, [.int (nI cn), .int (nI im), .int bd, .ref f0, .ref f1, .ref f2, .ref f3, .ref f4, .ref f5, .ref f6])), (f0, .inl (cI, 60, .inl vf0)), (f1, .inl (cI, 60, .inl vf1)), (f2, .inl (cI, 60, .inl vf2)), (f3, .inl (cI, 60, .inl vf3)), (f4, .inl (cI, 60, .inl vf4)), (f5, .inl (cI, 60, .inl vf5)), (f6, .inl (cI, 60, .inl vf6))] sz (fun r u => u = [(h0, .inr (4, [.int (nI cn), .int (nI im), .int bd, .ref f0, .ref f1, .ref f2, .ref f3, .ref f4, .ref f5, .ref f6])), (f0, .inl (cI, 60, .inl vf0)), (f1, .inl (cI, 60, .inl vf1)), (f2, .inl (cI, 60, .inl vf2)), (f3, .inl (cI, 60, .inl vf3)), (f4, .inl (cI, 60, .inl vf4)), (f5, .inl (cI, 60, .inl vf5)), (f6, .inl (cI, 60, .inl vf6))])) 0 0 (va_A [(h0, .inr (4, [.int (nI cn), .int (nI im), .int bd, .ref f0, .ref f1, .ref f2, .ref f3, .ref f4, .ref f5, .ref f6])), (f0, .inl (cI, 60, .inl vf0)), (f1, .inl (cI, 60, .inl vf1)), (f2, .inl (cI, 60, .inl vf2)), (f3, .inl (cI, 60, .inl vf3)), (f4, .inl (cI, 60, .inl vf4)), (f5, .inl (cI, 60, .inl vf5)), (f6, .inl (cI, 60, .inl vf6))] sz) := by
  refine x_met (Qc := fun s => xQi D [(cB, .byte), (cI, .int), (cJ, .long), (cZ, .boolean)] [(h0, .inr (4, [.int (nI cn), .int (nI im), .int bd, .ref f0, .ref f1, .ref f2, .ref f3, .ref f4, .ref f5, .ref f6])), (f0, .inl (cI, 60, .inl vf0)), (f1, .inl (cI, 60, .inl vf1)), (f2, .inl (cI, 60, .inl vf2)), (f3, .inl (cI, 60, .inl vf3)), (f4, .inl (cI, 60, .inl vf4)), (f5, .inl (cI, 60, .inl vf5)), (f6, .inl (cI, 60, .inl vf6))] s.heap.size (fun r u => u = [(h0, .inr (4, [.int (nI cn), .int (nI im), .int bd, .ref f0, .ref f1, .ref f2, .ref f3, .ref f4, .ref f5, .ref f6])), (f0, .inl (cI, 60, .inl vf0)), (f1, .inl (cI, 60, .inl vf1)), (f2, .inl (cI, 60, .inl vf2)), (f3, .inl (cI, 60, .inl vf3)), (f4, .inl (cI, 60, .inl vf4)), (f5, .inl (cI, 60, .inl vf5)), (f6, .inl (cI, 60, .inl vf6))])) (fr := fun s => va_A [(h0, .inr (4, [.int (nI cn), .int (nI im), .int bd, .ref f0, .ref f1, .ref f2, .ref f3, .ref f4, .ref f5, .ref f6])), (f0, .inl (cI, 60, .inl vf0)), (f1, .inl (cI, 60, .inl vf1)), (f2, .inl (cI, 60, .inl vf2)), (f3, .inl (cI, 60, .inl vf3)), (f4, .inl (cI, 60, .inl vf4)), (f5, .inl (cI, 60, .inl vf5)), (f6, .inl (cI, 60, .inl vf6))] s.heap.size) "WasmReader$Functions" (by decide +kernel) rfl (Nat.le_of_ble_eq_true rfl) (fun s h => by rw [h]) (fun s h => by rw [h]) ?_
  intro p e s m below meth c ls E hr hlocks hinit hl hP hD hA hS hZ hadm
  have hl : lv_has ls 3 [(0, .ref h0), (1, .int t), (2, .int kk)] := hl
  refine lv_aload_n E.1 E.2.1 d_Functions_typeOfLocal_0 rfl (lv_at hl 0 rfl) ?_
  refine lv_iload_n E.1 E.2.1 d_Functions_typeOfLocal_1 rfl (lv_at hl 1 rfl) ?_
  refine lv_iload_n E.1 E.2.1 d_Functions_typeOfLocal_2 rfl (lv_at hl 2 rfl) ?_
  have hPc := hP.sub (ws' := [(h0, .inr (4, [.int (nI cn), .int (nI im), .int bd, .ref f0, .ref f1, .ref f2, .ref f3, .ref f4, .ref f5, .ref f6])), (f0, .inl (cI, 60, .inl vf0)), (f1, .inl (cI, 60, .inl vf1)), (f2, .inl (cI, 60, .inl vf2)), (f3, .inl (cI, 60, .inl vf3)), (f4, .inl (cI, 60, .inl vf4)), (f5, .inl (cI, 60, .inl vf5)), (f6, .inl (cI, 60, .inl vf6))]) [0, 1, 2, 3, 4, 5, 6, 7] rfl
  have hDc := hD.sub (ws' := [(h0, .inr (4, [.int (nI cn), .int (nI im), .int bd, .ref f0, .ref f1, .ref f2, .ref f3, .ref f4, .ref f5, .ref f6])), (f0, .inl (cI, 60, .inl vf0)), (f1, .inl (cI, 60, .inl vf1)), (f2, .inl (cI, 60, .inl vf2)), (f3, .inl (cI, 60, .inl vf3)), (f4, .inl (cI, 60, .inl vf4)), (f5, .inl (cI, 60, .inl vf5)), (f6, .inl (cI, 60, .inl vf6))]) [0, 1, 2, 3, 4, 5, 6, 7] (by decide) rfl
  have hFc := va_free (wc := [(h0, .inr (4, [.int (nI cn), .int (nI im), .int bd, .ref f0, .ref f1, .ref f2, .ref f3, .ref f4, .ref f5, .ref f6])), (f0, .inl (cI, 60, .inl vf0)), (f1, .inl (cI, 60, .inl vf1)), (f2, .inl (cI, 60, .inl vf2)), (f3, .inl (cI, 60, .inl vf3)), (f4, .inl (cI, 60, .inl vf4)), (f5, .inl (cI, 60, .inl vf5)), (f6, .inl (cI, 60, .inl vf6))]) hD hS hA [0, 1, 2, 3, 4, 5, 6, 7] rfl
  refine x_ri (ws := [(h0, .inr (4, [.int (nI cn), .int (nI im), .int bd, .ref f0, .ref f1, .ref f2, .ref f3, .ref f4, .ref f5, .ref f6])), (f0, .inl (cI, 60, .inl vf0)), (f1, .inl (cI, 60, .inl vf1)), (f2, .inl (cI, 60, .inl vf2)), (f3, .inl (cI, 60, .inl vf3)), (f4, .inl (cI, 60, .inl vf4)), (f5, .inl (cI, 60, .inl vf5)), (f6, .inl (cI, 60, .inl vf6))]) (wc := [(h0, .inr (4, [.int (nI cn), .int (nI im), .int bd, .ref f0, .ref f1, .ref f2, .ref f3, .ref f4, .ref f5, .ref f6])), (f0, .inl (cI, 60, .inl vf0)), (f1, .inl (cI, 60, .inl vf1)), (f2, .inl (cI, 60, .inl vf2)), (f3, .inl (cI, 60, .inl vf3)), (f4, .inl (cI, 60, .inl vf4)), (f5, .inl (cI, 60, .inl vf5)), (f6, .inl (cI, 60, .inl vf6))]) (wr := []) (x_V (As := [.int t, .int kk]) (C := "WasmReader$Functions") E (c_Functions_hasLocalr l D cB cI cJ cZ s.heap.size h0 cn im bd f0 f1 f2 f3 f4 f5 f6 vf0 vf1 vf2 vf3 vf4 vf5 vf6 t kk (by omega)) m_263 m_59 m_262 m_264 m_265 nm_Functions_hasLocal hPc hDc hZ hS hFc rfl rfl rfl hl.1 rfl (Nat.le_of_ble_eq_true rfl) d_Functions_typeOfLocal_3 rfl rfl (by decide) (by decide) (by decide) (by decide)) hP hD hS hA [0, 1, 2, 3, 4, 5, 6, 7] [] rfl rfl (by decide) (by decide) (fun r_14 u H locs hw hP hD hS => ?_)
  obtain ⟨hal_12, rfl⟩ := hw
  have hP : va_P D classes [(h0, .inr (4, [.int (nI cn), .int (nI im), .int bd, .ref f0, .ref f1, .ref f2, .ref f3, .ref f4, .ref f5, .ref f6])), (f0, .inl (cI, 60, .inl vf0)), (f1, .inl (cI, 60, .inl vf1)), (f2, .inl (cI, 60, .inl vf2)), (f3, .inl (cI, 60, .inl vf3)), (f4, .inl (cI, 60, .inl vf4)), (f5, .inl (cI, 60, .inl vf5)), (f6, .inl (cI, 60, .inl vf6))] H := hP
  have hD : va_D (va_A [(h0, .inr (4, [.int (nI cn), .int (nI im), .int bd, .ref f0, .ref f1, .ref f2, .ref f3, .ref f4, .ref f5, .ref f6])), (f0, .inl (cI, 60, .inl vf0)), (f1, .inl (cI, 60, .inl vf1)), (f2, .inl (cI, 60, .inl vf2)), (f3, .inl (cI, 60, .inl vf3)), (f4, .inl (cI, 60, .inl vf4)), (f5, .inl (cI, 60, .inl vf5)), (f6, .inl (cI, 60, .inl vf6))] s.heap.size) [(h0, .inr (4, [.int (nI cn), .int (nI im), .int bd, .ref f0, .ref f1, .ref f2, .ref f3, .ref f4, .ref f5, .ref f6])), (f0, .inl (cI, 60, .inl vf0)), (f1, .inl (cI, 60, .inl vf1)), (f2, .inl (cI, 60, .inl vf2)), (f3, .inl (cI, 60, .inl vf3)), (f4, .inl (cI, 60, .inl vf4)), (f5, .inl (cI, 60, .inl vf5)), (f6, .inl (cI, 60, .inl vf6))] := hD
  rcases hal_12 with ha_15 | ⟨x_16, ha_17, hb_18, hb_19, hb_20⟩
  ·
    subst ha_15
    refine lv_if_ne (tgt := 11) E.1 E.2.1 d_Functions_typeOfLocal_6 (by decide) (fun hc => absurd (by decide) hc) (fun _ => ?_)
    refine lv_iconst (v := 2) E.1 E.2.1 d_Functions_typeOfLocal_9 (by decide) ?_
    refine W.widen (k := 0) (n := 0) (by decide) (by decide) ?_
    exact x_iret (ws := [(h0, .inr (4, [.int (nI cn), .int (nI im), .int bd, .ref f0, .ref f1, .ref f2, .ref f3, .ref f4, .ref f5, .ref f6])), (f0, .inl (cI, 60, .inl vf0)), (f1, .inl (cI, 60, .inl vf1)), (f2, .inl (cI, 60, .inl vf2)), (f3, .inl (cI, 60, .inl vf3)), (f4, .inl (cI, 60, .inl vf4)), (f5, .inl (cI, 60, .inl vf5)), (f6, .inl (cI, 60, .inl vf6))]) E hr hlocks (hP.sub [0, 1, 2, 3, 4, 5, 6, 7] rfl) (hD.sub [0, 1, 2, 3, 4, 5, 6, 7] (by decide) rfl) hS rfl d_Functions_typeOfLocal_10
  ·
    subst ha_17
    subst hb_18
    refine lv_if_ne (tgt := 11) E.1 E.2.1 d_Functions_typeOfLocal_6 (by decide) (fun _ => ?_) (fun hc => absurd hc (by decide))
    refine lv_aload_n E.1 E.2.1 d_Functions_typeOfLocal_11 rfl (lv_at hl 0 rfl) ?_
    refine x_get E hP (C := "WasmReader$Functions") (T := T_Functions) (N := 10) (ci := 4) 0 (v := .ref f4) 7 in_Functions rfl rfl (by decide) m_14 rfl d_Functions_typeOfLocal_12 ?_
    refine lv_iload_n E.1 E.2.1 d_Functions_typeOfLocal_15 rfl (lv_at hl 1 rfl) ?_
    refine va_iald E.1 E.2.1 E.2.2.2.2.2 hP 5 1 rfl rfl (i := nI x_16) (vp_in_nI (n := x_16) (by omega) (by decide)) d_Functions_typeOfLocal_16 ?_
    refine lv_topi (fun v_21 ev_21 => ?_)
    refine lv_iload_n E.1 E.2.1 d_Functions_typeOfLocal_17 rfl (lv_at hl 2 rfl) ?_
    refine lv_ishr E.1 E.2.1 d_Functions_typeOfLocal_18 ?_
    refine lv_topi (fun v_22 ev_22 => ?_)
    refine lv_iconst (v := 1) E.1 E.2.1 d_Functions_typeOfLocal_19 (by decide) ?_
    refine lv_iand E.1 E.2.1 d_Functions_typeOfLocal_20 ?_
    refine lv_topi (fun v_23 ev_23 => ?_)
    refine lv_iconst (v := 1) E.1 E.2.1 d_Functions_typeOfLocal_21 (by decide) ?_
    refine lv_icmp_ne (tgt := 29) E.1 E.2.1 d_Functions_typeOfLocal_22 (by decide) (fun hc_24 => ?_) (fun hc_24 => ?_)
    ·
      refine lv_iconst (v := 0) E.1 E.2.1 d_Functions_typeOfLocal_29 (by decide) ?_
      refine W.widen (k := 0) (n := 0) (by decide) (by decide) ?_
      exact x_iret (ws := [(h0, .inr (4, [.int (nI cn), .int (nI im), .int bd, .ref f0, .ref f1, .ref f2, .ref f3, .ref f4, .ref f5, .ref f6])), (f0, .inl (cI, 60, .inl vf0)), (f1, .inl (cI, 60, .inl vf1)), (f2, .inl (cI, 60, .inl vf2)), (f3, .inl (cI, 60, .inl vf3)), (f4, .inl (cI, 60, .inl vf4)), (f5, .inl (cI, 60, .inl vf5)), (f6, .inl (cI, 60, .inl vf6))]) E hr hlocks (hP.sub [0, 1, 2, 3, 4, 5, 6, 7] rfl) (hD.sub [0, 1, 2, 3, 4, 5, 6, 7] (by decide) rfl) hS rfl d_Functions_typeOfLocal_30
    ·
      refine lv_iconst (v := 1) E.1 E.2.1 d_Functions_typeOfLocal_25 (by decide) ?_
      refine lv_goto (tgt := 30) E.1 E.2.1 d_Functions_typeOfLocal_26 (by decide) ?_
      refine W.widen (k := 0) (n := 0) (by decide) (by decide) ?_
      exact x_iret (ws := [(h0, .inr (4, [.int (nI cn), .int (nI im), .int bd, .ref f0, .ref f1, .ref f2, .ref f3, .ref f4, .ref f5, .ref f6])), (f0, .inl (cI, 60, .inl vf0)), (f1, .inl (cI, 60, .inl vf1)), (f2, .inl (cI, 60, .inl vf2)), (f3, .inl (cI, 60, .inl vf3)), (f4, .inl (cI, 60, .inl vf4)), (f5, .inl (cI, 60, .inl vf5)), (f6, .inl (cI, 60, .inl vf6))]) E hr hlocks (hP.sub [0, 1, 2, 3, 4, 5, 6, 7] rfl) (hD.sub [0, 1, 2, 3, 4, 5, 6, 7] (by decide) rfl) hS rfl d_Functions_typeOfLocal_30
set_option maxHeartbeats 4000000 in
set_option maxRecDepth 100000 in
theorem c_Globals_add (l : Launch) (D : va_G) (cB cI cJ cZ : ClassId) (sz : Nat) (h0 : Nat) (cn : Nat) (im : Nat) (g0 : Nat) (g1 : Nat) (g2 : Nat) (g3 : Nat) (vg0 : Nat → Int32) (vg1 : Nat → Int32) (vg2 : Nat → Int32) (vg3 : Nat → Int64) (y1 : Int32) (y2 : Int32) (hc : cn ≤ 20000000) : Met l y_Globals_add (Cond.code y_Globals_add prog_5_method_2_code 3 none :: xtb) ({ frames := 0, cells := 0, slots := 0, locals := 0 }) (xP D [(cB, .byte), (cI, .int), (cJ, .long), (cZ, .boolean)] [.ref h0, .int y1, .int y2] [(h0, .inr (5, [.int (nI cn), .int (nI im), .ref g0, .ref g1, .ref g2, .ref g3])), (g0, .inl (cI, 30, .inl vg0)), (g1, .inl (cZ, 30, .inl vg1)), (g2, .inl (cI, 30, .inl vg2)), (g3, .inl (cJ, 30, .inr (.inl vg3)))] sz) (xQv D [(cB, .byte), (cI, .int), (cJ, .long), (cZ, .boolean)] [(h0, .inr (5, [.int (nI cn), .int (nI im), .ref g0, .ref g1, .ref g2, .ref g3])), (g0, .inl (cI, 30, .inl vg0)), (g1, .inl (cZ, 30, .inl vg1)), (g2, .inl (cI, 30, .inl vg2)), (g3, .inl (cJ, 30, .inr (.inl vg3)))] sz (fun u => ∃ (ug0 : Nat → Int32), ∃ (ug1 : Nat → Int32), ∃ (ug2 : Nat → Int32), ∃ (ug3 : Nat → Int64), u = [(h0, .inr (5, [.int (nI (cn + 1)), .int (nI im), .ref g0, .ref g1, .ref g2, .ref g3])), (g0, .inl (cI, 30, .inl ug0)), (g1, .inl (cZ, 30, .inl ug1)), (g2, .inl (cI, 30, .inl ug2)), (g3, .inl (cJ, 30, .inr (.inl ug3)))])) 0 0 (va_A [(h0, .inr (5, [.int (nI cn), .int (nI im), .ref g0, .ref g1, .ref g2, .ref g3])), (g0, .inl (cI, 30, .inl vg0)), (g1, .inl (cZ, 30, .inl vg1)), (g2, .inl (cI, 30, .inl vg2)), (g3, .inl (cJ, 30, .inr (.inl vg3)))] sz) := by
  refine x_met (Qc := fun s => xQv D [(cB, .byte), (cI, .int), (cJ, .long), (cZ, .boolean)] [(h0, .inr (5, [.int (nI cn), .int (nI im), .ref g0, .ref g1, .ref g2, .ref g3])), (g0, .inl (cI, 30, .inl vg0)), (g1, .inl (cZ, 30, .inl vg1)), (g2, .inl (cI, 30, .inl vg2)), (g3, .inl (cJ, 30, .inr (.inl vg3)))] s.heap.size (fun u => ∃ (ug0 : Nat → Int32), ∃ (ug1 : Nat → Int32), ∃ (ug2 : Nat → Int32), ∃ (ug3 : Nat → Int64), u = [(h0, .inr (5, [.int (nI (cn + 1)), .int (nI im), .ref g0, .ref g1, .ref g2, .ref g3])), (g0, .inl (cI, 30, .inl ug0)), (g1, .inl (cZ, 30, .inl ug1)), (g2, .inl (cI, 30, .inl ug2)), (g3, .inl (cJ, 30, .inr (.inl ug3)))])) (fr := fun s => va_A [(h0, .inr (5, [.int (nI cn), .int (nI im), .ref g0, .ref g1, .ref g2, .ref g3])), (g0, .inl (cI, 30, .inl vg0)), (g1, .inl (cZ, 30, .inl vg1)), (g2, .inl (cI, 30, .inl vg2)), (g3, .inl (cJ, 30, .inr (.inl vg3)))] s.heap.size) "WasmReader$Globals" (by decide +kernel) rfl (Nat.le_of_ble_eq_true rfl) (fun s h => by rw [h]) (fun s h => by rw [h]) ?_
  intro p e s m below meth c ls E hr hlocks hinit hl hP hD hA hS hZ hadm
  have hl : lv_has ls 3 [(0, .ref h0), (1, .int y1), (2, .int y2)] := hl
  refine lv_aload_n E.1 E.2.1 d_Globals_add_0 rfl (lv_at hl 0 rfl) ?_
  refine x_get E hP (C := "WasmReader$Globals") (T := T_Globals) (N := 6) (ci := 5) 0 (v := .int (nI cn)) 0 in_Globals rfl rfl (by decide) m_266 rfl d_Globals_add_1 ?_
  refine lv_bipush (v := 30) E.1 E.2.1 d_Globals_add_4 (by decide) ?_
  refine lv_icmp_ge (tgt := 49) E.1 E.2.1 d_Globals_add_6 (by decide) (fun hc_1 => ?_) (fun hc_1 => ?_)
  ·
    have hc_1 : 30 ≤ cn := (nI_leI (a := 30) (b := cn) (by omega) (by omega)).mp hc_1
    refine lv_aload_n E.1 E.2.1 d_Globals_add_49 rfl (lv_at hl 0 rfl) ?_
    refine lv_dup E.1 E.2.1 d_Globals_add_50 rfl ?_
    refine x_get E hP (C := "WasmReader$Globals") (T := T_Globals) (N := 6) (ci := 5) 0 (v := .int (nI cn)) 0 in_Globals rfl rfl (by decide) m_266 rfl d_Globals_add_51 ?_
    refine lv_iconst (v := 1) E.1 E.2.1 d_Globals_add_54 (by decide) ?_
    refine lv_iadd E.1 E.2.1 d_Globals_add_55 ?_
    refine lv_topi (fun vt_2 evt_2 => ?_)
    obtain rfl : vt_2 = nI (cn + 1) := evt_2.trans (nI_add cn 1)
    refine x_put E hP hD hS (C := "WasmReader$Globals") (T := T_Globals) (N := 6) (ci := 5) 0 (v := .int (nI (cn + 1))) 0 (t0 := t_Globals) (tk := .int) in_Globals tok_Globals nok_Globals rfl rfl (by decide) m_266 rfl rfl rfl rfl (Nat.le_of_ble_eq_true rfl) d_Globals_add_56 (fun H locs hP hD hS => ?_)
    have hP : va_P D classes [(h0, .inr (5, [.int (nI (cn + 1)), .int (nI im), .ref g0, .ref g1, .ref g2, .ref g3])), (g0, .inl (cI, 30, .inl vg0)), (g1, .inl (cZ, 30, .inl vg1)), (g2, .inl (cI, 30, .inl vg2)), (g3, .inl (cJ, 30, .inr (.inl vg3)))] H := hP
    have hD : va_D (va_A [(h0, .inr (5, [.int (nI cn), .int (nI im), .ref g0, .ref g1, .ref g2, .ref g3])), (g0, .inl (cI, 30, .inl vg0)), (g1, .inl (cZ, 30, .inl vg1)), (g2, .inl (cI, 30, .inl vg2)), (g3, .inl (cJ, 30, .inr (.inl vg3)))] s.heap.size) [(h0, .inr (5, [.int (nI (cn + 1)), .int (nI im), .ref g0, .ref g1, .ref g2, .ref g3])), (g0, .inl (cI, 30, .inl vg0)), (g1, .inl (cZ, 30, .inl vg1)), (g2, .inl (cI, 30, .inl vg2)), (g3, .inl (cJ, 30, .inr (.inl vg3)))] := hD
    refine W.widen (k := 0) (n := 0) (by decide) (by decide) ?_
    exact x_vret (ws := [(h0, .inr (5, [.int (nI (cn + 1)), .int (nI im), .ref g0, .ref g1, .ref g2, .ref g3])), (g0, .inl (cI, 30, .inl vg0)), (g1, .inl (cZ, 30, .inl vg1)), (g2, .inl (cI, 30, .inl vg2)), (g3, .inl (cJ, 30, .inr (.inl vg3)))]) E hr hlocks (hP.sub [0, 1, 2, 3, 4] rfl) (hD.sub [0, 1, 2, 3, 4] (by decide) rfl) hS ⟨vg0, vg1, vg2, vg3, rfl⟩ d_Globals_add_59
  ·
    have hc_1 : ¬ (30 ≤ cn) := fun hq_ => hc_1 ((nI_leI (a := 30) (b := cn) (by omega) (by omega)).mpr hq_)
    refine lv_aload_n E.1 E.2.1 d_Globals_add_9 rfl (lv_at hl 0 rfl) ?_
    refine x_get E hP (C := "WasmReader$Globals") (T := T_Globals) (N := 6) (ci := 5) 0 (v := .ref g0) 2 in_Globals rfl rfl (by decide) m_18 rfl d_Globals_add_10 ?_
    refine lv_aload_n E.1 E.2.1 d_Globals_add_13 rfl (lv_at hl 0 rfl) ?_
    refine x_get E hP (C := "WasmReader$Globals") (T := T_Globals) (N := 6) (ci := 5) 0 (v := .int (nI cn)) 0 in_Globals rfl rfl (by decide) m_266 rfl d_Globals_add_14 ?_
    refine lv_iload_n E.1 E.2.1 d_Globals_add_17 rfl (lv_at hl 1 rfl) ?_
    refine va_iast E.1 E.2.1 E.2.2.2.2.2 hP hD hS 1 1 rfl rfl (i := nI cn) (x := y1) (vp_in_nI (n := cn) (by omega) (by decide)) d_Globals_add_18 (fun H locs hP hD hS => ?_)
    generalize upd vg0 (Int32.toNatClampNeg (nI cn)) y1 = g_3 at hP hD
    have hP : va_P D classes [(h0, .inr (5, [.int (nI cn), .int (nI im), .ref g0, .ref g1, .ref g2, .ref g3])), (g0, .inl (cI, 30, .inl g_3)), (g1, .inl (cZ, 30, .inl vg1)), (g2, .inl (cI, 30, .inl vg2)), (g3, .inl (cJ, 30, .inr (.inl vg3)))] H := hP
    have hD : va_D (va_A [(h0, .inr (5, [.int (nI cn), .int (nI im), .ref g0, .ref g1, .ref g2, .ref g3])), (g0, .inl (cI, 30, .inl vg0)), (g1, .inl (cZ, 30, .inl vg1)), (g2, .inl (cI, 30, .inl vg2)), (g3, .inl (cJ, 30, .inr (.inl vg3)))] s.heap.size) [(h0, .inr (5, [.int (nI cn), .int (nI im), .ref g0, .ref g1, .ref g2, .ref g3])), (g0, .inl (cI, 30, .inl g_3)), (g1, .inl (cZ, 30, .inl vg1)), (g2, .inl (cI, 30, .inl vg2)), (g3, .inl (cJ, 30, .inr (.inl vg3)))] := hD
    refine lv_aload_n E.1 E.2.1 d_Globals_add_19 rfl (lv_at hl 0 rfl) ?_
    refine x_get E hP (C := "WasmReader$Globals") (T := T_Globals) (N := 6) (ci := 5) 0 (v := .ref g1) 3 in_Globals rfl rfl (by decide) m_19 rfl d_Globals_add_20 ?_
    refine lv_aload_n E.1 E.2.1 d_Globals_add_23 rfl (lv_at hl 0 rfl) ?_
    refine x_get E hP (C := "WasmReader$Globals") (T := T_Globals) (N := 6) (ci := 5) 0 (v := .int (nI cn)) 0 in_Globals rfl rfl (by decide) m_266 rfl d_Globals_add_24 ?_
    refine lv_iload_n E.1 E.2.1 d_Globals_add_27 rfl (lv_at hl 2 rfl) ?_
    refine va_zast E.1 E.2.1 E.2.2.2.2.2 hP hD hS 2 3 rfl rfl (i := nI cn) (x := y2) (vp_in_nI (n := cn) (by omega) (by decide)) d_Globals_add_28 (fun H locs hP hD hS => ?_)
    generalize upd vg1 (Int32.toNatClampNeg (nI cn)) (vp_nar .boolean y2) = g_4 at hP hD
    have hP : va_P D classes [(h0, .inr (5, [.int (nI cn), .int (nI im), .ref g0, .ref g1, .ref g2, .ref g3])), (g0, .inl (cI, 30, .inl g_3)), (g1, .inl (cZ, 30, .inl g_4)), (g2, .inl (cI, 30, .inl vg2)), (g3, .inl (cJ, 30, .inr (.inl vg3)))] H := hP
    have hD : va_D (va_A [(h0, .inr (5, [.int (nI cn), .int (nI im), .ref g0, .ref g1, .ref g2, .ref g3])), (g0, .inl (cI, 30, .inl vg0)), (g1, .inl (cZ, 30, .inl vg1)), (g2, .inl (cI, 30, .inl vg2)), (g3, .inl (cJ, 30, .inr (.inl vg3)))] s.heap.size) [(h0, .inr (5, [.int (nI cn), .int (nI im), .ref g0, .ref g1, .ref g2, .ref g3])), (g0, .inl (cI, 30, .inl g_3)), (g1, .inl (cZ, 30, .inl g_4)), (g2, .inl (cI, 30, .inl vg2)), (g3, .inl (cJ, 30, .inr (.inl vg3)))] := hD
    refine lv_aload_n E.1 E.2.1 d_Globals_add_29 rfl (lv_at hl 0 rfl) ?_
    refine x_get E hP (C := "WasmReader$Globals") (T := T_Globals) (N := 6) (ci := 5) 0 (v := .ref g2) 4 in_Globals rfl rfl (by decide) m_20 rfl d_Globals_add_30 ?_
    refine lv_aload_n E.1 E.2.1 d_Globals_add_33 rfl (lv_at hl 0 rfl) ?_
    refine x_get E hP (C := "WasmReader$Globals") (T := T_Globals) (N := 6) (ci := 5) 0 (v := .int (nI cn)) 0 in_Globals rfl rfl (by decide) m_266 rfl d_Globals_add_34 ?_
    refine lv_iconst (v := 1) E.1 E.2.1 d_Globals_add_37 (by decide) ?_
    refine va_iast E.1 E.2.1 E.2.2.2.2.2 hP hD hS 3 1 rfl rfl (i := nI cn) (x := 1) (vp_in_nI (n := cn) (by omega) (by decide)) d_Globals_add_38 (fun H locs hP hD hS => ?_)
    generalize upd vg2 (Int32.toNatClampNeg (nI cn)) 1 = g_5 at hP hD
    have hP : va_P D classes [(h0, .inr (5, [.int (nI cn), .int (nI im), .ref g0, .ref g1, .ref g2, .ref g3])), (g0, .inl (cI, 30, .inl g_3)), (g1, .inl (cZ, 30, .inl g_4)), (g2, .inl (cI, 30, .inl g_5)), (g3, .inl (cJ, 30, .inr (.inl vg3)))] H := hP
    have hD : va_D (va_A [(h0, .inr (5, [.int (nI cn), .int (nI im), .ref g0, .ref g1, .ref g2, .ref g3])), (g0, .inl (cI, 30, .inl vg0)), (g1, .inl (cZ, 30, .inl vg1)), (g2, .inl (cI, 30, .inl vg2)), (g3, .inl (cJ, 30, .inr (.inl vg3)))] s.heap.size) [(h0, .inr (5, [.int (nI cn), .int (nI im), .ref g0, .ref g1, .ref g2, .ref g3])), (g0, .inl (cI, 30, .inl g_3)), (g1, .inl (cZ, 30, .inl g_4)), (g2, .inl (cI, 30, .inl g_5)), (g3, .inl (cJ, 30, .inr (.inl vg3)))] := hD
    refine lv_aload_n E.1 E.2.1 d_Globals_add_39 rfl (lv_at hl 0 rfl) ?_
    refine x_get E hP (C := "WasmReader$Globals") (T := T_Globals) (N := 6) (ci := 5) 0 (v := .ref g3) 5 in_Globals rfl rfl (by decide) m_21 rfl d_Globals_add_40 ?_
    refine lv_aload_n E.1 E.2.1 d_Globals_add_43 rfl (lv_at hl 0 rfl) ?_
    refine x_get E hP (C := "WasmReader$Globals") (T := T_Globals) (N := 6) (ci := 5) 0 (v := .int (nI cn)) 0 in_Globals rfl rfl (by decide) m_266 rfl d_Globals_add_44 ?_
    refine lv_lconst (v := 0) E.1 E.2.1 d_Globals_add_47 (by decide) ?_
    refine va_last E.1 E.2.1 E.2.2.2.2.2 hP hD hS 4 2 rfl rfl (i := nI cn) (x := 0) (vp_in_nI (n := cn) (by omega) (by decide)) d_Globals_add_48 (fun H locs hP hD hS => ?_)
    generalize vp_updL vg3 (Int32.toNatClampNeg (nI cn)) 0 = g_6 at hP hD
    have hP : va_P D classes [(h0, .inr (5, [.int (nI cn), .int (nI im), .ref g0, .ref g1, .ref g2, .ref g3])), (g0, .inl (cI, 30, .inl g_3)), (g1, .inl (cZ, 30, .inl g_4)), (g2, .inl (cI, 30, .inl g_5)), (g3, .inl (cJ, 30, .inr (.inl g_6)))] H := hP
    have hD : va_D (va_A [(h0, .inr (5, [.int (nI cn), .int (nI im), .ref g0, .ref g1, .ref g2, .ref g3])), (g0, .inl (cI, 30, .inl vg0)), (g1, .inl (cZ, 30, .inl vg1)), (g2, .inl (cI, 30, .inl vg2)), (g3, .inl (cJ, 30, .inr (.inl vg3)))] s.heap.size) [(h0, .inr (5, [.int (nI cn), .int (nI im), .ref g0, .ref g1, .ref g2, .ref g3])), (g0, .inl (cI, 30, .inl g_3)), (g1, .inl (cZ, 30, .inl g_4)), (g2, .inl (cI, 30, .inl g_5)), (g3, .inl (cJ, 30, .inr (.inl g_6)))] := hD
    refine lv_aload_n E.1 E.2.1 d_Globals_add_49 rfl (lv_at hl 0 rfl) ?_
    refine lv_dup E.1 E.2.1 d_Globals_add_50 rfl ?_
    refine x_get E hP (C := "WasmReader$Globals") (T := T_Globals) (N := 6) (ci := 5) 0 (v := .int (nI cn)) 0 in_Globals rfl rfl (by decide) m_266 rfl d_Globals_add_51 ?_
    refine lv_iconst (v := 1) E.1 E.2.1 d_Globals_add_54 (by decide) ?_
    refine lv_iadd E.1 E.2.1 d_Globals_add_55 ?_
    refine lv_topi (fun vt_7 evt_7 => ?_)
    obtain rfl : vt_7 = nI (cn + 1) := evt_7.trans (nI_add cn 1)
    refine x_put E hP hD hS (C := "WasmReader$Globals") (T := T_Globals) (N := 6) (ci := 5) 0 (v := .int (nI (cn + 1))) 0 (t0 := t_Globals) (tk := .int) in_Globals tok_Globals nok_Globals rfl rfl (by decide) m_266 rfl rfl rfl rfl (Nat.le_of_ble_eq_true rfl) d_Globals_add_56 (fun H locs hP hD hS => ?_)
    have hP : va_P D classes [(h0, .inr (5, [.int (nI (cn + 1)), .int (nI im), .ref g0, .ref g1, .ref g2, .ref g3])), (g0, .inl (cI, 30, .inl g_3)), (g1, .inl (cZ, 30, .inl g_4)), (g2, .inl (cI, 30, .inl g_5)), (g3, .inl (cJ, 30, .inr (.inl g_6)))] H := hP
    have hD : va_D (va_A [(h0, .inr (5, [.int (nI cn), .int (nI im), .ref g0, .ref g1, .ref g2, .ref g3])), (g0, .inl (cI, 30, .inl vg0)), (g1, .inl (cZ, 30, .inl vg1)), (g2, .inl (cI, 30, .inl vg2)), (g3, .inl (cJ, 30, .inr (.inl vg3)))] s.heap.size) [(h0, .inr (5, [.int (nI (cn + 1)), .int (nI im), .ref g0, .ref g1, .ref g2, .ref g3])), (g0, .inl (cI, 30, .inl g_3)), (g1, .inl (cZ, 30, .inl g_4)), (g2, .inl (cI, 30, .inl g_5)), (g3, .inl (cJ, 30, .inr (.inl g_6)))] := hD
    refine W.widen (k := 0) (n := 0) (by decide) (by decide) ?_
    exact x_vret (ws := [(h0, .inr (5, [.int (nI (cn + 1)), .int (nI im), .ref g0, .ref g1, .ref g2, .ref g3])), (g0, .inl (cI, 30, .inl g_3)), (g1, .inl (cZ, 30, .inl g_4)), (g2, .inl (cI, 30, .inl g_5)), (g3, .inl (cJ, 30, .inr (.inl g_6)))]) E hr hlocks (hP.sub [0, 1, 2, 3, 4] rfl) (hD.sub [0, 1, 2, 3, 4] (by decide) rfl) hS ⟨g_3, g_4, g_5, g_6, rfl⟩ d_Globals_add_59
set_option maxHeartbeats 4000000 in
set_option maxRecDepth 100000 in
theorem c_Globals_has (l : Launch) (D : va_G) (cB cI cJ cZ : ClassId) (sz : Nat) (h0 : Nat) (cn : Nat) (im : Nat) (g0 : Nat) (g1 : Nat) (g2 : Nat) (g3 : Nat) (x : Nat) (hc : cn ≤ 20000000) (hx : x < 2 ^ 31) : Met l y_Globals_has (Cond.code y_Globals_has prog_5_method_4_code 2 (some .boolean) :: xtb) ({ frames := 0, cells := 0, slots := 0, locals := 0 }) (xP D [(cB, .byte), (cI, .int), (cJ, .long), (cZ, .boolean)] [.ref h0, .int (nI x)] [(h0, .inr (5, [.int (nI cn), .int (nI im), .ref g0, .ref g1, .ref g2, .ref g3]))] sz) (xQi D [(cB, .byte), (cI, .int), (cJ, .long), (cZ, .boolean)] [(h0, .inr (5, [.int (nI cn), .int (nI im), .ref g0, .ref g1, .ref g2, .ref g3]))] sz (fun r u => ((r = 0) ∨ (r = 1 ∧ (x < cn) ∧ (x < 30))) ∧ u = [(h0, .inr (5, [.int (nI cn), .int (nI im), .ref g0, .ref g1, .ref g2, .ref g3]))])) 0 0 (va_A [(h0, .inr (5, [.int (nI cn), .int (nI im), .ref g0, .ref g1, .ref g2, .ref g3]))] sz) := by
  refine x_met (Qc := fun s => xQi D [(cB, .byte), (cI, .int), (cJ, .long), (cZ, .boolean)] [(h0, .inr (5, [.int (nI cn), .int (nI im), .ref g0, .ref g1, .ref g2, .ref g3]))] s.heap.size (fun r u => ((r = 0) ∨ (r = 1 ∧ (x < cn) ∧ (x < 30))) ∧ u = [(h0, .inr (5, [.int (nI cn), .int (nI im), .ref g0, .ref g1, .ref g2, .ref g3]))])) (fr := fun s => va_A [(h0, .inr (5, [.int (nI cn), .int (nI im), .ref g0, .ref g1, .ref g2, .ref g3]))] s.heap.size) "WasmReader$Globals" (by decide +kernel) rfl (Nat.le_of_ble_eq_true rfl) (fun s h => by rw [h]) (fun s h => by rw [h]) ?_
  intro p e s m below meth c ls E hr hlocks hinit hl hP hD hA hS hZ hadm
  have hl : lv_has ls 2 [(0, .ref h0), (1, .int (nI x))] := hl
  refine lv_iload_n E.1 E.2.1 d_Globals_has_0 rfl (lv_at hl 1 rfl) ?_
  refine lv_if_lt (tgt := 22) E.1 E.2.1 d_Globals_has_1 (by decide) (fun hc => absurd hc (nI_pos (n := x) (by omega))) (fun _ => ?_)
  refine lv_iload_n E.1 E.2.1 d_Globals_has_4 rfl (lv_at hl 1 rfl) ?_
  refine lv_aload_n E.1 E.2.1 d_Globals_has_5 rfl (lv_at hl 0 rfl) ?_
  refine x_get E hP (C := "WasmReader$Globals") (T := T_Globals) (N := 6) (ci := 5) 0 (v := .int (nI cn)) 0 in_Globals rfl rfl (by decide) m_266 rfl d_Globals_has_6 ?_
  refine lv_icmp_ge (tgt := 22) E.1 E.2.1 d_Globals_has_9 (by decide) (fun hc_1 => ?_) (fun hc_1 => ?_)
  ·
    have hc_1 : cn ≤ x := (nI_leI (a := cn) (b := x) (by omega) (by omega)).mp hc_1
    refine lv_iconst (v := 0) E.1 E.2.1 d_Globals_has_22 (by decide) ?_
    refine W.widen (k := 0) (n := 0) (by decide) (by decide) ?_
    exact x_zret (ws := [(h0, .inr (5, [.int (nI cn), .int (nI im), .ref g0, .ref g1, .ref g2, .ref g3]))]) E hr (by decide) hlocks (hP.sub [0] rfl) (hD.sub [0] (by decide) rfl) hS ⟨(Or.inl rfl), rfl⟩ d_Globals_has_23
  ·
    have hc_1 : ¬ (cn ≤ x) := fun hq_ => hc_1 ((nI_leI (a := cn) (b := x) (by omega) (by omega)).mpr hq_)
    refine lv_iload_n E.1 E.2.1 d_Globals_has_12 rfl (lv_at hl 1 rfl) ?_
    refine lv_bipush (v := 30) E.1 E.2.1 d_Globals_has_13 (by decide) ?_
    refine lv_icmp_ge (tgt := 22) E.1 E.2.1 d_Globals_has_15 (by decide) (fun hc_2 => ?_) (fun hc_2 => ?_)
    ·
      have hc_2 : 30 ≤ x := (nI_leI (a := 30) (b := x) (by omega) (by omega)).mp hc_2
      refine lv_iconst (v := 0) E.1 E.2.1 d_Globals_has_22 (by decide) ?_
      refine W.widen (k := 0) (n := 0) (by decide) (by decide) ?_
      exact x_zret (ws := [(h0, .inr (5, [.int (nI cn), .int (nI im), .ref g0, .ref g1, .ref g2, .ref g3]))]) E hr (by decide) hlocks (hP.sub [0] rfl) (hD.sub [0] (by decide) rfl) hS ⟨(Or.inl rfl), rfl⟩ d_Globals_has_23
    ·
      have hc_2 : ¬ (30 ≤ x) := fun hq_ => hc_2 ((nI_leI (a := 30) (b := x) (by omega) (by omega)).mpr hq_)
      refine lv_iconst (v := 1) E.1 E.2.1 d_Globals_has_18 (by decide) ?_
      refine lv_goto (tgt := 23) E.1 E.2.1 d_Globals_has_19 (by decide) ?_
      refine W.widen (k := 0) (n := 0) (by decide) (by decide) ?_
      exact x_zret (ws := [(h0, .inr (5, [.int (nI cn), .int (nI im), .ref g0, .ref g1, .ref g2, .ref g3]))]) E hr (by decide) hlocks (hP.sub [0] rfl) (hD.sub [0] (by decide) rfl) hS ⟨(Or.inr (⟨rfl, (by omega), (by omega)⟩)), rfl⟩ d_Globals_has_23
set_option maxHeartbeats 4000000 in
set_option maxRecDepth 100000 in
theorem c_Globals_hasr (l : Launch) (D : va_G) (cB cI cJ cZ : ClassId) (sz : Nat) (h0 : Nat) (cn : Nat) (im : Nat) (g0 : Nat) (g1 : Nat) (g2 : Nat) (g3 : Nat) (t : Int32) (hc : cn ≤ 20000000) : Met l y_Globals_has (Cond.code y_Globals_has prog_5_method_4_code 2 (some .boolean) :: xtb) ({ frames := 0, cells := 0, slots := 0, locals := 0 }) (xP D [(cB, .byte), (cI, .int), (cJ, .long), (cZ, .boolean)] [.ref h0, .int t] [(h0, .inr (5, [.int (nI cn), .int (nI im), .ref g0, .ref g1, .ref g2, .ref g3]))] sz) (xQi D [(cB, .byte), (cI, .int), (cJ, .long), (cZ, .boolean)] [(h0, .inr (5, [.int (nI cn), .int (nI im), .ref g0, .ref g1, .ref g2, .ref g3]))] sz (fun r u => ((r = 0) ∨ (∃ (x : Nat), r = 1 ∧ (t = nI x) ∧ (x < cn) ∧ (x < 30))) ∧ u = [(h0, .inr (5, [.int (nI cn), .int (nI im), .ref g0, .ref g1, .ref g2, .ref g3]))])) 0 0 (va_A [(h0, .inr (5, [.int (nI cn), .int (nI im), .ref g0, .ref g1, .ref g2, .ref g3]))] sz) := by
  refine x_met (Qc := fun s => xQi D [(cB, .byte), (cI, .int), (cJ, .long), (cZ, .boolean)] [(h0, .inr (5, [.int (nI cn), .int (nI im), .ref g0, .ref g1, .ref g2, .ref g3]))] s.heap.size (fun r u => ((r = 0) ∨ (∃ (x : Nat), r = 1 ∧ (t = nI x) ∧ (x < cn) ∧ (x < 30))) ∧ u = [(h0, .inr (5, [.int (nI cn), .int (nI im), .ref g0, .ref g1, .ref g2, .ref g3]))])) (fr := fun s => va_A [(h0, .inr (5, [.int (nI cn), .int (nI im), .ref g0, .ref g1, .ref g2, .ref g3]))] s.heap.size) "WasmReader$Globals" (by decide +kernel) rfl (Nat.le_of_ble_eq_true rfl) (fun s h => by rw [h]) (fun s h => by rw [h]) ?_
  intro p e s m below meth c ls E hr hlocks hinit hl hP hD hA hS hZ hadm
  have hl : lv_has ls 2 [(0, .ref h0), (1, .int t)] := hl
  refine lv_iload_n E.1 E.2.1 d_Globals_has_0 rfl (lv_at hl 1 rfl) ?_
  refine lv_if_lt (tgt := 22) E.1 E.2.1 d_Globals_has_1 (by decide) (fun hc_3 => ?_) (fun hc_3 => ?_)
  ·
    refine lv_iconst (v := 0) E.1 E.2.1 d_Globals_has_22 (by decide) ?_
    refine W.widen (k := 0) (n := 0) (by decide) (by decide) ?_
    exact x_zret (ws := [(h0, .inr (5, [.int (nI cn), .int (nI im), .ref g0, .ref g1, .ref g2, .ref g3]))]) E hr (by decide) hlocks (hP.sub [0] rfl) (hD.sub [0] (by decide) rfl) hS ⟨(Or.inl rfl), rfl⟩ d_Globals_has_23
  ·
    obtain ⟨jv, hjv, ejv⟩ := nI_of hc_3
    subst ejv
    refine lv_iload_n E.1 E.2.1 d_Globals_has_4 rfl (lv_at hl 1 rfl) ?_
    refine lv_aload_n E.1 E.2.1 d_Globals_has_5 rfl (lv_at hl 0 rfl) ?_
    refine x_get E hP (C := "WasmReader$Globals") (T := T_Globals) (N := 6) (ci := 5) 0 (v := .int (nI cn)) 0 in_Globals rfl rfl (by decide) m_266 rfl d_Globals_has_6 ?_
    refine lv_icmp_ge (tgt := 22) E.1 E.2.1 d_Globals_has_9 (by decide) (fun hc_4 => ?_) (fun hc_4 => ?_)
    ·
      have hc_4 : cn ≤ jv := (nI_leI (a := cn) (b := jv) (by omega) (by omega)).mp hc_4
      refine lv_iconst (v := 0) E.1 E.2.1 d_Globals_has_22 (by decide) ?_
      refine W.widen (k := 0) (n := 0) (by decide) (by decide) ?_
      exact x_zret (ws := [(h0, .inr (5, [.int (nI cn), .int (nI im), .ref g0, .ref g1, .ref g2, .ref g3]))]) E hr (by decide) hlocks (hP.sub [0] rfl) (hD.sub [0] (by decide) rfl) hS ⟨(Or.inl rfl), rfl⟩ d_Globals_has_23
    ·
      have hc_4 : ¬ (cn ≤ jv) := fun hq_ => hc_4 ((nI_leI (a := cn) (b := jv) (by omega) (by omega)).mpr hq_)
      refine lv_iload_n E.1 E.2.1 d_Globals_has_12 rfl (lv_at hl 1 rfl) ?_
      refine lv_bipush (v := 30) E.1 E.2.1 d_Globals_has_13 (by decide) ?_
      refine lv_icmp_ge (tgt := 22) E.1 E.2.1 d_Globals_has_15 (by decide) (fun hc_5 => ?_) (fun hc_5 => ?_)
      ·
        have hc_5 : 30 ≤ jv := (nI_leI (a := 30) (b := jv) (by omega) (by omega)).mp hc_5
        refine lv_iconst (v := 0) E.1 E.2.1 d_Globals_has_22 (by decide) ?_
        refine W.widen (k := 0) (n := 0) (by decide) (by decide) ?_
        exact x_zret (ws := [(h0, .inr (5, [.int (nI cn), .int (nI im), .ref g0, .ref g1, .ref g2, .ref g3]))]) E hr (by decide) hlocks (hP.sub [0] rfl) (hD.sub [0] (by decide) rfl) hS ⟨(Or.inl rfl), rfl⟩ d_Globals_has_23
      ·
        have hc_5 : ¬ (30 ≤ jv) := fun hq_ => hc_5 ((nI_leI (a := 30) (b := jv) (by omega) (by omega)).mpr hq_)
        refine lv_iconst (v := 1) E.1 E.2.1 d_Globals_has_18 (by decide) ?_
        refine lv_goto (tgt := 23) E.1 E.2.1 d_Globals_has_19 (by decide) ?_
        refine W.widen (k := 0) (n := 0) (by decide) (by decide) ?_
        exact x_zret (ws := [(h0, .inr (5, [.int (nI cn), .int (nI im), .ref g0, .ref g1, .ref g2, .ref g3]))]) E hr (by decide) hlocks (hP.sub [0] rfl) (hD.sub [0] (by decide) rfl) hS ⟨(Or.inr (⟨jv, rfl, rfl, (by omega), (by omega)⟩)), rfl⟩ d_Globals_has_23
set_option maxHeartbeats 4000000 in
set_option maxRecDepth 100000 in
theorem c_Globals_setLastInitial (l : Launch) (D : va_G) (cB cI cJ cZ : ClassId) (sz : Nat) (h0 : Nat) (cn : Nat) (im : Nat) (g0 : Nat) (g1 : Nat) (g2 : Nat) (g3 : Nat) (vg0 : Nat → Int32) (vg1 : Nat → Int32) (vg2 : Nat → Int32) (vg3 : Nat → Int64) (y1 : Int32) (y2 : Int64) (hc : cn + 1 ≤ 20000000) : Met l y_Globals_setLastInitial (Cond.code y_Globals_setLastInitial prog_5_method_3_code 4 none :: xtb) ({ frames := 1, cells := 0, slots := 0, locals := 21 }) (xP D [(cB, .byte), (cI, .int), (cJ, .long), (cZ, .boolean)] [.ref h0, .int y1, .long y2] [(h0, .inr (5, [.int (nI (cn + 1)), .int (nI im), .ref g0, .ref g1, .ref g2, .ref g3])), (g0, .inl (cI, 30, .inl vg0)), (g1, .inl (cZ, 30, .inl vg1)), (g2, .inl (cI, 30, .inl vg2)), (g3, .inl (cJ, 30, .inr (.inl vg3)))] sz) (xQv D [(cB, .byte), (cI, .int), (cJ, .long), (cZ, .boolean)] [(h0, .inr (5, [.int (nI (cn + 1)), .int (nI im), .ref g0, .ref g1, .ref g2, .ref g3])), (g0, .inl (cI, 30, .inl vg0)), (g1, .inl (cZ, 30, .inl vg1)), (g2, .inl (cI, 30, .inl vg2)), (g3, .inl (cJ, 30, .inr (.inl vg3)))] sz (fun u => ∃ (ug0 : Nat → Int32), ∃ (ug1 : Nat → Int32), ∃ (ug2 : Nat → Int32), ∃ (ug3 : Nat → Int64), u = [(h0, .inr (5, [.int (nI (cn + 1)), .int (nI im), .ref g0, .ref g1, .ref g2, .ref g3])), (g0, .inl (cI, 30, .inl ug0)), (g1, .inl (cZ, 30, .inl ug1)), (g2, .inl (cI, 30, .inl ug2)), (g3, .inl (cJ, 30, .inr (.inl ug3)))])) 0 0 (va_A [(h0, .inr (5, [.int (nI (cn + 1)), .int (nI im), .ref g0, .ref g1, .ref g2, .ref g3])), (g0, .inl (cI, 30, .inl vg0)), (g1, .inl (cZ, 30, .inl vg1)), (g2, .inl (cI, 30, .inl vg2)), (g3, .inl (cJ, 30, .inr (.inl vg3)))] sz) := by
  refine x_met (Qc := fun s => xQv D [(cB, .byte), (cI, .int), (cJ, .long), (cZ, .boolean)] [(h0, .inr (5, [.int (nI (cn + 1)), .int (nI im), .ref g0, .ref g1, .ref g2, .ref g3])), (g0, .inl (cI, 30, .inl vg0)), (g1, .inl (cZ, 30, .inl vg1)), (g2, .inl (cI, 30, .inl vg2)), (g3, .inl (cJ, 30, .inr (.inl vg3)))] s.heap.size (fun u => ∃ (ug0 : Nat → Int32), ∃ (ug1 : Nat → Int32), ∃ (ug2 : Nat → Int32), ∃ (ug3 : Nat → Int64), u = [(h0, .inr (5, [.int (nI (cn + 1)), .int (nI im), .ref g0, .ref g1, .ref g2, .ref g3])), (g0, .inl (cI, 30, .inl ug0)), (g1, .inl (cZ, 30, .inl ug1)), (g2, .inl (cI, 30, .inl ug2)), (g3, .inl (cJ, 30, .inr (.inl ug3)))])) (fr := fun s => va_A [(h0, .inr (5, [.int (nI (cn + 1)), .int (nI im), .ref g0, .ref g1, .ref g2, .ref g3])), (g0, .inl (cI, 30, .inl vg0)), (g1, .inl (cZ, 30, .inl vg1)), (g2, .inl (cI, 30, .inl vg2)), (g3, .inl (cJ, 30, .inr (.inl vg3)))] s.heap.size) "WasmReader$Globals" (by decide +kernel) rfl (Nat.le_of_ble_eq_true rfl) (fun s h => by rw [h]) (fun s h => by rw [h]) ?_
  intro p e s m below meth c ls E hr hlocks hinit hl hP hD hA hS hZ hadm
  have hl : lv_has ls 4 [(0, .ref h0), (1, .int y1), (2, .long y2)] := hl
  refine lv_aload_n E.1 E.2.1 d_Globals_setLastInitial_0 rfl (lv_at hl 0 rfl) ?_
  refine lv_aload_n E.1 E.2.1 d_Globals_setLastInitial_1 rfl (lv_at hl 0 rfl) ?_
  refine x_get E hP (C := "WasmReader$Globals") (T := T_Globals) (N := 6) (ci := 5) 0 (v := .int (nI (cn + 1))) 0 in_Globals rfl rfl (by decide) m_266 rfl d_Globals_setLastInitial_2 ?_
  refine lv_iconst (v := 1) E.1 E.2.1 d_Globals_setLastInitial_5 (by decide) ?_
  refine lv_isub E.1 E.2.1 d_Globals_setLastInitial_6 ?_
  refine lv_topi (fun vt_1 evt_1 => ?_)
  obtain rfl : vt_1 = nI (cn + 1 - 1) := evt_1.trans (pk_sub (a := cn + 1) (b := 1) (by omega))
  have hPc := hP.sub (ws' := [(h0, .inr (5, [.int (nI (cn + 1)), .int (nI im), .ref g0, .ref g1, .ref g2, .ref g3]))]) [0] rfl
  have hDc := hD.sub (ws' := [(h0, .inr (5, [.int (nI (cn + 1)), .int (nI im), .ref g0, .ref g1, .ref g2, .ref g3]))]) [0] (by decide) rfl
  have hFc := va_free (wc := [(h0, .inr (5, [.int (nI (cn + 1)), .int (nI im), .ref g0, .ref g1, .ref g2, .ref g3]))]) hD hS hA [0] rfl
  refine x_ri (ws := [(h0, .inr (5, [.int (nI (cn + 1)), .int (nI im), .ref g0, .ref g1, .ref g2, .ref g3])), (g0, .inl (cI, 30, .inl vg0)), (g1, .inl (cZ, 30, .inl vg1)), (g2, .inl (cI, 30, .inl vg2)), (g3, .inl (cJ, 30, .inr (.inl vg3)))]) (wc := [(h0, .inr (5, [.int (nI (cn + 1)), .int (nI im), .ref g0, .ref g1, .ref g2, .ref g3]))]) (wr := [(g0, .inl (cI, 30, .inl vg0)), (g1, .inl (cZ, 30, .inl vg1)), (g2, .inl (cI, 30, .inl vg2)), (g3, .inl (cJ, 30, .inr (.inl vg3)))]) (x_V (As := [.int (nI (cn + 1 - 1))]) (C := "WasmReader$Globals") E (c_Globals_has l D cB cI cJ cZ s.heap.size h0 (cn + 1) im g0 g1 g2 g3 (cn + 1 - 1) (by omega) (by omega)) m_268 m_65 m_267 m_269 m_270 nm_Globals_has hPc hDc hZ hS hFc rfl rfl rfl hl.1 rfl (Nat.le_of_ble_eq_true rfl) d_Globals_setLastInitial_7 rfl rfl (by decide) (by decide) (by decide) (by decide)) hP hD hS hA [0] [1, 2, 3, 4] rfl rfl (by decide) (by decide) (fun r_4 u H locs hw hP hD hS => ?_)
  obtain ⟨hal_2, rfl⟩ := hw
  have hP : va_P D classes [(g0, .inl (cI, 30, .inl vg0)), (g1, .inl (cZ, 30, .inl vg1)), (g2, .inl (cI, 30, .inl vg2)), (g3, .inl (cJ, 30, .inr (.inl vg3))), (h0, .inr (5, [.int (nI (cn + 1)), .int (nI im), .ref g0, .ref g1, .ref g2, .ref g3]))] H := hP
  have hD : va_D (va_A [(h0, .inr (5, [.int (nI (cn + 1)), .int (nI im), .ref g0, .ref g1, .ref g2, .ref g3])), (g0, .inl (cI, 30, .inl vg0)), (g1, .inl (cZ, 30, .inl vg1)), (g2, .inl (cI, 30, .inl vg2)), (g3, .inl (cJ, 30, .inr (.inl vg3)))] s.heap.size) [(g0, .inl (cI, 30, .inl vg0)), (g1, .inl (cZ, 30, .inl vg1)), (g2, .inl (cI, 30, .inl vg2)), (g3, .inl (cJ, 30, .inr (.inl vg3))), (h0, .inr (5, [.int (nI (cn + 1)), .int (nI im), .ref g0, .ref g1, .ref g2, .ref g3]))] := hD
  rcases hal_2 with ha_5 | ⟨ha_6, hb_7, hb_8⟩
  ·
    subst ha_5
    refine lv_if_eq (tgt := 37) E.1 E.2.1 d_Globals_setLastInitial_10 (by decide) (fun _ => ?_) (fun hc => absurd (by decide) hc)
    refine W.widen (k := 0) (n := 0) (by decide) (by decide) ?_
    exact x_vret (ws := [(h0, .inr (5, [.int (nI (cn + 1)), .int (nI im), .ref g0, .ref g1, .ref g2, .ref g3])), (g0, .inl (cI, 30, .inl vg0)), (g1, .inl (cZ, 30, .inl vg1)), (g2, .inl (cI, 30, .inl vg2)), (g3, .inl (cJ, 30, .inr (.inl vg3)))]) E hr hlocks (hP.sub [4, 0, 1, 2, 3] rfl) (hD.sub [4, 0, 1, 2, 3] (by decide) rfl) hS ⟨vg0, vg1, vg2, vg3, rfl⟩ d_Globals_setLastInitial_37
  ·
    subst ha_6
    refine lv_if_eq (tgt := 37) E.1 E.2.1 d_Globals_setLastInitial_10 (by decide) (fun hc => absurd hc (by decide)) (fun _ => ?_)
    refine lv_aload_n E.1 E.2.1 d_Globals_setLastInitial_13 rfl (lv_at hl 0 rfl) ?_
    refine x_get E hP (C := "WasmReader$Globals") (T := T_Globals) (N := 6) (ci := 5) 4 (v := .ref g2) 4 in_Globals rfl rfl (by decide) m_20 rfl d_Globals_setLastInitial_14 ?_
    refine lv_aload_n E.1 E.2.1 d_Globals_setLastInitial_17 rfl (lv_at hl 0 rfl) ?_
    refine x_get E hP (C := "WasmReader$Globals") (T := T_Globals) (N := 6) (ci := 5) 4 (v := .int (nI (cn + 1))) 0 in_Globals rfl rfl (by decide) m_266 rfl d_Globals_setLastInitial_18 ?_
    refine lv_iconst (v := 1) E.1 E.2.1 d_Globals_setLastInitial_21 (by decide) ?_
    refine lv_isub E.1 E.2.1 d_Globals_setLastInitial_22 ?_
    refine lv_topi (fun vt_9 evt_9 => ?_)
    obtain rfl : vt_9 = nI (cn + 1 - 1) := evt_9.trans (pk_sub (a := cn + 1) (b := 1) (by omega))
    refine lv_iload_n E.1 E.2.1 d_Globals_setLastInitial_23 rfl (lv_at hl 1 rfl) ?_
    refine va_iast E.1 E.2.1 E.2.2.2.2.2 hP hD hS 2 1 rfl rfl (i := nI (cn + 1 - 1)) (x := y1) (vp_in_nI (n := cn + 1 - 1) (by omega) (by decide)) d_Globals_setLastInitial_24 (fun H locs hP hD hS => ?_)
    generalize upd vg2 (Int32.toNatClampNeg (nI (cn + 1 - 1))) y1 = g_10 at hP hD
    have hP : va_P D classes [(g0, .inl (cI, 30, .inl vg0)), (g1, .inl (cZ, 30, .inl vg1)), (g2, .inl (cI, 30, .inl g_10)), (g3, .inl (cJ, 30, .inr (.inl vg3))), (h0, .inr (5, [.int (nI (cn + 1)), .int (nI im), .ref g0, .ref g1, .ref g2, .ref g3]))] H := hP
    have hD : va_D (va_A [(h0, .inr (5, [.int (nI (cn + 1)), .int (nI im), .ref g0, .ref g1, .ref g2, .ref g3])), (g0, .inl (cI, 30, .inl vg0)), (g1, .inl (cZ, 30, .inl vg1)), (g2, .inl (cI, 30, .inl vg2)), (g3, .inl (cJ, 30, .inr (.inl vg3)))] s.heap.size) [(g0, .inl (cI, 30, .inl vg0)), (g1, .inl (cZ, 30, .inl vg1)), (g2, .inl (cI, 30, .inl g_10)), (g3, .inl (cJ, 30, .inr (.inl vg3))), (h0, .inr (5, [.int (nI (cn + 1)), .int (nI im), .ref g0, .ref g1, .ref g2, .ref g3]))] := hD
    refine lv_aload_n E.1 E.2.1 d_Globals_setLastInitial_25 rfl (lv_at hl 0 rfl) ?_
    refine x_get E hP (C := "WasmReader$Globals") (T := T_Globals) (N := 6) (ci := 5) 4 (v := .ref g3) 5 in_Globals rfl rfl (by decide) m_21 rfl d_Globals_setLastInitial_26 ?_
    refine lv_aload_n E.1 E.2.1 d_Globals_setLastInitial_29 rfl (lv_at hl 0 rfl) ?_
    refine x_get E hP (C := "WasmReader$Globals") (T := T_Globals) (N := 6) (ci := 5) 4 (v := .int (nI (cn + 1))) 0 in_Globals rfl rfl (by decide) m_266 rfl d_Globals_setLastInitial_30 ?_
    refine lv_iconst (v := 1) E.1 E.2.1 d_Globals_setLastInitial_33 (by decide) ?_
    refine lv_isub E.1 E.2.1 d_Globals_setLastInitial_34 ?_
    refine lv_topi (fun vt_11 evt_11 => ?_)
    obtain rfl : vt_11 = nI (cn + 1 - 1) := evt_11.trans (pk_sub (a := cn + 1) (b := 1) (by omega))
    refine lv_lload_n E.1 E.2.1 d_Globals_setLastInitial_35 rfl (lv_at hl 2 rfl) ?_
    refine va_last E.1 E.2.1 E.2.2.2.2.2 hP hD hS 3 2 rfl rfl (i := nI (cn + 1 - 1)) (x := y2) (vp_in_nI (n := cn + 1 - 1) (by omega) (by decide)) d_Globals_setLastInitial_36 (fun H locs hP hD hS => ?_)
    generalize vp_updL vg3 (Int32.toNatClampNeg (nI (cn + 1 - 1))) y2 = g_12 at hP hD
    have hP : va_P D classes [(g0, .inl (cI, 30, .inl vg0)), (g1, .inl (cZ, 30, .inl vg1)), (g2, .inl (cI, 30, .inl g_10)), (g3, .inl (cJ, 30, .inr (.inl g_12))), (h0, .inr (5, [.int (nI (cn + 1)), .int (nI im), .ref g0, .ref g1, .ref g2, .ref g3]))] H := hP
    have hD : va_D (va_A [(h0, .inr (5, [.int (nI (cn + 1)), .int (nI im), .ref g0, .ref g1, .ref g2, .ref g3])), (g0, .inl (cI, 30, .inl vg0)), (g1, .inl (cZ, 30, .inl vg1)), (g2, .inl (cI, 30, .inl vg2)), (g3, .inl (cJ, 30, .inr (.inl vg3)))] s.heap.size) [(g0, .inl (cI, 30, .inl vg0)), (g1, .inl (cZ, 30, .inl vg1)), (g2, .inl (cI, 30, .inl g_10)), (g3, .inl (cJ, 30, .inr (.inl g_12))), (h0, .inr (5, [.int (nI (cn + 1)), .int (nI im), .ref g0, .ref g1, .ref g2, .ref g3]))] := hD
    refine W.widen (k := 0) (n := 0) (by decide) (by decide) ?_
    exact x_vret (ws := [(h0, .inr (5, [.int (nI (cn + 1)), .int (nI im), .ref g0, .ref g1, .ref g2, .ref g3])), (g0, .inl (cI, 30, .inl vg0)), (g1, .inl (cZ, 30, .inl vg1)), (g2, .inl (cI, 30, .inl g_10)), (g3, .inl (cJ, 30, .inr (.inl g_12)))]) E hr hlocks (hP.sub [4, 0, 1, 2, 3] rfl) (hD.sub [4, 0, 1, 2, 3] (by decide) rfl) hS ⟨vg0, vg1, g_10, g_12, rfl⟩ d_Globals_setLastInitial_37
set_option maxHeartbeats 4000000 in
set_option maxRecDepth 100000 in
theorem c_Globals_origin (l : Launch) (D : va_G) (cB cI cJ cZ : ClassId) (sz : Nat) (h0 : Nat) (cn : Nat) (im : Nat) (g0 : Nat) (g1 : Nat) (g2 : Nat) (g3 : Nat) (vg0 : Nat → Int32) (vg1 : Nat → Int32) (vg2 : Nat → Int32) (vg3 : Nat → Int64) (x : Nat) (hc : cn ≤ 20000000) (hi : im ≤ 20000000) (hx : x < 2 ^ 31) : Met l y_Globals_origin (Cond.code y_Globals_origin prog_5_method_5_code 2 (some .int) :: xtb) ({ frames := 1, cells := 0, slots := 0, locals := 21 }) (xP D [(cB, .byte), (cI, .int), (cJ, .long), (cZ, .boolean)] [.ref h0, .int (nI x)] [(h0, .inr (5, [.int (nI cn), .int (nI im), .ref g0, .ref g1, .ref g2, .ref g3])), (g0, .inl (cI, 30, .inl vg0)), (g1, .inl (cZ, 30, .inl vg1)), (g2, .inl (cI, 30, .inl vg2)), (g3, .inl (cJ, 30, .inr (.inl vg3)))] sz) (xQi D [(cB, .byte), (cI, .int), (cJ, .long), (cZ, .boolean)] [(h0, .inr (5, [.int (nI cn), .int (nI im), .ref g0, .ref g1, .ref g2, .ref g3])), (g0, .inl (cI, 30, .inl vg0)), (g1, .inl (cZ, 30, .inl vg1)), (g2, .inl (cI, 30, .inl vg2)), (g3, .inl (cJ, 30, .inr (.inl vg3)))] sz (fun r u => u = [(h0, .inr (5, [.int (nI cn), .int (nI im), .ref g0, .ref g1, .ref g2, .ref g3])), (g0, .inl (cI, 30, .inl vg0)), (g1, .inl (cZ, 30, .inl vg1)), (g2, .inl (cI, 30, .inl vg2)), (g3, .inl (cJ, 30, .inr (.inl vg3)))])) 0 0 (va_A [(h0, .inr (5, [.int (nI cn), .int (nI im), .ref g0, .ref g1, .ref g2, .ref g3])), (g0, .inl (cI, 30, .inl vg0)), (g1, .inl (cZ, 30, .inl vg1)), (g2, .inl (cI, 30, .inl vg2)), (g3, .inl (cJ, 30, .inr (.inl vg3)))] sz) := by
  refine x_met (Qc := fun s => xQi D [(cB, .byte), (cI, .int), (cJ, .long), (cZ, .boolean)] [(h0, .inr (5, [.int (nI cn), .int (nI im), .ref g0, .ref g1, .ref g2, .ref g3])), (g0, .inl (cI, 30, .inl vg0)), (g1, .inl (cZ, 30, .inl vg1)), (g2, .inl (cI, 30, .inl vg2)), (g3, .inl (cJ, 30, .inr (.inl vg3)))] s.heap.size (fun r u => u = [(h0, .inr (5, [.int (nI cn), .int (nI im), .ref g0, .ref g1, .ref g2, .ref g3])), (g0, .inl (cI, 30, .inl vg0)), (g1, .inl (cZ, 30, .inl vg1)), (g2, .inl (cI, 30, .inl vg2)), (g3, .inl (cJ, 30, .inr (.inl vg3)))])) (fr := fun s => va_A [(h0, .inr (5, [.int (nI cn), .int (nI im), .ref g0, .ref g1, .ref g2, .ref g3])), (g0, .inl (cI, 30, .inl vg0)), (g1, .inl (cZ, 30, .inl vg1)), (g2, .inl (cI, 30, .inl vg2)), (g3, .inl (cJ, 30, .inr (.inl vg3)))] s.heap.size) "WasmReader$Globals" (by decide +kernel) rfl (Nat.le_of_ble_eq_true rfl) (fun s h => by rw [h]) (fun s h => by rw [h]) ?_
  intro p e s m below meth c ls E hr hlocks hinit hl hP hD hA hS hZ hadm
  have hl : lv_has ls 2 [(0, .ref h0), (1, .int (nI x))] := hl
  refine lv_aload_n E.1 E.2.1 d_Globals_origin_0 rfl (lv_at hl 0 rfl) ?_
  refine lv_iload_n E.1 E.2.1 d_Globals_origin_1 rfl (lv_at hl 1 rfl) ?_
  have hPc := hP.sub (ws' := [(h0, .inr (5, [.int (nI cn), .int (nI im), .ref g0, .ref g1, .ref g2, .ref g3]))]) [0] rfl
  have hDc := hD.sub (ws' := [(h0, .inr (5, [.int (nI cn), .int (nI im), .ref g0, .ref g1, .ref g2, .ref g3]))]) [0] (by decide) rfl
  have hFc := va_free (wc := [(h0, .inr (5, [.int (nI cn), .int (nI im), .ref g0, .ref g1, .ref g2, .ref g3]))]) hD hS hA [0] rfl
  refine x_ri (ws := [(h0, .inr (5, [.int (nI cn), .int (nI im), .ref g0, .ref g1, .ref g2, .ref g3])), (g0, .inl (cI, 30, .inl vg0)), (g1, .inl (cZ, 30, .inl vg1)), (g2, .inl (cI, 30, .inl vg2)), (g3, .inl (cJ, 30, .inr (.inl vg3)))]) (wc := [(h0, .inr (5, [.int (nI cn), .int (nI im), .ref g0, .ref g1, .ref g2, .ref g3]))]) (wr := [(g0, .inl (cI, 30, .inl vg0)), (g1, .inl (cZ, 30, .inl vg1)), (g2, .inl (cI, 30, .inl vg2)), (g3, .inl (cJ, 30, .inr (.inl vg3)))]) (x_V (As := [.int (nI x)]) (C := "WasmReader$Globals") E (c_Globals_has l D cB cI cJ cZ s.heap.size h0 cn im g0 g1 g2 g3 x (by omega) (by omega)) m_268 m_65 m_267 m_269 m_270 nm_Globals_has hPc hDc hZ hS hFc rfl rfl rfl hl.1 rfl (Nat.le_of_ble_eq_true rfl) d_Globals_origin_2 rfl rfl (by decide) (by decide) (by decide) (by decide)) hP hD hS hA [0] [1, 2, 3, 4] rfl rfl (by decide) (by decide) (fun r_3 u H locs hw hP hD hS => ?_)
  obtain ⟨hal_1, rfl⟩ := hw
  have hP : va_P D classes [(g0, .inl (cI, 30, .inl vg0)), (g1, .inl (cZ, 30, .inl vg1)), (g2, .inl (cI, 30, .inl vg2)), (g3, .inl (cJ, 30, .inr (.inl vg3))), (h0, .inr (5, [.int (nI cn), .int (nI im), .ref g0, .ref g1, .ref g2, .ref g3]))] H := hP
  have hD : va_D (va_A [(h0, .inr (5, [.int (nI cn), .int (nI im), .ref g0, .ref g1, .ref g2, .ref g3])), (g0, .inl (cI, 30, .inl vg0)), (g1, .inl (cZ, 30, .inl vg1)), (g2, .inl (cI, 30, .inl vg2)), (g3, .inl (cJ, 30, .inr (.inl vg3)))] s.heap.size) [(g0, .inl (cI, 30, .inl vg0)), (g1, .inl (cZ, 30, .inl vg1)), (g2, .inl (cI, 30, .inl vg2)), (g3, .inl (cJ, 30, .inr (.inl vg3))), (h0, .inr (5, [.int (nI cn), .int (nI im), .ref g0, .ref g1, .ref g2, .ref g3]))] := hD
  rcases hal_1 with ha_4 | ⟨ha_5, hb_6, hb_7⟩
  ·
    subst ha_4
    refine lv_if_eq (tgt := 16) E.1 E.2.1 d_Globals_origin_5 (by decide) (fun _ => ?_) (fun hc => absurd (by decide) hc)
    refine lv_iconst (v := 0) E.1 E.2.1 d_Globals_origin_16 (by decide) ?_
    refine W.widen (k := 0) (n := 0) (by decide) (by decide) ?_
    exact x_iret (ws := [(h0, .inr (5, [.int (nI cn), .int (nI im), .ref g0, .ref g1, .ref g2, .ref g3])), (g0, .inl (cI, 30, .inl vg0)), (g1, .inl (cZ, 30, .inl vg1)), (g2, .inl (cI, 30, .inl vg2)), (g3, .inl (cJ, 30, .inr (.inl vg3)))]) E hr hlocks (hP.sub [4, 0, 1, 2, 3] rfl) (hD.sub [4, 0, 1, 2, 3] (by decide) rfl) hS rfl d_Globals_origin_17
  ·
    subst ha_5
    refine lv_if_eq (tgt := 16) E.1 E.2.1 d_Globals_origin_5 (by decide) (fun hc => absurd hc (by decide)) (fun _ => ?_)
    refine lv_iload_n E.1 E.2.1 d_Globals_origin_8 rfl (lv_at hl 1 rfl) ?_
    refine lv_aload_n E.1 E.2.1 d_Globals_origin_9 rfl (lv_at hl 0 rfl) ?_
    refine x_get E hP (C := "WasmReader$Globals") (T := T_Globals) (N := 6) (ci := 5) 4 (v := .int (nI im)) 1 in_Globals rfl rfl (by decide) m_271 rfl d_Globals_origin_10 ?_
    refine lv_icmp_ge (tgt := 18) E.1 E.2.1 d_Globals_origin_13 (by decide) (fun hc_8 => ?_) (fun hc_8 => ?_)
    ·
      have hc_8 : im ≤ x := (nI_leI (a := im) (b := x) (by omega) (by omega)).mp hc_8
      refine lv_aload_n E.1 E.2.1 d_Globals_origin_18 rfl (lv_at hl 0 rfl) ?_
      refine x_get E hP (C := "WasmReader$Globals") (T := T_Globals) (N := 6) (ci := 5) 4 (v := .ref g2) 4 in_Globals rfl rfl (by decide) m_20 rfl d_Globals_origin_19 ?_
      refine lv_iload_n E.1 E.2.1 d_Globals_origin_22 rfl (lv_at hl 1 rfl) ?_
      refine va_iald E.1 E.2.1 E.2.2.2.2.2 hP 2 1 rfl rfl (i := nI x) (vp_in_nI (n := x) (by omega) (by decide)) d_Globals_origin_23 ?_
      refine lv_topi (fun v_9 ev_9 => ?_)
      refine lv_bipush (v := 35) E.1 E.2.1 d_Globals_origin_24 (by decide) ?_
      refine lv_icmp_ne (tgt := 33) E.1 E.2.1 d_Globals_origin_26 (by decide) (fun hc_10 => ?_) (fun hc_10 => ?_)
      ·
        refine lv_iconst (v := 1) E.1 E.2.1 d_Globals_origin_33 (by decide) ?_
        refine W.widen (k := 0) (n := 0) (by decide) (by decide) ?_
        exact x_iret (ws := [(h0, .inr (5, [.int (nI cn), .int (nI im), .ref g0, .ref g1, .ref g2, .ref g3])), (g0, .inl (cI, 30, .inl vg0)), (g1, .inl (cZ, 30, .inl vg1)), (g2, .inl (cI, 30, .inl vg2)), (g3, .inl (cJ, 30, .inr (.inl vg3)))]) E hr hlocks (hP.sub [4, 0, 1, 2, 3] rfl) (hD.sub [4, 0, 1, 2, 3] (by decide) rfl) hS rfl d_Globals_origin_34
      ·
        refine lv_iconst (v := 2) E.1 E.2.1 d_Globals_origin_29 (by decide) ?_
        refine lv_goto (tgt := 34) E.1 E.2.1 d_Globals_origin_30 (by decide) ?_
        refine W.widen (k := 0) (n := 0) (by decide) (by decide) ?_
        exact x_iret (ws := [(h0, .inr (5, [.int (nI cn), .int (nI im), .ref g0, .ref g1, .ref g2, .ref g3])), (g0, .inl (cI, 30, .inl vg0)), (g1, .inl (cZ, 30, .inl vg1)), (g2, .inl (cI, 30, .inl vg2)), (g3, .inl (cJ, 30, .inr (.inl vg3)))]) E hr hlocks (hP.sub [4, 0, 1, 2, 3] rfl) (hD.sub [4, 0, 1, 2, 3] (by decide) rfl) hS rfl d_Globals_origin_34
    ·
      have hc_8 : ¬ (im ≤ x) := fun hq_ => hc_8 ((nI_leI (a := im) (b := x) (by omega) (by omega)).mpr hq_)
      refine lv_iconst (v := 0) E.1 E.2.1 d_Globals_origin_16 (by decide) ?_
      refine W.widen (k := 0) (n := 0) (by decide) (by decide) ?_
      exact x_iret (ws := [(h0, .inr (5, [.int (nI cn), .int (nI im), .ref g0, .ref g1, .ref g2, .ref g3])), (g0, .inl (cI, 30, .inl vg0)), (g1, .inl (cZ, 30, .inl vg1)), (g2, .inl (cI, 30, .inl vg2)), (g3, .inl (cJ, 30, .inr (.inl vg3)))]) E hr hlocks (hP.sub [4, 0, 1, 2, 3] rfl) (hD.sub [4, 0, 1, 2, 3] (by decide) rfl) hS rfl d_Globals_origin_17
set_option maxHeartbeats 4000000 in
set_option maxRecDepth 100000 in
theorem c_Globals_originr (l : Launch) (D : va_G) (cB cI cJ cZ : ClassId) (sz : Nat) (h0 : Nat) (cn : Nat) (im : Nat) (g0 : Nat) (g1 : Nat) (g2 : Nat) (g3 : Nat) (vg0 : Nat → Int32) (vg1 : Nat → Int32) (vg2 : Nat → Int32) (vg3 : Nat → Int64) (t : Int32) (hc : cn ≤ 20000000) (hi : im ≤ 20000000) : Met l y_Globals_origin (Cond.code y_Globals_origin prog_5_method_5_code 2 (some .int) :: xtb) ({ frames := 1, cells := 0, slots := 0, locals := 21 }) (xP D [(cB, .byte), (cI, .int), (cJ, .long), (cZ, .boolean)] [.ref h0, .int t] [(h0, .inr (5, [.int (nI cn), .int (nI im), .ref g0, .ref g1, .ref g2, .ref g3])), (g0, .inl (cI, 30, .inl vg0)), (g1, .inl (cZ, 30, .inl vg1)), (g2, .inl (cI, 30, .inl vg2)), (g3, .inl (cJ, 30, .inr (.inl vg3)))] sz) (xQi D [(cB, .byte), (cI, .int), (cJ, .long), (cZ, .boolean)] [(h0, .inr (5, [.int (nI cn), .int (nI im), .ref g0, .ref g1, .ref g2, .ref g3])), (g0, .inl (cI, 30, .inl vg0)), (g1, .inl (cZ, 30, .inl vg1)), (g2, .inl (cI, 30, .inl vg2)), (g3, .inl (cJ, 30, .inr (.inl vg3)))] sz (fun r u => u = [(h0, .inr (5, [.int (nI cn), .int (nI im), .ref g0, .ref g1, .ref g2, .ref g3])), (g0, .inl (cI, 30, .inl vg0)), (g1, .inl (cZ, 30, .inl vg1)), (g2, .inl (cI, 30, .inl vg2)), (g3, .inl (cJ, 30, .inr (.inl vg3)))])) 0 0 (va_A [(h0, .inr (5, [.int (nI cn), .int (nI im), .ref g0, .ref g1, .ref g2, .ref g3])), (g0, .inl (cI, 30, .inl vg0)), (g1, .inl (cZ, 30, .inl vg1)), (g2, .inl (cI, 30, .inl vg2)), (g3, .inl (cJ, 30, .inr (.inl vg3)))] sz) := by
  refine x_met (Qc := fun s => xQi D [(cB, .byte), (cI, .int), (cJ, .long), (cZ, .boolean)] [(h0, .inr (5, [.int (nI cn), .int (nI im), .ref g0, .ref g1, .ref g2, .ref g3])), (g0, .inl (cI, 30, .inl vg0)), (g1, .inl (cZ, 30, .inl vg1)), (g2, .inl (cI, 30, .inl vg2)), (g3, .inl (cJ, 30, .inr (.inl vg3)))] s.heap.size (fun r u => u = [(h0, .inr (5, [.int (nI cn), .int (nI im), .ref g0, .ref g1, .ref g2, .ref g3])), (g0, .inl (cI, 30, .inl vg0)), (g1, .inl (cZ, 30, .inl vg1)), (g2, .inl (cI, 30, .inl vg2)), (g3, .inl (cJ, 30, .inr (.inl vg3)))])) (fr := fun s => va_A [(h0, .inr (5, [.int (nI cn), .int (nI im), .ref g0, .ref g1, .ref g2, .ref g3])), (g0, .inl (cI, 30, .inl vg0)), (g1, .inl (cZ, 30, .inl vg1)), (g2, .inl (cI, 30, .inl vg2)), (g3, .inl (cJ, 30, .inr (.inl vg3)))] s.heap.size) "WasmReader$Globals" (by decide +kernel) rfl (Nat.le_of_ble_eq_true rfl) (fun s h => by rw [h]) (fun s h => by rw [h]) ?_
  intro p e s m below meth c ls E hr hlocks hinit hl hP hD hA hS hZ hadm
  have hl : lv_has ls 2 [(0, .ref h0), (1, .int t)] := hl
  refine lv_aload_n E.1 E.2.1 d_Globals_origin_0 rfl (lv_at hl 0 rfl) ?_
  refine lv_iload_n E.1 E.2.1 d_Globals_origin_1 rfl (lv_at hl 1 rfl) ?_
  have hPc := hP.sub (ws' := [(h0, .inr (5, [.int (nI cn), .int (nI im), .ref g0, .ref g1, .ref g2, .ref g3]))]) [0] rfl
  have hDc := hD.sub (ws' := [(h0, .inr (5, [.int (nI cn), .int (nI im), .ref g0, .ref g1, .ref g2, .ref g3]))]) [0] (by decide) rfl
  have hFc := va_free (wc := [(h0, .inr (5, [.int (nI cn), .int (nI im), .ref g0, .ref g1, .ref g2, .ref g3]))]) hD hS hA [0] rfl
  refine x_ri (ws := [(h0, .inr (5, [.int (nI cn), .int (nI im), .ref g0, .ref g1, .ref g2, .ref g3])), (g0, .inl (cI, 30, .inl vg0)), (g1, .inl (cZ, 30, .inl vg1)), (g2, .inl (cI, 30, .inl vg2)), (g3, .inl (cJ, 30, .inr (.inl vg3)))]) (wc := [(h0, .inr (5, [.int (nI cn), .int (nI im), .ref g0, .ref g1, .ref g2, .ref g3]))]) (wr := [(g0, .inl (cI, 30, .inl vg0)), (g1, .inl (cZ, 30, .inl vg1)), (g2, .inl (cI, 30, .inl vg2)), (g3, .inl (cJ, 30, .inr (.inl vg3)))]) (x_V (As := [.int t]) (C := "WasmReader$Globals") E (c_Globals_hasr l D cB cI cJ cZ s.heap.size h0 cn im g0 g1 g2 g3 t (by omega)) m_268 m_65 m_267 m_269 m_270 nm_Globals_has hPc hDc hZ hS hFc rfl rfl rfl hl.1 rfl (Nat.le_of_ble_eq_true rfl) d_Globals_origin_2 rfl rfl (by decide) (by decide) (by decide) (by decide)) hP hD hS hA [0] [1, 2, 3, 4] rfl rfl (by decide) (by decide) (fun r_13 u H locs hw hP hD hS => ?_)
  obtain ⟨hal_11, rfl⟩ := hw
  have hP : va_P D classes [(g0, .inl (cI, 30, .inl vg0)), (g1, .inl (cZ, 30, .inl vg1)), (g2, .inl (cI, 30, .inl vg2)), (g3, .inl (cJ, 30, .inr (.inl vg3))), (h0, .inr (5, [.int (nI cn), .int (nI im), .ref g0, .ref g1, .ref g2, .ref g3]))] H := hP
  have hD : va_D (va_A [(h0, .inr (5, [.int (nI cn), .int (nI im), .ref g0, .ref g1, .ref g2, .ref g3])), (g0, .inl (cI, 30, .inl vg0)), (g1, .inl (cZ, 30, .inl vg1)), (g2, .inl (cI, 30, .inl vg2)), (g3, .inl (cJ, 30, .inr (.inl vg3)))] s.heap.size) [(g0, .inl (cI, 30, .inl vg0)), (g1, .inl (cZ, 30, .inl vg1)), (g2, .inl (cI, 30, .inl vg2)), (g3, .inl (cJ, 30, .inr (.inl vg3))), (h0, .inr (5, [.int (nI cn), .int (nI im), .ref g0, .ref g1, .ref g2, .ref g3]))] := hD
  rcases hal_11 with ha_14 | ⟨x_15, ha_16, hb_17, hb_18, hb_19⟩
  ·
    subst ha_14
    refine lv_if_eq (tgt := 16) E.1 E.2.1 d_Globals_origin_5 (by decide) (fun _ => ?_) (fun hc => absurd (by decide) hc)
    refine lv_iconst (v := 0) E.1 E.2.1 d_Globals_origin_16 (by decide) ?_
    refine W.widen (k := 0) (n := 0) (by decide) (by decide) ?_
    exact x_iret (ws := [(h0, .inr (5, [.int (nI cn), .int (nI im), .ref g0, .ref g1, .ref g2, .ref g3])), (g0, .inl (cI, 30, .inl vg0)), (g1, .inl (cZ, 30, .inl vg1)), (g2, .inl (cI, 30, .inl vg2)), (g3, .inl (cJ, 30, .inr (.inl vg3)))]) E hr hlocks (hP.sub [4, 0, 1, 2, 3] rfl) (hD.sub [4, 0, 1, 2, 3] (by decide) rfl) hS rfl d_Globals_origin_17
  ·
    subst ha_16
    subst hb_17
    refine lv_if_eq (tgt := 16) E.1 E.2.1 d_Globals_origin_5 (by decide) (fun hc => absurd hc (by decide)) (fun _ => ?_)
    refine lv_iload_n E.1 E.2.1 d_Globals_origin_8 rfl (lv_at hl 1 rfl) ?_
    refine lv_aload_n E.1 E.2.1 d_Globals_origin_9 rfl (lv_at hl 0 rfl) ?_
    refine x_get E hP (C := "WasmReader$Globals") (T := T_Globals) (N := 6) (ci := 5) 4 (v := .int (nI im)) 1 in_Globals rfl rfl (by decide) m_271 rfl d_Globals_origin_10 ?_
    refine lv_icmp_ge (tgt := 18) E.1 E.2.1 d_Globals_origin_13 (by decide) (fun hc_20 => ?_) (fun hc_20 => ?_)
    ·
      have hc_20 : im ≤ x_15 := (nI_leI (a := im) (b := x_15) (by omega) (by omega)).mp hc_20
      refine lv_aload_n E.1 E.2.1 d_Globals_origin_18 rfl (lv_at hl 0 rfl) ?_
      refine x_get E hP (C := "WasmReader$Globals") (T := T_Globals) (N := 6) (ci := 5) 4 (v := .ref g2) 4 in_Globals rfl rfl (by decide) m_20 rfl d_Globals_origin_19 ?_
      refine lv_iload_n E.1 E.2.1 d_Globals_origin_22 rfl (lv_at hl 1 rfl) ?_
      refine va_iald E.1 E.2.1 E.2.2.2.2.2 hP 2 1 rfl rfl (i := nI x_15) (vp_in_nI (n := x_15) (by omega) (by decide)) d_Globals_origin_23 ?_
      refine lv_topi (fun v_21 ev_21 => ?_)
      refine lv_bipush (v := 35) E.1 E.2.1 d_Globals_origin_24 (by decide) ?_
      refine lv_icmp_ne (tgt := 33) E.1 E.2.1 d_Globals_origin_26 (by decide) (fun hc_22 => ?_) (fun hc_22 => ?_)
      ·
        refine lv_iconst (v := 1) E.1 E.2.1 d_Globals_origin_33 (by decide) ?_
        refine W.widen (k := 0) (n := 0) (by decide) (by decide) ?_
        exact x_iret (ws := [(h0, .inr (5, [.int (nI cn), .int (nI im), .ref g0, .ref g1, .ref g2, .ref g3])), (g0, .inl (cI, 30, .inl vg0)), (g1, .inl (cZ, 30, .inl vg1)), (g2, .inl (cI, 30, .inl vg2)), (g3, .inl (cJ, 30, .inr (.inl vg3)))]) E hr hlocks (hP.sub [4, 0, 1, 2, 3] rfl) (hD.sub [4, 0, 1, 2, 3] (by decide) rfl) hS rfl d_Globals_origin_34
      ·
        refine lv_iconst (v := 2) E.1 E.2.1 d_Globals_origin_29 (by decide) ?_
        refine lv_goto (tgt := 34) E.1 E.2.1 d_Globals_origin_30 (by decide) ?_
        refine W.widen (k := 0) (n := 0) (by decide) (by decide) ?_
        exact x_iret (ws := [(h0, .inr (5, [.int (nI cn), .int (nI im), .ref g0, .ref g1, .ref g2, .ref g3])), (g0, .inl (cI, 30, .inl vg0)), (g1, .inl (cZ, 30, .inl vg1)), (g2, .inl (cI, 30, .inl vg2)), (g3, .inl (cJ, 30, .inr (.inl vg3)))]) E hr hlocks (hP.sub [4, 0, 1, 2, 3] rfl) (hD.sub [4, 0, 1, 2, 3] (by decide) rfl) hS rfl d_Globals_origin_34
    ·
      have hc_20 : ¬ (im ≤ x_15) := fun hq_ => hc_20 ((nI_leI (a := im) (b := x_15) (by omega) (by omega)).mpr hq_)
      refine lv_iconst (v := 0) E.1 E.2.1 d_Globals_origin_16 (by decide) ?_
      refine W.widen (k := 0) (n := 0) (by decide) (by decide) ?_
      exact x_iret (ws := [(h0, .inr (5, [.int (nI cn), .int (nI im), .ref g0, .ref g1, .ref g2, .ref g3])), (g0, .inl (cI, 30, .inl vg0)), (g1, .inl (cZ, 30, .inl vg1)), (g2, .inl (cI, 30, .inl vg2)), (g3, .inl (cJ, 30, .inr (.inl vg3)))]) E hr hlocks (hP.sub [4, 0, 1, 2, 3] rfl) (hD.sub [4, 0, 1, 2, 3] (by decide) rfl) hS rfl d_Globals_origin_17
set_option maxHeartbeats 4000000 in
set_option maxRecDepth 100000 in
theorem c_Exports_add (l : Launch) (D : va_G) (cB cI cJ cZ : ClassId) (sz : Nat) (h0 : Nat) (cn : Nat) (e0 : Nat) (e1 : Nat) (e2 : Nat) (e3 : Nat) (ve0 : Nat → Int32) (ve1 : Nat → Int32) (ve2 : Nat → Int32) (ve3 : Nat → Int32) (y1 : Int32) (y2 : Int32) (hc : cn ≤ 20000000) : Met l y_Exports_add (Cond.code y_Exports_add prog_3_method_3_code 3 none :: xtb) ({ frames := 0, cells := 0, slots := 0, locals := 0 }) (xP D [(cB, .byte), (cI, .int), (cJ, .long), (cZ, .boolean)] [.ref h0, .int y1, .int y2] [(h0, .inr (6, [.int (nI cn), .ref e0, .ref e1, .ref e2, .ref e3])), (e0, .inl (cI, 40, .inl ve0)), (e1, .inl (cI, 40, .inl ve1)), (e2, .inl (cI, 40, .inl ve2)), (e3, .inl (cB, 800, .inl ve3))] sz) (xQv D [(cB, .byte), (cI, .int), (cJ, .long), (cZ, .boolean)] [(h0, .inr (6, [.int (nI cn), .ref e0, .ref e1, .ref e2, .ref e3])), (e0, .inl (cI, 40, .inl ve0)), (e1, .inl (cI, 40, .inl ve1)), (e2, .inl (cI, 40, .inl ve2)), (e3, .inl (cB, 800, .inl ve3))] sz (fun u => ∃ (ue0 : Nat → Int32), ∃ (ue1 : Nat → Int32), ∃ (ue2 : Nat → Int32), ∃ (ue3 : Nat → Int32), u = [(h0, .inr (6, [.int (nI (cn + 1)), .ref e0, .ref e1, .ref e2, .ref e3])), (e0, .inl (cI, 40, .inl ue0)), (e1, .inl (cI, 40, .inl ue1)), (e2, .inl (cI, 40, .inl ue2)), (e3, .inl (cB, 800, .inl ue3))])) 0 0 (va_A [(h0, .inr (6, [.int (nI cn), .ref e0, .ref e1, .ref e2, .ref e3])), (e0, .inl (cI, 40, .inl ve0)), (e1, .inl (cI, 40, .inl ve1)), (e2, .inl (cI, 40, .inl ve2)), (e3, .inl (cB, 800, .inl ve3))] sz) := by
  refine x_met (Qc := fun s => xQv D [(cB, .byte), (cI, .int), (cJ, .long), (cZ, .boolean)] [(h0, .inr (6, [.int (nI cn), .ref e0, .ref e1, .ref e2, .ref e3])), (e0, .inl (cI, 40, .inl ve0)), (e1, .inl (cI, 40, .inl ve1)), (e2, .inl (cI, 40, .inl ve2)), (e3, .inl (cB, 800, .inl ve3))] s.heap.size (fun u => ∃ (ue0 : Nat → Int32), ∃ (ue1 : Nat → Int32), ∃ (ue2 : Nat → Int32), ∃ (ue3 : Nat → Int32), u = [(h0, .inr (6, [.int (nI (cn + 1)), .ref e0, .ref e1, .ref e2, .ref e3])), (e0, .inl (cI, 40, .inl ue0)), (e1, .inl (cI, 40, .inl ue1)), (e2, .inl (cI, 40, .inl ue2)), (e3, .inl (cB, 800, .inl ue3))])) (fr := fun s => va_A [(h0, .inr (6, [.int (nI cn), .ref e0, .ref e1, .ref e2, .ref e3])), (e0, .inl (cI, 40, .inl ve0)), (e1, .inl (cI, 40, .inl ve1)), (e2, .inl (cI, 40, .inl ve2)), (e3, .inl (cB, 800, .inl ve3))] s.heap.size) "WasmReader$Exports" (by decide +kernel) rfl (Nat.le_of_ble_eq_true rfl) (fun s h => by rw [h]) (fun s h => by rw [h]) ?_
  intro p e s m below meth c ls E hr hlocks hinit hl hP hD hA hS hZ hadm
  have hl : lv_has ls 3 [(0, .ref h0), (1, .int y1), (2, .int y2)] := hl
  refine lv_aload_n E.1 E.2.1 d_Exports_add_0 rfl (lv_at hl 0 rfl) ?_
  refine x_get E hP (C := "WasmReader$Exports") (T := T_Exports) (N := 5) (ci := 6) 0 (v := .int (nI cn)) 0 in_Exports rfl rfl (by decide) m_272 rfl d_Exports_add_1 ?_
  refine lv_bipush (v := 40) E.1 E.2.1 d_Exports_add_4 (by decide) ?_
  refine lv_icmp_ge (tgt := 29) E.1 E.2.1 d_Exports_add_6 (by decide) (fun hc_1 => ?_) (fun hc_1 => ?_)
  ·
    have hc_1 : 40 ≤ cn := (nI_leI (a := 40) (b := cn) (by omega) (by omega)).mp hc_1
    refine lv_aload_n E.1 E.2.1 d_Exports_add_29 rfl (lv_at hl 0 rfl) ?_
    refine lv_dup E.1 E.2.1 d_Exports_add_30 rfl ?_
    refine x_get E hP (C := "WasmReader$Exports") (T := T_Exports) (N := 5) (ci := 6) 0 (v := .int (nI cn)) 0 in_Exports rfl rfl (by decide) m_272 rfl d_Exports_add_31 ?_
    refine lv_iconst (v := 1) E.1 E.2.1 d_Exports_add_34 (by decide) ?_
    refine lv_iadd E.1 E.2.1 d_Exports_add_35 ?_
    refine lv_topi (fun vt_2 evt_2 => ?_)
    obtain rfl : vt_2 = nI (cn + 1) := evt_2.trans (nI_add cn 1)
    refine x_put E hP hD hS (C := "WasmReader$Exports") (T := T_Exports) (N := 5) (ci := 6) 0 (v := .int (nI (cn + 1))) 0 (t0 := t_Exports) (tk := .int) in_Exports tok_Exports nok_Exports rfl rfl (by decide) m_272 rfl rfl rfl rfl (Nat.le_of_ble_eq_true rfl) d_Exports_add_36 (fun H locs hP hD hS => ?_)
    have hP : va_P D classes [(h0, .inr (6, [.int (nI (cn + 1)), .ref e0, .ref e1, .ref e2, .ref e3])), (e0, .inl (cI, 40, .inl ve0)), (e1, .inl (cI, 40, .inl ve1)), (e2, .inl (cI, 40, .inl ve2)), (e3, .inl (cB, 800, .inl ve3))] H := hP
    have hD : va_D (va_A [(h0, .inr (6, [.int (nI cn), .ref e0, .ref e1, .ref e2, .ref e3])), (e0, .inl (cI, 40, .inl ve0)), (e1, .inl (cI, 40, .inl ve1)), (e2, .inl (cI, 40, .inl ve2)), (e3, .inl (cB, 800, .inl ve3))] s.heap.size) [(h0, .inr (6, [.int (nI (cn + 1)), .ref e0, .ref e1, .ref e2, .ref e3])), (e0, .inl (cI, 40, .inl ve0)), (e1, .inl (cI, 40, .inl ve1)), (e2, .inl (cI, 40, .inl ve2)), (e3, .inl (cB, 800, .inl ve3))] := hD
    refine W.widen (k := 0) (n := 0) (by decide) (by decide) ?_
    exact x_vret (ws := [(h0, .inr (6, [.int (nI (cn + 1)), .ref e0, .ref e1, .ref e2, .ref e3])), (e0, .inl (cI, 40, .inl ve0)), (e1, .inl (cI, 40, .inl ve1)), (e2, .inl (cI, 40, .inl ve2)), (e3, .inl (cB, 800, .inl ve3))]) E hr hlocks (hP.sub [0, 1, 2, 3, 4] rfl) (hD.sub [0, 1, 2, 3, 4] (by decide) rfl) hS ⟨ve0, ve1, ve2, ve3, rfl⟩ d_Exports_add_39
  ·
    have hc_1 : ¬ (40 ≤ cn) := fun hq_ => hc_1 ((nI_leI (a := 40) (b := cn) (by omega) (by omega)).mpr hq_)
    refine lv_aload_n E.1 E.2.1 d_Exports_add_9 rfl (lv_at hl 0 rfl) ?_
    refine x_get E hP (C := "WasmReader$Exports") (T := T_Exports) (N := 5) (ci := 6) 0 (v := .ref e0) 1 in_Exports rfl rfl (by decide) m_25 rfl d_Exports_add_10 ?_
    refine lv_aload_n E.1 E.2.1 d_Exports_add_13 rfl (lv_at hl 0 rfl) ?_
    refine x_get E hP (C := "WasmReader$Exports") (T := T_Exports) (N := 5) (ci := 6) 0 (v := .int (nI cn)) 0 in_Exports rfl rfl (by decide) m_272 rfl d_Exports_add_14 ?_
    refine lv_iload_n E.1 E.2.1 d_Exports_add_17 rfl (lv_at hl 1 rfl) ?_
    refine va_iast E.1 E.2.1 E.2.2.2.2.2 hP hD hS 1 1 rfl rfl (i := nI cn) (x := y1) (vp_in_nI (n := cn) (by omega) (by decide)) d_Exports_add_18 (fun H locs hP hD hS => ?_)
    generalize upd ve0 (Int32.toNatClampNeg (nI cn)) y1 = g_3 at hP hD
    have hP : va_P D classes [(h0, .inr (6, [.int (nI cn), .ref e0, .ref e1, .ref e2, .ref e3])), (e0, .inl (cI, 40, .inl g_3)), (e1, .inl (cI, 40, .inl ve1)), (e2, .inl (cI, 40, .inl ve2)), (e3, .inl (cB, 800, .inl ve3))] H := hP
    have hD : va_D (va_A [(h0, .inr (6, [.int (nI cn), .ref e0, .ref e1, .ref e2, .ref e3])), (e0, .inl (cI, 40, .inl ve0)), (e1, .inl (cI, 40, .inl ve1)), (e2, .inl (cI, 40, .inl ve2)), (e3, .inl (cB, 800, .inl ve3))] s.heap.size) [(h0, .inr (6, [.int (nI cn), .ref e0, .ref e1, .ref e2, .ref e3])), (e0, .inl (cI, 40, .inl g_3)), (e1, .inl (cI, 40, .inl ve1)), (e2, .inl (cI, 40, .inl ve2)), (e3, .inl (cB, 800, .inl ve3))] := hD
    refine lv_aload_n E.1 E.2.1 d_Exports_add_19 rfl (lv_at hl 0 rfl) ?_
    refine x_get E hP (C := "WasmReader$Exports") (T := T_Exports) (N := 5) (ci := 6) 0 (v := .ref e1) 2 in_Exports rfl rfl (by decide) m_26 rfl d_Exports_add_20 ?_
    refine lv_aload_n E.1 E.2.1 d_Exports_add_23 rfl (lv_at hl 0 rfl) ?_
    refine x_get E hP (C := "WasmReader$Exports") (T := T_Exports) (N := 5) (ci := 6) 0 (v := .int (nI cn)) 0 in_Exports rfl rfl (by decide) m_272 rfl d_Exports_add_24 ?_
    refine lv_iload_n E.1 E.2.1 d_Exports_add_27 rfl (lv_at hl 2 rfl) ?_
    refine va_iast E.1 E.2.1 E.2.2.2.2.2 hP hD hS 2 1 rfl rfl (i := nI cn) (x := y2) (vp_in_nI (n := cn) (by omega) (by decide)) d_Exports_add_28 (fun H locs hP hD hS => ?_)
    generalize upd ve1 (Int32.toNatClampNeg (nI cn)) y2 = g_4 at hP hD
    have hP : va_P D classes [(h0, .inr (6, [.int (nI cn), .ref e0, .ref e1, .ref e2, .ref e3])), (e0, .inl (cI, 40, .inl g_3)), (e1, .inl (cI, 40, .inl g_4)), (e2, .inl (cI, 40, .inl ve2)), (e3, .inl (cB, 800, .inl ve3))] H := hP
    have hD : va_D (va_A [(h0, .inr (6, [.int (nI cn), .ref e0, .ref e1, .ref e2, .ref e3])), (e0, .inl (cI, 40, .inl ve0)), (e1, .inl (cI, 40, .inl ve1)), (e2, .inl (cI, 40, .inl ve2)), (e3, .inl (cB, 800, .inl ve3))] s.heap.size) [(h0, .inr (6, [.int (nI cn), .ref e0, .ref e1, .ref e2, .ref e3])), (e0, .inl (cI, 40, .inl g_3)), (e1, .inl (cI, 40, .inl g_4)), (e2, .inl (cI, 40, .inl ve2)), (e3, .inl (cB, 800, .inl ve3))] := hD
    refine lv_aload_n E.1 E.2.1 d_Exports_add_29 rfl (lv_at hl 0 rfl) ?_
    refine lv_dup E.1 E.2.1 d_Exports_add_30 rfl ?_
    refine x_get E hP (C := "WasmReader$Exports") (T := T_Exports) (N := 5) (ci := 6) 0 (v := .int (nI cn)) 0 in_Exports rfl rfl (by decide) m_272 rfl d_Exports_add_31 ?_
    refine lv_iconst (v := 1) E.1 E.2.1 d_Exports_add_34 (by decide) ?_
    refine lv_iadd E.1 E.2.1 d_Exports_add_35 ?_
    refine lv_topi (fun vt_5 evt_5 => ?_)
    obtain rfl : vt_5 = nI (cn + 1) := evt_5.trans (nI_add cn 1)
    refine x_put E hP hD hS (C := "WasmReader$Exports") (T := T_Exports) (N := 5) (ci := 6) 0 (v := .int (nI (cn + 1))) 0 (t0 := t_Exports) (tk := .int) in_Exports tok_Exports nok_Exports rfl rfl (by decide) m_272 rfl rfl rfl rfl (Nat.le_of_ble_eq_true rfl) d_Exports_add_36 (fun H locs hP hD hS => ?_)
    have hP : va_P D classes [(h0, .inr (6, [.int (nI (cn + 1)), .ref e0, .ref e1, .ref e2, .ref e3])), (e0, .inl (cI, 40, .inl g_3)), (e1, .inl (cI, 40, .inl g_4)), (e2, .inl (cI, 40, .inl ve2)), (e3, .inl (cB, 800, .inl ve3))] H := hP
    have hD : va_D (va_A [(h0, .inr (6, [.int (nI cn), .ref e0, .ref e1, .ref e2, .ref e3])), (e0, .inl (cI, 40, .inl ve0)), (e1, .inl (cI, 40, .inl ve1)), (e2, .inl (cI, 40, .inl ve2)), (e3, .inl (cB, 800, .inl ve3))] s.heap.size) [(h0, .inr (6, [.int (nI (cn + 1)), .ref e0, .ref e1, .ref e2, .ref e3])), (e0, .inl (cI, 40, .inl g_3)), (e1, .inl (cI, 40, .inl g_4)), (e2, .inl (cI, 40, .inl ve2)), (e3, .inl (cB, 800, .inl ve3))] := hD
    refine W.widen (k := 0) (n := 0) (by decide) (by decide) ?_
    exact x_vret (ws := [(h0, .inr (6, [.int (nI (cn + 1)), .ref e0, .ref e1, .ref e2, .ref e3])), (e0, .inl (cI, 40, .inl g_3)), (e1, .inl (cI, 40, .inl g_4)), (e2, .inl (cI, 40, .inl ve2)), (e3, .inl (cB, 800, .inl ve3))]) E hr hlocks (hP.sub [0, 1, 2, 3, 4] rfl) (hD.sub [0, 1, 2, 3, 4] (by decide) rfl) hS ⟨g_3, g_4, ve2, ve3, rfl⟩ d_Exports_add_39
set_option maxHeartbeats 4000000 in
set_option maxRecDepth 100000 in
theorem c_Exports_has (l : Launch) (D : va_G) (cB cI cJ cZ : ClassId) (sz : Nat) (h0 : Nat) (cn : Nat) (e0 : Nat) (e1 : Nat) (e2 : Nat) (e3 : Nat) (x : Nat) (hc : cn ≤ 20000000) (hx : x < 2 ^ 31) : Met l y_Exports_has (Cond.code y_Exports_has prog_3_method_4_code 2 (some .boolean) :: xtb) ({ frames := 0, cells := 0, slots := 0, locals := 0 }) (xP D [(cB, .byte), (cI, .int), (cJ, .long), (cZ, .boolean)] [.ref h0, .int (nI x)] [(h0, .inr (6, [.int (nI cn), .ref e0, .ref e1, .ref e2, .ref e3]))] sz) (xQi D [(cB, .byte), (cI, .int), (cJ, .long), (cZ, .boolean)] [(h0, .inr (6, [.int (nI cn), .ref e0, .ref e1, .ref e2, .ref e3]))] sz (fun r u => ((r = 0) ∨ (r = 1 ∧ (x < cn) ∧ (x < 40))) ∧ u = [(h0, .inr (6, [.int (nI cn), .ref e0, .ref e1, .ref e2, .ref e3]))])) 0 0 (va_A [(h0, .inr (6, [.int (nI cn), .ref e0, .ref e1, .ref e2, .ref e3]))] sz) := by
  refine x_met (Qc := fun s => xQi D [(cB, .byte), (cI, .int), (cJ, .long), (cZ, .boolean)] [(h0, .inr (6, [.int (nI cn), .ref e0, .ref e1, .ref e2, .ref e3]))] s.heap.size (fun r u => ((r = 0) ∨ (r = 1 ∧ (x < cn) ∧ (x < 40))) ∧ u = [(h0, .inr (6, [.int (nI cn), .ref e0, .ref e1, .ref e2, .ref e3]))])) (fr := fun s => va_A [(h0, .inr (6, [.int (nI cn), .ref e0, .ref e1, .ref e2, .ref e3]))] s.heap.size) "WasmReader$Exports" (by decide +kernel) rfl (Nat.le_of_ble_eq_true rfl) (fun s h => by rw [h]) (fun s h => by rw [h]) ?_
  intro p e s m below meth c ls E hr hlocks hinit hl hP hD hA hS hZ hadm
  have hl : lv_has ls 2 [(0, .ref h0), (1, .int (nI x))] := hl
  refine lv_iload_n E.1 E.2.1 d_Exports_has_0 rfl (lv_at hl 1 rfl) ?_
  refine lv_if_lt (tgt := 22) E.1 E.2.1 d_Exports_has_1 (by decide) (fun hc => absurd hc (nI_pos (n := x) (by omega))) (fun _ => ?_)
  refine lv_iload_n E.1 E.2.1 d_Exports_has_4 rfl (lv_at hl 1 rfl) ?_
  refine lv_aload_n E.1 E.2.1 d_Exports_has_5 rfl (lv_at hl 0 rfl) ?_
  refine x_get E hP (C := "WasmReader$Exports") (T := T_Exports) (N := 5) (ci := 6) 0 (v := .int (nI cn)) 0 in_Exports rfl rfl (by decide) m_272 rfl d_Exports_has_6 ?_
  refine lv_icmp_ge (tgt := 22) E.1 E.2.1 d_Exports_has_9 (by decide) (fun hc_1 => ?_) (fun hc_1 => ?_)
  ·
    have hc_1 : cn ≤ x := (nI_leI (a := cn) (b := x) (by omega) (by omega)).mp hc_1
    refine lv_iconst (v := 0) E.1 E.2.1 d_Exports_has_22 (by decide) ?_
    refine W.widen (k := 0) (n := 0) (by decide) (by decide) ?_
    exact x_zret (ws := [(h0, .inr (6, [.int (nI cn), .ref e0, .ref e1, .ref e2, .ref e3]))]) E hr (by decide) hlocks (hP.sub [0] rfl) (hD.sub [0] (by decide) rfl) hS ⟨(Or.inl rfl), rfl⟩ d_Exports_has_23
  ·
    have hc_1 : ¬ (cn ≤ x) := fun hq_ => hc_1 ((nI_leI (a := cn) (b := x) (by omega) (by omega)).mpr hq_)
    refine lv_iload_n E.1 E.2.1 d_Exports_has_12 rfl (lv_at hl 1 rfl) ?_
    refine lv_bipush (v := 40) E.1 E.2.1 d_Exports_has_13 (by decide) ?_
    refine lv_icmp_ge (tgt := 22) E.1 E.2.1 d_Exports_has_15 (by decide) (fun hc_2 => ?_) (fun hc_2 => ?_)
    ·
      have hc_2 : 40 ≤ x := (nI_leI (a := 40) (b := x) (by omega) (by omega)).mp hc_2
      refine lv_iconst (v := 0) E.1 E.2.1 d_Exports_has_22 (by decide) ?_
      refine W.widen (k := 0) (n := 0) (by decide) (by decide) ?_
      exact x_zret (ws := [(h0, .inr (6, [.int (nI cn), .ref e0, .ref e1, .ref e2, .ref e3]))]) E hr (by decide) hlocks (hP.sub [0] rfl) (hD.sub [0] (by decide) rfl) hS ⟨(Or.inl rfl), rfl⟩ d_Exports_has_23
    ·
      have hc_2 : ¬ (40 ≤ x) := fun hq_ => hc_2 ((nI_leI (a := 40) (b := x) (by omega) (by omega)).mpr hq_)
      refine lv_iconst (v := 1) E.1 E.2.1 d_Exports_has_18 (by decide) ?_
      refine lv_goto (tgt := 23) E.1 E.2.1 d_Exports_has_19 (by decide) ?_
      refine W.widen (k := 0) (n := 0) (by decide) (by decide) ?_
      exact x_zret (ws := [(h0, .inr (6, [.int (nI cn), .ref e0, .ref e1, .ref e2, .ref e3]))]) E hr (by decide) hlocks (hP.sub [0] rfl) (hD.sub [0] (by decide) rfl) hS ⟨(Or.inr (⟨rfl, (by omega), (by omega)⟩)), rfl⟩ d_Exports_has_23
set_option maxHeartbeats 4000000 in
set_option maxRecDepth 100000 in
theorem c_Exports_hasr (l : Launch) (D : va_G) (cB cI cJ cZ : ClassId) (sz : Nat) (h0 : Nat) (cn : Nat) (e0 : Nat) (e1 : Nat) (e2 : Nat) (e3 : Nat) (t : Int32) (hc : cn ≤ 20000000) : Met l y_Exports_has (Cond.code y_Exports_has prog_3_method_4_code 2 (some .boolean) :: xtb) ({ frames := 0, cells := 0, slots := 0, locals := 0 }) (xP D [(cB, .byte), (cI, .int), (cJ, .long), (cZ, .boolean)] [.ref h0, .int t] [(h0, .inr (6, [.int (nI cn), .ref e0, .ref e1, .ref e2, .ref e3]))] sz) (xQi D [(cB, .byte), (cI, .int), (cJ, .long), (cZ, .boolean)] [(h0, .inr (6, [.int (nI cn), .ref e0, .ref e1, .ref e2, .ref e3]))] sz (fun r u => ((r = 0) ∨ (∃ (x : Nat), r = 1 ∧ (t = nI x) ∧ (x < cn) ∧ (x < 40))) ∧ u = [(h0, .inr (6, [.int (nI cn), .ref e0, .ref e1, .ref e2, .ref e3]))])) 0 0 (va_A [(h0, .inr (6, [.int (nI cn), .ref e0, .ref e1, .ref e2, .ref e3]))] sz) := by
  refine x_met (Qc := fun s => xQi D [(cB, .byte), (cI, .int), (cJ, .long), (cZ, .boolean)] [(h0, .inr (6, [.int (nI cn), .ref e0, .ref e1, .ref e2, .ref e3]))] s.heap.size (fun r u => ((r = 0) ∨ (∃ (x : Nat), r = 1 ∧ (t = nI x) ∧ (x < cn) ∧ (x < 40))) ∧ u = [(h0, .inr (6, [.int (nI cn), .ref e0, .ref e1, .ref e2, .ref e3]))])) (fr := fun s => va_A [(h0, .inr (6, [.int (nI cn), .ref e0, .ref e1, .ref e2, .ref e3]))] s.heap.size) "WasmReader$Exports" (by decide +kernel) rfl (Nat.le_of_ble_eq_true rfl) (fun s h => by rw [h]) (fun s h => by rw [h]) ?_
  intro p e s m below meth c ls E hr hlocks hinit hl hP hD hA hS hZ hadm
  have hl : lv_has ls 2 [(0, .ref h0), (1, .int t)] := hl
  refine lv_iload_n E.1 E.2.1 d_Exports_has_0 rfl (lv_at hl 1 rfl) ?_
  refine lv_if_lt (tgt := 22) E.1 E.2.1 d_Exports_has_1 (by decide) (fun hc_3 => ?_) (fun hc_3 => ?_)
  ·
    refine lv_iconst (v := 0) E.1 E.2.1 d_Exports_has_22 (by decide) ?_
    refine W.widen (k := 0) (n := 0) (by decide) (by decide) ?_
    exact x_zret (ws := [(h0, .inr (6, [.int (nI cn), .ref e0, .ref e1, .ref e2, .ref e3]))]) E hr (by decide) hlocks (hP.sub [0] rfl) (hD.sub [0] (by decide) rfl) hS ⟨(Or.inl rfl), rfl⟩ d_Exports_has_23
  ·
    obtain ⟨jv, hjv, ejv⟩ := nI_of hc_3
    subst ejv
    refine lv_iload_n E.1 E.2.1 d_Exports_has_4 rfl (lv_at hl 1 rfl) ?_
    refine lv_aload_n E.1 E.2.1 d_Exports_has_5 rfl (lv_at hl 0 rfl) ?_
    refine x_get E hP (C := "WasmReader$Exports") (T := T_Exports) (N := 5) (ci := 6) 0 (v := .int (nI cn)) 0 in_Exports rfl rfl (by decide) m_272 rfl d_Exports_has_6 ?_
    refine lv_icmp_ge (tgt := 22) E.1 E.2.1 d_Exports_has_9 (by decide) (fun hc_4 => ?_) (fun hc_4 => ?_)
    ·
      have hc_4 : cn ≤ jv := (nI_leI (a := cn) (b := jv) (by omega) (by omega)).mp hc_4
      refine lv_iconst (v := 0) E.1 E.2.1 d_Exports_has_22 (by decide) ?_
      refine W.widen (k := 0) (n := 0) (by decide) (by decide) ?_
      exact x_zret (ws := [(h0, .inr (6, [.int (nI cn), .ref e0, .ref e1, .ref e2, .ref e3]))]) E hr (by decide) hlocks (hP.sub [0] rfl) (hD.sub [0] (by decide) rfl) hS ⟨(Or.inl rfl), rfl⟩ d_Exports_has_23
    ·
      have hc_4 : ¬ (cn ≤ jv) := fun hq_ => hc_4 ((nI_leI (a := cn) (b := jv) (by omega) (by omega)).mpr hq_)
      refine lv_iload_n E.1 E.2.1 d_Exports_has_12 rfl (lv_at hl 1 rfl) ?_
      refine lv_bipush (v := 40) E.1 E.2.1 d_Exports_has_13 (by decide) ?_
      refine lv_icmp_ge (tgt := 22) E.1 E.2.1 d_Exports_has_15 (by decide) (fun hc_5 => ?_) (fun hc_5 => ?_)
      ·
        have hc_5 : 40 ≤ jv := (nI_leI (a := 40) (b := jv) (by omega) (by omega)).mp hc_5
        refine lv_iconst (v := 0) E.1 E.2.1 d_Exports_has_22 (by decide) ?_
        refine W.widen (k := 0) (n := 0) (by decide) (by decide) ?_
        exact x_zret (ws := [(h0, .inr (6, [.int (nI cn), .ref e0, .ref e1, .ref e2, .ref e3]))]) E hr (by decide) hlocks (hP.sub [0] rfl) (hD.sub [0] (by decide) rfl) hS ⟨(Or.inl rfl), rfl⟩ d_Exports_has_23
      ·
        have hc_5 : ¬ (40 ≤ jv) := fun hq_ => hc_5 ((nI_leI (a := 40) (b := jv) (by omega) (by omega)).mpr hq_)
        refine lv_iconst (v := 1) E.1 E.2.1 d_Exports_has_18 (by decide) ?_
        refine lv_goto (tgt := 23) E.1 E.2.1 d_Exports_has_19 (by decide) ?_
        refine W.widen (k := 0) (n := 0) (by decide) (by decide) ?_
        exact x_zret (ws := [(h0, .inr (6, [.int (nI cn), .ref e0, .ref e1, .ref e2, .ref e3]))]) E hr (by decide) hlocks (hP.sub [0] rfl) (hD.sub [0] (by decide) rfl) hS ⟨(Or.inr (⟨jv, rfl, rfl, (by omega), (by omega)⟩)), rfl⟩ d_Exports_has_23
set_option maxHeartbeats 4000000 in
set_option maxRecDepth 100000 in
theorem c_Segments_add (l : Launch) (D : va_G) (cB cI cJ cZ : ClassId) (sz : Nat) (h0 : Nat) (cn : Nat) (s0 : Nat) (s1 : Nat) (s2 : Nat) (s3 : Nat) (vs0 : Nat → Int32) (vs1 : Nat → Int32) (vs2 : Nat → Int64) (vs3 : Nat → Int32) (y1 : Int32) (y2 : Int32) (y3 : Int64) (y4 : Int32) (hc : cn ≤ 20000000) : Met l y_Segments_add (Cond.code y_Segments_add prog_7_method_2_code 6 none :: xtb) ({ frames := 0, cells := 0, slots := 0, locals := 0 }) (xP D [(cB, .byte), (cI, .int), (cJ, .long), (cZ, .boolean)] [.ref h0, .int y1, .int y2, .long y3, .int y4] [(h0, .inr (7, [.int (nI cn), .ref s0, .ref s1, .ref s2, .ref s3])), (s0, .inl (cI, 20, .inl vs0)), (s1, .inl (cI, 20, .inl vs1)), (s2, .inl (cJ, 20, .inr (.inl vs2))), (s3, .inl (cI, 20, .inl vs3))] sz) (xQv D [(cB, .byte), (cI, .int), (cJ, .long), (cZ, .boolean)] [(h0, .inr (7, [.int (nI cn), .ref s0, .ref s1, .ref s2, .ref s3])), (s0, .inl (cI, 20, .inl vs0)), (s1, .inl (cI, 20, .inl vs1)), (s2, .inl (cJ, 20, .inr (.inl vs2))), (s3, .inl (cI, 20, .inl vs3))] sz (fun u => ∃ (us0 : Nat → Int32), ∃ (us1 : Nat → Int32), ∃ (us2 : Nat → Int64), ∃ (us3 : Nat → Int32), u = [(h0, .inr (7, [.int (nI (cn + 1)), .ref s0, .ref s1, .ref s2, .ref s3])), (s0, .inl (cI, 20, .inl us0)), (s1, .inl (cI, 20, .inl us1)), (s2, .inl (cJ, 20, .inr (.inl us2))), (s3, .inl (cI, 20, .inl us3))])) 0 0 (va_A [(h0, .inr (7, [.int (nI cn), .ref s0, .ref s1, .ref s2, .ref s3])), (s0, .inl (cI, 20, .inl vs0)), (s1, .inl (cI, 20, .inl vs1)), (s2, .inl (cJ, 20, .inr (.inl vs2))), (s3, .inl (cI, 20, .inl vs3))] sz) := by
  refine x_met (Qc := fun s => xQv D [(cB, .byte), (cI, .int), (cJ, .long), (cZ, .boolean)] [(h0, .inr (7, [.int (nI cn), .ref s0, .ref s1, .ref s2, .ref s3])), (s0, .inl (cI, 20, .inl vs0)), (s1, .inl (cI, 20, .inl vs1)), (s2, .inl (cJ, 20, .inr (.inl vs2))), (s3, .inl (cI, 20, .inl vs3))] s.heap.size (fun u => ∃ (us0 : Nat → Int32), ∃ (us1 : Nat → Int32), ∃ (us2 : Nat → Int64), ∃ (us3 : Nat → Int32), u = [(h0, .inr (7, [.int (nI (cn + 1)), .ref s0, .ref s1, .ref s2, .ref s3])), (s0, .inl (cI, 20, .inl us0)), (s1, .inl (cI, 20, .inl us1)), (s2, .inl (cJ, 20, .inr (.inl us2))), (s3, .inl (cI, 20, .inl us3))])) (fr := fun s => va_A [(h0, .inr (7, [.int (nI cn), .ref s0, .ref s1, .ref s2, .ref s3])), (s0, .inl (cI, 20, .inl vs0)), (s1, .inl (cI, 20, .inl vs1)), (s2, .inl (cJ, 20, .inr (.inl vs2))), (s3, .inl (cI, 20, .inl vs3))] s.heap.size) "WasmReader$Segments" (by decide +kernel) rfl (Nat.le_of_ble_eq_true rfl) (fun s h => by rw [h]) (fun s h => by rw [h]) ?_
  intro p e s m below meth c ls E hr hlocks hinit hl hP hD hA hS hZ hadm
  have hl : lv_has ls 6 [(0, .ref h0), (1, .int y1), (2, .int y2), (3, .long y3), (5, .int y4)] := hl
  refine lv_aload_n E.1 E.2.1 d_Segments_add_0 rfl (lv_at hl 0 rfl) ?_
  refine x_get E hP (C := "WasmReader$Segments") (T := T_Segments) (N := 5) (ci := 7) 0 (v := .int (nI cn)) 0 in_Segments rfl rfl (by decide) m_273 rfl d_Segments_add_1 ?_
  refine lv_bipush (v := 20) E.1 E.2.1 d_Segments_add_4 (by decide) ?_
  refine lv_icmp_ge (tgt := 50) E.1 E.2.1 d_Segments_add_6 (by decide) (fun hc_1 => ?_) (fun hc_1 => ?_)
  ·
    have hc_1 : 20 ≤ cn := (nI_leI (a := 20) (b := cn) (by omega) (by omega)).mp hc_1
    refine lv_aload_n E.1 E.2.1 d_Segments_add_50 rfl (lv_at hl 0 rfl) ?_
    refine lv_dup E.1 E.2.1 d_Segments_add_51 rfl ?_
    refine x_get E hP (C := "WasmReader$Segments") (T := T_Segments) (N := 5) (ci := 7) 0 (v := .int (nI cn)) 0 in_Segments rfl rfl (by decide) m_273 rfl d_Segments_add_52 ?_
    refine lv_iconst (v := 1) E.1 E.2.1 d_Segments_add_55 (by decide) ?_
    refine lv_iadd E.1 E.2.1 d_Segments_add_56 ?_
    refine lv_topi (fun vt_2 evt_2 => ?_)
    obtain rfl : vt_2 = nI (cn + 1) := evt_2.trans (nI_add cn 1)
    refine x_put E hP hD hS (C := "WasmReader$Segments") (T := T_Segments) (N := 5) (ci := 7) 0 (v := .int (nI (cn + 1))) 0 (t0 := t_Segments) (tk := .int) in_Segments tok_Segments nok_Segments rfl rfl (by decide) m_273 rfl rfl rfl rfl (Nat.le_of_ble_eq_true rfl) d_Segments_add_57 (fun H locs hP hD hS => ?_)
    have hP : va_P D classes [(h0, .inr (7, [.int (nI (cn + 1)), .ref s0, .ref s1, .ref s2, .ref s3])), (s0, .inl (cI, 20, .inl vs0)), (s1, .inl (cI, 20, .inl vs1)), (s2, .inl (cJ, 20, .inr (.inl vs2))), (s3, .inl (cI, 20, .inl vs3))] H := hP
    have hD : va_D (va_A [(h0, .inr (7, [.int (nI cn), .ref s0, .ref s1, .ref s2, .ref s3])), (s0, .inl (cI, 20, .inl vs0)), (s1, .inl (cI, 20, .inl vs1)), (s2, .inl (cJ, 20, .inr (.inl vs2))), (s3, .inl (cI, 20, .inl vs3))] s.heap.size) [(h0, .inr (7, [.int (nI (cn + 1)), .ref s0, .ref s1, .ref s2, .ref s3])), (s0, .inl (cI, 20, .inl vs0)), (s1, .inl (cI, 20, .inl vs1)), (s2, .inl (cJ, 20, .inr (.inl vs2))), (s3, .inl (cI, 20, .inl vs3))] := hD
    refine W.widen (k := 0) (n := 0) (by decide) (by decide) ?_
    exact x_vret (ws := [(h0, .inr (7, [.int (nI (cn + 1)), .ref s0, .ref s1, .ref s2, .ref s3])), (s0, .inl (cI, 20, .inl vs0)), (s1, .inl (cI, 20, .inl vs1)), (s2, .inl (cJ, 20, .inr (.inl vs2))), (s3, .inl (cI, 20, .inl vs3))]) E hr hlocks (hP.sub [0, 1, 2, 3, 4] rfl) (hD.sub [0, 1, 2, 3, 4] (by decide) rfl) hS ⟨vs0, vs1, vs2, vs3, rfl⟩ d_Segments_add_60
  ·
    have hc_1 : ¬ (20 ≤ cn) := fun hq_ => hc_1 ((nI_leI (a := 20) (b := cn) (by omega) (by omega)).mpr hq_)
    refine lv_aload_n E.1 E.2.1 d_Segments_add_9 rfl (lv_at hl 0 rfl) ?_
    refine x_get E hP (C := "WasmReader$Segments") (T := T_Segments) (N := 5) (ci := 7) 0 (v := .ref s0) 1 in_Segments rfl rfl (by decide) m_30 rfl d_Segments_add_10 ?_
    refine lv_aload_n E.1 E.2.1 d_Segments_add_13 rfl (lv_at hl 0 rfl) ?_
    refine x_get E hP (C := "WasmReader$Segments") (T := T_Segments) (N := 5) (ci := 7) 0 (v := .int (nI cn)) 0 in_Segments rfl rfl (by decide) m_273 rfl d_Segments_add_14 ?_
    refine lv_iload_n E.1 E.2.1 d_Segments_add_17 rfl (lv_at hl 1 rfl) ?_
    refine va_iast E.1 E.2.1 E.2.2.2.2.2 hP hD hS 1 1 rfl rfl (i := nI cn) (x := y1) (vp_in_nI (n := cn) (by omega) (by decide)) d_Segments_add_18 (fun H locs hP hD hS => ?_)
    generalize upd vs0 (Int32.toNatClampNeg (nI cn)) y1 = g_3 at hP hD
    have hP : va_P D classes [(h0, .inr (7, [.int (nI cn), .ref s0, .ref s1, .ref s2, .ref s3])), (s0, .inl (cI, 20, .inl g_3)), (s1, .inl (cI, 20, .inl vs1)), (s2, .inl (cJ, 20, .inr (.inl vs2))), (s3, .inl (cI, 20, .inl vs3))] H := hP
    have hD : va_D (va_A [(h0, .inr (7, [.int (nI cn), .ref s0, .ref s1, .ref s2, .ref s3])), (s0, .inl (cI, 20, .inl vs0)), (s1, .inl (cI, 20, .inl vs1)), (s2, .inl (cJ, 20, .inr (.inl vs2))), (s3, .inl (cI, 20, .inl vs3))] s.heap.size) [(h0, .inr (7, [.int (nI cn), .ref s0, .ref s1, .ref s2, .ref s3])), (s0, .inl (cI, 20, .inl g_3)), (s1, .inl (cI, 20, .inl vs1)), (s2, .inl (cJ, 20, .inr (.inl vs2))), (s3, .inl (cI, 20, .inl vs3))] := hD
    refine lv_aload_n E.1 E.2.1 d_Segments_add_19 rfl (lv_at hl 0 rfl) ?_
    refine x_get E hP (C := "WasmReader$Segments") (T := T_Segments) (N := 5) (ci := 7) 0 (v := .ref s1) 2 in_Segments rfl rfl (by decide) m_31 rfl d_Segments_add_20 ?_
    refine lv_aload_n E.1 E.2.1 d_Segments_add_23 rfl (lv_at hl 0 rfl) ?_
    refine x_get E hP (C := "WasmReader$Segments") (T := T_Segments) (N := 5) (ci := 7) 0 (v := .int (nI cn)) 0 in_Segments rfl rfl (by decide) m_273 rfl d_Segments_add_24 ?_
    refine lv_iload_n E.1 E.2.1 d_Segments_add_27 rfl (lv_at hl 2 rfl) ?_
    refine va_iast E.1 E.2.1 E.2.2.2.2.2 hP hD hS 2 1 rfl rfl (i := nI cn) (x := y2) (vp_in_nI (n := cn) (by omega) (by decide)) d_Segments_add_28 (fun H locs hP hD hS => ?_)
    generalize upd vs1 (Int32.toNatClampNeg (nI cn)) y2 = g_4 at hP hD
    have hP : va_P D classes [(h0, .inr (7, [.int (nI cn), .ref s0, .ref s1, .ref s2, .ref s3])), (s0, .inl (cI, 20, .inl g_3)), (s1, .inl (cI, 20, .inl g_4)), (s2, .inl (cJ, 20, .inr (.inl vs2))), (s3, .inl (cI, 20, .inl vs3))] H := hP
    have hD : va_D (va_A [(h0, .inr (7, [.int (nI cn), .ref s0, .ref s1, .ref s2, .ref s3])), (s0, .inl (cI, 20, .inl vs0)), (s1, .inl (cI, 20, .inl vs1)), (s2, .inl (cJ, 20, .inr (.inl vs2))), (s3, .inl (cI, 20, .inl vs3))] s.heap.size) [(h0, .inr (7, [.int (nI cn), .ref s0, .ref s1, .ref s2, .ref s3])), (s0, .inl (cI, 20, .inl g_3)), (s1, .inl (cI, 20, .inl g_4)), (s2, .inl (cJ, 20, .inr (.inl vs2))), (s3, .inl (cI, 20, .inl vs3))] := hD
    refine lv_aload_n E.1 E.2.1 d_Segments_add_29 rfl (lv_at hl 0 rfl) ?_
    refine x_get E hP (C := "WasmReader$Segments") (T := T_Segments) (N := 5) (ci := 7) 0 (v := .ref s2) 3 in_Segments rfl rfl (by decide) m_32 rfl d_Segments_add_30 ?_
    refine lv_aload_n E.1 E.2.1 d_Segments_add_33 rfl (lv_at hl 0 rfl) ?_
    refine x_get E hP (C := "WasmReader$Segments") (T := T_Segments) (N := 5) (ci := 7) 0 (v := .int (nI cn)) 0 in_Segments rfl rfl (by decide) m_273 rfl d_Segments_add_34 ?_
    refine lv_lload_n E.1 E.2.1 d_Segments_add_37 rfl (lv_at hl 3 rfl) ?_
    refine va_last E.1 E.2.1 E.2.2.2.2.2 hP hD hS 3 2 rfl rfl (i := nI cn) (x := y3) (vp_in_nI (n := cn) (by omega) (by decide)) d_Segments_add_38 (fun H locs hP hD hS => ?_)
    generalize vp_updL vs2 (Int32.toNatClampNeg (nI cn)) y3 = g_5 at hP hD
    have hP : va_P D classes [(h0, .inr (7, [.int (nI cn), .ref s0, .ref s1, .ref s2, .ref s3])), (s0, .inl (cI, 20, .inl g_3)), (s1, .inl (cI, 20, .inl g_4)), (s2, .inl (cJ, 20, .inr (.inl g_5))), (s3, .inl (cI, 20, .inl vs3))] H := hP
    have hD : va_D (va_A [(h0, .inr (7, [.int (nI cn), .ref s0, .ref s1, .ref s2, .ref s3])), (s0, .inl (cI, 20, .inl vs0)), (s1, .inl (cI, 20, .inl vs1)), (s2, .inl (cJ, 20, .inr (.inl vs2))), (s3, .inl (cI, 20, .inl vs3))] s.heap.size) [(h0, .inr (7, [.int (nI cn), .ref s0, .ref s1, .ref s2, .ref s3])), (s0, .inl (cI, 20, .inl g_3)), (s1, .inl (cI, 20, .inl g_4)), (s2, .inl (cJ, 20, .inr (.inl g_5))), (s3, .inl (cI, 20, .inl vs3))] := hD
    refine lv_aload_n E.1 E.2.1 d_Segments_add_39 rfl (lv_at hl 0 rfl) ?_
    refine x_get E hP (C := "WasmReader$Segments") (T := T_Segments) (N := 5) (ci := 7) 0 (v := .ref s3) 4 in_Segments rfl rfl (by decide) m_33 rfl d_Segments_add_40 ?_
    refine lv_aload_n E.1 E.2.1 d_Segments_add_43 rfl (lv_at hl 0 rfl) ?_
    refine x_get E hP (C := "WasmReader$Segments") (T := T_Segments) (N := 5) (ci := 7) 0 (v := .int (nI cn)) 0 in_Segments rfl rfl (by decide) m_273 rfl d_Segments_add_44 ?_
    refine lv_iload E.1 E.2.1 d_Segments_add_47 (lv_at hl 4 rfl) ?_
    refine va_iast E.1 E.2.1 E.2.2.2.2.2 hP hD hS 4 1 rfl rfl (i := nI cn) (x := y4) (vp_in_nI (n := cn) (by omega) (by decide)) d_Segments_add_49 (fun H locs hP hD hS => ?_)
    generalize upd vs3 (Int32.toNatClampNeg (nI cn)) y4 = g_6 at hP hD
    have hP : va_P D classes [(h0, .inr (7, [.int (nI cn), .ref s0, .ref s1, .ref s2, .ref s3])), (s0, .inl (cI, 20, .inl g_3)), (s1, .inl (cI, 20, .inl g_4)), (s2, .inl (cJ, 20, .inr (.inl g_5))), (s3, .inl (cI, 20, .inl g_6))] H := hP
    have hD : va_D (va_A [(h0, .inr (7, [.int (nI cn), .ref s0, .ref s1, .ref s2, .ref s3])), (s0, .inl (cI, 20, .inl vs0)), (s1, .inl (cI, 20, .inl vs1)), (s2, .inl (cJ, 20, .inr (.inl vs2))), (s3, .inl (cI, 20, .inl vs3))] s.heap.size) [(h0, .inr (7, [.int (nI cn), .ref s0, .ref s1, .ref s2, .ref s3])), (s0, .inl (cI, 20, .inl g_3)), (s1, .inl (cI, 20, .inl g_4)), (s2, .inl (cJ, 20, .inr (.inl g_5))), (s3, .inl (cI, 20, .inl g_6))] := hD
    refine lv_aload_n E.1 E.2.1 d_Segments_add_50 rfl (lv_at hl 0 rfl) ?_
    refine lv_dup E.1 E.2.1 d_Segments_add_51 rfl ?_
    refine x_get E hP (C := "WasmReader$Segments") (T := T_Segments) (N := 5) (ci := 7) 0 (v := .int (nI cn)) 0 in_Segments rfl rfl (by decide) m_273 rfl d_Segments_add_52 ?_
    refine lv_iconst (v := 1) E.1 E.2.1 d_Segments_add_55 (by decide) ?_
    refine lv_iadd E.1 E.2.1 d_Segments_add_56 ?_
    refine lv_topi (fun vt_7 evt_7 => ?_)
    obtain rfl : vt_7 = nI (cn + 1) := evt_7.trans (nI_add cn 1)
    refine x_put E hP hD hS (C := "WasmReader$Segments") (T := T_Segments) (N := 5) (ci := 7) 0 (v := .int (nI (cn + 1))) 0 (t0 := t_Segments) (tk := .int) in_Segments tok_Segments nok_Segments rfl rfl (by decide) m_273 rfl rfl rfl rfl (Nat.le_of_ble_eq_true rfl) d_Segments_add_57 (fun H locs hP hD hS => ?_)
    have hP : va_P D classes [(h0, .inr (7, [.int (nI (cn + 1)), .ref s0, .ref s1, .ref s2, .ref s3])), (s0, .inl (cI, 20, .inl g_3)), (s1, .inl (cI, 20, .inl g_4)), (s2, .inl (cJ, 20, .inr (.inl g_5))), (s3, .inl (cI, 20, .inl g_6))] H := hP
    have hD : va_D (va_A [(h0, .inr (7, [.int (nI cn), .ref s0, .ref s1, .ref s2, .ref s3])), (s0, .inl (cI, 20, .inl vs0)), (s1, .inl (cI, 20, .inl vs1)), (s2, .inl (cJ, 20, .inr (.inl vs2))), (s3, .inl (cI, 20, .inl vs3))] s.heap.size) [(h0, .inr (7, [.int (nI (cn + 1)), .ref s0, .ref s1, .ref s2, .ref s3])), (s0, .inl (cI, 20, .inl g_3)), (s1, .inl (cI, 20, .inl g_4)), (s2, .inl (cJ, 20, .inr (.inl g_5))), (s3, .inl (cI, 20, .inl g_6))] := hD
    refine W.widen (k := 0) (n := 0) (by decide) (by decide) ?_
    exact x_vret (ws := [(h0, .inr (7, [.int (nI (cn + 1)), .ref s0, .ref s1, .ref s2, .ref s3])), (s0, .inl (cI, 20, .inl g_3)), (s1, .inl (cI, 20, .inl g_4)), (s2, .inl (cJ, 20, .inr (.inl g_5))), (s3, .inl (cI, 20, .inl g_6))]) E hr hlocks (hP.sub [0, 1, 2, 3, 4] rfl) (hD.sub [0, 1, 2, 3, 4] (by decide) rfl) hS ⟨g_3, g_4, g_5, g_6, rfl⟩ d_Segments_add_60
set_option maxHeartbeats 4000000 in
set_option maxRecDepth 100000 in
theorem c_Sized_add (l : Launch) (D : va_G) (cB cI cJ cZ : ClassId) (sz : Nat) (h0 : Nat) (cn : Nat) (l1 : Int64) (l2 : Int64) (qc : Nat) (qb : Nat) (ln : Int32) (a : Nat) (b : Nat) (ml : Int32) (f : Nat → Int32) (hab : a ≤ b) (hb4 : b ≤ 4000) (hc : cn ≤ 20000000) : Met l y_Sized_add (Cond.code y_Sized_add prog_8_method_2_code 3 none :: xtb) ({ frames := 2, cells := 0, slots := 0, locals := 45 }) (xP D [(cB, .byte), (cI, .int), (cJ, .long), (cZ, .boolean)] [.ref h0, .ref qc] [(h0, .inr (8, [.int (nI cn), .long l1, .long l2])), (qc, .inr (1, [.ref qb, .int ln, .int (nI a), .int (nI b), .int ml])), (qb, .inl (cB, 4000, .inl f))] sz) (xQv D [(cB, .byte), (cI, .int), (cJ, .long), (cZ, .boolean)] [(h0, .inr (8, [.int (nI cn), .long l1, .long l2])), (qc, .inr (1, [.ref qb, .int ln, .int (nI a), .int (nI b), .int ml])), (qb, .inl (cB, 4000, .inl f))] sz (fun u => ∃ (n1 : Int64), ∃ (n2 : Int64), ∃ (a2 : Nat), ∃ (ml2 : Int32), (a ≤ a2) ∧ (a2 ≤ b) ∧ u = [(h0, .inr (8, [.int (nI (cn + 1)), .long n1, .long n2])), (qc, .inr (1, [.ref qb, .int ln, .int (nI a2), .int (nI b), .int ml2])), (qb, .inl (cB, 4000, .inl f))])) 0 0 (va_A [(h0, .inr (8, [.int (nI cn), .long l1, .long l2])), (qc, .inr (1, [.ref qb, .int ln, .int (nI a), .int (nI b), .int ml])), (qb, .inl (cB, 4000, .inl f))] sz) := by
  refine x_met (Qc := fun s => xQv D [(cB, .byte), (cI, .int), (cJ, .long), (cZ, .boolean)] [(h0, .inr (8, [.int (nI cn), .long l1, .long l2])), (qc, .inr (1, [.ref qb, .int ln, .int (nI a), .int (nI b), .int ml])), (qb, .inl (cB, 4000, .inl f))] s.heap.size (fun u => ∃ (n1 : Int64), ∃ (n2 : Int64), ∃ (a2 : Nat), ∃ (ml2 : Int32), (a ≤ a2) ∧ (a2 ≤ b) ∧ u = [(h0, .inr (8, [.int (nI (cn + 1)), .long n1, .long n2])), (qc, .inr (1, [.ref qb, .int ln, .int (nI a2), .int (nI b), .int ml2])), (qb, .inl (cB, 4000, .inl f))])) (fr := fun s => va_A [(h0, .inr (8, [.int (nI cn), .long l1, .long l2])), (qc, .inr (1, [.ref qb, .int ln, .int (nI a), .int (nI b), .int ml])), (qb, .inl (cB, 4000, .inl f))] s.heap.size) "WasmReader$Sized" (by decide +kernel) rfl (Nat.le_of_ble_eq_true rfl) (fun s h => by rw [h]) (fun s h => by rw [h]) ?_
  intro p e s m below meth c ls E hr hlocks hinit hl hP hD hA hS hZ hadm
  have hl : lv_has ls 3 [(0, .ref h0), (1, .ref qc)] := hl
  refine lv_aload_n E.1 E.2.1 d_Sized_add_0 rfl (lv_at hl 1 rfl) ?_
  have hPc := hP.sub (ws' := [(qc, .inr (1, [.ref qb, .int ln, .int (nI a), .int (nI b), .int ml])), (qb, .inl (cB, 4000, .inl f))]) [1, 2] rfl
  have hDc := hD.sub (ws' := [(qc, .inr (1, [.ref qb, .int ln, .int (nI a), .int (nI b), .int ml])), (qb, .inl (cB, 4000, .inl f))]) [1, 2] (by decide) rfl
  have hFc := va_free (wc := [(qc, .inr (1, [.ref qb, .int ln, .int (nI a), .int (nI b), .int ml])), (qb, .inl (cB, 4000, .inl f))]) hD hS hA [1, 2] rfl
  refine x_ri (ws := [(h0, .inr (8, [.int (nI cn), .long l1, .long l2])), (qc, .inr (1, [.ref qb, .int ln, .int (nI a), .int (nI b), .int ml])), (qb, .inl (cB, 4000, .inl f))]) (wc := [(qc, .inr (1, [.ref qb, .int ln, .int (nI a), .int (nI b), .int ml])), (qb, .inl (cB, 4000, .inl f))]) (wr := [(h0, .inr (8, [.int (nI cn), .long l1, .long l2]))]) (x_V (As := []) (C := "WasmReader$Cursor") E (c_Cursor_nextByte l D cB cI cJ cZ s.heap.size qc qb ln a b ml f (by omega) (by omega)) m_171 m_94 m_274 m_172 m_173 nm_Cursor_nextByte hPc hDc hZ hS hFc rfl rfl rfl hl.1 rfl (Nat.le_of_ble_eq_true rfl) d_Sized_add_1 rfl rfl (by decide) (by decide) (by decide) (by decide)) hP hD hS hA [1, 2] [0] rfl rfl (by decide) (by decide) (fun r_6 u H locs hw hP hD hS => ?_)
  obtain ⟨a2_3, ml2_4, hf_1, hf_2, rfl⟩ := hw
  have hP : va_P D classes [(h0, .inr (8, [.int (nI cn), .long l1, .long l2])), (qc, .inr (1, [.ref qb, .int ln, .int (nI a2_3), .int (nI b), .int ml2_4])), (qb, .inl (cB, 4000, .inl f))] H := hP
  have hD : va_D (va_A [(h0, .inr (8, [.int (nI cn), .long l1, .long l2])), (qc, .inr (1, [.ref qb, .int ln, .int (nI a), .int (nI b), .int ml])), (qb, .inl (cB, 4000, .inl f))] s.heap.size) [(h0, .inr (8, [.int (nI cn), .long l1, .long l2])), (qc, .inr (1, [.ref qb, .int ln, .int (nI a2_3), .int (nI b), .int ml2_4])), (qb, .inl (cB, 4000, .inl f))] := hD
  refine lv_istore_n (lv' := [(2, .int r_6), (0, .ref h0), (1, .ref qc)]) E.1 E.2.1 d_Sized_add_4 rfl hl (by decide) rfl (fun ls hl => ?_)
  refine lv_aload_n E.1 E.2.1 d_Sized_add_5 rfl (lv_at hl 1 rfl) ?_
  refine lv_aload_n E.1 E.2.1 d_Sized_add_6 rfl (lv_at hl 2 rfl) ?_
  have hPc := hP.sub (ws' := [(qc, .inr (1, [.ref qb, .int ln, .int (nI a2_3), .int (nI b), .int ml2_4])), (qb, .inl (cB, 4000, .inl f))]) [1, 2] rfl
  have hDc := hD.sub (ws' := [(qc, .inr (1, [.ref qb, .int ln, .int (nI a2_3), .int (nI b), .int ml2_4])), (qb, .inl (cB, 4000, .inl f))]) [1, 2] (by decide) rfl
  have hFc := va_free (wc := [(qc, .inr (1, [.ref qb, .int ln, .int (nI a2_3), .int (nI b), .int ml2_4])), (qb, .inl (cB, 4000, .inl f))]) hD hS hA [1, 2] rfl
  refine x_rl (ws := [(h0, .inr (8, [.int (nI cn), .long l1, .long l2])), (qc, .inr (1, [.ref qb, .int ln, .int (nI a2_3), .int (nI b), .int ml2_4])), (qb, .inl (cB, 4000, .inl f))]) (wc := [(qc, .inr (1, [.ref qb, .int ln, .int (nI a2_3), .int (nI b), .int ml2_4])), (qb, .inl (cB, 4000, .inl f))]) (wr := [(h0, .inr (8, [.int (nI cn), .long l1, .long l2]))]) (x_V (As := []) (C := "WasmReader$Cursor") E (c_Cursor_unsigned l D cB cI cJ cZ H.size qc qb ln a2_3 b ml2_4 f (by omega) (by omega)) m_233 m_94 m_275 m_234 m_235 nm_Cursor_unsigned hPc hDc hZ hS hFc rfl rfl rfl hl.1 rfl (Nat.le_of_ble_eq_true rfl) d_Sized_add_7 rfl rfl (by decide) (by decide) (by decide) (by decide)) hP hD hS hA [1, 2] [0] rfl rfl (by decide) (by decide) (fun r_13 u H locs hw hP hD hS => ?_)
  obtain ⟨a2_10, ml2_11, hf_7, hf_8, hf_9, rfl⟩ := hw
  have hP : va_P D classes [(h0, .inr (8, [.int (nI cn), .long l1, .long l2])), (qc, .inr (1, [.ref qb, .int ln, .int (nI a2_10), .int (nI b), .int ml2_11])), (qb, .inl (cB, 4000, .inl f))] H := hP
  have hD : va_D (va_A [(h0, .inr (8, [.int (nI cn), .long l1, .long l2])), (qc, .inr (1, [.ref qb, .int ln, .int (nI a), .int (nI b), .int ml])), (qb, .inl (cB, 4000, .inl f))] s.heap.size) [(h0, .inr (8, [.int (nI cn), .long l1, .long l2])), (qc, .inr (1, [.ref qb, .int ln, .int (nI a2_10), .int (nI b), .int ml2_11])), (qb, .inl (cB, 4000, .inl f))] := hD
  refine x_put E hP hD hS (C := "WasmReader$Sized") (T := T_Sized) (N := 3) (ci := 8) 0 (v := .long r_13) 1 (t0 := t_Sized) (tk := .long) in_Sized tok_Sized nok_Sized rfl rfl (by decide) m_276 rfl rfl rfl rfl (Nat.le_of_ble_eq_true rfl) d_Sized_add_10 (fun H locs hP hD hS => ?_)
  have hP : va_P D classes [(h0, .inr (8, [.int (nI cn), .long r_13, .long l2])), (qc, .inr (1, [.ref qb, .int ln, .int (nI a2_10), .int (nI b), .int ml2_11])), (qb, .inl (cB, 4000, .inl f))] H := hP
  have hD : va_D (va_A [(h0, .inr (8, [.int (nI cn), .long l1, .long l2])), (qc, .inr (1, [.ref qb, .int ln, .int (nI a), .int (nI b), .int ml])), (qb, .inl (cB, 4000, .inl f))] s.heap.size) [(h0, .inr (8, [.int (nI cn), .long r_13, .long l2])), (qc, .inr (1, [.ref qb, .int ln, .int (nI a2_10), .int (nI b), .int ml2_11])), (qb, .inl (cB, 4000, .inl f))] := hD
  refine lv_aload_n E.1 E.2.1 d_Sized_add_13 rfl (lv_at hl 1 rfl) ?_
  refine lv_iload_n E.1 E.2.1 d_Sized_add_14 rfl (lv_at hl 0 rfl) ?_
  refine lv_if_ne (tgt := 25) E.1 E.2.1 d_Sized_add_15 (by decide) (fun hc_14 => ?_) (fun hc_14 => ?_)
  ·
    refine lv_aload_n E.1 E.2.1 d_Sized_add_25 rfl (lv_at hl 2 rfl) ?_
    have hPc := hP.sub (ws' := [(qc, .inr (1, [.ref qb, .int ln, .int (nI a2_10), .int (nI b), .int ml2_11])), (qb, .inl (cB, 4000, .inl f))]) [1, 2] rfl
    have hDc := hD.sub (ws' := [(qc, .inr (1, [.ref qb, .int ln, .int (nI a2_10), .int (nI b), .int ml2_11])), (qb, .inl (cB, 4000, .inl f))]) [1, 2] (by decide) rfl
    have hFc := va_free (wc := [(qc, .inr (1, [.ref qb, .int ln, .int (nI a2_10), .int (nI b), .int ml2_11])), (qb, .inl (cB, 4000, .inl f))]) hD hS hA [1, 2] rfl
    refine x_rl (ws := [(h0, .inr (8, [.int (nI cn), .long r_13, .long l2])), (qc, .inr (1, [.ref qb, .int ln, .int (nI a2_10), .int (nI b), .int ml2_11])), (qb, .inl (cB, 4000, .inl f))]) (wc := [(qc, .inr (1, [.ref qb, .int ln, .int (nI a2_10), .int (nI b), .int ml2_11])), (qb, .inl (cB, 4000, .inl f))]) (wr := [(h0, .inr (8, [.int (nI cn), .long r_13, .long l2]))]) (x_V (As := []) (C := "WasmReader$Cursor") E (c_Cursor_unsigned l D cB cI cJ cZ H.size qc qb ln a2_10 b ml2_11 f (by omega) (by omega)) m_233 m_94 m_275 m_234 m_235 nm_Cursor_unsigned hPc hDc hZ hS hFc rfl rfl rfl hl.1 rfl (Nat.le_of_ble_eq_true rfl) d_Sized_add_26 rfl rfl (by decide) (by decide) (by decide) (by decide)) hP hD hS hA [1, 2] [0] rfl rfl (by decide) (by decide) (fun r_21 u H locs hw hP hD hS => ?_)
    obtain ⟨a2_18, ml2_19, hf_15, hf_16, hf_17, rfl⟩ := hw
    have hP : va_P D classes [(h0, .inr (8, [.int (nI cn), .long r_13, .long l2])), (qc, .inr (1, [.ref qb, .int ln, .int (nI a2_18), .int (nI b), .int ml2_19])), (qb, .inl (cB, 4000, .inl f))] H := hP
    have hD : va_D (va_A [(h0, .inr (8, [.int (nI cn), .long l1, .long l2])), (qc, .inr (1, [.ref qb, .int ln, .int (nI a), .int (nI b), .int ml])), (qb, .inl (cB, 4000, .inl f))] s.heap.size) [(h0, .inr (8, [.int (nI cn), .long r_13, .long l2])), (qc, .inr (1, [.ref qb, .int ln, .int (nI a2_18), .int (nI b), .int ml2_19])), (qb, .inl (cB, 4000, .inl f))] := hD
    refine x_put E hP hD hS (C := "WasmReader$Sized") (T := T_Sized) (N := 3) (ci := 8) 0 (v := .long r_21) 2 (t0 := t_Sized) (tk := .long) in_Sized tok_Sized nok_Sized rfl rfl (by decide) m_277 rfl rfl rfl rfl (Nat.le_of_ble_eq_true rfl) d_Sized_add_29 (fun H locs hP hD hS => ?_)
    have hP : va_P D classes [(h0, .inr (8, [.int (nI cn), .long r_13, .long r_21])), (qc, .inr (1, [.ref qb, .int ln, .int (nI a2_18), .int (nI b), .int ml2_19])), (qb, .inl (cB, 4000, .inl f))] H := hP
    have hD : va_D (va_A [(h0, .inr (8, [.int (nI cn), .long l1, .long l2])), (qc, .inr (1, [.ref qb, .int ln, .int (nI a), .int (nI b), .int ml])), (qb, .inl (cB, 4000, .inl f))] s.heap.size) [(h0, .inr (8, [.int (nI cn), .long r_13, .long r_21])), (qc, .inr (1, [.ref qb, .int ln, .int (nI a2_18), .int (nI b), .int ml2_19])), (qb, .inl (cB, 4000, .inl f))] := hD
    refine lv_iload_n E.1 E.2.1 d_Sized_add_32 rfl (lv_at hl 0 rfl) ?_
    refine lv_iconst (v := 1) E.1 E.2.1 d_Sized_add_33 (by decide) ?_
    refine lv_icmp_le (tgt := 41) E.1 E.2.1 d_Sized_add_34 (by decide) (fun hc_22 => ?_) (fun hc_22 => ?_)
    ·
      refine lv_aload_n E.1 E.2.1 d_Sized_add_41 rfl (lv_at hl 1 rfl) ?_
      refine lv_dup E.1 E.2.1 d_Sized_add_42 rfl ?_
      refine x_get E hP (C := "WasmReader$Sized") (T := T_Sized) (N := 3) (ci := 8) 0 (v := .int (nI cn)) 0 in_Sized rfl rfl (by decide) m_278 rfl d_Sized_add_43 ?_
      refine lv_iconst (v := 1) E.1 E.2.1 d_Sized_add_46 (by decide) ?_
      refine lv_iadd E.1 E.2.1 d_Sized_add_47 ?_
      refine lv_topi (fun vt_23 evt_23 => ?_)
      obtain rfl : vt_23 = nI (cn + 1) := evt_23.trans (nI_add cn 1)
      refine x_put E hP hD hS (C := "WasmReader$Sized") (T := T_Sized) (N := 3) (ci := 8) 0 (v := .int (nI (cn + 1))) 0 (t0 := t_Sized) (tk := .int) in_Sized tok_Sized nok_Sized rfl rfl (by decide) m_278 rfl rfl rfl rfl (Nat.le_of_ble_eq_true rfl) d_Sized_add_48 (fun H locs hP hD hS => ?_)
      have hP : va_P D classes [(h0, .inr (8, [.int (nI (cn + 1)), .long r_13, .long r_21])), (qc, .inr (1, [.ref qb, .int ln, .int (nI a2_18), .int (nI b), .int ml2_19])), (qb, .inl (cB, 4000, .inl f))] H := hP
      have hD : va_D (va_A [(h0, .inr (8, [.int (nI cn), .long l1, .long l2])), (qc, .inr (1, [.ref qb, .int ln, .int (nI a), .int (nI b), .int ml])), (qb, .inl (cB, 4000, .inl f))] s.heap.size) [(h0, .inr (8, [.int (nI (cn + 1)), .long r_13, .long r_21])), (qc, .inr (1, [.ref qb, .int ln, .int (nI a2_18), .int (nI b), .int ml2_19])), (qb, .inl (cB, 4000, .inl f))] := hD
      refine W.widen (k := 0) (n := 0) (by decide) (by decide) ?_
      exact x_vret (ws := [(h0, .inr (8, [.int (nI (cn + 1)), .long r_13, .long r_21])), (qc, .inr (1, [.ref qb, .int ln, .int (nI a2_18), .int (nI b), .int ml2_19])), (qb, .inl (cB, 4000, .inl f))]) E hr hlocks (hP.sub [0, 1, 2] rfl) (hD.sub [0, 1, 2] (by decide) rfl) hS ⟨r_13, r_21, a2_18, ml2_19, (by omega), (by omega), rfl⟩ d_Sized_add_51
    ·
      refine lv_aload_n E.1 E.2.1 d_Sized_add_37 rfl (lv_at hl 2 rfl) ?_
      have hPc := hP.sub (ws' := [(qc, .inr (1, [.ref qb, .int ln, .int (nI a2_18), .int (nI b), .int ml2_19]))]) [1] rfl
      have hDc := hD.sub (ws' := [(qc, .inr (1, [.ref qb, .int ln, .int (nI a2_18), .int (nI b), .int ml2_19]))]) [1] (by decide) rfl
      have hFc := va_free (wc := [(qc, .inr (1, [.ref qb, .int ln, .int (nI a2_18), .int (nI b), .int ml2_19]))]) hD hS hA [1] rfl
      refine x_rv (ws := [(h0, .inr (8, [.int (nI cn), .long r_13, .long r_21])), (qc, .inr (1, [.ref qb, .int ln, .int (nI a2_18), .int (nI b), .int ml2_19])), (qb, .inl (cB, 4000, .inl f))]) (wc := [(qc, .inr (1, [.ref qb, .int ln, .int (nI a2_18), .int (nI b), .int ml2_19]))]) (wr := [(h0, .inr (8, [.int (nI cn), .long r_13, .long r_21])), (qb, .inl (cB, 4000, .inl f))]) (x_V (As := []) (C := "WasmReader$Cursor") E (c_Cursor_fail l D cB cI cJ cZ H.size qc qb ln (nI a2_18) (nI b) ml2_19 ) m_175 m_94 m_279 m_176 m_177 nm_Cursor_fail hPc hDc hZ hS hFc rfl rfl rfl hl.1 rfl (Nat.le_of_ble_eq_true rfl) d_Sized_add_38 rfl rfl (by decide) (by decide) (by decide) (by decide)) hP hD hS hA [1] [0, 2] rfl rfl (by decide) (by decide) (fun u H locs hw hP hD hS => ?_)
      obtain rfl := hw
      have hP : va_P D classes [(h0, .inr (8, [.int (nI cn), .long r_13, .long r_21])), (qb, .inl (cB, 4000, .inl f)), (qc, .inr (1, [.ref qb, .int ln, .int (nI a2_18), .int (nI b), .int 1]))] H := hP
      have hD : va_D (va_A [(h0, .inr (8, [.int (nI cn), .long l1, .long l2])), (qc, .inr (1, [.ref qb, .int ln, .int (nI a), .int (nI b), .int ml])), (qb, .inl (cB, 4000, .inl f))] s.heap.size) [(h0, .inr (8, [.int (nI cn), .long r_13, .long r_21])), (qb, .inl (cB, 4000, .inl f)), (qc, .inr (1, [.ref qb, .int ln, .int (nI a2_18), .int (nI b), .int 1]))] := hD
      refine lv_aload_n E.1 E.2.1 d_Sized_add_41 rfl (lv_at hl 1 rfl) ?_
      refine lv_dup E.1 E.2.1 d_Sized_add_42 rfl ?_
      refine x_get E hP (C := "WasmReader$Sized") (T := T_Sized) (N := 3) (ci := 8) 0 (v := .int (nI cn)) 0 in_Sized rfl rfl (by decide) m_278 rfl d_Sized_add_43 ?_
      refine lv_iconst (v := 1) E.1 E.2.1 d_Sized_add_46 (by decide) ?_
      refine lv_iadd E.1 E.2.1 d_Sized_add_47 ?_
      refine lv_topi (fun vt_24 evt_24 => ?_)
      obtain rfl : vt_24 = nI (cn + 1) := evt_24.trans (nI_add cn 1)
      refine x_put E hP hD hS (C := "WasmReader$Sized") (T := T_Sized) (N := 3) (ci := 8) 0 (v := .int (nI (cn + 1))) 0 (t0 := t_Sized) (tk := .int) in_Sized tok_Sized nok_Sized rfl rfl (by decide) m_278 rfl rfl rfl rfl (Nat.le_of_ble_eq_true rfl) d_Sized_add_48 (fun H locs hP hD hS => ?_)
      have hP : va_P D classes [(h0, .inr (8, [.int (nI (cn + 1)), .long r_13, .long r_21])), (qb, .inl (cB, 4000, .inl f)), (qc, .inr (1, [.ref qb, .int ln, .int (nI a2_18), .int (nI b), .int 1]))] H := hP
      have hD : va_D (va_A [(h0, .inr (8, [.int (nI cn), .long l1, .long l2])), (qc, .inr (1, [.ref qb, .int ln, .int (nI a), .int (nI b), .int ml])), (qb, .inl (cB, 4000, .inl f))] s.heap.size) [(h0, .inr (8, [.int (nI (cn + 1)), .long r_13, .long r_21])), (qb, .inl (cB, 4000, .inl f)), (qc, .inr (1, [.ref qb, .int ln, .int (nI a2_18), .int (nI b), .int 1]))] := hD
      refine W.widen (k := 0) (n := 0) (by decide) (by decide) ?_
      exact x_vret (ws := [(h0, .inr (8, [.int (nI (cn + 1)), .long r_13, .long r_21])), (qc, .inr (1, [.ref qb, .int ln, .int (nI a2_18), .int (nI b), .int 1])), (qb, .inl (cB, 4000, .inl f))]) E hr hlocks (hP.sub [0, 2, 1] rfl) (hD.sub [0, 2, 1] (by decide) rfl) hS ⟨r_13, r_21, a2_18, 1, (by omega), (by omega), rfl⟩ d_Sized_add_51
  ·
    refine lv_aload_n E.1 E.2.1 d_Sized_add_18 rfl (lv_at hl 1 rfl) ?_
    refine x_get E hP (C := "WasmReader$Sized") (T := T_Sized) (N := 3) (ci := 8) 0 (v := .long r_13) 1 in_Sized rfl rfl (by decide) m_276 rfl d_Sized_add_19 ?_
    refine lv_goto (tgt := 29) E.1 E.2.1 d_Sized_add_22 (by decide) ?_
    refine x_put E hP hD hS (C := "WasmReader$Sized") (T := T_Sized) (N := 3) (ci := 8) 0 (v := .long r_13) 2 (t0 := t_Sized) (tk := .long) in_Sized tok_Sized nok_Sized rfl rfl (by decide) m_277 rfl rfl rfl rfl (Nat.le_of_ble_eq_true rfl) d_Sized_add_29 (fun H locs hP hD hS => ?_)
    have hP : va_P D classes [(h0, .inr (8, [.int (nI cn), .long r_13, .long r_13])), (qc, .inr (1, [.ref qb, .int ln, .int (nI a2_10), .int (nI b), .int ml2_11])), (qb, .inl (cB, 4000, .inl f))] H := hP
    have hD : va_D (va_A [(h0, .inr (8, [.int (nI cn), .long l1, .long l2])), (qc, .inr (1, [.ref qb, .int ln, .int (nI a), .int (nI b), .int ml])), (qb, .inl (cB, 4000, .inl f))] s.heap.size) [(h0, .inr (8, [.int (nI cn), .long r_13, .long r_13])), (qc, .inr (1, [.ref qb, .int ln, .int (nI a2_10), .int (nI b), .int ml2_11])), (qb, .inl (cB, 4000, .inl f))] := hD
    refine lv_iload_n E.1 E.2.1 d_Sized_add_32 rfl (lv_at hl 0 rfl) ?_
    refine lv_iconst (v := 1) E.1 E.2.1 d_Sized_add_33 (by decide) ?_
    refine lv_icmp_le (tgt := 41) E.1 E.2.1 d_Sized_add_34 (by decide) (fun hc_25 => ?_) (fun hc_25 => ?_)
    ·
      refine lv_aload_n E.1 E.2.1 d_Sized_add_41 rfl (lv_at hl 1 rfl) ?_
      refine lv_dup E.1 E.2.1 d_Sized_add_42 rfl ?_
      refine x_get E hP (C := "WasmReader$Sized") (T := T_Sized) (N := 3) (ci := 8) 0 (v := .int (nI cn)) 0 in_Sized rfl rfl (by decide) m_278 rfl d_Sized_add_43 ?_
      refine lv_iconst (v := 1) E.1 E.2.1 d_Sized_add_46 (by decide) ?_
      refine lv_iadd E.1 E.2.1 d_Sized_add_47 ?_
      refine lv_topi (fun vt_26 evt_26 => ?_)
      obtain rfl : vt_26 = nI (cn + 1) := evt_26.trans (nI_add cn 1)
      refine x_put E hP hD hS (C := "WasmReader$Sized") (T := T_Sized) (N := 3) (ci := 8) 0 (v := .int (nI (cn + 1))) 0 (t0 := t_Sized) (tk := .int) in_Sized tok_Sized nok_Sized rfl rfl (by decide) m_278 rfl rfl rfl rfl (Nat.le_of_ble_eq_true rfl) d_Sized_add_48 (fun H locs hP hD hS => ?_)
      have hP : va_P D classes [(h0, .inr (8, [.int (nI (cn + 1)), .long r_13, .long r_13])), (qc, .inr (1, [.ref qb, .int ln, .int (nI a2_10), .int (nI b), .int ml2_11])), (qb, .inl (cB, 4000, .inl f))] H := hP
      have hD : va_D (va_A [(h0, .inr (8, [.int (nI cn), .long l1, .long l2])), (qc, .inr (1, [.ref qb, .int ln, .int (nI a), .int (nI b), .int ml])), (qb, .inl (cB, 4000, .inl f))] s.heap.size) [(h0, .inr (8, [.int (nI (cn + 1)), .long r_13, .long r_13])), (qc, .inr (1, [.ref qb, .int ln, .int (nI a2_10), .int (nI b), .int ml2_11])), (qb, .inl (cB, 4000, .inl f))] := hD
      refine W.widen (k := 0) (n := 0) (by decide) (by decide) ?_
      exact x_vret (ws := [(h0, .inr (8, [.int (nI (cn + 1)), .long r_13, .long r_13])), (qc, .inr (1, [.ref qb, .int ln, .int (nI a2_10), .int (nI b), .int ml2_11])), (qb, .inl (cB, 4000, .inl f))]) E hr hlocks (hP.sub [0, 1, 2] rfl) (hD.sub [0, 1, 2] (by decide) rfl) hS ⟨r_13, r_13, a2_10, ml2_11, (by omega), (by omega), rfl⟩ d_Sized_add_51
    ·
      refine lv_aload_n E.1 E.2.1 d_Sized_add_37 rfl (lv_at hl 2 rfl) ?_
      have hPc := hP.sub (ws' := [(qc, .inr (1, [.ref qb, .int ln, .int (nI a2_10), .int (nI b), .int ml2_11]))]) [1] rfl
      have hDc := hD.sub (ws' := [(qc, .inr (1, [.ref qb, .int ln, .int (nI a2_10), .int (nI b), .int ml2_11]))]) [1] (by decide) rfl
      have hFc := va_free (wc := [(qc, .inr (1, [.ref qb, .int ln, .int (nI a2_10), .int (nI b), .int ml2_11]))]) hD hS hA [1] rfl
      refine x_rv (ws := [(h0, .inr (8, [.int (nI cn), .long r_13, .long r_13])), (qc, .inr (1, [.ref qb, .int ln, .int (nI a2_10), .int (nI b), .int ml2_11])), (qb, .inl (cB, 4000, .inl f))]) (wc := [(qc, .inr (1, [.ref qb, .int ln, .int (nI a2_10), .int (nI b), .int ml2_11]))]) (wr := [(h0, .inr (8, [.int (nI cn), .long r_13, .long r_13])), (qb, .inl (cB, 4000, .inl f))]) (x_V (As := []) (C := "WasmReader$Cursor") E (c_Cursor_fail l D cB cI cJ cZ H.size qc qb ln (nI a2_10) (nI b) ml2_11 ) m_175 m_94 m_279 m_176 m_177 nm_Cursor_fail hPc hDc hZ hS hFc rfl rfl rfl hl.1 rfl (Nat.le_of_ble_eq_true rfl) d_Sized_add_38 rfl rfl (by decide) (by decide) (by decide) (by decide)) hP hD hS hA [1] [0, 2] rfl rfl (by decide) (by decide) (fun u H locs hw hP hD hS => ?_)
      obtain rfl := hw
      have hP : va_P D classes [(h0, .inr (8, [.int (nI cn), .long r_13, .long r_13])), (qb, .inl (cB, 4000, .inl f)), (qc, .inr (1, [.ref qb, .int ln, .int (nI a2_10), .int (nI b), .int 1]))] H := hP
      have hD : va_D (va_A [(h0, .inr (8, [.int (nI cn), .long l1, .long l2])), (qc, .inr (1, [.ref qb, .int ln, .int (nI a), .int (nI b), .int ml])), (qb, .inl (cB, 4000, .inl f))] s.heap.size) [(h0, .inr (8, [.int (nI cn), .long r_13, .long r_13])), (qb, .inl (cB, 4000, .inl f)), (qc, .inr (1, [.ref qb, .int ln, .int (nI a2_10), .int (nI b), .int 1]))] := hD
      refine lv_aload_n E.1 E.2.1 d_Sized_add_41 rfl (lv_at hl 1 rfl) ?_
      refine lv_dup E.1 E.2.1 d_Sized_add_42 rfl ?_
      refine x_get E hP (C := "WasmReader$Sized") (T := T_Sized) (N := 3) (ci := 8) 0 (v := .int (nI cn)) 0 in_Sized rfl rfl (by decide) m_278 rfl d_Sized_add_43 ?_
      refine lv_iconst (v := 1) E.1 E.2.1 d_Sized_add_46 (by decide) ?_
      refine lv_iadd E.1 E.2.1 d_Sized_add_47 ?_
      refine lv_topi (fun vt_27 evt_27 => ?_)
      obtain rfl : vt_27 = nI (cn + 1) := evt_27.trans (nI_add cn 1)
      refine x_put E hP hD hS (C := "WasmReader$Sized") (T := T_Sized) (N := 3) (ci := 8) 0 (v := .int (nI (cn + 1))) 0 (t0 := t_Sized) (tk := .int) in_Sized tok_Sized nok_Sized rfl rfl (by decide) m_278 rfl rfl rfl rfl (Nat.le_of_ble_eq_true rfl) d_Sized_add_48 (fun H locs hP hD hS => ?_)
      have hP : va_P D classes [(h0, .inr (8, [.int (nI (cn + 1)), .long r_13, .long r_13])), (qb, .inl (cB, 4000, .inl f)), (qc, .inr (1, [.ref qb, .int ln, .int (nI a2_10), .int (nI b), .int 1]))] H := hP
      have hD : va_D (va_A [(h0, .inr (8, [.int (nI cn), .long l1, .long l2])), (qc, .inr (1, [.ref qb, .int ln, .int (nI a), .int (nI b), .int ml])), (qb, .inl (cB, 4000, .inl f))] s.heap.size) [(h0, .inr (8, [.int (nI (cn + 1)), .long r_13, .long r_13])), (qb, .inl (cB, 4000, .inl f)), (qc, .inr (1, [.ref qb, .int ln, .int (nI a2_10), .int (nI b), .int 1]))] := hD
      refine W.widen (k := 0) (n := 0) (by decide) (by decide) ?_
      exact x_vret (ws := [(h0, .inr (8, [.int (nI (cn + 1)), .long r_13, .long r_13])), (qc, .inr (1, [.ref qb, .int ln, .int (nI a2_10), .int (nI b), .int 1])), (qb, .inl (cB, 4000, .inl f))]) E hr hlocks (hP.sub [0, 2, 1] rfl) (hD.sub [0, 2, 1] (by decide) rfl) hS ⟨r_13, r_13, a2_10, 1, (by omega), (by omega), rfl⟩ d_Sized_add_51
set_option maxHeartbeats 4000000 in
set_option maxRecDepth 100000 in
theorem c_Sized_holds (l : Launch) (D : va_G) (cB cI cJ cZ : ClassId) (sz : Nat) (h0 : Nat) (cn : Nat) (l1 : Int64) (l2 : Int64) (rg : Int64) (hc : cn ≤ 20000000) : Met l y_Sized_holds (Cond.code y_Sized_holds prog_8_method_3_code 3 (some .boolean) :: xtb) ({ frames := 0, cells := 0, slots := 0, locals := 0 }) (xP D [(cB, .byte), (cI, .int), (cJ, .long), (cZ, .boolean)] [.ref h0, .long rg] [(h0, .inr (8, [.int (nI cn), .long l1, .long l2]))] sz) (xQi D [(cB, .byte), (cI, .int), (cJ, .long), (cZ, .boolean)] [(h0, .inr (8, [.int (nI cn), .long l1, .long l2]))] sz (fun r u => u = [(h0, .inr (8, [.int (nI cn), .long l1, .long l2]))])) 0 0 (va_A [(h0, .inr (8, [.int (nI cn), .long l1, .long l2]))] sz) := by
  refine x_met (Qc := fun s => xQi D [(cB, .byte), (cI, .int), (cJ, .long), (cZ, .boolean)] [(h0, .inr (8, [.int (nI cn), .long l1, .long l2]))] s.heap.size (fun r u => u = [(h0, .inr (8, [.int (nI cn), .long l1, .long l2]))])) (fr := fun s => va_A [(h0, .inr (8, [.int (nI cn), .long l1, .long l2]))] s.heap.size) "WasmReader$Sized" (by decide +kernel) rfl (Nat.le_of_ble_eq_true rfl) (fun s h => by rw [h]) (fun s h => by rw [h]) ?_
  intro p e s m below meth c ls E hr hlocks hinit hl hP hD hA hS hZ hadm
  have hl : lv_has ls 3 [(0, .ref h0), (1, .long rg)] := hl
  refine lv_aload_n E.1 E.2.1 d_Sized_holds_0 rfl (lv_at hl 0 rfl) ?_
  refine x_get E hP (C := "WasmReader$Sized") (T := T_Sized) (N := 3) (ci := 8) 0 (v := .int (nI cn)) 0 in_Sized rfl rfl (by decide) m_278 rfl d_Sized_holds_1 ?_
  refine lv_if_eq (tgt := 36) E.1 E.2.1 d_Sized_holds_4 (by decide) (fun hc_1 => ?_) (fun hc_1 => ?_)
  ·
    have hc_1 : cn = 0 := (nI_eq (a := cn) (b := 0) (by omega) (by omega)).mp hc_1
    refine lv_iconst (v := 1) E.1 E.2.1 d_Sized_holds_36 (by decide) ?_
    refine lv_goto (tgt := 41) E.1 E.2.1 d_Sized_holds_37 (by decide) ?_
    refine W.widen (k := 0) (n := 0) (by decide) (by decide) ?_
    exact x_zret (ws := [(h0, .inr (8, [.int (nI cn), .long l1, .long l2]))]) E hr (by decide) hlocks (hP.sub [0] rfl) (hD.sub [0] (by decide) rfl) hS rfl d_Sized_holds_41
  ·
    have hc_1 : ¬ (cn = 0) := fun hq_ => hc_1 ((nI_eq (a := cn) (b := 0) (by omega) (by omega)).mpr hq_)
    refine lv_aload_n E.1 E.2.1 d_Sized_holds_7 rfl (lv_at hl 0 rfl) ?_
    refine x_get E hP (C := "WasmReader$Sized") (T := T_Sized) (N := 3) (ci := 8) 0 (v := .int (nI cn)) 0 in_Sized rfl rfl (by decide) m_278 rfl d_Sized_holds_8 ?_
    refine lv_iconst (v := 1) E.1 E.2.1 d_Sized_holds_11 (by decide) ?_
    refine lv_icmp_ne (tgt := 40) E.1 E.2.1 d_Sized_holds_12 (by decide) (fun hc_2 => ?_) (fun hc_2 => ?_)
    ·
      have hc_2 : ¬ (cn = 1) := fun hq_ => hc_2 ((nI_eq (a := cn) (b := 1) (by omega) (by omega)).mpr hq_)
      refine lv_iconst (v := 0) E.1 E.2.1 d_Sized_holds_40 (by decide) ?_
      refine W.widen (k := 0) (n := 0) (by decide) (by decide) ?_
      exact x_zret (ws := [(h0, .inr (8, [.int (nI cn), .long l1, .long l2]))]) E hr (by decide) hlocks (hP.sub [0] rfl) (hD.sub [0] (by decide) rfl) hS rfl d_Sized_holds_41
    ·
      have hc_2 : cn = 1 := (nI_eq (a := cn) (b := 1) (by omega) (by omega)).mp hc_2
      refine lv_aload_n E.1 E.2.1 d_Sized_holds_15 rfl (lv_at hl 0 rfl) ?_
      refine x_get E hP (C := "WasmReader$Sized") (T := T_Sized) (N := 3) (ci := 8) 0 (v := .long l1) 1 in_Sized rfl rfl (by decide) m_276 rfl d_Sized_holds_16 ?_
      refine lv_aload_n E.1 E.2.1 d_Sized_holds_19 rfl (lv_at hl 0 rfl) ?_
      refine x_get E hP (C := "WasmReader$Sized") (T := T_Sized) (N := 3) (ci := 8) 0 (v := .long l2) 2 in_Sized rfl rfl (by decide) m_277 rfl d_Sized_holds_20 ?_
      refine W.lcmp E.1 E.2.1 d_Sized_holds_23 ?_
      refine lv_if_gt (tgt := 40) E.1 E.2.1 d_Sized_holds_24 (by decide) (fun hc_3 => ?_) (fun hc_3 => ?_)
      ·
        refine lv_iconst (v := 0) E.1 E.2.1 d_Sized_holds_40 (by decide) ?_
        refine W.widen (k := 0) (n := 0) (by decide) (by decide) ?_
        exact x_zret (ws := [(h0, .inr (8, [.int (nI cn), .long l1, .long l2]))]) E hr (by decide) hlocks (hP.sub [0] rfl) (hD.sub [0] (by decide) rfl) hS rfl d_Sized_holds_41
      ·
        refine lv_aload_n E.1 E.2.1 d_Sized_holds_27 rfl (lv_at hl 0 rfl) ?_
        refine x_get E hP (C := "WasmReader$Sized") (T := T_Sized) (N := 3) (ci := 8) 0 (v := .long l2) 2 in_Sized rfl rfl (by decide) m_277 rfl d_Sized_holds_28 ?_
        refine lv_lload_n E.1 E.2.1 d_Sized_holds_31 rfl (lv_at hl 1 rfl) ?_
        refine W.lcmp E.1 E.2.1 d_Sized_holds_32 ?_
        refine lv_if_gt (tgt := 40) E.1 E.2.1 d_Sized_holds_33 (by decide) (fun hc_4 => ?_) (fun hc_4 => ?_)
        ·
          refine lv_iconst (v := 0) E.1 E.2.1 d_Sized_holds_40 (by decide) ?_
          refine W.widen (k := 0) (n := 0) (by decide) (by decide) ?_
          exact x_zret (ws := [(h0, .inr (8, [.int (nI cn), .long l1, .long l2]))]) E hr (by decide) hlocks (hP.sub [0] rfl) (hD.sub [0] (by decide) rfl) hS rfl d_Sized_holds_41
        ·
          refine lv_iconst (v := 1) E.1 E.2.1 d_Sized_holds_36 (by decide) ?_
          refine lv_goto (tgt := 41) E.1 E.2.1 d_Sized_holds_37 (by decide) ?_
          refine W.widen (k := 0) (n := 0) (by decide) (by decide) ?_
          exact x_zret (ws := [(h0, .inr (8, [.int (nI cn), .long l1, .long l2]))]) E hr (by decide) hlocks (hP.sub [0] rfl) (hD.sub [0] (by decide) rfl) hS rfl d_Sized_holds_41
