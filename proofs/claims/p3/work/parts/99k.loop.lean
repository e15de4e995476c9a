set_option maxHeartbeats 8000000 in
set_option maxRecDepth 100000 in
theorem law_loop {p : Program} {e : Env} {s : State} {m : MethodId} {below : List Frame} {meth : Method} {c : Code} (l : Launch) (hfl : l.flags = pinnedFlags ++ [noTraceFlag]) {b L : Nat} {xs : Nat → Int32} {D : va_G} {cB cI cJ cZ : ClassId} (hL : L ≤ 3072) (E : xE p s m #[Value.ref b] c code 8 "WasmReaderLaw" D [(cB, .byte), (cI, .int), (cJ, .long), (cZ, .boolean)]) (hX : va_X b L xs s s.heap) (hbl : b < s.heap.size) (hr : meth.sig.returnType = ret) (hlocks : meth.locks = false) (hZ : xZ (fun q : Nat => s.heap.size ≤ q) s s.heap) (h6 : 6 ≤ L) : ∀ (j i : Nat), i ≤ 512 → 513 ≤ i + j → LPW l D cB cI cJ cZ p e s m below meth c b i := by
  have hA : ∀ q : Nat, s.heap.size ≤ q → (fun q : Nat => s.heap.size ≤ q) q := fun _ h => h
  have hbA : ¬ (fun q : Nat => s.heap.size ≤ q) b := Nat.not_le.mpr hbl
  intro j
  induction j with
  | zero =>
    intro i h1 h2
    exact absurd h2 (by omega)
  | succ j ihj =>
    intro i hi0 hij
    have ih := fun (h : 6 * i + 6 ≤ L) => ihj (i + 1) (by omega) (by omega)
    unfold LPW
    intro xr prr qc qm qe qs qb n pos lim ml f m0 m1 m2 m3 m4 m5 m6 m7 wi wst wpt tc t0 t1 t2 vt0 vt1 vt2 fc fi fb f0 f1 f2 f3 f4 f5 f6 vf0 vf1 vf2 vf3 vf4 vf5 vf6 gc gi g0 g1 g2 g3 vg0 vg1 vg2 vg3 ec e0 e1 e2 e3 ve0 ve1 ve2 ve3 sc s0 s1 s2 s3 vs0 vs1 vs2 vs3 dc d0 d1 d2 d3 vd0 vd1 vd2 vd3 bc b1 b2 yc y1 y2 fe k0 k1 k2 k3 k4 hg tp wr vk0 vk1 vk2 vk3 vk4 mr th ir fr fu zr0 zr4 zi5 zi6 zi7 zi8 zi9 zl10 zl11 zi12 zl13 zr14 zr15 zr16 zr17 zr18 zr19 zr20 zr21 zi22 zi23 yr0 yi1 yi3 yi5 yi6 yi7 yi10 yi11 yi13 yr14 yr15 yr16 yr17 yr18 yr19 yr20 yr21 yr22 yr23 yr24 yr25 yr26 yr27 yr28 yr29 yr30 yi31 yi32 yi33 yi34 yl35 yl36 yr37 yr38 yr39 yr40 yr41 yr42 yr43 yr44 yr45 yr46 yr47 yr48 yr49 yr50 yr51 yr52 yr53 yr54 yr55 yr56 v_params v_result v_param v_iModule v_iModuleLong v_iName v_iNameLong v_iSort v_iFirst v_iSecond v_fType v_fImport v_bAt v_bEnd v_bLocals v_gType v_gImport v_gOp v_gMutable v_gValue v_eName v_eNameLong v_eSort v_eIndex v_sOp v_sMany v_sAt v_sIndex v_dOp v_dMany v_dAt v_dIndex v_sValue v_dValue v_local v_otherwise v_ends v_blockAt v_blockKind v_vt v_bTakes v_bLeaves v_bHeight v_bOp v_bDead tcm fcm bom gcm ecm qo fo hn h_tc h_fc h_fi h_gc h_gi h_ec h_sc h_dc h_bc h_yc hhg htp hfok hir hR hRB hi_params hi_fType hi_bAt hi_bEnd hi_bLocals hi_sAt hi_otherwise hi_blockAt hi_eName hi_sOp hi_dOp hi_gOp H locs ls hP hD hS hl
    refine lv_iload E.1 E.2.1 d_Law_law_23 (lv_at hl 0 rfl) ?_
    refine lv_aload_n E.1 E.2.1 d_Law_law_25 rfl (lv_at hl 4 rfl) ?_
    refine va_slen E.1 E.2.1 hX hbl hbA hS d_Law_law_26 ?_
    refine W.eq (g2 := F0 m 27 ls [.int (nI L), .int (nI (6 * i))]) rfl ?_
    refine lv_bipush (v := 6) E.1 E.2.1 d_Law_law_27 (by decide) ?_
    refine lv_isub E.1 E.2.1 d_Law_law_29 ?_
    refine lv_topi (fun vt_381 evt_381 => ?_)
    obtain rfl : vt_381 = nI (L - 6) := evt_381.trans (pk_sub (a := L) (b := 6) (by omega))
    refine lv_icmp_gt (tgt := 415) E.1 E.2.1 d_Law_law_30 (by decide) (fun hc_382 => ?_) (fun hc_382 => ?_)
    ·
      have hc_382 : L - 6 < 6 * i := (nI_ltI (a := L - 6) (b := 6 * i) (by omega) (by omega)).mp hc_382
      refine lv_iconst (v := 1) E.1 E.2.1 d_Law_law_415 (by decide) ?_
      refine va_forget (fun q hq => hS.2.2 q hq) ?_
      refine W.widen (k := 601024) (n := 7293034) (by omega) (by omega) ?_
      exact lw_ret E.1 E.2.1 hr hlocks d_Law_law_416
    ·
      have hc_382 : ¬ (L - 6 < 6 * i) := fun hq_ => hc_382 ((nI_ltI (a := L - 6) (b := 6 * i) (by omega) (by omega)).mpr hq_)
      refine lv_aload_n E.1 E.2.1 d_Law_law_33 rfl (lv_at hl 4 rfl) ?_
      refine lv_iload E.1 E.2.1 d_Law_law_34 (lv_at hl 0 rfl) ?_
      refine va_sld E.1 E.2.1 hX hbl hbA hS (vp_in_nI (n := 6 * i) (by omega) (by omega)) d_Law_law_36 ?_
      refine lv_topi (fun v_383 ev_383 => ?_)
      refine lv_bipush (v := 7) E.1 E.2.1 d_Law_law_37 (by decide) ?_
      refine lv_iand E.1 E.2.1 d_Law_law_39 ?_
      refine lv_topi (fun v_384 ev_384 => ?_)
      obtain ⟨jo, hjo, ejo⟩ := pk_andE (xs (Int32.toNatClampNeg (nI (6 * i)))) (m := 7) 3 (by decide)
      have hj8 : jo = 0 ∨ jo = 1 ∨ jo = 2 ∨ jo = 3 ∨ jo = 4 ∨ jo = 5 ∨ jo = 6 ∨ jo = 7 := by omega
      rcases hj8 with rfl | rfl | rfl | rfl | rfl | rfl | rfl | rfl
      ·
        have hv_ : v_384 = 0 := by
          rw [ev_384, ev_383]
          exact ejo
        subst hv_
        refine lv_tableIn (tgt := 88) (off := 48) E.1 E.2.1 d_Law_law_40 (by decide) (by decide) (by decide) (by decide) ?_
        exact law_case_0 l hfl hL E hX hbl hr hlocks hZ i (by omega) (ih (by omega)) xr prr qc qm qe qs qb n pos lim ml f m0 m1 m2 m3 m4 m5 m6 m7 wi wst wpt tc t0 t1 t2 vt0 vt1 vt2 fc fi fb f0 f1 f2 f3 f4 f5 f6 vf0 vf1 vf2 vf3 vf4 vf5 vf6 gc gi g0 g1 g2 g3 vg0 vg1 vg2 vg3 ec e0 e1 e2 e3 ve0 ve1 ve2 ve3 sc s0 s1 s2 s3 vs0 vs1 vs2 vs3 dc d0 d1 d2 d3 vd0 vd1 vd2 vd3 bc b1 b2 yc y1 y2 fe k0 k1 k2 k3 k4 hg tp wr vk0 vk1 vk2 vk3 vk4 mr th ir fr fu zr0 zr4 zi5 zi6 zi7 zi8 zi9 zl10 zl11 zi12 zl13 zr14 zr15 zr16 zr17 zr18 zr19 zr20 zr21 zi22 zi23 yr0 yi1 yi3 yi5 yi6 yi7 yi10 yi11 yi13 yr14 yr15 yr16 yr17 yr18 yr19 yr20 yr21 yr22 yr23 yr24 yr25 yr26 yr27 yr28 yr29 yr30 yi31 yi32 yi33 yi34 yl35 yl36 yr37 yr38 yr39 yr40 yr41 yr42 yr43 yr44 yr45 yr46 yr47 yr48 yr49 yr50 yr51 yr52 yr53 yr54 yr55 yr56 v_params v_result v_param v_iModule v_iModuleLong v_iName v_iNameLong v_iSort v_iFirst v_iSecond v_fType v_fImport v_bAt v_bEnd v_bLocals v_gType v_gImport v_gOp v_gMutable v_gValue v_eName v_eNameLong v_eSort v_eIndex v_sOp v_sMany v_sAt v_sIndex v_dOp v_dMany v_dAt v_dIndex v_sValue v_dValue v_local v_otherwise v_ends v_blockAt v_blockKind v_vt v_bTakes v_bLeaves v_bHeight v_bOp v_bDead tcm fcm bom gcm ecm qo fo hn h_tc h_fc h_fi h_gc h_gi h_ec h_sc h_dc h_bc h_yc hhg htp hfok hir hR hRB hi_params hi_fType hi_bAt hi_bEnd hi_bLocals hi_sAt hi_otherwise hi_blockAt hi_eName hi_sOp hi_dOp hi_gOp H locs ls hP hD hS hl
      ·
        have hv_ : v_384 = 1 := by
          rw [ev_384, ev_383]
          exact ejo
        subst hv_
        refine lv_tableIn (tgt := 164) (off := 124) E.1 E.2.1 d_Law_law_40 (by decide) (by decide) (by decide) (by decide) ?_
        exact law_case_1 l hfl hL E hX hbl hr hlocks hZ i (by omega) (ih (by omega)) xr prr qc qm qe qs qb n pos lim ml f m0 m1 m2 m3 m4 m5 m6 m7 wi wst wpt tc t0 t1 t2 vt0 vt1 vt2 fc fi fb f0 f1 f2 f3 f4 f5 f6 vf0 vf1 vf2 vf3 vf4 vf5 vf6 gc gi g0 g1 g2 g3 vg0 vg1 vg2 vg3 ec e0 e1 e2 e3 ve0 ve1 ve2 ve3 sc s0 s1 s2 s3 vs0 vs1 vs2 vs3 dc d0 d1 d2 d3 vd0 vd1 vd2 vd3 bc b1 b2 yc y1 y2 fe k0 k1 k2 k3 k4 hg tp wr vk0 vk1 vk2 vk3 vk4 mr th ir fr fu zr0 zr4 zi5 zi6 zi7 zi8 zi9 zl10 zl11 zi12 zl13 zr14 zr15 zr16 zr17 zr18 zr19 zr20 zr21 zi22 zi23 yr0 yi1 yi3 yi5 yi6 yi7 yi10 yi11 yi13 yr14 yr15 yr16 yr17 yr18 yr19 yr20 yr21 yr22 yr23 yr24 yr25 yr26 yr27 yr28 yr29 yr30 yi31 yi32 yi33 yi34 yl35 yl36 yr37 yr38 yr39 yr40 yr41 yr42 yr43 yr44 yr45 yr46 yr47 yr48 yr49 yr50 yr51 yr52 yr53 yr54 yr55 yr56 v_params v_result v_param v_iModule v_iModuleLong v_iName v_iNameLong v_iSort v_iFirst v_iSecond v_fType v_fImport v_bAt v_bEnd v_bLocals v_gType v_gImport v_gOp v_gMutable v_gValue v_eName v_eNameLong v_eSort v_eIndex v_sOp v_sMany v_sAt v_sIndex v_dOp v_dMany v_dAt v_dIndex v_sValue v_dValue v_local v_otherwise v_ends v_blockAt v_blockKind v_vt v_bTakes v_bLeaves v_bHeight v_bOp v_bDead tcm fcm bom gcm ecm qo fo hn h_tc h_fc h_fi h_gc h_gi h_ec h_sc h_dc h_bc h_yc hhg htp hfok hir hR hRB hi_params hi_fType hi_bAt hi_bEnd hi_bLocals hi_sAt hi_otherwise hi_blockAt hi_eName hi_sOp hi_dOp hi_gOp H locs ls hP hD hS hl
      ·
        have hv_ : v_384 = 2 := by
          rw [ev_384, ev_383]
          exact ejo
        subst hv_
        refine lv_tableIn (tgt := 220) (off := 180) E.1 E.2.1 d_Law_law_40 (by decide) (by decide) (by decide) (by decide) ?_
        exact law_case_2 l hfl hL E hX hbl hr hlocks hZ i (by omega) (ih (by omega)) xr prr qc qm qe qs qb n pos lim ml f m0 m1 m2 m3 m4 m5 m6 m7 wi wst wpt tc t0 t1 t2 vt0 vt1 vt2 fc fi fb f0 f1 f2 f3 f4 f5 f6 vf0 vf1 vf2 vf3 vf4 vf5 vf6 gc gi g0 g1 g2 g3 vg0 vg1 vg2 vg3 ec e0 e1 e2 e3 ve0 ve1 ve2 ve3 sc s0 s1 s2 s3 vs0 vs1 vs2 vs3 dc d0 d1 d2 d3 vd0 vd1 vd2 vd3 bc b1 b2 yc y1 y2 fe k0 k1 k2 k3 k4 hg tp wr vk0 vk1 vk2 vk3 vk4 mr th ir fr fu zr0 zr4 zi5 zi6 zi7 zi8 zi9 zl10 zl11 zi12 zl13 zr14 zr15 zr16 zr17 zr18 zr19 zr20 zr21 zi22 zi23 yr0 yi1 yi3 yi5 yi6 yi7 yi10 yi11 yi13 yr14 yr15 yr16 yr17 yr18 yr19 yr20 yr21 yr22 yr23 yr24 yr25 yr26 yr27 yr28 yr29 yr30 yi31 yi32 yi33 yi34 yl35 yl36 yr37 yr38 yr39 yr40 yr41 yr42 yr43 yr44 yr45 yr46 yr47 yr48 yr49 yr50 yr51 yr52 yr53 yr54 yr55 yr56 v_params v_result v_param v_iModule v_iModuleLong v_iName v_iNameLong v_iSort v_iFirst v_iSecond v_fType v_fImport v_bAt v_bEnd v_bLocals v_gType v_gImport v_gOp v_gMutable v_gValue v_eName v_eNameLong v_eSort v_eIndex v_sOp v_sMany v_sAt v_sIndex v_dOp v_dMany v_dAt v_dIndex v_sValue v_dValue v_local v_otherwise v_ends v_blockAt v_blockKind v_vt v_bTakes v_bLeaves v_bHeight v_bOp v_bDead tcm fcm bom gcm ecm qo fo hn h_tc h_fc h_fi h_gc h_gi h_ec h_sc h_dc h_bc h_yc hhg htp hfok hir hR hRB hi_params hi_fType hi_bAt hi_bEnd hi_bLocals hi_sAt hi_otherwise hi_blockAt hi_eName hi_sOp hi_dOp hi_gOp H locs ls hP hD hS hl
      ·
        have hv_ : v_384 = 3 := by
          rw [ev_384, ev_383]
          exact ejo
        subst hv_
        refine lv_tableIn (tgt := 233) (off := 193) E.1 E.2.1 d_Law_law_40 (by decide) (by decide) (by decide) (by decide) ?_
        exact law_case_3 l hfl hL E hX hbl hr hlocks hZ i (by omega) (ih (by omega)) xr prr qc qm qe qs qb n pos lim ml f m0 m1 m2 m3 m4 m5 m6 m7 wi wst wpt tc t0 t1 t2 vt0 vt1 vt2 fc fi fb f0 f1 f2 f3 f4 f5 f6 vf0 vf1 vf2 vf3 vf4 vf5 vf6 gc gi g0 g1 g2 g3 vg0 vg1 vg2 vg3 ec e0 e1 e2 e3 ve0 ve1 ve2 ve3 sc s0 s1 s2 s3 vs0 vs1 vs2 vs3 dc d0 d1 d2 d3 vd0 vd1 vd2 vd3 bc b1 b2 yc y1 y2 fe k0 k1 k2 k3 k4 hg tp wr vk0 vk1 vk2 vk3 vk4 mr th ir fr fu zr0 zr4 zi5 zi6 zi7 zi8 zi9 zl10 zl11 zi12 zl13 zr14 zr15 zr16 zr17 zr18 zr19 zr20 zr21 zi22 zi23 yr0 yi1 yi3 yi5 yi6 yi7 yi10 yi11 yi13 yr14 yr15 yr16 yr17 yr18 yr19 yr20 yr21 yr22 yr23 yr24 yr25 yr26 yr27 yr28 yr29 yr30 yi31 yi32 yi33 yi34 yl35 yl36 yr37 yr38 yr39 yr40 yr41 yr42 yr43 yr44 yr45 yr46 yr47 yr48 yr49 yr50 yr51 yr52 yr53 yr54 yr55 yr56 v_params v_result v_param v_iModule v_iModuleLong v_iName v_iNameLong v_iSort v_iFirst v_iSecond v_fType v_fImport v_bAt v_bEnd v_bLocals v_gType v_gImport v_gOp v_gMutable v_gValue v_eName v_eNameLong v_eSort v_eIndex v_sOp v_sMany v_sAt v_sIndex v_dOp v_dMany v_dAt v_dIndex v_sValue v_dValue v_local v_otherwise v_ends v_blockAt v_blockKind v_vt v_bTakes v_bLeaves v_bHeight v_bOp v_bDead tcm fcm bom gcm ecm qo fo hn h_tc h_fc h_fi h_gc h_gi h_ec h_sc h_dc h_bc h_yc hhg htp hfok hir hR hRB hi_params hi_fType hi_bAt hi_bEnd hi_bLocals hi_sAt hi_otherwise hi_blockAt hi_eName hi_sOp hi_dOp hi_gOp H locs ls hP hD hS hl
      ·
        have hv_ : v_384 = 4 := by
          rw [ev_384, ev_383]
          exact ejo
        subst hv_
        refine lv_tableIn (tgt := 261) (off := 221) E.1 E.2.1 d_Law_law_40 (by decide) (by decide) (by decide) (by decide) ?_
        exact law_case_4 l hfl hL E hX hbl hr hlocks hZ i (by omega) (ih (by omega)) xr prr qc qm qe qs qb n pos lim ml f m0 m1 m2 m3 m4 m5 m6 m7 wi wst wpt tc t0 t1 t2 vt0 vt1 vt2 fc fi fb f0 f1 f2 f3 f4 f5 f6 vf0 vf1 vf2 vf3 vf4 vf5 vf6 gc gi g0 g1 g2 g3 vg0 vg1 vg2 vg3 ec e0 e1 e2 e3 ve0 ve1 ve2 ve3 sc s0 s1 s2 s3 vs0 vs1 vs2 vs3 dc d0 d1 d2 d3 vd0 vd1 vd2 vd3 bc b1 b2 yc y1 y2 fe k0 k1 k2 k3 k4 hg tp wr vk0 vk1 vk2 vk3 vk4 mr th ir fr fu zr0 zr4 zi5 zi6 zi7 zi8 zi9 zl10 zl11 zi12 zl13 zr14 zr15 zr16 zr17 zr18 zr19 zr20 zr21 zi22 zi23 yr0 yi1 yi3 yi5 yi6 yi7 yi10 yi11 yi13 yr14 yr15 yr16 yr17 yr18 yr19 yr20 yr21 yr22 yr23 yr24 yr25 yr26 yr27 yr28 yr29 yr30 yi31 yi32 yi33 yi34 yl35 yl36 yr37 yr38 yr39 yr40 yr41 yr42 yr43 yr44 yr45 yr46 yr47 yr48 yr49 yr50 yr51 yr52 yr53 yr54 yr55 yr56 v_params v_result v_param v_iModule v_iModuleLong v_iName v_iNameLong v_iSort v_iFirst v_iSecond v_fType v_fImport v_bAt v_bEnd v_bLocals v_gType v_gImport v_gOp v_gMutable v_gValue v_eName v_eNameLong v_eSort v_eIndex v_sOp v_sMany v_sAt v_sIndex v_dOp v_dMany v_dAt v_dIndex v_sValue v_dValue v_local v_otherwise v_ends v_blockAt v_blockKind v_vt v_bTakes v_bLeaves v_bHeight v_bOp v_bDead tcm fcm bom gcm ecm qo fo hn h_tc h_fc h_fi h_gc h_gi h_ec h_sc h_dc h_bc h_yc hhg htp hfok hir hR hRB hi_params hi_fType hi_bAt hi_bEnd hi_bLocals hi_sAt hi_otherwise hi_blockAt hi_eName hi_sOp hi_dOp hi_gOp H locs ls hP hD hS hl
      ·
        have hv_ : v_384 = 5 := by
          rw [ev_384, ev_383]
          exact ejo
        subst hv_
        refine lv_tableIn (tgt := 301) (off := 261) E.1 E.2.1 d_Law_law_40 (by decide) (by decide) (by decide) (by decide) ?_
        exact law_case_5 l hfl hL E hX hbl hr hlocks hZ i (by omega) (ih (by omega)) xr prr qc qm qe qs qb n pos lim ml f m0 m1 m2 m3 m4 m5 m6 m7 wi wst wpt tc t0 t1 t2 vt0 vt1 vt2 fc fi fb f0 f1 f2 f3 f4 f5 f6 vf0 vf1 vf2 vf3 vf4 vf5 vf6 gc gi g0 g1 g2 g3 vg0 vg1 vg2 vg3 ec e0 e1 e2 e3 ve0 ve1 ve2 ve3 sc s0 s1 s2 s3 vs0 vs1 vs2 vs3 dc d0 d1 d2 d3 vd0 vd1 vd2 vd3 bc b1 b2 yc y1 y2 fe k0 k1 k2 k3 k4 hg tp wr vk0 vk1 vk2 vk3 vk4 mr th ir fr fu zr0 zr4 zi5 zi6 zi7 zi8 zi9 zl10 zl11 zi12 zl13 zr14 zr15 zr16 zr17 zr18 zr19 zr20 zr21 zi22 zi23 yr0 yi1 yi3 yi5 yi6 yi7 yi10 yi11 yi13 yr14 yr15 yr16 yr17 yr18 yr19 yr20 yr21 yr22 yr23 yr24 yr25 yr26 yr27 yr28 yr29 yr30 yi31 yi32 yi33 yi34 yl35 yl36 yr37 yr38 yr39 yr40 yr41 yr42 yr43 yr44 yr45 yr46 yr47 yr48 yr49 yr50 yr51 yr52 yr53 yr54 yr55 yr56 v_params v_result v_param v_iModule v_iModuleLong v_iName v_iNameLong v_iSort v_iFirst v_iSecond v_fType v_fImport v_bAt v_bEnd v_bLocals v_gType v_gImport v_gOp v_gMutable v_gValue v_eName v_eNameLong v_eSort v_eIndex v_sOp v_sMany v_sAt v_sIndex v_dOp v_dMany v_dAt v_dIndex v_sValue v_dValue v_local v_otherwise v_ends v_blockAt v_blockKind v_vt v_bTakes v_bLeaves v_bHeight v_bOp v_bDead tcm fcm bom gcm ecm qo fo hn h_tc h_fc h_fi h_gc h_gi h_ec h_sc h_dc h_bc h_yc hhg htp hfok hir hR hRB hi_params hi_fType hi_bAt hi_bEnd hi_bLocals hi_sAt hi_otherwise hi_blockAt hi_eName hi_sOp hi_dOp hi_gOp H locs ls hP hD hS hl
      ·
        have hv_ : v_384 = 6 := by
          rw [ev_384, ev_383]
          exact ejo
        subst hv_
        refine lv_tableIn (tgt := 341) (off := 301) E.1 E.2.1 d_Law_law_40 (by decide) (by decide) (by decide) (by decide) ?_
        exact law_case_6 l hfl hL E hX hbl hr hlocks hZ i (by omega) (ih (by omega)) xr prr qc qm qe qs qb n pos lim ml f m0 m1 m2 m3 m4 m5 m6 m7 wi wst wpt tc t0 t1 t2 vt0 vt1 vt2 fc fi fb f0 f1 f2 f3 f4 f5 f6 vf0 vf1 vf2 vf3 vf4 vf5 vf6 gc gi g0 g1 g2 g3 vg0 vg1 vg2 vg3 ec e0 e1 e2 e3 ve0 ve1 ve2 ve3 sc s0 s1 s2 s3 vs0 vs1 vs2 vs3 dc d0 d1 d2 d3 vd0 vd1 vd2 vd3 bc b1 b2 yc y1 y2 fe k0 k1 k2 k3 k4 hg tp wr vk0 vk1 vk2 vk3 vk4 mr th ir fr fu zr0 zr4 zi5 zi6 zi7 zi8 zi9 zl10 zl11 zi12 zl13 zr14 zr15 zr16 zr17 zr18 zr19 zr20 zr21 zi22 zi23 yr0 yi1 yi3 yi5 yi6 yi7 yi10 yi11 yi13 yr14 yr15 yr16 yr17 yr18 yr19 yr20 yr21 yr22 yr23 yr24 yr25 yr26 yr27 yr28 yr29 yr30 yi31 yi32 yi33 yi34 yl35 yl36 yr37 yr38 yr39 yr40 yr41 yr42 yr43 yr44 yr45 yr46 yr47 yr48 yr49 yr50 yr51 yr52 yr53 yr54 yr55 yr56 v_params v_result v_param v_iModule v_iModuleLong v_iName v_iNameLong v_iSort v_iFirst v_iSecond v_fType v_fImport v_bAt v_bEnd v_bLocals v_gType v_gImport v_gOp v_gMutable v_gValue v_eName v_eNameLong v_eSort v_eIndex v_sOp v_sMany v_sAt v_sIndex v_dOp v_dMany v_dAt v_dIndex v_sValue v_dValue v_local v_otherwise v_ends v_blockAt v_blockKind v_vt v_bTakes v_bLeaves v_bHeight v_bOp v_bDead tcm fcm bom gcm ecm qo fo hn h_tc h_fc h_fi h_gc h_gi h_ec h_sc h_dc h_bc h_yc hhg htp hfok hir hR hRB hi_params hi_fType hi_bAt hi_bEnd hi_bLocals hi_sAt hi_otherwise hi_blockAt hi_eName hi_sOp hi_dOp hi_gOp H locs ls hP hD hS hl
      ·
        have hv_ : v_384 = 7 := by
          rw [ev_384, ev_383]
          exact ejo
        subst hv_
        refine lv_tableIn (tgt := 381) (off := 341) E.1 E.2.1 d_Law_law_40 (by decide) (by decide) (by decide) (by decide) ?_
        exact law_case_7 l hfl hL E hX hbl hr hlocks hZ i (by omega) (ih (by omega)) xr prr qc qm qe qs qb n pos lim ml f m0 m1 m2 m3 m4 m5 m6 m7 wi wst wpt tc t0 t1 t2 vt0 vt1 vt2 fc fi fb f0 f1 f2 f3 f4 f5 f6 vf0 vf1 vf2 vf3 vf4 vf5 vf6 gc gi g0 g1 g2 g3 vg0 vg1 vg2 vg3 ec e0 e1 e2 e3 ve0 ve1 ve2 ve3 sc s0 s1 s2 s3 vs0 vs1 vs2 vs3 dc d0 d1 d2 d3 vd0 vd1 vd2 vd3 bc b1 b2 yc y1 y2 fe k0 k1 k2 k3 k4 hg tp wr vk0 vk1 vk2 vk3 vk4 mr th ir fr fu zr0 zr4 zi5 zi6 zi7 zi8 zi9 zl10 zl11 zi12 zl13 zr14 zr15 zr16 zr17 zr18 zr19 zr20 zr21 zi22 zi23 yr0 yi1 yi3 yi5 yi6 yi7 yi10 yi11 yi13 yr14 yr15 yr16 yr17 yr18 yr19 yr20 yr21 yr22 yr23 yr24 yr25 yr26 yr27 yr28 yr29 yr30 yi31 yi32 yi33 yi34 yl35 yl36 yr37 yr38 yr39 yr40 yr41 yr42 yr43 yr44 yr45 yr46 yr47 yr48 yr49 yr50 yr51 yr52 yr53 yr54 yr55 yr56 v_params v_result v_param v_iModule v_iModuleLong v_iName v_iNameLong v_iSort v_iFirst v_iSecond v_fType v_fImport v_bAt v_bEnd v_bLocals v_gType v_gImport v_gOp v_gMutable v_gValue v_eName v_eNameLong v_eSort v_eIndex v_sOp v_sMany v_sAt v_sIndex v_dOp v_dMany v_dAt v_dIndex v_sValue v_dValue v_local v_otherwise v_ends v_blockAt v_blockKind v_vt v_bTakes v_bLeaves v_bHeight v_bOp v_bDead tcm fcm bom gcm ecm qo fo hn h_tc h_fc h_fi h_gc h_gi h_ec h_sc h_dc h_bc h_yc hhg htp hfok hir hR hRB hi_params hi_fType hi_bAt hi_bEnd hi_bLocals hi_sAt hi_otherwise hi_blockAt hi_eName hi_sOp hi_dOp hi_gOp H locs ls hP hD hS hl
