/-! CONTRACTS THAT MAY THROW, in the compact rows' words -/
def xQX (D : va_G) (ty : List (ClassId × FieldType)) (ws : xW) (sz : Nat) (post : Outcome → xW → State → Prop) : Array Value → State → Outcome → State → Prop := fun _ st oc t => (∃ u : xW, post oc u t ∧ xB D ty ws sz u t) ∧ va_F (va_A ws sz) st t
/-- thrown: an object of the class cls, at x -/
def xThr (cls : String) (x : Addr) (t : State) : Prop := ∃ cell : Cell, t.heap[x]? = some cell ∧ cell.vm.isStatics = false ∧ t.vm.findClass cls = some cell.cls
theorem x_metX {l : Launch} {y : MethodName} {cc : ByteArray} {maxL : Nat} {ret : Option FieldType} {rm : Room} {D : va_G} {ty : List (ClassId × FieldType)} {av : List Value} {ws : xW} {sz : Nat} {Qc : State → Array Value → State → Outcome → State → Prop} {Qd : Array Value → State → Outcome → State → Prop} {mc ms : Nat} {fr : State → Addr → Prop} {free : Addr → Prop} (own : String)
    (hy : plainName y.cls = true) (ho : y.cls = own) (hlen : (lg_sl av).length ≤ maxL) (hQ : ∀ s : State, s.heap.size = sz → Qc s = Qd) (hf : ∀ s : State, s.heap.size = sz → fr s = free)
    (body : ∀ (p : Program) (e : Env) (s : State) (m : MethodId) (below : List Frame) (meth : Method) (c : Code) (ls : Array Slot), xE p s m av.toArray c cc maxL own D ty → meth.sig.returnType = ret → meth.locks = false → c.exceptionTable.toList = [] → lv_has ls maxL (lv_args 0 av) →
      va_P D classes ws s.heap → va_D (va_A ws s.heap.size) ws → (∀ q : Nat, s.heap.size ≤ q → va_A ws s.heap.size q) → va_S (va_A ws s.heap.size) s.heap s.heap [] → xZ (va_A ws s.heap.size) s s.heap → l.admits e → W p l e rm s m av.toArray below meth c s.heap [] 0 0 (MQX below (Qc s) av.toArray s mc ms (fr s)) (F0 m 0 ls [])) :
    MetX l y (Cond.code y cc maxL ret :: xtb) rm (xP D ty av ws sz) Qd mc ms free := by
  refine MetX.ofW (cc := cc) (maxL := maxL) (ret := ret) hy rfl ?_
  intro p e s m args below meth c s₁ B hml htab hv
  obtain ⟨rfl, hsz, hP, hK, hD0, hZ⟩ := hv
  have hts := atoms_spec (ws := Cond.code y cc maxL ret :: xtb) B.pre
  have hown : s.vm.findClass own = some m.cls := by rw [← ho]; exact findClass_of_methodNamed B.named
  have hl := lv_entry av (n := maxL) hlen
  rw [lg_entry_eq]
  rw [← hQ s hsz, ← hf s hsz]
  exact body p e s m below meth c _ ⟨B.exec, B.bytes, hml, fun w h => hts w (List.mem_cons_of_mem _ h), hown, hK⟩ B.returns B.notSynchronized htab hl hP hD0.self (fun q h => Or.inr h) va_S.rf (by rw [hsz]; exact hZ) B.admits
theorem x_metH {l : Launch} {y : MethodName} {cc : ByteArray} {maxL : Nat} {ret : Option FieldType} {hs : List (Nat × Nat × Nat × Nat)} {rm : Room} {D : va_G} {ty : List (ClassId × FieldType)} {av : List Value} {ws : xW} {sz : Nat} {Qc : State → Array Value → State → Outcome → State → Prop} {Qd : Array Value → State → Outcome → State → Prop} {mc ms : Nat} {fr : State → Addr → Prop} {free : Addr → Prop} (own : String)
    (hy : plainName y.cls = true) (ho : y.cls = own) (hlen : (lg_sl av).length ≤ maxL) (hQ : ∀ s : State, s.heap.size = sz → Qc s = Qd) (hf : ∀ s : State, s.heap.size = sz → fr s = free)
    (body : ∀ (p : Program) (e : Env) (s : State) (m : MethodId) (below : List Frame) (meth : Method) (c : Code) (ls : Array Slot), xE p s m av.toArray c cc maxL own D ty → meth.sig.returnType = ret → meth.locks = false → c.exceptionTable.toList = tableOf hs → lv_has ls maxL (lv_args 0 av) →
      va_P D classes ws s.heap → va_D (va_A ws s.heap.size) ws → (∀ q : Nat, s.heap.size ≤ q → va_A ws s.heap.size q) → va_S (va_A ws s.heap.size) s.heap s.heap [] → xZ (va_A ws s.heap.size) s s.heap → l.admits e → W p l e rm s m av.toArray below meth c s.heap [] 0 0 (MQX below (Qc s) av.toArray s mc ms (fr s)) (F0 m 0 ls [])) :
    MetX l y (Cond.codeWith y cc maxL ret hs :: xtb) rm (xP D ty av ws sz) Qd mc ms free := by
  refine MetX.ofWH (cc := cc) (maxL := maxL) (ret := ret) (hs := hs) hy rfl ?_
  intro p e s m args below meth c s₁ B hml htab hv
  obtain ⟨rfl, hsz, hP, hK, hD0, hZ⟩ := hv
  have hts := atoms_spec (ws := Cond.codeWith y cc maxL ret hs :: xtb) B.pre
  have hown : s.vm.findClass own = some m.cls := by rw [← ho]; exact findClass_of_methodNamed B.named
  have hl := lv_entry av (n := maxL) hlen
  rw [lg_entry_eq]
  rw [← hQ s hsz, ← hf s hsz]
  exact body p e s m below meth c _ ⟨B.exec, B.bytes, hml, fun w h => hts w (List.mem_cons_of_mem _ h), hown, hK⟩ B.returns B.notSynchronized htab hl hP hD0.self (fun q h => Or.inr h) va_S.rf (by rw [hsz]; exact hZ) B.admits
section XX
variable {p : Program} {l : Launch} {e : Env} {R : Room} {s : State} {m : MethodId} {args : Array Value} {below : List Frame} {meth : Method} {c : Code} {H : Heap} {locs : List Loc} {cells slots : Nat} {Q : State → Prop}
variable {cc bytes : ByteArray} {nL pc index maxL mc ms : Nat} {ls : Array Slot} {rest As st0 : List Value} {own C : String} {D : va_G} {ty : List (ClassId × FieldType)} {ws wc wr : xW} {A : Nat → Prop} {H0 : Heap} {b : Nat} {y : MethodName} {rm : Room} {ret : Option FieldType} {Qc : Array Value → State → Outcome → State → Prop} {free : Addr → Prop} {w0 : Cond}
theorem x_cwX {n : Nat} (E : xE p s m args c cc nL own D ty) (hcode : Cond.code y bytes maxL ret ∈ xtb) (hini : Cond.initialized y.cls ∈ xtb) (hnm : x_nm y n = true) (hrc : rm.cells = mc) (hrs : rm.slots = ms) (hfr : rm.frames + 1 ≤ R.frames) (hlo : 8 + (maxL + 11) + rm.locals ≤ R.locals) :
    xe_CW R s args y maxL (Cond.code y bytes maxL ret :: xtb) rm mc ms n := by
  have h := hnm
  simp only [x_nm, Bool.and_eq_true, decide_eq_true_eq] at h
  exact ⟨hrc, hrs, hfr, hlo, x_pay hcode E.2.2.2.1, E.2.2.2.1 _ hini, bytes, ret, Or.inl (E.2.2.2.1 _ hcode), h.1, h.2⟩
theorem x_cwH {n : Nat} {hs : List (Nat × Nat × Nat × Nat)} (E : xE p s m args c cc nL own D ty) (hcode : Cond.codeWith y bytes maxL ret hs ∈ xtb) (hini : Cond.initialized y.cls ∈ xtb) (hnm : x_nm y n = true) (hrc : rm.cells = mc) (hrs : rm.slots = ms) (hfr : rm.frames + 1 ≤ R.frames) (hlo : 8 + (maxL + 11) + rm.locals ≤ R.locals) :
    xe_CW R s args y maxL (Cond.codeWith y bytes maxL ret hs :: xtb) rm mc ms n := by
  have h := hnm
  simp only [x_nm, Bool.and_eq_true, decide_eq_true_eq] at h
  exact ⟨hrc, hrs, hfr, hlo, x_pay hcode E.2.2.2.1, E.2.2.2.1 _ hini, bytes, ret, Or.inr ⟨hs, E.2.2.2.1 _ hcode⟩, h.1, h.2⟩
theorem x_VX (E : xE p s m args c cc nL own D ty) (hM : MetX l y (w0 :: xtb) rm (xP D ty (.ref b :: As) wc H.size) Qc mc ms free) (cw : xe_CW R s args y maxL (w0 :: xtb) rm mc ms As.length) (hl : Cond.methodLink own index y ∈ xtb) (hinst : Cond.instanceMethod y ∈ xtb) (hsel : Cond.selects C y y ∈ xtb)
    (hP : va_P D classes wc H) (hD : va_D A wc) (hZ : xZ A s s.heap) (hS : va_S A s.heap H locs) (hF : ∀ q, va_A wc H.size q → A q) {ci : Nat} {fs : List Value} {q : vw_C} (he : wc[0]? = some (b, .inr (ci, fs))) (hc : classes[ci]? = some q) (hq : q.1 = C) (hsz : ls.size = nL) (hst : st0 = As.reverse ++ .ref b :: rest) (hrest : (rest.map fun v => v.category).sum ≤ 8) (hdg : decode cc pc = .ok (.invokevirtual index, 3))
    (hcl : cells + mc ≤ R.cells) (hsl : slots + ms ≤ R.slots) :
    xe_Run p l e R s m args below meth c H locs cells slots mc ms (F0 m pc ls st0) rest (Qc (Value.ref b :: As).toArray) free :=
  xe_runV (C := C) (x_fix E) hM cw (E.2.2.2.1 _ hl) (E.2.2.2.1 _ hinst) (E.2.2.2.1 _ hsel) ⟨xP_blind, by rw [← hq]; exact va_recv E.2.2.2.2.2 hP hc he, xP_at hP E.2.2.2.2.2 hD hZ hS hF⟩ rfl rfl hsz hst (by simpa [JFrame.monitorRoom] using hrest) hdg ⟨hcl, hsl⟩
theorem x_SX (E : xE p s m args c cc nL own D ty) (hM : MetX l y (w0 :: xtb) rm (xP D ty As wc H.size) Qc mc ms free) (cw : xe_CW R s args y maxL (w0 :: xtb) rm mc ms As.length) (hl : Cond.methodLink own index y ∈ xtb) (hstat : Cond.static y ∈ xtb)
    (hP : va_P D classes wc H) (hD : va_D A wc) (hZ : xZ A s s.heap) (hS : va_S A s.heap H locs) (hF : ∀ q, va_A wc H.size q → A q) (hsz : ls.size = nL) (hst : st0 = As.reverse ++ rest) (hrest : (rest.map fun v => v.category).sum ≤ 8) (hdg : decode cc pc = .ok (.invokestatic index, 3))
    (hcl : cells + mc ≤ R.cells) (hsl : slots + ms ≤ R.slots) :
    xe_Run p l e R s m args below meth c H locs cells slots mc ms (F0 m pc ls st0) rest (Qc As.toArray) free :=
  xe_runS (x_fix E) hM cw (E.2.2.2.1 _ hl) (E.2.2.2.1 _ hstat) ⟨xP_blind, xP_at hP E.2.2.2.2.2 hD hZ hS hF⟩ rfl rfl hsz hst (by simpa [JFrame.monitorRoom] using hrest) hdg ⟨hcl, hsl⟩
variable {a : Array Value}
theorem x_rX {post : Outcome → xW → State → Prop} (hr : xe_Run p l e R s m args below meth c H locs cells slots mc ms (F0 m pc ls st0) rest (xQX D ty wc H.size post a) (va_A wc H.size)) (hP : va_P D classes ws H) (hD : va_D A ws) (hS : va_S A H0 H locs) (hA : ∀ q, H0.size ≤ q → A q) (isC isR : List Nat)
    (hC : isC.map (fun i => ws[i]?) = wc.map some) (hR : isR.map (fun i => ws[i]?) = wr.map some) (hn : va_nd isR = true) (hdis : ∀ i ∈ isR, i ∉ isC)
    (kk : ∀ (oc : Outcome) (u : xW) (t : State) (H1 : Heap) (locs1 : List Loc), post oc u t → t.heap = H1 → s.vm.Alike t.vm → va_P D classes (wr ++ u) H1 → va_D A (wr ++ u) → va_S A H0 H1 locs1 → match oc with
      | .returned v => W p l e R s m args below meth c H1 locs1 (cells + mc) (slots + ms) Q (F0 m (pc + 3) ls (v.toList ++ rest))
      | .threw x => WT p l e R s m args below meth c H1 locs1 (cells + mc) (slots + ms) Q x (F0 m pc ls rest)) : W p l e R s m args below meth c H locs cells slots Q (F0 m pc ls st0) := by
  have hFc := va_free (wc := wc) hD hS hA isC hC
  refine xe_go (A1 := va_A wc H.size) hr hS (fun st o t h => h.2) (fun q _ h => hFc q h) hFc (fun o st t H1 locs1 hst ht hvm hq hz1 hk1 hS1 => ?_)
  obtain ⟨⟨u, hw, hP1, hK1, hD1⟩, -⟩ := hq
  rw [ht] at hP1
  obtain ⟨hP2, hD2⟩ := va_join (wr := wr) (w1 := u) hP hD isC isR hC hR hn hdis hk1 hFc hP1 hD1
  exact kk o u t H1 locs1 hw ht hvm hP2 hD2 hS1
/-- the ends of a method that may throw -/
theorem x_ret1 {post : Outcome → xW → State → Prop} {v : Int32} (E : xE p s m args c cc nL own D ty) (hr : meth.sig.returnType = some .int) (hlocks : meth.locks = false) (hP : va_P D classes ws H) (hD : va_D (va_A wc s.heap.size) ws) (hS : va_S (va_A wc s.heap.size) s.heap H locs) (hq : ∀ t, t.heap = H → s.WarmedH t.vm → post (.returned (some (.int v))) ws t) (hdg : decode cc pc = .ok (.ireturn, 1)) :
    W p l e R s m args below meth c H locs cells slots (MQX below (xQX D ty wc s.heap.size post) args s cells slots (va_A wc s.heap.size)) (F0 m pc ls [.int v]) :=
  W.x (W.iret E.1 E.2.1 hr (fun t ht hW => ⟨⟨ws, hq t ht hW, by rw [ht]; exact hP, va_K.moved hW.alike E.2.2.2.2.2, hD⟩, hS.F ht⟩) hS.2.2 hdg hlocks)
theorem x_out {post : Outcome → xW → State → Prop} {x : Addr} {st : List Value} (E : xE p s m args c cc nL own D ty) (hlocks : meth.locks = false) (htab : c.exceptionTable.toList = []) (hP : va_P D classes ws H) (hD : va_D (va_A wc s.heap.size) ws) (hS : va_S (va_A wc s.heap.size) s.heap H locs) (hq : ∀ t, t.heap = H → s.WarmedH t.vm → post (.threw x) ws t) :
    WT p l e R s m args below meth c H locs cells slots (MQX below (xQX D ty wc s.heap.size post) args s cells slots (va_A wc s.heap.size)) x (F0 m pc ls st) :=
  xe_out (by rw [htab]; intro h hh; cases hh) hlocks (fun t ht hW => ⟨⟨ws, hq t ht hW, by rw [ht]; exact hP, va_K.moved hW.alike E.2.2.2.2.2, hD⟩, hS.F ht⟩) hS.2.2
theorem WT.widen {x : Addr} {g : JFrame} {k n : Nat} (h1 : cells ≤ k) (h2 : slots ≤ n) (kk : WT p l e R s m args below meth c H locs k n Q x g) : WT p l e R s m args below meth c H locs cells slots Q x g := fun T hT X => kk T hT (stand_widen X h1 h2)
def xbad : List Cond := [.laysStatic "java/lang/Throwable" "UNASSIGNED_STACK" "[Ljava/lang/StackTraceElement;", .laysStatic "java/lang/Throwable" "SUPPRESSED_SENTINEL" "Ljava/util/List;", .isRef (.static "java/lang/Throwable" "UNASSIGNED_STACK" "[Ljava/lang/StackTraceElement;"), .isRef (.static "java/lang/Throwable" "SUPPRESSED_SENTINEL" "Ljava/util/List;")]
theorem x_own {ws : List Cond} (h : ws.all (fun w => decide (w ∈ xtb) || decide (w ∈ xbad)) = true) (E : xE p s m args c cc nL own D ty) (hZ : xZ A s s.heap) : ∀ w ∈ ws, w.before args s = true := by
  intro w hw
  have h1 := List.all_eq_true.mp h w hw
  rw [Bool.or_eq_true, decide_eq_true_eq, decide_eq_true_eq] at h1
  rcases h1 with h1 | h1
  · exact E.2.2.2.1 w h1
  · simp only [xbad, List.mem_cons, List.not_mem_nil, or_false] at h1
    rcases h1 with rfl | rfl | rfl | rfl
    · exact hZ.1.1.lays
    · exact hZ.1.2.lays
    · exact hZ.1.1.isref
    · exact hZ.1.2.isref
/-- new E(), thrown, where the method has changed nothing -/
theorem x_throw0 {post : Outcome → xW → State → Prop} {cls : String} {names : List String} {ic idx : Nat} (E : xE p s m args c cc nL own D ty) (hadm : l.admits e) (hfl : l.flags = pinnedFlags ++ [noTraceFlag]) (hlocks : meth.locks = false) (htab : c.exceptionTable.toList = []) (hcls : Bundle.fit cls = true) (hnames : names.all Bundle.fit = true) (hat : (Bundle.ownAtoms0 own ic cls names).all (fun w => decide (w ∈ xtb) || decide (w ∈ xbad)) = true)
    (hlk : Cond.classLink own idx cls ∈ xtb) (hini : Cond.initialized cls ∈ xtb) (hins : Cond.instantiable cls 6 ∈ xtb) (hsz : ls.size = nL) (hP : va_P D classes ws s.heap) (hD : va_D (va_A ws s.heap.size) ws) (hZ : xZ (va_A ws s.heap.size) s s.heap)
    (d0 : decode cc pc = .ok (.new idx, 3)) (d3 : decode cc (pc + 3) = .ok (.dup, 1)) (d4 : decode cc (pc + 3 + 1) = .ok (.invokespecial ic, 3)) (d7 : decode cc (pc + 3 + 1 + 3) = .ok (.athrow, 1)) (hc : 1 ≤ R.cells) (hsl : 6 ≤ R.slots) (hfr : names.length + 3 < R.frames) (hlo : 1 + (13 * (names.length + 1) + 41) ≤ R.locals)
    (hq : ∀ (x : Addr) (t : State), xThr cls x t → post (.threw x) ws t) :
    W p l e R s m args below meth c s.heap [] 0 0 (MQX below (xQX D ty ws s.heap.size post) args s 1 6 (va_A ws s.heap.size)) (F0 m pc ls []) := by
  have htr : e.platform.stackTraces = false := Launch.traces_off hfl hadm
  refine W.newc E.1 E.2.1 E.2.2.2.2.1 (E.2.2.2.1 _ hlk) (E.2.2.2.1 _ hins) (E.2.2.2.1 _ hini) rfl d0 (by omega) (by omega) (fun cC kC h1 h2 h3 h4 => ?_)
  refine W.eq (g2 := F0 m (pc + 3) ls [.ref s.heap.size]) rfl ?_
  refine lv_dup E.1 E.2.1 d3 rfl ?_
  intro T hT X
  have hb := E.2.1
  obtain ⟨U, hst, hrun, hend, hW, hsame, ce, hce, hO⟩ := X.ctorThrow0 E.1 htr (own := own) (cls := cls) (names := names) (ic := ic) E.2.2.2.2.1 hcls (List.all_eq_true.mp hnames) (x_own hat E hZ) (fun x hx => by cases hx) (a := s.heap.size) h1 h2 (by rw [hT]; simp) (Nat.le_refl _)
    (g := F0 m (pc + 3 + 1) ls [.ref s.heap.size, .ref s.heap.size]) rfl (by rw [E.2.2.1]; exact hsz) rfl rfl (rest := []) rfl (by rw [hb]; exact d4) (by rw [hb]; exact d7) (by rw [htab]; intro h hh; cases hh) hfr (by simpa [JFrame.monitorRoom, Value.category] using hlo) hlocks
  have hold : ∀ q : Nat, q < s.heap.size → U.heap[q]? = s.heap[q]? := fun q hq => by
    have hs : s.heap[q]? = some s.heap[q] := Array.getElem?_eq_getElem hq
    rw [hs]
    exact State.sameButNew.old_cell hsame hs
  have hle : s.heap.size ≤ U.heap.size := hsame.2.1
  refine ⟨U, hst, .threw s.heap.size, hrun, hend, ⟨⟨ws, hq _ U ⟨ce, hce, by rw [hO.vm]; rfl, by rw [hW.alike.findClass]; exact hO.cls⟩, ?_, va_K.moved hW.alike E.2.2.2.2.2, hD⟩, hle, fun q h1 _ => hold q h1⟩, [], ⟨hW, by simpa using hsame⟩, fun q hq => by cases hq⟩
  exact hP.kept (fun k q hk => hold q.1 ((hP k q hk).lt))
end XX
