/-! THE SAME, where what is made in a call depends on how it ends: rc, rs where it returns, mc, ms where it throws -/
def xc (mc ms rc rs : Nat) : Outcome → Nat × Nat
  | .returned _ => (rc, rs)
  | .threw _ => (mc, ms)
section YE
variable {p : Program} {l : Launch} {e : Env} {R : Room} {s : State} {m : MethodId} {args : Array Value} {below : List Frame} {meth : Method} {c : Code} {H : Heap} {locs : List Loc} {cells slots : Nat} {Q : State → Prop}
def MetY (l : Launch) (y : MethodName) (ws : List Cond) (rm : Room) (Pc : Array Value → State → Prop) (Qc : Array Value → State → Outcome → State → Prop) (mc ms rc rs : Nat) (free : Addr → Prop) : Prop :=
  MetFree l y (headSpec ws rm) Pc (fun _ _ _ _ _ => True) (fun a st o t => Qc a st o t ∧ ∃ L, xe_Fr st t L (xc mc ms rc rs o).1 (xc mc ms rc rs o).2 ∧ ∀ q ∈ L, free q.base)
def MQY (below : List Frame) (Qc : Array Value → State → Outcome → State → Prop) (a : Array Value) (s : State) (mc ms rc rs : Nat) (free : Addr → Prop) : State → Prop := fun t =>
  ∃ o, t.status = .running ∧ Ended t below o ∧ Qc a s o t ∧ ∃ L, xe_Fr s t L (xc mc ms rc rs o).1 (xc mc ms rc rs o).2 ∧ ∀ q ∈ L, free q.base
theorem MQ.y {Qc : Array Value → State → Outcome → State → Prop} {a : Array Value} {mc ms rc rs : Nat} {free : Addr → Prop} {t : State} (h : MQ below (fun a s o t => Qc a s o t ∧ ∃ v, o = .returned v) a s rc rs free t) : MQY below Qc a s mc ms rc rs free t := by
  obtain ⟨o, h1, h2, ⟨h3, v, rfl⟩, L, h4, h5⟩ := h
  exact ⟨_, h1, h2, h3, L, h4.2, h5⟩
theorem W.y {Qc : Array Value → State → Outcome → State → Prop} {a : Array Value} {mc ms rc rs : Nat} {free : Addr → Prop} {g : JFrame} (k : W p l e R s m args below meth c H locs cells slots (MQ below (fun a s o t => Qc a s o t ∧ ∃ v, o = .returned v) a s rc rs free) g) :
    W p l e R s m args below meth c H locs cells slots (MQY below Qc a s mc ms rc rs free) g := W.mono (fun _ h => MQ.y h) k
theorem MetY.ofW {y : MethodName} {ws ws' : List Cond} {rm : Room} {Pc : Array Value → State → Prop} {Qc : Array Value → State → Outcome → State → Prop} {mc ms rc rs : Nat} {free : Addr → Prop} {cc : ByteArray} {maxL : Nat} {ret : Option FieldType}
    (hy : plainName y.cls = true) (hw : ws = Cond.code y cc maxL ret :: ws')
    (body : ∀ p e s m args below meth c s₁, BodyLoose p l y (headSpec ws rm) cc maxL ret e s m args below meth c s₁ → c.maxLocals = maxL → c.exceptionTable.toList = [] → Pc args s →
      W p l e (headSpec ws rm).room s m args below meth c s.heap [] 0 0 (MQY below Qc args s mc ms rc rs free) (entryFrame m args maxL)) : MetY l y ws rm Pc Qc mc ms rc rs free := by
  refine MetFree.of_bodyS (code := cc) (maxLocals := maxL) (ret := ret) hy ?_ ?_
  · intro args s m h hn
    obtain ⟨meth, c, h1, h2, h3, h4, h5, h6, -, -⟩ := Cond.code_spec hn (atoms_spec (ws := ws) h _ (by rw [hw]; exact List.mem_cons_self))
    exact ⟨meth, c, h1, h2, h3, h4, h5, h6⟩
  · intro p e s m args below meth c s₁ B hml hP _
    have hh0 : s₁.heap = s.heap := by rw [B.state]; rfl
    have htab : c.exceptionTable.toList = [] := by
      obtain ⟨meth', c', h1, h2, -, -, -, -, h7, -⟩ := Cond.code_spec B.named (atoms_spec (ws := ws) B.pre _ (by rw [hw]; exact List.mem_cons_self))
      cases h1.symm.trans B.method
      cases h2.symm.trans (Stand.of_body B).code
      simpa using h7
    obtain ⟨t, a1, o, b1, b2, b3⟩ := body p e s m args below meth c s₁ B hml htab hP s₁ hh0 (Stand.of_body B)
    exact ⟨t, o, a1, b1, b2, ⟨b3.1, b3.2⟩⟩
theorem xe_outY {Qc : Array Value → State → Outcome → State → Prop} {free : Addr → Prop} {rc rs : Nat} {x : Addr} {pc : Nat} {ls : Array Slot} {st : List Value} (hout : ∀ h ∈ c.exceptionTable.toList, covers h pc = false) (hlocks : meth.locks = false)
    (hq : ∀ t : State, t.heap = H → s.WarmedH t.vm → Qc args s (.threw x) t) (hf : ∀ q ∈ locs, free q.base) :
    WT p l e R s m args below meth c H locs cells slots (MQY below Qc args s cells slots rc rs free) x (F0 m pc ls st) := by
  intro T hT X
  obtain ⟨h1, h2, h3, h4, h5⟩ := X.leaveThrown x (g := F0 m pc ls st) rfl rfl rfl hout hlocks
  exact ⟨_, h1, .threw x, h2, h3, hq _ hT h4, locs, ⟨h4, h5⟩, hf⟩
theorem xe_callY {y : MethodName} {ws : List Cond} {rm : Room} {Pc : Array Value → State → Prop} {Qc : Array Value → State → Outcome → State → Prop} {mc ms rc rs : Nat} {free : Addr → Prop} (hM : MetY l y ws rm Pc Qc mc ms rc rs free)
    {U : State} (X : Stand p l e R s m args below meth c U locs cells slots) {g : JFrame} (hg : g.method = m) (hsize : g.locals.size = c.maxLocals) {ig : Instr} {len : Nat} (hdg : decode c.code g.pc = .ok (ig, len))
    (hW : 2 * g.monitorRoom + (g.stack.map fun v => v.category).sum ≤ 8) {mk : MethodId} (hn : U.methodNamed? y = some mk) {a : Array Value} {methY : Method} {cY : Code} {maxL : Nat}
    (hmY : U.vm.method? mk = some methY) (hcY : methY.code = some cY) (hlY : cY.maxLocals = maxL) (hrc : rm.cells = mc) (hrs : rm.slots = ms) (hfr : rm.frames + 1 ≤ R.frames) (hlo : 8 + (maxL + 11) + rm.locals ≤ R.locals)
    (hws : ∀ w ∈ ws, w.before a U = true) (hini : (Cond.initialized y.cls).before a U = true) (hc : cells + mc ≤ R.cells) (hs : slots + ms ≤ R.slots) (hP : Pc a (U.calling g mk a)) :
    ∃ (o : Outcome) (t U' : State) (L : List Loc), Qc a (U.calling g mk a) o t ∧ (∀ q ∈ L, free q.base) ∧ U'.heap = t.heap ∧ U'.vm = t.vm ∧ Stand p l e R s m args below meth c U' (locs ++ L) (cells + (xc mc ms rc rs o).1) (slots + (xc mc ms rc rs o).2) ∧
      Steps p.tables e below (doInvoke e (U.setTop g) [] mk a).1 (match o with
        | .returned v => U'.setTop { g with pc := g.pc + len, stack := v.toList ++ g.stack }
        | .threw x => (U'.setTop g).pushFrame (.throwing x)) := by
  obtain ⟨kY, hkY, -⟩ := className_of_methodNamed hn
  have hinitY : kY.init = .initialized := Cond.initialized_spec (findClass_of_methodNamed hn) hkY hini
  have h : At U g.method c below := by rw [hg]; exact X.here
  have happ : (headSpec ws rm).appliesLoose y e.platform (U.calling g mk a) = true :=
    Spec.appliesLoose_calling (g := g) h hdg hn hkY hinitY
      (X.room_calling (g := g) (R' := (headSpec ws rm).room) hsize hmY hcY hfr (by rw [hlY]; show _ + rm.locals ≤ _; omega) (by show cells + rm.cells ≤ _; omega) (by show slots + rm.slots ≤ _; omega)) (atoms_intro hws)
  obtain ⟨mid, hmid⟩ := h.above
  have hfr : (U.setTop g).frames = (.java g :: mid) ++ below := by rw [State.frames_setTop' g h.top, hmid]; rfl
  obtain ⟨o, s₂, hsteps, -, hend, hq, L, ⟨hW₂, hsb⟩, hL⟩ := Steps.callFree hM p X.admits X.cas X.clock (acts := []) hfr happ hP trivial
  have hq' : Qc a (U.calling g mk a) o s₂ := hq
  rw [State.frames_setTop' g h.top] at hend
  have hW' : U.WarmedH s₂.vm := hW₂
  obtain ⟨e2, q2, q3, q4, q5, q6⟩ := id hsb
  have e3 : s₂ = ({ (U.calling g mk a).setFrames s₂.frames with heap := s₂.heap, slotsUsed := s₂.slotsUsed } : State).setVm s₂.vm := by
    have : s₂ = ({ s₂ with vm := (U.calling g mk a).vm } : State).setVm s₂.vm := rfl
    have e2' : ({ s₂ with vm := (U.calling g mk a).vm } : State) = _ := e2
    rw [e2'] at this
    exact this
  obtain ⟨g₀, hg0⟩ := Option.isSome_iff_exists.mp h.top
  obtain ⟨r, hr⟩ := State.topJava?_eq_some.mp hg0
  have hr' : (({ U with heap := s₂.heap, slotsUsed := s₂.slotsUsed } : State).setVm s₂.vm).frames = .java g₀ :: r := hr
  have hsame : U.sameButNew ({ U with heap := s₂.heap, slotsUsed := s₂.slotsUsed } : State) L (xc mc ms rc rs o).1 (xc mc ms rc rs o).2 := by
    refine ⟨?_, q2, q3, q4, q5, q6⟩
    obtain ⟨t, ht, -⟩ := State.frames_cons hr
    show ({ U with heap := s₂.heap, slotsUsed := s₂.slotsUsed } : State) = { U.setFrames U.frames with heap := s₂.heap, slotsUsed := s₂.slotsUsed }
    rw [State.setFrames_self ht]
  subst hg
  have X' : Stand p l e R s g.method args below meth c (({ U with heap := s₂.heap, slotsUsed := s₂.slotsUsed } : State).setVm s₂.vm) (locs ++ L) (cells + (xc mc ms rc rs o).1) (slots + (xc mc ms rc rs o).2) :=
    ⟨X.admits, X.cas, X.clock, X.frames, X.room, X.hears, X.method, X.code, (X.here.setHeapUsed s₂.heap s₂.slotsUsed).setVm hW'.alike, X.tail, State.WarmedH.trans X.warmed hW', X.limits, X.bytes, X.same.trans (hsame.setVm s.vm)⟩
  refine ⟨o, s₂, (({ U with heap := s₂.heap, slotsUsed := s₂.slotsUsed } : State).setVm s₂.vm), L, hq', hL, rfl, rfl, X', ?_⟩
  cases o with
  | returned v =>
    obtain ⟨c₂, i₂, len₂, hc₂, hd₂, hf₂⟩ := hend
    have hcc : c₂ = c := by
      have h1 : s₂.code? g.method = U.code? g.method := by
        rw [State.code?_eq, State.code?_eq, hW'.alike.method?]
      exact Option.some.inj (hc₂.symm.trans (h1.trans h.code))
    subst hcc
    have hlen : len₂ = len := by rw [hdg] at hd₂; cases hd₂; rfl
    subst hlen
    have hs₂ : s₂ = (({ U with heap := s₂.heap, slotsUsed := s₂.slotsUsed } : State).setVm s₂.vm).setTop { g with pc := g.pc + len₂, stack := v.toList ++ g.stack } := by
      refine e3.trans ?_
      rw [hf₂, State.calling_eq h.top, State.setFrames_setFrames, State.setTop_of_frames _ hr', hr]
      rfl
    show Steps p.tables e below _ ((({ U with heap := s₂.heap, slotsUsed := s₂.slotsUsed } : State).setVm s₂.vm).setTop { g with pc := g.pc + len₂, stack := v.toList ++ g.stack })
    rw [← hs₂]
    exact hsteps
  | threw x =>
    have hf₂ : s₂.frames = .throwing x :: .java g :: U.frames.tail := hend
    have hs₂ : s₂ = ((({ U with heap := s₂.heap, slotsUsed := s₂.slotsUsed } : State).setVm s₂.vm).setTop g).pushFrame (.throwing x) := by
      refine e3.trans ?_
      rw [hf₂, State.calling_eq h.top, State.setFrames_setFrames, State.pushFrame, State.frames_setTop _ hr', State.setTop_of_frames _ hr', State.setFrames_setFrames, hr]
      rfl
    show Steps p.tables e below _ (((({ U with heap := s₂.heap, slotsUsed := s₂.slotsUsed } : State).setVm s₂.vm).setTop g).pushFrame (.throwing x))
    rw [← hs₂]
    exact hsteps
def xe_RunY (p : Program) (l : Launch) (e : Env) (R : Room) (s : State) (m : MethodId) (args : Array Value) (below : List Frame) (meth : Method) (c : Code) (H : Heap) (locs : List Loc) (cells slots mc ms rc rs : Nat) (g : JFrame) (rest : List Value) (Qa : State → Outcome → State → Prop) (free : Addr → Prop) : Prop :=
  ∀ T : State, T.heap = H → Stand p l e R s m args below meth c T locs cells slots → ∃ (o : Outcome) (st₀ t T' : State) (L : List Loc), st₀.heap = H ∧ Stand p l e R s m args below meth c T' (locs ++ L) (cells + (xc mc ms rc rs o).1) (slots + (xc mc ms rc rs o).2) ∧ (∀ q ∈ L, free q.base) ∧ T'.heap = t.heap ∧ T'.vm = t.vm ∧ Qa st₀ o t ∧
    ∀ tg, Steps p.tables e below (match o with
      | .returned v => T'.setTop { g with pc := g.pc + 3, stack := v.toList ++ rest }
      | .threw x => (T'.setTop { g with stack := rest }).pushFrame (.throwing x)) tg → Steps p.tables e below (T.setTop g) tg
theorem xe_goY {pc : Nat} {ls : Array Slot} {st0 rest : List Value} {mc ms rc rs : Nat} {Qa : State → Outcome → State → Prop} {free : Addr → Prop} {A0 A1 : Nat → Prop} {H0 : Heap}
    (hr : xe_RunY p l e R s m args below meth c H locs cells slots mc ms rc rs (F0 m pc ls st0) rest Qa free) (hS : va_S A0 H0 H locs) (hF : ∀ st o t, Qa st o t → va_F A1 st t) (hA : ∀ q, q < H.size → A1 q → A0 q) (hf : ∀ q, free q → A0 q)
    (kk : ∀ (o : Outcome) (st t : State) (H1 : Heap) (locs1 : List Loc), st.heap = H → t.heap = H1 → s.vm.Alike t.vm → Qa st o t → H.size ≤ H1.size → (∀ q : Nat, q < H.size → ¬ A1 q → H1[q]? = H[q]?) → va_S A0 H0 H1 locs1 →
      match o with
      | .returned v => W p l e R s m args below meth c H1 locs1 (cells + rc) (slots + rs) Q (F0 m (pc + 3) ls (v.toList ++ rest))
      | .threw x => WT p l e R s m args below meth c H1 locs1 (cells + mc) (slots + ms) Q x (F0 m pc ls rest)) : W p l e R s m args below meth c H locs cells slots Q (F0 m pc ls st0) := by
  intro T hT X
  obtain ⟨o, st₀, t, T', L, h0, X', hL, e1, e2, hq, st⟩ := hr T hT X
  obtain ⟨hz, hk⟩ := hF _ _ _ hq
  rw [h0] at hz hk
  have K := kk o st₀ t T'.heap (locs ++ L) h0 e1.symm (by rw [← e2]; exact X'.warmed.alike) hq (by rw [e1]; exact hz) (fun q h1 h2 => by rw [e1]; exact hk q h1 h2)
    ⟨Nat.le_trans hS.1 (by rw [e1]; exact hz), fun q h1 h2 => by rw [e1, hk q (Nat.lt_of_lt_of_le h1 hS.1) (fun z => h2 (hA q (Nat.lt_of_lt_of_le h1 hS.1) z))]; exact hS.2.1 q h1 h2, fun q hq => by
      rcases List.mem_append.mp hq with h | h
      · exact hS.2.2 q h
      · exact hf _ (hL q h)⟩
  cases o with
  | returned v =>
    obtain ⟨t2, a1, b1⟩ := K T' rfl X'
    exact ⟨t2, st t2 a1, b1⟩
  | threw x =>
    obtain ⟨t2, a1, b1⟩ := K T' rfl X'
    exact ⟨t2, st t2 a1, b1⟩
variable {y : MethodName} {cc : ByteArray} {maxL nL mc ms rc rs n index : Nat} {ws : List Cond} {rm : Room} {Pc : Array Value → State → Prop} {Qc : Array Value → State → Outcome → State → Prop} {free : Addr → Prop} {Ts : List Cond} {own C : String} {b : Addr} {As rest : List Value} {g : JFrame}
theorem xe_runVY (S : CallFix p m c cc nL s args Ts own) (hM : MetY l y ws rm Pc Qc mc ms rc rs free) (cw : xe_CW R s args y maxL ws rm mc ms n) (hlink : (Cond.methodLink own index y).before args s = true) (hinst : (Cond.instanceMethod y).before args s = true) (hsel : (Cond.selects C y y).before args s = true) (hp : PreV s H C b Pc As)
    (hg : g.method = m) (hn : As.length = n) (hsize : g.locals.size = nL) (hstack : g.stack = As.reverse ++ .ref b :: rest) (hW : 2 * g.monitorRoom + (rest.map fun v => v.category).sum ≤ 8) (hdg : decode cc g.pc = .ok (.invokevirtual index, 3)) (hf : cells + mc ≤ R.cells ∧ slots + ms ≤ R.slots) :
    xe_RunY p l e R s m args below meth c H locs cells slots mc ms rc rs g rest (Qc (Value.ref b :: As).toArray) free := by
  obtain ⟨hrc, hrs, hfr, hlo, hws, hini, hco⟩ := cw
  obtain ⟨hy, mk, methM, cM, hnamed, hmethM, hcM, hlM, hlen⟩ := hco.out
  obtain ⟨hx, hb, hml, ho, -⟩ := S
  obtain ⟨hbl, ⟨cellB, hcB, hoB, hclB⟩, hPc⟩ := hp
  intro T hT X
  obtain ⟨mk', methM', hnamed', hmethM', hstM, habM⟩ := Cond.instanceMethod_spec hinst
  cases hnamed.symm.trans hnamed'
  cases hmethM.symm.trans hmethM'
  obtain ⟨c2, r2, m2, q1, q2, q3, q4, kP, hkP, hkPi⟩ := Cond.selects_spec hsel
  cases hclB.symm.trans q1
  cases (State.methodFound?_of_named hnamed hy).symm.trans q2
  cases hnamed.symm.trans q3
  have hselP : selectMethod e.platform s.vm cellB.cls mk = .method mk := by rw [Launch.admits_selectMethod X.admits]; exact q4
  obtain ⟨vm₁, X₁, hstep₁⟩ := X.invokevirtual hx ho hlink hnamed hmethM hstM hkP hkPi hy (a := b) (cell := cellB) (by rw [hT]; exact hcB)
    (fun z h => by rw [h] at hoB; cases hoB) hselP hmethM habM hkP hkPi (g := g) hg (argsL := As) (rest := rest) (hn.trans hlen.symm) hstack (by rw [hb]; exact hdg)
  have hal := X₁.warmed.alike
  obtain ⟨o, t, U', L, hq, hL, e1, e2, X', st⟩ := xe_callY hM X₁ (g := { g with stack := rest }) hg (hsize.trans hml.symm) (by rw [hb]; exact hdg) hW (mk := mk) (X₁.named hnamed) (a := (Value.ref b :: As).toArray) (methY := methM) (cY := cM) (maxL := maxL)
    (by rw [hal.method?]; exact hmethM) hcM hlM hrc hrs hfr hlo (fun w hw => hws w hw _ _ X₁.warmed) (word_at X₁.warmed (Or.inl (by first | rfl | simp [Cond.onTables, Cond.keeps, Cond.steady])) hini) hf.1 hf.2 (hbl _ _ _ _ (hPc (T.setVm vm₁) hT X₁.warmed))
  refine ⟨o, (T.setVm vm₁).calling { g with stack := rest } mk (Value.ref b :: As).toArray, t, U', L, hT, X', hL, e1, e2, hq, fun tg h => hstep₁ _ fun acts => ?_⟩
  rw [doInvoke_state]
  cases o <;> exact st.trans h
end YE
theorem x_metY {l : Launch} {y : MethodName} {cc : ByteArray} {maxL : Nat} {ret : Option FieldType} {rm : Room} {D : va_G} {ty : List (ClassId × FieldType)} {av : List Value} {ws : xW} {sz : Nat} {Qc : State → Array Value → State → Outcome → State → Prop} {Qd : Array Value → State → Outcome → State → Prop} {mc ms rc rs : Nat} {fr : State → Addr → Prop} {free : Addr → Prop} (own : String)
    (hy : plainName y.cls = true) (ho : y.cls = own) (hlen : (lg_sl av).length ≤ maxL) (hQ : ∀ s : State, s.heap.size = sz → Qc s = Qd) (hf : ∀ s : State, s.heap.size = sz → fr s = free)
    (body : ∀ (p : Program) (e : Env) (s : State) (m : MethodId) (below : List Frame) (meth : Method) (c : Code) (ls : Array Slot), xE p s m av.toArray c cc maxL own D ty → meth.sig.returnType = ret → meth.locks = false → c.exceptionTable.toList = [] → lv_has ls maxL (lv_args 0 av) →
      va_P D classes ws s.heap → va_D (va_A ws s.heap.size) ws → (∀ q : Nat, s.heap.size ≤ q → va_A ws s.heap.size q) → va_S (va_A ws s.heap.size) s.heap s.heap [] → xZ (va_A ws s.heap.size) s s.heap → l.admits e → W p l e rm s m av.toArray below meth c s.heap [] 0 0 (MQY below (Qc s) av.toArray s mc ms rc rs (fr s)) (F0 m 0 ls [])) :
    MetY l y (Cond.code y cc maxL ret :: xtb) rm (xP D ty av ws sz) Qd mc ms rc rs free := by
  refine MetY.ofW (cc := cc) (maxL := maxL) (ret := ret) hy rfl ?_
  intro p e s m args below meth c s₁ B hml htab hv
  obtain ⟨rfl, hsz, hP, hK, hD0, hZ⟩ := hv
  have hts := atoms_spec (ws := Cond.code y cc maxL ret :: xtb) B.pre
  have hown : s.vm.findClass own = some m.cls := by rw [← ho]; exact findClass_of_methodNamed B.named
  have hl := lv_entry av (n := maxL) hlen
  rw [lg_entry_eq]
  rw [← hQ s hsz, ← hf s hsz]
  exact body p e s m below meth c _ ⟨B.exec, B.bytes, hml, fun w h => hts w (List.mem_cons_of_mem _ h), hown, hK⟩ B.returns B.notSynchronized htab hl hP hD0.self (fun q h => Or.inr h) va_S.rf (by rw [hsz]; exact hZ) B.admits
section YY
variable {p : Program} {l : Launch} {e : Env} {R : Room} {s : State} {m : MethodId} {args : Array Value} {below : List Frame} {meth : Method} {c : Code} {H : Heap} {locs : List Loc} {cells slots : Nat} {Q : State → Prop}
variable {cc bytes : ByteArray} {nL pc index maxL mc ms rc rs : Nat} {ls : Array Slot} {rest As st0 : List Value} {own C : String} {D : va_G} {ty : List (ClassId × FieldType)} {ws wc wr : xW} {A : Nat → Prop} {H0 : Heap} {b : Nat} {y : MethodName} {rm : Room} {ret : Option FieldType} {Qc : Array Value → State → Outcome → State → Prop} {free : Addr → Prop} {w0 : Cond}
theorem x_VY (E : xE p s m args c cc nL own D ty) (hM : MetY l y (w0 :: xtb) rm (xP D ty (.ref b :: As) wc H.size) Qc mc ms rc rs free) (cw : xe_CW R s args y maxL (w0 :: xtb) rm mc ms As.length) (hl : Cond.methodLink own index y ∈ xtb) (hinst : Cond.instanceMethod y ∈ xtb) (hsel : Cond.selects C y y ∈ xtb)
    (hP : va_P D classes wc H) (hD : va_D A wc) (hZ : xZ A s s.heap) (hS : va_S A s.heap H locs) (hF : ∀ q, va_A wc H.size q → A q) {ci : Nat} {fs : List Value} {q : vw_C} (he : wc[0]? = some (b, .inr (ci, fs))) (hc : classes[ci]? = some q) (hq : q.1 = C) (hsz : ls.size = nL) (hst : st0 = As.reverse ++ .ref b :: rest) (hrest : (rest.map fun v => v.category).sum ≤ 8) (hdg : decode cc pc = .ok (.invokevirtual index, 3))
    (hcl : cells + mc ≤ R.cells) (hsl : slots + ms ≤ R.slots) :
    xe_RunY p l e R s m args below meth c H locs cells slots mc ms rc rs (F0 m pc ls st0) rest (Qc (Value.ref b :: As).toArray) free :=
  xe_runVY (C := C) (x_fix E) hM cw (E.2.2.2.1 _ hl) (E.2.2.2.1 _ hinst) (E.2.2.2.1 _ hsel) ⟨xP_blind, by rw [← hq]; exact va_recv E.2.2.2.2.2 hP hc he, xP_at hP E.2.2.2.2.2 hD hZ hS hF⟩ rfl rfl hsz hst (by simpa [JFrame.monitorRoom] using hrest) hdg ⟨hcl, hsl⟩
variable {a : Array Value}
theorem x_rY {post : Outcome → xW → State → Prop} (hr : xe_RunY p l e R s m args below meth c H locs cells slots mc ms rc rs (F0 m pc ls st0) rest (xQX D ty wc H.size post a) (va_A wc H.size)) (hP : va_P D classes ws H) (hD : va_D A ws) (hS : va_S A H0 H locs) (hA : ∀ q, H0.size ≤ q → A q) (isC isR : List Nat)
    (hC : isC.map (fun i => ws[i]?) = wc.map some) (hR : isR.map (fun i => ws[i]?) = wr.map some) (hn : va_nd isR = true) (hdis : ∀ i ∈ isR, i ∉ isC)
    (kk : ∀ (oc : Outcome) (u : xW) (t : State) (H1 : Heap) (locs1 : List Loc), post oc u t → t.heap = H1 → s.vm.Alike t.vm → va_P D classes (wr ++ u) H1 → va_D A (wr ++ u) → va_S A H0 H1 locs1 → match oc with
      | .returned v => W p l e R s m args below meth c H1 locs1 (cells + rc) (slots + rs) Q (F0 m (pc + 3) ls (v.toList ++ rest))
      | .threw x => WT p l e R s m args below meth c H1 locs1 (cells + mc) (slots + ms) Q x (F0 m pc ls rest)) : W p l e R s m args below meth c H locs cells slots Q (F0 m pc ls st0) := by
  have hFc := va_free (wc := wc) hD hS hA isC hC
  refine xe_goY (A1 := va_A wc H.size) hr hS (fun st o t h => h.2) (fun q _ h => hFc q h) hFc (fun o st t H1 locs1 hst ht hvm hq hz1 hk1 hS1 => ?_)
  obtain ⟨⟨u, hw, hP1, hK1, hD1⟩, -⟩ := hq
  rw [ht] at hP1
  obtain ⟨hP2, hD2⟩ := va_join (wr := wr) (w1 := u) hP hD isC isR hC hR hn hdis hk1 hFc hP1 hD1
  exact kk o u t H1 locs1 hw ht hvm hP2 hD2 hS1
theorem x_retYi {post : Outcome → xW → State → Prop} {v : Int32} (E : xE p s m args c cc nL own D ty) (hr : meth.sig.returnType = some .int) (hlocks : meth.locks = false) (hP : va_P D classes ws H) (hD : va_D (va_A wc s.heap.size) ws) (hS : va_S (va_A wc s.heap.size) s.heap H locs) (hq : ∀ t, t.heap = H → s.WarmedH t.vm → post (.returned (some (.int v))) ws t) (hdg : decode cc pc = .ok (.ireturn, 1)) :
    W p l e R s m args below meth c H locs cells slots (MQY below (xQX D ty wc s.heap.size post) args s mc ms cells slots (va_A wc s.heap.size)) (F0 m pc ls [.int v]) :=
  W.y (W.iret E.1 E.2.1 hr (fun t ht hW => ⟨⟨⟨ws, hq t ht hW, by rw [ht]; exact hP, va_K.moved hW.alike E.2.2.2.2.2, hD⟩, hS.F ht⟩, _, rfl⟩) hS.2.2 hdg hlocks)
theorem x_retYl {post : Outcome → xW → State → Prop} {v : Int64} (E : xE p s m args c cc nL own D ty) (hr : meth.sig.returnType = some .long) (hlocks : meth.locks = false) (hP : va_P D classes ws H) (hD : va_D (va_A wc s.heap.size) ws) (hS : va_S (va_A wc s.heap.size) s.heap H locs) (hq : ∀ t, t.heap = H → s.WarmedH t.vm → post (.returned (some (.long v))) ws t) (hdg : decode cc pc = .ok (.lreturn, 1)) :
    W p l e R s m args below meth c H locs cells slots (MQY below (xQX D ty wc s.heap.size post) args s mc ms cells slots (va_A wc s.heap.size)) (F0 m pc ls [.long v]) :=
  W.y (W.lret E.1 E.2.1 hr (fun t ht hW => ⟨⟨⟨ws, hq t ht hW, by rw [ht]; exact hP, va_K.moved hW.alike E.2.2.2.2.2, hD⟩, hS.F ht⟩, _, rfl⟩) hS.2.2 hdg hlocks)
theorem x_retYv {post : Outcome → xW → State → Prop} (E : xE p s m args c cc nL own D ty) (hr : meth.sig.returnType = none) (hlocks : meth.locks = false) (hP : va_P D classes ws H) (hD : va_D (va_A wc s.heap.size) ws) (hS : va_S (va_A wc s.heap.size) s.heap H locs) (hq : ∀ t, t.heap = H → s.WarmedH t.vm → post (.returned none) ws t) (hdg : decode cc pc = .ok (.return_, 1)) :
    W p l e R s m args below meth c H locs cells slots (MQY below (xQX D ty wc s.heap.size post) args s mc ms cells slots (va_A wc s.heap.size)) (F0 m pc ls []) :=
  W.y (W.vret E.1 E.2.1 hr (fun t ht hW => ⟨⟨⟨ws, hq t ht hW, by rw [ht]; exact hP, va_K.moved hW.alike E.2.2.2.2.2, hD⟩, hS.F ht⟩, _, rfl⟩) hS.2.2 hdg hlocks)
theorem x_outY {post : Outcome → xW → State → Prop} {x : Addr} {st : List Value} (E : xE p s m args c cc nL own D ty) (hlocks : meth.locks = false) (htab : c.exceptionTable.toList = []) (hP : va_P D classes ws H) (hD : va_D (va_A wc s.heap.size) ws) (hS : va_S (va_A wc s.heap.size) s.heap H locs) (hq : ∀ t, t.heap = H → s.WarmedH t.vm → post (.threw x) ws t) :
    WT p l e R s m args below meth c H locs cells slots (MQY below (xQX D ty wc s.heap.size post) args s cells slots rc rs (va_A wc s.heap.size)) x (F0 m pc ls st) :=
  xe_outY (by rw [htab]; intro h hh; cases hh) hlocks (fun t ht hW => ⟨⟨ws, hq t ht hW, by rw [ht]; exact hP, va_K.moved hW.alike E.2.2.2.2.2, hD⟩, hS.F ht⟩) hS.2.2
end YY

