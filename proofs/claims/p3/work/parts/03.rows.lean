/-! COMPACT ROWS: one bundle of what stays the same over a method's walk; worlds that a call gives back are values -/
abbrev xW : Type := va_W
def xE (p : Program) (s : State) (m : MethodId) (args : Array Value) (c : Code) (cc : ByteArray) (nL : Nat) (own : String) (D : va_G) (ty : List (ClassId × FieldType)) : Prop :=
  p.tables.exec = Jvm.exec ∧ c.code = cc ∧ c.maxLocals = nL ∧ (∀ w ∈ xtb, w.before args s = true) ∧ s.vm.findClass own = some m.cls ∧ va_K D classes ty s
/-- what the statics of Throwable are, that its constructors read: each a reference or null, in a cell that is none of A -/
def xS (n d : String) (A : Nat → Prop) (U : State) (H : Heap) : Prop := ∃ (c : ClassId) (k : Class) (i : Nat) (f : Field) (a : Nat) (cell : Cell) (v : Value), U.vm.findClass "java/lang/Throwable" = some c ∧ U.fieldFound? "java/lang/Throwable" n d = some (c, k, i, f) ∧ f.isStatic = true ∧ k.init = .initialized ∧ k.statics = some a ∧ k.staticTypes[f.slot]? = some f.type ∧ H[a]? = some cell ∧ cell.vm.isStatics = true ∧ cell.cls = c ∧ f.slot < cell.slots.size ∧ cell.slots[f.slot]? = some v ∧ (v = .null ∨ ∃ t, v = .ref t) ∧ ¬ A a
theorem xS.moved {n d : String} {A : Nat → Prop} {u U : State} {H : Heap} (hvm : u.vm.Alike U.vm) (h : xS n d A u H) : xS n d A U H := by
  obtain ⟨c, k, i, f, a, cell, v, h0, h1, h2, h3, h4, h5, h6⟩ := h
  obtain ⟨k', hi', he⟩ := State.fieldFound?_setVm hvm h1
  exact ⟨c, k', i, f, a, cell, v, by rw [hvm.findClass]; exact h0, hi', h2, by rw [he]; exact h3, by rw [he]; exact h4, by rw [he]; exact h5, h6⟩
theorem xS.kept {n d : String} {A B : Nat → Prop} {U : State} {H H1 : Heap} (h : xS n d A U H) (hq : ∀ a : Nat, a < H.size → ¬ A a → H1[a]? = H[a]?) (hAB : ∀ q, B q → A q) : xS n d B U H1 := by
  obtain ⟨c, k, i, f, a, cell, v, h0, h1, h2, h3, h4, h5, h6, h7, h8, h9, h10, h11, h12⟩ := h
  exact ⟨c, k, i, f, a, cell, v, h0, h1, h2, h3, h4, h5, by rw [hq a (Array.getElem?_eq_some_iff.mp h6).1 h12]; exact h6, h7, h8, h9, h10, h11, fun z => h12 (hAB a z)⟩
theorem xS.get {n d : String} {A : Nat → Prop} {U : State} {H : Heap} (h : xS n d A U H) : ∃ v : Value, (v = .null ∨ ∃ t, v = .ref t) ∧ va_Z "java/lang/Throwable" n d v A U H := by
  obtain ⟨c, k, i, f, a, cell, v, h0, h1, h2, h3, h4, h5, h6, h7, h8, h9, h10, h11, h12⟩ := h
  exact ⟨v, h11, c, k, i, f, a, cell, h1, h2, h3, h4, h6, h7, h10, h12⟩
theorem xS.lays {n d : String} {A : Nat → Prop} {U : State} {args : Array Value} (h : xS n d A U U.heap) : (Cond.laysStatic "java/lang/Throwable" n d).before args U = true := by
  obtain ⟨c, k, i, f, a, cell, v, h0, h1, h2, h3, h4, h5, h6, h7, h8, h9, h10, h11, h12⟩ := h
  simp [Cond.before, Cond.holds, Cond.value, h0, h1, h2, h4, h5, h6, h7, h8, h9]
theorem xS.isref {n d : String} {A : Nat → Prop} {U : State} {args : Array Value} (h : xS n d A U U.heap) : (Cond.isRef (.static "java/lang/Throwable" n d)).before args U = true := by
  obtain ⟨c, k, i, f, a, cell, v, h0, h1, h2, h3, h4, h5, h6, h7, h8, h9, h10, h11, h12⟩ := h
  have hk : cell.vm ≠ .unknown := fun e => by rw [e] at h7; cases h7
  rcases h11 with rfl | ⟨t, rfl⟩ <;> simp [Cond.before, Cond.holds, Cond.value, Term.eval, State.fieldNamed?, h1, h2, h4, h6, h7, h10]
theorem xS.of {n d : String} {A : Nat → Prop} {s : State} {args : Array Value} (hl : (Cond.laysStatic "java/lang/Throwable" n d).before args s = true) (hini : (Cond.initialized "java/lang/Throwable").before args s = true) (h : (Cond.isRef (.static "java/lang/Throwable" n d)).before args s = true) (hA : ∀ a : Nat, a < s.heap.size → ¬ A a) : xS n d A s s.heap := by
  obtain ⟨c, k, i, f, a, cell, hc, hi, hst, ha, hcell, hs, hcls, hlt, hty⟩ := Cond.laysStatic_spec hl
  cases hv : (Term.static "java/lang/Throwable" n d).eval args s none [] s with
  | none => simp [Cond.before, Cond.holds, Cond.value, hv] at h
  | some w =>
    obtain ⟨hst', a', cell', ha', hcell', -, hslot⟩ := Term.static_spec hi hv
    cases ha.symm.trans ha'
    cases hcell.symm.trans hcell'
    refine ⟨c, k, i, f, a, cell, w, hc, hi, hst, Cond.initialized_spec hc (State.fieldFound?_spec hi).1 hini, ha, hty, hcell, hs, hcls, hlt, hslot, ?_, hA a (Array.getElem?_eq_some_iff.mp hcell).1⟩
    simp only [Cond.before, Cond.holds, Cond.value, hv] at h
    cases w with
    | null => exact Or.inl rfl
    | ref t => exact Or.inr ⟨t, rfl⟩
    | _ => simp at h
/-- a table of the class's: a static array of ints that nobody writes -/
def xT (n : String) (N : Nat) (A : Nat → Prop) (U : State) (H : Heap) : Prop := ∃ (t : Nat) (g : Nat → Int32), va_Z "WasmReader" n "[I" (.ref t) A U H ∧ va_T .int t N (fun j => .int (g j)) A U H
theorem xT.moved {n : String} {N : Nat} {A : Nat → Prop} {u U : State} {H : Heap} (hvm : u.vm.Alike U.vm) (h : xT n N A u H) : xT n N A U H := by
  obtain ⟨t, g, h1, h2⟩ := h
  exact ⟨t, g, h1.moved hvm, h2.moved hvm⟩
theorem xT.kept {n : String} {N : Nat} {A B : Nat → Prop} {U : State} {H H1 : Heap} (h : xT n N A U H) (hq : ∀ a : Nat, a < H.size → ¬ A a → H1[a]? = H[a]?) (hAB : ∀ q, B q → A q) : xT n N B U H1 := by
  obtain ⟨t, g, h1, h2⟩ := h
  exact ⟨t, g, (h1.kept hq).narrow hAB, (h2.kept hq).narrow hAB⟩
theorem x_ncB {C T : String} {args : Array Value} {U : State} (h : va_Nc C T U) : (Cond.not (.castable C T)).before args U = true := by
  obtain ⟨c, t, h1, h2, h3⟩ := h
  simp [Cond.before, Cond.holds, Cond.value, h1, h2, h3]
def xNs (U : State) : Prop := va_Nc "java/lang/IllegalArgumentException" "java/lang/IllegalStateException" U ∧ va_Nc "java/lang/IndexOutOfBoundsException" "java/lang/IllegalStateException" U ∧ va_Nc "java/lang/IllegalArgumentException" "java/lang/IndexOutOfBoundsException" U
def xZ (A : Nat → Prop) (U : State) (H : Heap) : Prop := (xS "UNASSIGNED_STACK" "[Ljava/lang/StackTraceElement;" A U H ∧ xS "SUPPRESSED_SENTINEL" "Ljava/util/List;" A U H) ∧ (xT "ACCESS_ALIGNMENT" 23 A U H ∧ xT "ACCESS_TYPE" 23 A U H ∧ xT "NUMERIC" 50 A U H) ∧ xNs U
theorem xZ.moved {A : Nat → Prop} {u U : State} {H : Heap} (hvm : u.vm.Alike U.vm) (h : xZ A u H) : xZ A U H := ⟨⟨h.1.1.moved hvm, h.1.2.moved hvm⟩, ⟨h.2.1.1.moved hvm, h.2.1.2.1.moved hvm, h.2.1.2.2.moved hvm⟩, h.2.2.1.moved hvm, h.2.2.2.1.moved hvm, h.2.2.2.2.moved hvm⟩
theorem xZ.kept {A B : Nat → Prop} {U : State} {H H1 : Heap} (h : xZ A U H) (hq : ∀ a : Nat, a < H.size → ¬ A a → H1[a]? = H[a]?) (hAB : ∀ q, B q → A q) : xZ B U H1 := ⟨⟨h.1.1.kept hq hAB, h.1.2.kept hq hAB⟩, ⟨h.2.1.1.kept hq hAB, h.2.1.2.1.kept hq hAB, h.2.1.2.2.kept hq hAB⟩, h.2.2⟩
/-- a contract's start: the arguments, the size of the heap, the world -/
def xP (D : va_G) (ty : List (ClassId × FieldType)) (av : List Value) (ws : xW) (sz : Nat) : Array Value → State → Prop := va_Pc av (fun U => U.heap.size = sz ∧ va_P D classes ws U.heap ∧ va_K D classes ty U ∧ va_D (fun _ => True) ws ∧ xZ (va_A ws sz) U U.heap)
/-- the world behind it -/
def xB (D : va_G) (ty : List (ClassId × FieldType)) (ws : xW) (sz : Nat) (u : xW) (t : State) : Prop := va_P D classes u t.heap ∧ va_K D classes ty t ∧ va_D (va_A ws sz) u
abbrev xQv (D : va_G) (ty : List (ClassId × FieldType)) (ws : xW) (sz : Nat) (post : xW → Prop) : Array Value → State → Outcome → State → Prop := va_Qv (S := xW) post (xB D ty ws sz) (va_A ws sz)
abbrev xQi (D : va_G) (ty : List (ClassId × FieldType)) (ws : xW) (sz : Nat) (post : Int32 → xW → Prop) : Array Value → State → Outcome → State → Prop := va_Qi (S := xW) post (xB D ty ws sz) (va_A ws sz)
abbrev xQl (D : va_G) (ty : List (ClassId × FieldType)) (ws : xW) (sz : Nat) (post : Int64 → xW → Prop) : Array Value → State → Outcome → State → Prop := va_Ql (S := xW) post (xB D ty ws sz) (va_A ws sz)
theorem xP_blind {D : va_G} {ty : List (ClassId × FieldType)} {av : List Value} {ws : xW} {sz : Nat} : FrameBlind (xP D ty av ws sz) := fun a U g mk q => by
  obtain ⟨q0, q1, qP, qK, qD, qZ⟩ := q
  exact ⟨q0, q1, qP, va_K.moved (u := U) (U := U.calling g mk a) (Vm.Alike.refl U.vm) qK, qD, xZ.moved (u := U) (U := U.calling g mk a) (Vm.Alike.refl U.vm) qZ⟩
theorem xP_at {D : va_G} {ty : List (ClassId × FieldType)} {av : List Value} {ws : xW} {A : Nat → Prop} {s : State} {H : Heap} {locs : List Loc} (hP : va_P D classes ws H) (hK : va_K D classes ty s) (hD : va_D A ws) (hZ : xZ A s s.heap) (hS : va_S A s.heap H locs) (hF : ∀ q, va_A ws H.size q → A q) : ∀ U : State, U.heap = H → s.WarmedH U.vm → xP D ty av ws H.size av.toArray U := fun U hU hW =>
  ⟨rfl, by rw [hU], by rw [hU]; exact hP, va_K.moved hW.alike hK, hD.weaken (fun _ _ _ _ => trivial), by rw [hU]; exact (hZ.moved hW.alike).kept hS.2.1 hF⟩
section XR
variable {p : Program} {l : Launch} {e : Env} {R : Room} {s : State} {m : MethodId} {args : Array Value} {below : List Frame} {meth : Method} {c : Code} {H : Heap} {locs : List Loc} {cells slots : Nat} {Q : State → Prop}
variable {cc : ByteArray} {nL pc : Nat} {ls : Array Slot} {rest : List Value} {own : String} {D : va_G} {ty : List (ClassId × FieldType)} {ws : xW} {A : Nat → Prop} {H0 : Heap} {a : Nat}
theorem x_get (E : xE p s m args c cc nL own D ty) (hP : va_P D classes ws H) {C : String} {T : u_T} {N ci index : Nat} (q0 : Nat) {fs : List Value} {v : Value} (k : Nat) (hin : ∀ w ∈ u_ws C T N, w ∈ xtb) (he : ws[q0]? = some (a, .inr (ci, fs))) (hc : classes[ci]? = some (C, T, N)) (hk : k < N)
    (hl : Cond.fieldLink own index (T k).1 (T k).2.1 (T k).2.2.1 ∈ xtb) (hv : fs[k]? = some v) (hdg : decode cc pc = .ok (.getfield index, 3))
    (kk : W p l e R s m args below meth c H locs cells slots Q (F0 m (pc + 3) ls (v :: rest))) : W p l e R s m args below meth c H locs cells slots Q (F0 m pc ls (.ref a :: rest)) :=
  va_get E.1 E.2.1 E.2.2.2.1 hin E.2.2.2.2.1 E.2.2.2.2.2 hP q0 he hc k hk (E.2.2.2.1 _ hl) (fun _ h => h) hv hdg kk
theorem x_put (E : xE p s m args c cc nL own D ty) (hP : va_P D classes ws H) (hD : va_D A ws) (hS : va_S A H0 H locs) {C : String} {T : u_T} {N ci index : Nat} (q0 : Nat) {fs : List Value} {v : Value} (k : Nat) {t0 : Nat → FieldType} {tk : FieldType} (hin : ∀ w ∈ u_ws C T N, w ∈ xtb) (ht0 : ∀ k, k < N → parseFieldDescriptor (T k).2.2.1 = some (t0 k)) (hnm : ∀ a, a < N → ∀ b, b < N → a ≠ b → (T a).2.1 ≠ (T b).2.1)
    (he : ws[q0]? = some (a, .inr (ci, fs))) (hc : classes[ci]? = some (C, T, N)) (hk : k < N) (hl : Cond.fieldLink own index (T k).1 (T k).2.1 (T k).2.2.1 ∈ xtb) (hfin : (T k).2.2.2 = false) (htk : t0 k = tk) (hn : narrow tk v = v) (hfit : fits tk v = true) (hlen : k < fs.length) (hdg : decode cc pc = .ok (.putfield index, 3))
    (kk : ∀ (H1 : Heap) (locs1 : List Loc), va_P D classes (ws.set q0 (a, .inr (ci, fs.set k v))) H1 → va_D A (ws.set q0 (a, .inr (ci, fs.set k v))) → va_S A H0 H1 locs1 → W p l e R s m args below meth c H1 locs1 cells slots Q (F0 m (pc + 3) ls rest)) : W p l e R s m args below meth c H locs cells slots Q (F0 m pc ls (v :: .ref a :: rest)) :=
  va_put E.1 E.2.1 E.2.2.2.1 hin t0 ht0 hnm E.2.2.2.2.1 E.2.2.2.2.2 hP hD hS q0 he hc k hk (E.2.2.2.1 _ hl) (fun _ h => h) hfin (ht0 k hk) (by rw [htk]; exact hn) (by rw [htk]; exact hfit) hlen hdg (fun H1 locs1 h1 h2 h3 => kk H1 locs1 h1 h2 h3)
theorem x_putF (E : xE p s m args c cc nL own D ty) (hi : meth.name = "<init>") (hP : va_P D classes ws H) (hD : va_D A ws) (hS : va_S A H0 H locs) {C : String} {T : u_T} {N ci index : Nat} (q0 : Nat) {fs : List Value} {v : Value} (k : Nat) {t0 : Nat → FieldType} {tk : FieldType} (hin : ∀ w ∈ u_ws C T N, w ∈ xtb) (ht0 : ∀ k, k < N → parseFieldDescriptor (T k).2.2.1 = some (t0 k)) (hnm : ∀ a, a < N → ∀ b, b < N → a ≠ b → (T a).2.1 ≠ (T b).2.1)
    (he : ws[q0]? = some (a, .inr (ci, fs))) (hc : classes[ci]? = some (C, T, N)) (hk : k < N) (hl : Cond.fieldLink own index (T k).1 (T k).2.1 (T k).2.2.1 ∈ xtb) (hfin : (T k).2.2.2 = true) (hdec : (T k).1 = own) (htk : t0 k = tk) (hn : narrow tk v = v) (hfit : fits tk v = true) (hlen : k < fs.length) (hdg : decode cc pc = .ok (.putfield index, 3))
    (kk : ∀ (H1 : Heap) (locs1 : List Loc), va_P D classes (ws.set q0 (a, .inr (ci, fs.set k v))) H1 → va_D A (ws.set q0 (a, .inr (ci, fs.set k v))) → va_S A H0 H1 locs1 → W p l e R s m args below meth c H1 locs1 cells slots Q (F0 m (pc + 3) ls rest)) : W p l e R s m args below meth c H locs cells slots Q (F0 m pc ls (v :: .ref a :: rest)) :=
  va_putF E.1 E.2.1 E.2.2.2.1 hin t0 ht0 hnm E.2.2.2.2.1 E.2.2.2.2.2 hP hD hS q0 he hc k hk (E.2.2.2.1 _ hl) (fun _ h => h) hfin hi hdec (ht0 k hk) (by rw [htk]; exact hn) (by rw [htk]; exact hfit) hlen hdg (fun H1 locs1 h1 h2 h3 => kk H1 locs1 h1 h2 h3)
/-- a new array of a class that the tables know already -/
theorem x_newa (E : xE p s m args c cc nL own D ty) (hP : va_P D classes ws H) (hD : va_D A ws) (hS : va_S A H0 H locs) (hA : ∀ q, H0.size ≤ q → A q) {atype : ArrayType} {tk : FieldType} {cA : ClassId} (t0 : Nat) (ht : ty[t0]? = some (cA, tk)) (hob : ∀ C, tk ≠ .object C) (hl : Cond.arrayClass (newarray.typeOf atype) ∈ xtb) (hty : newarray.typeOf atype = tk)
    {n : Int32} {N' : Nat} {a0 : vp_A} (ha : ∀ cA : ClassId, vp_cell cA a0 = arrV cA N' (fun _ => defaultValue tk)) (hn : ¬ n < 0) (hN : n.toNatClampNeg = N') (hbytes : N' * componentBytes tk ≤ 536870912) (hcells : cells + 1 ≤ R.cells) (hslots : slots + N' ≤ R.slots) (hdg : decode cc pc = .ok (.newarray atype, 2))
    (kk : ∀ (q : Nat) (H1 : Heap), va_P D classes (ws ++ [(q, .inl (cA, a0))]) H1 → va_D A (ws ++ [(q, .inl (cA, a0))]) → va_S A H0 H1 locs →
      W p l e R s m args below meth c H1 locs (cells + 1) (slots + N') Q (F0 m (pc + 2) ls (.ref q :: rest))) : W p l e R s m args below meth c H locs cells slots Q (F0 m pc ls (.int n :: rest)) := by
  refine va_newa E.1 E.2.1 (E.2.2.2.1 _ hl) hty E.2.2.2.2.2 hP hD hS hA ha hn hN hbytes hcells hslots hdg (fun q cA' H1 hK' hP' hD' hS' => ?_)
  have h1 := (E.2.2.2.2.2.2 t0 _ ht).2
  have h2 := (hK'.2 ty.length (cA', tk) (by simp)).2
  have hq : cA' = cA := by
    cases tk with
    | object C => exact absurd rfl (hob C)
    | _ => exact Option.some.inj (h2.symm.trans h1)
  subst hq
  exact kk q H1 hP' hD' hS'
theorem x_new (E : xE p s m args c cc nL own D ty) (hP : va_P D classes ws H) (hD : va_D A ws) (hS : va_S A H0 H locs) (hA : ∀ q, H0.size ≤ q → A q) {C : String} {T : u_T} {N ci index : Nat} {t0 : Nat → FieldType} (hin : ∀ w ∈ u_ws C T N, w ∈ xtb) (ht0 : ∀ k, k < N → parseFieldDescriptor (T k).2.2.1 = some (t0 k))
    (hcl : Cond.classLink own index C ∈ xtb) (hinst : Cond.instantiable C N ∈ xtb) (hini : Cond.initialized C ∈ xtb) (hc : classes[ci]? = some (C, T, N)) {fs : List Value} (hfs : ∀ j, j < N → defaultValue (t0 j) = vp_V fs j) (hcells : cells + 1 ≤ R.cells) (hslots : slots + N ≤ R.slots) (hdg : decode cc pc = .ok (.new index, 3))
    (kk : ∀ (q : Nat) (H1 : Heap), va_P D classes (ws ++ [(q, .inr (ci, fs))]) H1 → va_D A (ws ++ [(q, .inr (ci, fs))]) → va_S A H0 H1 locs →
      W p l e R s m args below meth c H1 locs (cells + 1) (slots + N) Q (F0 m (pc + 3) ls (.ref q :: rest))) : W p l e R s m args below meth c H locs cells slots Q (F0 m pc ls rest) :=
  va_new E.1 E.2.1 E.2.2.2.1 hin t0 ht0 E.2.2.2.2.1 (E.2.2.2.1 _ hcl) (E.2.2.2.1 _ hinst) (E.2.2.2.1 _ hini) E.2.2.2.2.2 hP hD hS hA hc hfs hcells hslots hdg kk
theorem x_objInit (E : xE p s m args c cc nL own D ty) (hsz : ls.size = nL) {idx : Nat} (hl : Cond.methodLink own idx objectInit ∈ xtb) (hi : Cond.instanceMethod objectInit ∈ xtb) (hcd : Cond.code objectInit ⟨#[0xb1]⟩ 1 none ∈ xtb) (hdg : decode cc pc = .ok (.invokespecial idx, 3)) (hfr : 1 ≤ R.frames) (hlo : (rest.map fun v => v.category).sum + 12 ≤ R.locals)
    (kk : W p l e R s m args below meth c H locs cells slots Q (F0 m (pc + 3) ls rest)) : W p l e R s m args below meth c H locs cells slots Q (F0 m pc ls (.ref a :: rest)) :=
  W.objInit E.1 E.2.1 E.2.2.2.2.1 (E.2.2.2.1 _ hl) (E.2.2.2.1 _ hi) (E.2.2.2.1 _ hcd) rfl (by rw [E.2.2.1]; exact hsz) rfl hdg hfr (by simpa [F0, JFrame.monitorRoom] using hlo) kk
end XR
section XK
variable {p : Program} {l : Launch} {e : Env} {R : Room} {s : State} {m : MethodId} {args : Array Value} {below : List Frame} {meth : Method} {c : Code} {H : Heap} {locs : List Loc} {cells slots : Nat} {Q : State → Prop}
variable {cc bytes : ByteArray} {nL pc index maxL mc ms : Nat} {ls : Array Slot} {rest As : List Value} {own C : String} {D : va_G} {ty : List (ClassId × FieldType)} {ws wc wr : xW} {A : Nat → Prop} {H0 : Heap} {b : Nat} {y : MethodName} {rm : Room} {ret : Option FieldType} {Qc : Array Value → State → Outcome → State → Prop} {free : Addr → Prop}
theorem x_pay {w0 : Cond} (h0 : w0 ∈ xtb) (hts : ∀ w ∈ xtb, w.before args s = true) : ∀ w ∈ (w0 :: xtb), ∀ (a' : Array Value) (U : State), s.WarmedH U.vm → w.before a' U = true := fun w hw a' U hW => by
  have hw' : w ∈ xtb := by
    rcases List.mem_cons.mp hw with h | h
    · rw [h]; exact h0
    · exact h
  exact x_warm (List.mem_filter.mp hw').2 hW (hts w hw')
/-- decided of a callee: its name, how many parameters -/
def x_nm (y : MethodName) (n : Nat) : Bool := decide (y.cls ≠ "java/lang/invoke/MethodHandle") && decide (y.cls ≠ "java/lang/invoke/VarHandle") && decide ((parseMethodDescriptor y.desc).map (fun d => d.parameters.length) = some n)
theorem x_nm_out {n : Nat} (h : x_nm y n = true) : (y.cls ≠ "java/lang/invoke/MethodHandle" ∧ y.cls ≠ "java/lang/invoke/VarHandle") ∧ ∀ sig, parseMethodDescriptor y.desc = some sig → n = sig.parameters.length := by
  simp only [x_nm, Bool.and_eq_true, decide_eq_true_eq] at h
  refine ⟨h.1, fun sig hs => ?_⟩
  have h2 := h.2
  rw [hs] at h2
  exact (Option.some.inj h2).symm
theorem x_cb (E : xE p s m args c cc nL own D ty) (hcode : Cond.code y bytes maxL ret ∈ xtb) (hini : Cond.initialized y.cls ∈ xtb) (hl : Cond.methodLink own index y ∈ xtb) (hnm : x_nm y As.length = true) (hrc : rm.cells = mc) (hrs : rm.slots = ms) (hfr : rm.frames + 1 ≤ R.frames) (hlo : 8 + (maxL + 11) + rm.locals ≤ R.locals) :
    CallB R s args own index y bytes maxL ret (Cond.code y bytes maxL ret :: xtb) rm mc ms As.length :=
  ⟨hrc, hrs, hfr, hlo, x_pay hcode E.2.2.2.1, List.mem_cons_self, E.2.2.2.1 _ hcode, E.2.2.2.1 _ hini, (x_nm_out hnm).1, (x_nm_out hnm).2, E.2.2.2.1 _ hl⟩
theorem x_cn {host : String} (E : xE p s m args c cc nL own D ty) (hcode : Cond.code y bytes maxL ret ∈ xtb) (hini : Cond.initialized y.cls ∈ xtb) (hl : Cond.methodLinkNest own index y host ∈ xtb) (hnm : x_nm y As.length = true) (hrc : rm.cells = mc) (hrs : rm.slots = ms) (hfr : rm.frames + 1 ≤ R.frames) (hlo : 8 + (maxL + 11) + rm.locals ≤ R.locals) :
    va_CN R s args own index y host bytes maxL ret (Cond.code y bytes maxL ret :: xtb) rm mc ms As.length :=
  ⟨⟨hrc, hrs, hfr, hlo, x_pay hcode E.2.2.2.1, List.mem_cons_self⟩, E.2.2.2.1 _ hcode, E.2.2.2.1 _ hini, (x_nm_out hnm).1, (x_nm_out hnm).2, E.2.2.2.1 _ hl⟩
theorem x_fix (E : xE p s m args c cc nL own D ty) : CallFix p m c cc nL s args xtb own := ⟨E.1, E.2.1, E.2.2.1, E.2.2.2.2.1, E.2.2.2.1⟩
variable {st0 : List Value}
/-- invokevirtual -/
theorem x_V (E : xE p s m args c cc nL own D ty) (hM : Met l y (Cond.code y bytes maxL ret :: xtb) rm (xP D ty (.ref b :: As) wc H.size) Qc mc ms free) (hcode : Cond.code y bytes maxL ret ∈ xtb) (hini : Cond.initialized y.cls ∈ xtb) (hl : Cond.methodLink own index y ∈ xtb) (hinst : Cond.instanceMethod y ∈ xtb) (hsel : Cond.selects C y y ∈ xtb) (hnm : x_nm y As.length = true)
    (hP : va_P D classes wc H) (hD : va_D A wc) (hZ : xZ A s s.heap) (hS : va_S A s.heap H locs) (hF : ∀ q, va_A wc H.size q → A q) {ci : Nat} {fs : List Value} {q : vw_C} (he : wc[0]? = some (b, .inr (ci, fs))) (hc : classes[ci]? = some q) (hq : q.1 = C) (hsz : ls.size = nL) (hst : st0 = As.reverse ++ .ref b :: rest) (hrest : (rest.map fun v => v.category).sum ≤ 8) (hdg : decode cc pc = .ok (.invokevirtual index, 3))
    (hrc : rm.cells = mc) (hrs : rm.slots = ms) (hfr : rm.frames + 1 ≤ R.frames) (hlo : 8 + (maxL + 11) + rm.locals ≤ R.locals) (hcl : cells + mc ≤ R.cells) (hsl : slots + ms ≤ R.slots) :
    va_Run p l e R s m args below meth c H locs cells slots mc ms (F0 m pc ls st0) rest (Qc (Value.ref b :: As).toArray) free :=
  va_runV (C := C) (x_fix E) hM ⟨x_cb E hcode hini hl hnm hrc hrs hfr hlo, E.2.2.2.1 _ hinst, E.2.2.2.1 _ hsel⟩ ⟨xP_blind, by rw [← hq]; exact va_recv E.2.2.2.2.2 hP hc he, xP_at hP E.2.2.2.2.2 hD hZ hS hF⟩ rfl rfl hsz hst (by simpa [JFrame.monitorRoom] using hrest) hdg ⟨hcl, hsl⟩
/-- invokevirtual of a nest mate's private method, or of one's own -/
theorem x_VN {host : String} (E : xE p s m args c cc nL own D ty) (hM : Met l y (Cond.code y bytes maxL ret :: xtb) rm (xP D ty (.ref b :: As) wc H.size) Qc mc ms free) (hcode : Cond.code y bytes maxL ret ∈ xtb) (hini : Cond.initialized y.cls ∈ xtb) (hl : Cond.methodLinkNest own index y host ∈ xtb) (hinst : Cond.instanceMethod y ∈ xtb) (hsel : Cond.selects C y y ∈ xtb) (hnm : x_nm y As.length = true)
    (hP : va_P D classes wc H) (hD : va_D A wc) (hZ : xZ A s s.heap) (hS : va_S A s.heap H locs) (hF : ∀ q, va_A wc H.size q → A q) {ci : Nat} {fs : List Value} {q : vw_C} (he : wc[0]? = some (b, .inr (ci, fs))) (hc : classes[ci]? = some q) (hq : q.1 = C) (hsz : ls.size = nL) (hst : st0 = As.reverse ++ .ref b :: rest) (hrest : (rest.map fun v => v.category).sum ≤ 8) (hdg : decode cc pc = .ok (.invokevirtual index, 3))
    (hrc : rm.cells = mc) (hrs : rm.slots = ms) (hfr : rm.frames + 1 ≤ R.frames) (hlo : 8 + (maxL + 11) + rm.locals ≤ R.locals) (hcl : cells + mc ≤ R.cells) (hsl : slots + ms ≤ R.slots) :
    va_Run p l e R s m args below meth c H locs cells slots mc ms (F0 m pc ls st0) rest (Qc (Value.ref b :: As).toArray) free :=
  va_runVN (C := C) (x_fix E) hM ⟨x_cn E hcode hini hl hnm hrc hrs hfr hlo, E.2.2.2.1 _ hinst, E.2.2.2.1 _ hsel⟩ ⟨xP_blind, by rw [← hq]; exact va_recv E.2.2.2.2.2 hP hc he, xP_at hP E.2.2.2.2.2 hD hZ hS hF⟩ rfl rfl hsz hst (by simpa [JFrame.monitorRoom] using hrest) hdg ⟨hcl, hsl⟩
theorem x_S (E : xE p s m args c cc nL own D ty) (hM : Met l y (Cond.code y bytes maxL ret :: xtb) rm (xP D ty As wc H.size) Qc mc ms free) (hcode : Cond.code y bytes maxL ret ∈ xtb) (hini : Cond.initialized y.cls ∈ xtb) (hl : Cond.methodLink own index y ∈ xtb) (hstat : Cond.static y ∈ xtb) (hnm : x_nm y As.length = true)
    (hP : va_P D classes wc H) (hD : va_D A wc) (hZ : xZ A s s.heap) (hS : va_S A s.heap H locs) (hF : ∀ q, va_A wc H.size q → A q) (hsz : ls.size = nL) (hst : st0 = As.reverse ++ rest) (hrest : (rest.map fun v => v.category).sum ≤ 8) (hdg : decode cc pc = .ok (.invokestatic index, 3))
    (hrc : rm.cells = mc) (hrs : rm.slots = ms) (hfr : rm.frames + 1 ≤ R.frames) (hlo : 8 + (maxL + 11) + rm.locals ≤ R.locals) (hcl : cells + mc ≤ R.cells) (hsl : slots + ms ≤ R.slots) :
    va_Run p l e R s m args below meth c H locs cells slots mc ms (F0 m pc ls st0) rest (Qc As.toArray) free :=
  va_runS (x_fix E) hM ⟨x_cb E hcode hini hl hnm hrc hrs hfr hlo, E.2.2.2.1 _ hstat⟩ ⟨xP_blind, xP_at hP E.2.2.2.2.2 hD hZ hS hF⟩ rfl rfl hsz hst (by simpa [JFrame.monitorRoom] using hrest) hdg ⟨hcl, hsl⟩
theorem x_SN {host : String} (E : xE p s m args c cc nL own D ty) (hM : Met l y (Cond.code y bytes maxL ret :: xtb) rm (xP D ty As wc H.size) Qc mc ms free) (hcode : Cond.code y bytes maxL ret ∈ xtb) (hini : Cond.initialized y.cls ∈ xtb) (hl : Cond.methodLinkNest own index y host ∈ xtb) (hstat : Cond.static y ∈ xtb) (hnm : x_nm y As.length = true)
    (hP : va_P D classes wc H) (hD : va_D A wc) (hZ : xZ A s s.heap) (hS : va_S A s.heap H locs) (hF : ∀ q, va_A wc H.size q → A q) (hsz : ls.size = nL) (hst : st0 = As.reverse ++ rest) (hrest : (rest.map fun v => v.category).sum ≤ 8) (hdg : decode cc pc = .ok (.invokestatic index, 3))
    (hrc : rm.cells = mc) (hrs : rm.slots = ms) (hfr : rm.frames + 1 ≤ R.frames) (hlo : 8 + (maxL + 11) + rm.locals ≤ R.locals) (hcl : cells + mc ≤ R.cells) (hsl : slots + ms ≤ R.slots) :
    va_Run p l e R s m args below meth c H locs cells slots mc ms (F0 m pc ls st0) rest (Qc As.toArray) free :=
  va_runSN (x_fix E) hM ⟨x_cn E hcode hini hl hnm hrc hrs hfr hlo, E.2.2.2.1 _ hstat, trivial⟩ ⟨xP_blind, xP_at hP E.2.2.2.2.2 hD hZ hS hF⟩ rfl rfl hsz hst (by simpa [JFrame.monitorRoom] using hrest) hdg ⟨hcl, hsl⟩
theorem x_I (E : xE p s m args c cc nL own D ty) (hM : Met l y (Cond.code y bytes maxL none :: xtb) rm (xP D ty (.ref b :: As) wc H.size) Qc mc ms free) (hcode : Cond.code y bytes maxL none ∈ xtb) (hini : Cond.initialized y.cls ∈ xtb) (hl : Cond.methodLink own index y ∈ xtb) (hinst : Cond.instanceMethod y ∈ xtb) (hy1 : y.name = "<init>") (hnm : x_nm y As.length = true)
    (hP : va_P D classes wc H) (hD : va_D A wc) (hZ : xZ A s s.heap) (hS : va_S A s.heap H locs) (hF : ∀ q, va_A wc H.size q → A q) (hsz : ls.size = nL) (hst : st0 = As.reverse ++ .ref b :: rest) (hrest : (rest.map fun v => v.category).sum ≤ 8) (hdg : decode cc pc = .ok (.invokespecial index, 3))
    (hrc : rm.cells = mc) (hrs : rm.slots = ms) (hfr : rm.frames + 1 ≤ R.frames) (hlo : 8 + (maxL + 11) + rm.locals ≤ R.locals) (hcl : cells + mc ≤ R.cells) (hsl : slots + ms ≤ R.slots) :
    va_Run p l e R s m args below meth c H locs cells slots mc ms (F0 m pc ls st0) rest (Qc (Value.ref b :: As).toArray) free :=
  va_runI (x_fix E) hM ⟨x_cb E hcode hini hl hnm hrc hrs hfr hlo, hy1, E.2.2.2.1 _ hinst⟩ ⟨xP_blind, xP_at hP E.2.2.2.2.2 hD hZ hS hF⟩ rfl rfl hsz hst (by simpa [JFrame.monitorRoom] using hrest) hdg ⟨hcl, hsl⟩
theorem x_IN {host : String} (E : xE p s m args c cc nL own D ty) (hM : Met l y (Cond.code y bytes maxL none :: xtb) rm (xP D ty (.ref b :: As) wc H.size) Qc mc ms free) (hcode : Cond.code y bytes maxL none ∈ xtb) (hini : Cond.initialized y.cls ∈ xtb) (hl : Cond.methodLinkNest own index y host ∈ xtb) (hinst : Cond.instanceMethod y ∈ xtb) (hy1 : y.name = "<init>") (hnm : x_nm y As.length = true)
    (hP : va_P D classes wc H) (hD : va_D A wc) (hZ : xZ A s s.heap) (hS : va_S A s.heap H locs) (hF : ∀ q, va_A wc H.size q → A q) (hsz : ls.size = nL) (hst : st0 = As.reverse ++ .ref b :: rest) (hrest : (rest.map fun v => v.category).sum ≤ 8) (hdg : decode cc pc = .ok (.invokespecial index, 3))
    (hrc : rm.cells = mc) (hrs : rm.slots = ms) (hfr : rm.frames + 1 ≤ R.frames) (hlo : 8 + (maxL + 11) + rm.locals ≤ R.locals) (hcl : cells + mc ≤ R.cells) (hsl : slots + ms ≤ R.slots) :
    va_Run p l e R s m args below meth c H locs cells slots mc ms (F0 m pc ls st0) rest (Qc (Value.ref b :: As).toArray) free :=
  va_runIN (x_fix E) hM ⟨x_cn E hcode hini hl hnm hrc hrs hfr hlo, hy1, E.2.2.2.1 _ hinst⟩ ⟨xP_blind, xP_at hP E.2.2.2.2.2 hD hZ hS hF⟩ rfl rfl hsz hst (by simpa [JFrame.monitorRoom] using hrest) hdg ⟨hcl, hsl⟩
variable {a : Array Value}
/-- behind a call: the callee's world beside the rest -/
theorem x_rv {post : xW → Prop} (hr : va_Run p l e R s m args below meth c H locs cells slots mc ms (F0 m pc ls st0) rest (xQv D ty wc H.size post a) (va_A wc H.size)) (hP : va_P D classes ws H) (hD : va_D A ws) (hS : va_S A H0 H locs) (hA : ∀ q, H0.size ≤ q → A q) (isC isR : List Nat)
    (hC : isC.map (fun i => ws[i]?) = wc.map some) (hR : isR.map (fun i => ws[i]?) = wr.map some) (hn : va_nd isR = true) (hdis : ∀ i ∈ isR, i ∉ isC)
    (kk : ∀ (u : xW) (H1 : Heap) (locs1 : List Loc), post u → va_P D classes (wr ++ u) H1 → va_D A (wr ++ u) → va_S A H0 H1 locs1 → W p l e R s m args below meth c H1 locs1 (cells + mc) (slots + ms) Q (F0 m (pc + 3) ls rest)) : W p l e R s m args below meth c H locs cells slots Q (F0 m pc ls st0) := by
  have hFc := va_free (wc := wc) hD hS hA isC hC
  refine va_callv hr hS (fun q _ h => hFc q h) hFc (fun u t H1 locs1 ht hvm hw hB hz1 hk1 hS1 => ?_)
  obtain ⟨hP1, hK1, hD1⟩ := hB
  rw [ht] at hP1
  obtain ⟨hP2, hD2⟩ := va_join (wr := wr) (w1 := u) hP hD isC isR hC hR hn hdis hk1 hFc hP1 hD1
  exact kk u H1 locs1 hw hP2 hD2 hS1
theorem x_ri {post : Int32 → xW → Prop} (hr : va_Run p l e R s m args below meth c H locs cells slots mc ms (F0 m pc ls st0) rest (xQi D ty wc H.size post a) (va_A wc H.size)) (hP : va_P D classes ws H) (hD : va_D A ws) (hS : va_S A H0 H locs) (hA : ∀ q, H0.size ≤ q → A q) (isC isR : List Nat)
    (hC : isC.map (fun i => ws[i]?) = wc.map some) (hR : isR.map (fun i => ws[i]?) = wr.map some) (hn : va_nd isR = true) (hdis : ∀ i ∈ isR, i ∉ isC)
    (kk : ∀ (r : Int32) (u : xW) (H1 : Heap) (locs1 : List Loc), post r u → va_P D classes (wr ++ u) H1 → va_D A (wr ++ u) → va_S A H0 H1 locs1 → W p l e R s m args below meth c H1 locs1 (cells + mc) (slots + ms) Q (F0 m (pc + 3) ls (.int r :: rest))) : W p l e R s m args below meth c H locs cells slots Q (F0 m pc ls st0) := by
  have hFc := va_free (wc := wc) hD hS hA isC hC
  refine va_calli hr hS (fun q _ h => hFc q h) hFc (fun r u t H1 locs1 ht hvm hw hB hz1 hk1 hS1 => ?_)
  obtain ⟨hP1, hK1, hD1⟩ := hB
  rw [ht] at hP1
  obtain ⟨hP2, hD2⟩ := va_join (wr := wr) (w1 := u) hP hD isC isR hC hR hn hdis hk1 hFc hP1 hD1
  exact kk r u H1 locs1 hw hP2 hD2 hS1
theorem x_rl {post : Int64 → xW → Prop} (hr : va_Run p l e R s m args below meth c H locs cells slots mc ms (F0 m pc ls st0) rest (xQl D ty wc H.size post a) (va_A wc H.size)) (hP : va_P D classes ws H) (hD : va_D A ws) (hS : va_S A H0 H locs) (hA : ∀ q, H0.size ≤ q → A q) (isC isR : List Nat)
    (hC : isC.map (fun i => ws[i]?) = wc.map some) (hR : isR.map (fun i => ws[i]?) = wr.map some) (hn : va_nd isR = true) (hdis : ∀ i ∈ isR, i ∉ isC)
    (kk : ∀ (r : Int64) (u : xW) (H1 : Heap) (locs1 : List Loc), post r u → va_P D classes (wr ++ u) H1 → va_D A (wr ++ u) → va_S A H0 H1 locs1 → W p l e R s m args below meth c H1 locs1 (cells + mc) (slots + ms) Q (F0 m (pc + 3) ls (.long r :: rest))) : W p l e R s m args below meth c H locs cells slots Q (F0 m pc ls st0) := by
  have hFc := va_free (wc := wc) hD hS hA isC hC
  refine va_calll hr hS (fun q _ h => hFc q h) hFc (fun r u t H1 locs1 ht hvm hw hB hz1 hk1 hS1 => ?_)
  obtain ⟨hP1, hK1, hD1⟩ := hB
  rw [ht] at hP1
  obtain ⟨hP2, hD2⟩ := va_join (wr := wr) (w1 := u) hP hD isC isR hC hR hn hdis hk1 hFc hP1 hD1
  exact kk r u H1 locs1 hw hP2 hD2 hS1
/-- the ends -/
theorem x_vret {post : xW → Prop} (E : xE p s m args c cc nL own D ty) (hr : meth.sig.returnType = none) (hlocks : meth.locks = false) (hP : va_P D classes ws H) (hD : va_D (va_A wc s.heap.size) ws) (hS : va_S (va_A wc s.heap.size) s.heap H locs) (hq : post ws) (hdg : decode cc pc = .ok (.return_, 1)) :
    W p l e R s m args below meth c H locs cells slots (MQ below (xQv D ty wc s.heap.size post) args s cells slots (va_A wc s.heap.size)) (F0 m pc ls []) :=
  W.vret E.1 E.2.1 hr (fun t ht hW => ⟨⟨ws, rfl, hq, by rw [ht]; exact hP, va_K.moved hW.alike E.2.2.2.2.2, hD⟩, hS.F ht⟩) hS.2.2 hdg hlocks
theorem x_iret {post : Int32 → xW → Prop} {v : Int32} (E : xE p s m args c cc nL own D ty) (hr : meth.sig.returnType = some .int) (hlocks : meth.locks = false) (hP : va_P D classes ws H) (hD : va_D (va_A wc s.heap.size) ws) (hS : va_S (va_A wc s.heap.size) s.heap H locs) (hq : post v ws) (hdg : decode cc pc = .ok (.ireturn, 1)) :
    W p l e R s m args below meth c H locs cells slots (MQ below (xQi D ty wc s.heap.size post) args s cells slots (va_A wc s.heap.size)) (F0 m pc ls [.int v]) :=
  W.iret E.1 E.2.1 hr (fun t ht hW => ⟨⟨v, ws, rfl, hq, by rw [ht]; exact hP, va_K.moved hW.alike E.2.2.2.2.2, hD⟩, hS.F ht⟩) hS.2.2 hdg hlocks
theorem x_zret {post : Int32 → xW → Prop} {v : Int32} {tk : FieldType} (E : xE p s m args c cc nL own D ty) (hr : meth.sig.returnType = some tk) (hn : narrow tk (.int v) = .int v) (hlocks : meth.locks = false) (hP : va_P D classes ws H) (hD : va_D (va_A wc s.heap.size) ws) (hS : va_S (va_A wc s.heap.size) s.heap H locs) (hq : post v ws) (hdg : decode cc pc = .ok (.ireturn, 1)) :
    W p l e R s m args below meth c H locs cells slots (MQ below (xQi D ty wc s.heap.size post) args s cells slots (va_A wc s.heap.size)) (F0 m pc ls [.int v]) :=
  W.zret E.1 E.2.1 hr hn (fun t ht hW => ⟨⟨v, ws, rfl, hq, by rw [ht]; exact hP, va_K.moved hW.alike E.2.2.2.2.2, hD⟩, hS.F ht⟩) hS.2.2 hdg hlocks
end XK
/-- a contract out of a walk -/
theorem x_met {l : Launch} {y : MethodName} {cc : ByteArray} {maxL : Nat} {ret : Option FieldType} {rm : Room} {D : va_G} {ty : List (ClassId × FieldType)} {av : List Value} {ws : xW} {sz : Nat} {Qc : State → Array Value → State → Outcome → State → Prop} {Qd : Array Value → State → Outcome → State → Prop} {mc ms : Nat} {fr : State → Addr → Prop} {free : Addr → Prop} (own : String)
    (hy : plainName y.cls = true) (ho : y.cls = own) (hlen : (lg_sl av).length ≤ maxL) (hQ : ∀ s : State, s.heap.size = sz → Qc s = Qd) (hf : ∀ s : State, s.heap.size = sz → fr s = free)
    (body : ∀ (p : Program) (e : Env) (s : State) (m : MethodId) (below : List Frame) (meth : Method) (c : Code) (ls : Array Slot), xE p s m av.toArray c cc maxL own D ty → meth.sig.returnType = ret → meth.locks = false → meth.name = y.name → lv_has ls maxL (lv_args 0 av) →
      va_P D classes ws s.heap → va_D (va_A ws s.heap.size) ws → (∀ q : Nat, s.heap.size ≤ q → va_A ws s.heap.size q) → va_S (va_A ws s.heap.size) s.heap s.heap [] → xZ (va_A ws s.heap.size) s s.heap → l.admits e → W p l e rm s m av.toArray below meth c s.heap [] 0 0 (MQ below (Qc s) av.toArray s mc ms (fr s)) (F0 m 0 ls [])) :
    Met l y (Cond.code y cc maxL ret :: xtb) rm (xP D ty av ws sz) Qd mc ms free := by
  refine Met.ofW (cc := cc) (maxL := maxL) (ret := ret) hy rfl ?_
  intro p e s m args below meth c s₁ B hml hv
  obtain ⟨rfl, hsz, hP, hK, hD0, hZ⟩ := hv
  have hts := atoms_spec (ws := Cond.code y cc maxL ret :: xtb) B.pre
  have hown : s.vm.findClass own = some m.cls := by rw [← ho]; exact findClass_of_methodNamed B.named
  have hl := lv_entry av (n := maxL) hlen
  rw [lg_entry_eq]
  rw [← hQ s hsz, ← hf s hsz]
  exact body p e s m below meth c _ ⟨B.exec, B.bytes, hml, fun w h => hts w (List.mem_cons_of_mem _ h), hown, hK⟩ B.returns B.notSynchronized (name_of_methodNamed B.named B.method).1 hl hP hD0.self (fun q h => Or.inr h) va_S.rf (by rw [hsz]; exact hZ) B.admits
theorem x_lret {p : Program} {l : Launch} {e : Env} {R : Room} {s : State} {m : MethodId} {args : Array Value} {below : List Frame} {meth : Method} {c : Code} {H : Heap} {locs : List Loc} {cells slots : Nat} {cc : ByteArray} {nL pc : Nat} {ls : Array Slot} {own : String} {D : va_G} {ty : List (ClassId × FieldType)} {ws wc : xW} {post : Int64 → xW → Prop} {v : Int64} (E : xE p s m args c cc nL own D ty) (hr : meth.sig.returnType = some .long) (hlocks : meth.locks = false) (hP : va_P D classes ws H) (hD : va_D (va_A wc s.heap.size) ws) (hS : va_S (va_A wc s.heap.size) s.heap H locs) (hq : post v ws) (hdg : decode cc pc = .ok (.lreturn, 1)) :
    W p l e R s m args below meth c H locs cells slots (MQ below (xQl D ty wc s.heap.size post) args s cells slots (va_A wc s.heap.size)) (F0 m pc ls [.long v]) :=
  W.lret E.1 E.2.1 hr (fun t ht hW => ⟨⟨v, ws, rfl, hq, by rw [ht]; exact hP, va_K.moved hW.alike E.2.2.2.2.2, hD⟩, hS.F ht⟩) hS.2.2 hdg hlocks
