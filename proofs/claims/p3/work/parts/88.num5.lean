/-! calls that change nothing, and long answers -/
abbrev xQp (post : Int32 → Prop) : Array Value → State → Outcome → State → Prop := va_Qi (S := Unit) (fun r _ => post r) (fun _ _ => True) (fun _ => False)
section XP5
variable {p : Program} {l : Launch} {e : Env} {R : Room} {s : State} {m : MethodId} {args : Array Value} {below : List Frame} {meth : Method} {c : Code} {cc : ByteArray} {pc : Nat} {ls : Array Slot} {post : Int32 → Prop}
theorem x_pret {v : Int32} {tk : FieldType} (hexec : p.tables.exec = Jvm.exec) (hb : c.code = cc) (hr : meth.sig.returnType = some tk) (hn : narrow tk (.int v) = .int v) (hlocks : meth.locks = false) (hq : post v) (hdg : decode cc pc = .ok (.ireturn, 1)) :
    W p l e R s m args below meth c s.heap [] 0 0 (MQ below (xQp post) args s 0 0 (fun _ => False)) (F0 m pc ls [.int v]) :=
  W.zret hexec hb hr hn (fun t ht hW => ⟨⟨v, (), rfl, hq, trivial⟩, by rw [ht]; exact Nat.le_refl _, fun q h1 h2 => by rw [ht]⟩) (fun q hq => by cases hq) hdg hlocks
theorem x_pure {a : Array Value} {st0 rest : List Value} {Q : State → Prop} (hr : va_Run p l e R s m args below meth c s.heap [] 0 0 0 0 (F0 m pc ls st0) rest (xQp post a) (fun _ => False)) (kk : ∀ r : Int32, post r → W p l e R s m args below meth c s.heap [] 0 0 Q (F0 m (pc + 3) ls (.int r :: rest))) : W p l e R s m args below meth c s.heap [] 0 0 Q (F0 m pc ls st0) := by
  intro T hT X
  obtain ⟨v, st₀, t, T', L, h0, X', hL, e1, e2, ⟨⟨r, u, hv, hp, -⟩, hz, hk⟩, st⟩ := hr T hT X
  cases hv
  rw [h0] at hz hk
  have hLn : L = [] := by
    cases L with
    | nil => rfl
    | cons q L => exact (hL q (List.mem_cons_self ..)).elim
  subst hLn
  have hsz : T'.heap.size ≤ s.heap.size := by simpa using X'.heapSize
  have hheap : T'.heap = s.heap := by
    rw [e1] at hsz ⊢
    apply Array.ext_getElem?
    intro i
    by_cases hi : i < s.heap.size
    · exact hk i hi id
    · rw [Array.getElem?_eq_none (by omega), Array.getElem?_eq_none (by omega)]
  obtain ⟨t2, a1, b1⟩ := kk r hp T' hheap (by simpa using X')
  exact ⟨t2, st t2 a1, b1⟩
theorem x_ret1l {D : va_G} {ty : List (ClassId × FieldType)} {nL : Nat} {own : String} {H : Heap} {locs : List Loc} {cells slots : Nat} {ws wc : xW} {postX : Outcome → xW → State → Prop} {v : Int64} (E : xE p s m args c cc nL own D ty) (hr : meth.sig.returnType = some .long) (hlocks : meth.locks = false) (hP : va_P D classes ws H) (hD : va_D (va_A wc s.heap.size) ws) (hS : va_S (va_A wc s.heap.size) s.heap H locs) (hq : ∀ t, t.heap = H → s.WarmedH t.vm → postX (.returned (some (.long v))) ws t) (hdg : decode cc pc = .ok (.lreturn, 1)) :
    W p l e R s m args below meth c H locs cells slots (MQX below (xQX D ty wc s.heap.size postX) args s cells slots (va_A wc s.heap.size)) (F0 m pc ls [.long v]) :=
  W.x (W.lret E.1 E.2.1 hr (fun t ht hW => ⟨⟨ws, hq t ht hW, by rw [ht]; exact hP, va_K.moved hW.alike E.2.2.2.2.2, hD⟩, hS.F ht⟩) hS.2.2 hdg hlocks)
end XP5

