/-! SWITCHES, by their targets -/
def x_off (dflt lo hi : Int) (offs : Array Int) (x : Int) : Int := if x < lo ∨ hi < x then dflt else (offs[(x - lo).toNat]?).getD dflt
def x_All (P : Nat → Prop) : List Nat → Prop
  | [] => True
  | t :: ts => P t ∧ x_All P ts
theorem x_All.get {P : Nat → Prop} : ∀ {l : List Nat}, x_All P l → ∀ t ∈ l, P t
  | [], _, t, ht => by cases ht
  | a :: l, h, t, ht => by
    rcases List.mem_cons.mp ht with rfl | h2
    · exact h.1
    · exact x_All.get h.2 t h2
theorem x_tgt {os : List Int} {tgs : List Nat} {pc : Nat} (hall : os.all (fun off => tgs.any (fun t => decide ((pc : Int) + off = (t : Int)))) = true) {off : Int} (h : off ∈ os) : ∃ t ∈ tgs, (pc : Int) + off = (t : Int) := by
  obtain ⟨t, ht, e⟩ := List.any_eq_true.mp (List.all_eq_true.mp hall off h)
  exact ⟨t, ht, of_decide_eq_true e⟩
section XSW
variable {p : Program} {l : Launch} {e : Env} {R : Room} {s : State} {m : MethodId} {args : Array Value} {below : List Frame} {meth : Method} {c : Code} {H : Heap} {locs : List Loc} {cells slots : Nat} {Q : State → Prop}
variable {cc : ByteArray} {pc : Nat} {ls : Array Slot} {rest : List Value}
theorem x_table (hexec : p.tables.exec = Jvm.exec) (hb : c.code = cc) {dflt lo hi : Int} {offs : Array Int} {len : Nat} {x : Int32} (hdg : decode cc pc = .ok (.tableswitch dflt lo hi offs, len)) {tgs : List Nat} (hsz : hi < lo + offs.size) (hall : (dflt :: offs.toList).all (fun off => tgs.any (fun t => decide ((pc : Int) + off = (t : Int)))) = true)
    (k : x_All (fun t => (pc : Int) + x_off dflt lo hi offs x.toInt = (t : Int) → W p l e R s m args below meth c H locs cells slots Q (F0 m t ls rest)) tgs) : W p l e R s m args below meth c H locs cells slots Q (F0 m pc ls (.int x :: rest)) := by
  by_cases h : x.toInt < lo ∨ hi < x.toInt
  · have hx : x_off dflt lo hi offs x.toInt = dflt := if_pos h
    obtain ⟨t, ht, e⟩ := x_tgt hall (off := dflt) (List.mem_cons_self ..)
    exact lv_tableOut hexec hb hdg h e (k.get t ht (by rw [hx]; exact e))
  · have hlt : (x.toInt - lo).toNat < offs.size := by omega
    have hg : offs[(x.toInt - lo).toNat]? = some offs[(x.toInt - lo).toNat] := Array.getElem?_eq_getElem hlt
    have hx : x_off dflt lo hi offs x.toInt = offs[(x.toInt - lo).toNat] := by
      unfold x_off
      rw [if_neg h, hg]
      rfl
    obtain ⟨t, ht, e⟩ := x_tgt hall (off := offs[(x.toInt - lo).toNat]) (List.mem_cons_of_mem _ (Array.getElem_mem_toList hlt))
    exact lv_tableIn hexec hb hdg (fun q => h (Or.inl q)) (fun q => h (Or.inr q)) hg e (k.get t ht (by rw [hx]; exact e))
theorem x_lookMem (dflt x : Int) : ∀ ps : List (Int × Int), Op.lookupswitch.offset ps dflt x ∈ dflt :: ps.map (fun q => q.2)
  | [] => by simp [Op.lookupswitch.offset]
  | q :: ps => by
    have ih := x_lookMem dflt x ps
    unfold Op.lookupswitch.offset
    split
    · simp
    · rcases List.mem_cons.mp ih with h | h
      · rw [h]; simp
      · exact List.mem_cons_of_mem _ (List.mem_cons_of_mem _ h)
theorem x_look (hexec : p.tables.exec = Jvm.exec) (hb : c.code = cc) {dflt : Int} {ps : Array (Int × Int)} {len : Nat} {x : Int32} (hdg : decode cc pc = .ok (.lookupswitch dflt ps, len)) {tgs : List Nat} (hp : (ps.toList.zip (ps.toList.drop 1)).all (fun (a, next) => a.1 < next.1) = true) (hall : (dflt :: ps.toList.map (fun q => q.2)).all (fun off => tgs.any (fun t => decide ((pc : Int) + off = (t : Int)))) = true)
    (k : x_All (fun t => (pc : Int) + Op.lookupswitch.offset ps.toList dflt x.toInt = (t : Int) → W p l e R s m args below meth c H locs cells slots Q (F0 m t ls rest)) tgs) : W p l e R s m args below meth c H locs cells slots Q (F0 m pc ls (.int x :: rest)) := by
  obtain ⟨t, ht, e⟩ := x_tgt hall (x_lookMem dflt x.toInt ps.toList)
  exact lv_lookup hexec hb hdg hp rfl e (k.get t ht e)
end XSW

