/-! ===== X: the judgement, and the rows of one instruction ===== -/
/-- a method's place in the machine, with the heap pictured by A, its locals by lv: d frames, c1 cells, s1 slots are left to it -/
def xx_O (G : xx_G) (l : Launch) (M : xx_M) (d c1 s1 : Nat) (lv : List (Nat × Value)) (A : xx_H) (p : Program) (R : Room) (s : State) (m : MethodId) (args : Array Value) (meth : Method) (c : Code) (H : Heap) (locs : List Loc) (cells slots : Nat) (ls : Array Slot) : Prop :=
  (p.tables.exec = Jvm.exec ∧ c.code = M.2.1 ∧ c.maxLocals = M.2.2.1 ∧ meth.sig.returnType = M.2.2.2.1 ∧ meth.locks = false ∧ c.exceptionTable.toList.map (fun h => (h.startPc, h.endPc, h.handlerPc, h.catchType)) = M.2.2.2.2 ∧ s.vm.findClass M.1.cls = some m.cls ∧ meth.name = M.1.name) ∧
  ((∀ w ∈ lw_tbl, goodWord w = true → w.before args s = true) ∧ xx_K G s ∧ l.stackTraces = false ∧ G.1.size ≤ s.heap.size) ∧
  (d ≤ R.frames ∧ 48 * d + 400 ≤ R.locals ∧ cells + c1 ≤ R.cells ∧ slots + s1 ≤ R.slots) ∧
  xx_R G A H ∧ (∀ q ∈ locs, G.1.size ≤ q.base) ∧ lv_has ls M.2.2.1 lv
/-- an outcome: what was returned, or the class of what was thrown -/
def xx_oc (s : State) (o : Outcome) (r : Option Value ⊕ String) (H : Heap) : Prop := match r with
  | .inl v => o = .returned v
  | .inr E => ∃ (q : Addr) (ce : Cell), o = .threw q ∧ H[q]? = some ce ∧ ce.vm = .none ∧ s.vm.findClass E = some ce.cls
/-- a method's end: what Q says of its outcome and of the heap behind it -/
def xx_Z (G : xx_G) (R : Room) (s : State) (below : List Frame) (Q : Option Value ⊕ String → xx_H → Prop) : State → Prop := fun t =>
  ∃ (o : Outcome) (r : Option Value ⊕ String) (A : xx_H) (L : List Loc), t.status = .running ∧ Ended t below o ∧ xx_oc s o r t.heap ∧ Q r A ∧ xx_R G A t.heap ∧ s.WarmedH t.vm ∧ (∀ q ∈ L, G.1.size ≤ q.base) ∧ s.sameButNew ({ t with vm := s.vm } : State) L R.cells R.slots
def xx_X (G : xx_G) (l : Launch) (M : xx_M) (d c1 s1 : Nat) (pc : Nat) (lv : List (Nat × Value)) (st : List Value) (A : xx_H) (Q : Option Value ⊕ String → xx_H → Prop) : Prop :=
  ∀ (p : Program) (e : Env) (R : Room) (s : State) (m : MethodId) (args : Array Value) (below : List Frame) (meth : Method) (c : Code) (H : Heap) (locs : List Loc) (cells slots : Nat) (ls : Array Slot),
    xx_O G l M d c1 s1 lv A p R s m args meth c H locs cells slots ls → W p l e R s m args below meth c H locs cells slots (xx_Z G R s below Q) (F0 m pc ls st)
def xx_lk (lv : List (Nat × Value)) (i : Nat) : Option Value := (lv.find? (fun q => q.1 == i)).map (fun q => q.2)
theorem xx_lk_at {ls : Array Slot} {n i : Nat} {lv : List (Nat × Value)} {v : Value} (h : lv_has ls n lv) (e : xx_lk lv i = some v) : ls[i]? = some (.val v) := by
  unfold xx_lk at e
  obtain ⟨q, hq, e2⟩ := Option.map_eq_some_iff.mp e
  have h1 := List.mem_of_find?_eq_some hq
  have h2 := List.find?_some hq
  have h3 : q.1 = i := by simpa using h2
  have h4 := h.2.2 q h1
  rw [h3, e2] at h4
  exact h4
/-- a value laid at its place, by order of the places -/
def xx_ins (i : Nat) (v : Value) : List (Nat × Value) → List (Nat × Value)
  | [] => [(i, v)]
  | q :: r => if i < q.1 then (i, v) :: q :: r else q :: xx_ins i v r
theorem xx_ins_mem {i : Nat} {v : Value} {lv : List (Nat × Value)} {q : Nat × Value} (h : q ∈ xx_ins i v lv) : q = (i, v) ∨ q ∈ lv := by
  induction lv with
  | nil => simpa [xx_ins] using h
  | cons a r ih =>
    unfold xx_ins at h
    split at h
    · rcases List.mem_cons.mp h with h | h
      · exact Or.inl h
      · exact Or.inr h
    · rcases List.mem_cons.mp h with h | h
      · exact Or.inr (by rw [h]; exact List.mem_cons_self)
      · rcases ih h with h | h
        · exact Or.inl h
        · exact Or.inr (List.mem_cons_of_mem _ h)
def xx_st1 (lv : List (Nat × Value)) (i : Nat) (v : Value) : List (Nat × Value) := xx_ins i v (lv.filter (fun q => !(q.1 == i) && !(q.1 + 1 == i && q.2.category == 2)))
def xx_st2 (lv : List (Nat × Value)) (i : Nat) (v : Value) : List (Nat × Value) := xx_ins i v (lv.filter (fun q => !(q.1 == i) && (!(q.1 == i + 1) && !(q.1 + 1 == i && q.2.category == 2))))
theorem xx_has_ins {ls : Array Slot} {n i : Nat} {v : Value} {lv : List (Nat × Value)} (h : lv_has ls n ((i, v) :: lv)) : lv_has ls n (xx_ins i v lv) :=
  ⟨h.1, h.2.1, fun q hq => h.2.2 q (by
    rcases xx_ins_mem hq with e | e
    · rw [e]; exact List.mem_cons_self
    · exact List.mem_cons_of_mem _ e)⟩
def xx_keep (ks : List Nat) (lv : List (Nat × Value)) : List (Nat × Value) := lv.filter (fun q => ks.contains q.1)
section XS
variable {G : xx_G} {l : Launch} {M : xx_M} {d c1 s1 pc : Nat} {lv : List (Nat × Value)} {rest : List Value} {A : xx_H} {Q : Option Value ⊕ String → xx_H → Prop}
/-- fewer locals are listed -/
theorem xx_less (ks : List Nat) {st : List Value} (k : xx_X G l M d c1 s1 pc (xx_keep ks lv) st A Q) : xx_X G l M d c1 s1 pc lv st A Q := by
  intro p e R s m args below meth c H locs cells slots ls ho
  obtain ⟨h1, h2, h3, h4, h5, h6⟩ := ho
  exact k p e R s m args below meth c H locs cells slots ls ⟨h1, h2, h3, h4, h5, h6.1, h6.2.1, fun q hq => h6.2.2 q ((List.mem_filter.mp hq).1)⟩
/-- less room is asked -/
theorem xx_room {st : List Value} {d2 c2 s2 : Nat} (hd : d2 ≤ d) (hc : c2 ≤ c1) (hs : s2 ≤ s1) (k : xx_X G l M d2 c2 s2 pc lv st A Q) : xx_X G l M d c1 s1 pc lv st A Q := by
  intro p e R s m args below meth c H locs cells slots ls ho
  obtain ⟨h1, h2, ⟨a1, a2, a3, a4⟩, h4⟩ := ho
  exact k p e R s m args below meth c H locs cells slots ls ⟨h1, h2, ⟨by omega, by omega, by omega, by omega⟩, h4⟩
theorem xx_mono {st : List Value} {Q2 : Option Value ⊕ String → xx_H → Prop} (hq : ∀ o B, Q2 o B → Q o B) (k : xx_X G l M d c1 s1 pc lv st A Q2) : xx_X G l M d c1 s1 pc lv st A Q := by
  intro p e R s m args below meth c H locs cells slots ls ho T hT X
  obtain ⟨t, a, o, r, B, L, h1, h2, h0, h3, h4⟩ := k p e R s m args below meth c H locs cells slots ls ho T hT X
  exact ⟨t, a, o, r, B, L, h1, h2, h0, hq r B h3, h4⟩
theorem xx_topi {x : Int32} (k : ∀ v : Int32, v = x → xx_X G l M d c1 s1 pc lv (.int v :: rest) A Q) : xx_X G l M d c1 s1 pc lv (.int x :: rest) A Q := k x rfl
theorem xx_topl {x : Int64} (k : ∀ v : Int64, v = x → xx_X G l M d c1 s1 pc lv (.long v :: rest) A Q) : xx_X G l M d c1 s1 pc lv (.long x :: rest) A Q := k x rfl
theorem xx_eqi {x y : Int32} (h : x = y) (k : xx_X G l M d c1 s1 pc lv (.int y :: rest) A Q) : xx_X G l M d c1 s1 pc lv (.int x :: rest) A Q := h ▸ k
theorem xx_eql {x y : Int64} (h : x = y) (k : xx_X G l M d c1 s1 pc lv (.long y :: rest) A Q) : xx_X G l M d c1 s1 pc lv (.long x :: rest) A Q := h ▸ k
theorem xx_iconst {n : Int} {v : Int32} (hdg : decode M.2.1 pc = .ok (.iconst n, 1)) (hv : Int32.ofInt n = v) (k : xx_X G l M d c1 s1 (pc + 1) lv (.int v :: rest) A Q) : xx_X G l M d c1 s1 pc lv rest A Q := by
  intro p e R s m args below meth c H locs cells slots ls ho
  exact lv_iconst ho.1.1 ho.1.2.1 hdg hv (k p e R s m args below meth c H locs cells slots ls ho)
theorem xx_bipush {n : Int} {v : Int32} (hdg : decode M.2.1 pc = .ok (.bipush n, 2)) (hv : (Int8.ofInt n).toInt32 = v) (k : xx_X G l M d c1 s1 (pc + 2) lv (.int v :: rest) A Q) : xx_X G l M d c1 s1 pc lv rest A Q := by
  intro p e R s m args below meth c H locs cells slots ls ho
  exact lv_bipush ho.1.1 ho.1.2.1 hdg hv (k p e R s m args below meth c H locs cells slots ls ho)
theorem xx_sipush {n : Int} {v : Int32} (hdg : decode M.2.1 pc = .ok (.sipush n, 3)) (hv : (Int16.ofInt n).toInt32 = v) (k : xx_X G l M d c1 s1 (pc + 3) lv (.int v :: rest) A Q) : xx_X G l M d c1 s1 pc lv rest A Q := by
  intro p e R s m args below meth c H locs cells slots ls ho
  exact lv_sipush ho.1.1 ho.1.2.1 hdg hv (k p e R s m args below meth c H locs cells slots ls ho)
theorem xx_lconst {n : Fin 2} {v : Int64} (hdg : decode M.2.1 pc = .ok (.lconst n, 1)) (hv : Int64.ofNat (n : Nat) = v) (k : xx_X G l M d c1 s1 (pc + 1) lv (.long v :: rest) A Q) : xx_X G l M d c1 s1 pc lv rest A Q := by
  intro p e R s m args below meth c H locs cells slots ls ho
  exact lv_lconst ho.1.1 ho.1.2.1 hdg hv (k p e R s m args below meth c H locs cells slots ls ho)
theorem xx_null  (hdg : decode M.2.1 pc = .ok (.aconst_null, 1)) (k : xx_X G l M d c1 s1 (pc + 1) lv (.null :: rest) A Q) : xx_X G l M d c1 s1 pc lv rest A Q := by
  intro p e R s m args below meth c H locs cells slots ls ho
  exact lv_null ho.1.1 ho.1.2.1 hdg (k p e R s m args below meth c H locs cells slots ls ho)
theorem xx_iload_n {k0 : Fin 4} {x : Int32} (hdg : decode M.2.1 pc = .ok (.iload_n k0, 1)) (hl : xx_lk lv (k0 : Nat) = some (.int x)) (k : xx_X G l M d c1 s1 (pc + 1) lv (.int x :: rest) A Q) : xx_X G l M d c1 s1 pc lv rest A Q := by
  intro p e R s m args below meth c H locs cells slots ls ho
  exact lv_iload_n ho.1.1 ho.1.2.1 hdg rfl (xx_lk_at ho.2.2.2.2.2 hl) (k p e R s m args below meth c H locs cells slots ls ho)
theorem xx_iload {i : Nat} {x : Int32} (hdg : decode M.2.1 pc = .ok (.iload i, 2)) (hl : xx_lk lv i = some (.int x)) (k : xx_X G l M d c1 s1 (pc + 2) lv (.int x :: rest) A Q) : xx_X G l M d c1 s1 pc lv rest A Q := by
  intro p e R s m args below meth c H locs cells slots ls ho
  exact lv_iload ho.1.1 ho.1.2.1 hdg (xx_lk_at ho.2.2.2.2.2 hl) (k p e R s m args below meth c H locs cells slots ls ho)
theorem xx_lload_n {k0 : Fin 4} {x : Int64} (hdg : decode M.2.1 pc = .ok (.lload_n k0, 1)) (hl : xx_lk lv (k0 : Nat) = some (.long x)) (k : xx_X G l M d c1 s1 (pc + 1) lv (.long x :: rest) A Q) : xx_X G l M d c1 s1 pc lv rest A Q := by
  intro p e R s m args below meth c H locs cells slots ls ho
  exact lv_lload_n ho.1.1 ho.1.2.1 hdg rfl (xx_lk_at ho.2.2.2.2.2 hl) (k p e R s m args below meth c H locs cells slots ls ho)
theorem xx_lload {i : Nat} {x : Int64} (hdg : decode M.2.1 pc = .ok (.lload i, 2)) (hl : xx_lk lv i = some (.long x)) (k : xx_X G l M d c1 s1 (pc + 2) lv (.long x :: rest) A Q) : xx_X G l M d c1 s1 pc lv rest A Q := by
  intro p e R s m args below meth c H locs cells slots ls ho
  exact lv_lload ho.1.1 ho.1.2.1 hdg (xx_lk_at ho.2.2.2.2.2 hl) (k p e R s m args below meth c H locs cells slots ls ho)
theorem xx_aload_n {k0 : Fin 4} {x : Nat} (hdg : decode M.2.1 pc = .ok (.aload_n k0, 1)) (hl : xx_lk lv (k0 : Nat) = some (.ref x)) (k : xx_X G l M d c1 s1 (pc + 1) lv (.ref x :: rest) A Q) : xx_X G l M d c1 s1 pc lv rest A Q := by
  intro p e R s m args below meth c H locs cells slots ls ho
  exact lv_aload_n ho.1.1 ho.1.2.1 hdg rfl (xx_lk_at ho.2.2.2.2.2 hl) (k p e R s m args below meth c H locs cells slots ls ho)
theorem xx_aload {i : Nat} {x : Nat} (hdg : decode M.2.1 pc = .ok (.aload i, 2)) (hl : xx_lk lv i = some (.ref x)) (k : xx_X G l M d c1 s1 (pc + 2) lv (.ref x :: rest) A Q) : xx_X G l M d c1 s1 pc lv rest A Q := by
  intro p e R s m args below meth c H locs cells slots ls ho
  exact lv_aload ho.1.1 ho.1.2.1 hdg (xx_lk_at ho.2.2.2.2.2 hl) (k p e R s m args below meth c H locs cells slots ls ho)
theorem xx_aload_nN {k0 : Fin 4} (hdg : decode M.2.1 pc = .ok (.aload_n k0, 1)) (hl : xx_lk lv (k0 : Nat) = some .null) (k : xx_X G l M d c1 s1 (pc + 1) lv (.null :: rest) A Q) : xx_X G l M d c1 s1 pc lv rest A Q := by
  intro p e R s m args below meth c H locs cells slots ls ho
  exact lv_aload_nN ho.1.1 ho.1.2.1 hdg rfl (xx_lk_at ho.2.2.2.2.2 hl) (k p e R s m args below meth c H locs cells slots ls ho)
theorem xx_istore_n {k0 : Fin 4} {x : Int32} (hdg : decode M.2.1 pc = .ok (.istore_n k0, 1)) (hn : (k0 : Nat) < M.2.2.1) (k : xx_X G l M d c1 s1 (pc + 1) (xx_st1 lv k0 (.int x)) rest A Q) : xx_X G l M d c1 s1 pc lv (.int x :: rest) A Q := by
  intro p e R s m args below meth c H locs cells slots ls ho
  obtain ⟨h1, h2, h3, h4, h5, h6⟩ := ho
  exact lv_istore_n h1.1 h1.2.1 hdg rfl h6 hn rfl (fun ls2 hl2 => k p e R s m args below meth c H locs cells slots ls2 ⟨h1, h2, h3, h4, h5, xx_has_ins hl2⟩)
theorem xx_istore {i : Nat} {x : Int32} (hdg : decode M.2.1 pc = .ok (.istore i, 2)) (hn : (i : Nat) < M.2.2.1) (k : xx_X G l M d c1 s1 (pc + 2) (xx_st1 lv i (.int x)) rest A Q) : xx_X G l M d c1 s1 pc lv (.int x :: rest) A Q := by
  intro p e R s m args below meth c H locs cells slots ls ho
  obtain ⟨h1, h2, h3, h4, h5, h6⟩ := ho
  exact lv_istore h1.1 h1.2.1 hdg h6 hn rfl (fun ls2 hl2 => k p e R s m args below meth c H locs cells slots ls2 ⟨h1, h2, h3, h4, h5, xx_has_ins hl2⟩)
theorem xx_lstore_n {k0 : Fin 4} {x : Int64} (hdg : decode M.2.1 pc = .ok (.lstore_n k0, 1)) (hn : (k0 : Nat) + 1 < M.2.2.1) (k : xx_X G l M d c1 s1 (pc + 1) (xx_st2 lv k0 (.long x)) rest A Q) : xx_X G l M d c1 s1 pc lv (.long x :: rest) A Q := by
  intro p e R s m args below meth c H locs cells slots ls ho
  obtain ⟨h1, h2, h3, h4, h5, h6⟩ := ho
  exact lv_lstore_n h1.1 h1.2.1 hdg rfl h6 hn rfl (fun ls2 hl2 => k p e R s m args below meth c H locs cells slots ls2 ⟨h1, h2, h3, h4, h5, xx_has_ins hl2⟩)
theorem xx_lstore {i : Nat} {x : Int64} (hdg : decode M.2.1 pc = .ok (.lstore i, 2)) (hn : (i : Nat) + 1 < M.2.2.1) (k : xx_X G l M d c1 s1 (pc + 2) (xx_st2 lv i (.long x)) rest A Q) : xx_X G l M d c1 s1 pc lv (.long x :: rest) A Q := by
  intro p e R s m args below meth c H locs cells slots ls ho
  obtain ⟨h1, h2, h3, h4, h5, h6⟩ := ho
  exact lv_lstore h1.1 h1.2.1 hdg h6 hn rfl (fun ls2 hl2 => k p e R s m args below meth c H locs cells slots ls2 ⟨h1, h2, h3, h4, h5, xx_has_ins hl2⟩)
theorem xx_astore_n {k0 : Fin 4} {x : Nat} (hdg : decode M.2.1 pc = .ok (.astore_n k0, 1)) (hn : (k0 : Nat) < M.2.2.1) (k : xx_X G l M d c1 s1 (pc + 1) (xx_st1 lv k0 (.ref x)) rest A Q) : xx_X G l M d c1 s1 pc lv (.ref x :: rest) A Q := by
  intro p e R s m args below meth c H locs cells slots ls ho
  obtain ⟨h1, h2, h3, h4, h5, h6⟩ := ho
  exact lv_astore_n h1.1 h1.2.1 hdg rfl h6 hn rfl (fun ls2 hl2 => k p e R s m args below meth c H locs cells slots ls2 ⟨h1, h2, h3, h4, h5, xx_has_ins hl2⟩)
theorem xx_astore {i : Nat} {x : Nat} (hdg : decode M.2.1 pc = .ok (.astore i, 2)) (hn : (i : Nat) < M.2.2.1) (k : xx_X G l M d c1 s1 (pc + 2) (xx_st1 lv i (.ref x)) rest A Q) : xx_X G l M d c1 s1 pc lv (.ref x :: rest) A Q := by
  intro p e R s m args below meth c H locs cells slots ls ho
  obtain ⟨h1, h2, h3, h4, h5, h6⟩ := ho
  exact lv_astore h1.1 h1.2.1 hdg h6 hn rfl (fun ls2 hl2 => k p e R s m args below meth c H locs cells slots ls2 ⟨h1, h2, h3, h4, h5, xx_has_ins hl2⟩)
theorem xx_astore_nN {k0 : Fin 4} (hdg : decode M.2.1 pc = .ok (.astore_n k0, 1)) (hn : (k0 : Nat) < M.2.2.1) (k : xx_X G l M d c1 s1 (pc + 1) (xx_st1 lv k0 (.null)) rest A Q) : xx_X G l M d c1 s1 pc lv (.null :: rest) A Q := by
  intro p e R s m args below meth c H locs cells slots ls ho
  obtain ⟨h1, h2, h3, h4, h5, h6⟩ := ho
  exact lv_astore_nN h1.1 h1.2.1 hdg rfl h6 hn rfl (fun ls2 hl2 => k p e R s m args below meth c H locs cells slots ls2 ⟨h1, h2, h3, h4, h5, xx_has_ins hl2⟩)
theorem xx_iinc {i : Nat} {n : Int} {x v : Int32} (hdg : decode M.2.1 pc = .ok (.iinc i n, 3)) (hl : xx_lk lv i = some (.int x)) (hv : x + Int32.ofInt n = v) (hn : i < M.2.2.1) (k : xx_X G l M d c1 s1 (pc + 3) (xx_st1 lv i (.int v)) rest A Q) : xx_X G l M d c1 s1 pc lv rest A Q := by
  intro p e R s m args below meth c H locs cells slots ls ho
  obtain ⟨h1, h2, h3, h4, h5, h6⟩ := ho
  unfold xx_lk at hl
  obtain ⟨q, hq, e2⟩ := Option.map_eq_some_iff.mp hl
  have h7 : q.1 = i := by simpa using List.find?_some hq
  obtain ⟨k9, hk9⟩ := List.getElem?_of_mem (List.mem_of_find?_eq_some hq)
  exact lv_iinc h1.1 h1.2.1 hdg h6 (k := k9) (x := x) (by rw [hk9, ← h7, ← e2]) hv hn rfl (fun ls2 hl2 => k p e R s m args below meth c H locs cells slots ls2 ⟨h1, h2, h3, h4, h5, xx_has_ins hl2⟩)
theorem xx_iadd {x y : Int32} (hdg : decode M.2.1 pc = .ok (.iadd, 1)) (k : xx_X G l M d c1 s1 (pc + 1) lv (.int (x + y) :: rest) A Q) : xx_X G l M d c1 s1 pc lv (.int y :: .int x :: rest) A Q := by
  intro p e R s m args below meth c H locs cells slots ls ho
  exact lv_iadd ho.1.1 ho.1.2.1 hdg (k p e R s m args below meth c H locs cells slots ls ho)
theorem xx_isub {x y : Int32} (hdg : decode M.2.1 pc = .ok (.isub, 1)) (k : xx_X G l M d c1 s1 (pc + 1) lv (.int (x - y) :: rest) A Q) : xx_X G l M d c1 s1 pc lv (.int y :: .int x :: rest) A Q := by
  intro p e R s m args below meth c H locs cells slots ls ho
  exact lv_isub ho.1.1 ho.1.2.1 hdg (k p e R s m args below meth c H locs cells slots ls ho)
theorem xx_imul {x y : Int32} (hdg : decode M.2.1 pc = .ok (.imul, 1)) (k : xx_X G l M d c1 s1 (pc + 1) lv (.int (x * y) :: rest) A Q) : xx_X G l M d c1 s1 pc lv (.int y :: .int x :: rest) A Q := by
  intro p e R s m args below meth c H locs cells slots ls ho
  exact lv_imul ho.1.1 ho.1.2.1 hdg (k p e R s m args below meth c H locs cells slots ls ho)
theorem xx_iand {x y : Int32} (hdg : decode M.2.1 pc = .ok (.iand, 1)) (k : xx_X G l M d c1 s1 (pc + 1) lv (.int (x &&& y) :: rest) A Q) : xx_X G l M d c1 s1 pc lv (.int y :: .int x :: rest) A Q := by
  intro p e R s m args below meth c H locs cells slots ls ho
  exact lv_iand ho.1.1 ho.1.2.1 hdg (k p e R s m args below meth c H locs cells slots ls ho)
theorem xx_ior {x y : Int32} (hdg : decode M.2.1 pc = .ok (.ior, 1)) (k : xx_X G l M d c1 s1 (pc + 1) lv (.int (x ||| y) :: rest) A Q) : xx_X G l M d c1 s1 pc lv (.int y :: .int x :: rest) A Q := by
  intro p e R s m args below meth c H locs cells slots ls ho
  exact lv_ior ho.1.1 ho.1.2.1 hdg (k p e R s m args below meth c H locs cells slots ls ho)
theorem xx_ixor {x y : Int32} (hdg : decode M.2.1 pc = .ok (.ixor, 1)) (k : xx_X G l M d c1 s1 (pc + 1) lv (.int (x ^^^ y) :: rest) A Q) : xx_X G l M d c1 s1 pc lv (.int y :: .int x :: rest) A Q := by
  intro p e R s m args below meth c H locs cells slots ls ho
  exact lv_ixor ho.1.1 ho.1.2.1 hdg (k p e R s m args below meth c H locs cells slots ls ho)
theorem xx_ishl {x y : Int32} (hdg : decode M.2.1 pc = .ok (.ishl, 1)) (k : xx_X G l M d c1 s1 (pc + 1) lv (.int (x <<< (y &&& 31)) :: rest) A Q) : xx_X G l M d c1 s1 pc lv (.int y :: .int x :: rest) A Q := by
  intro p e R s m args below meth c H locs cells slots ls ho
  exact lv_ishl ho.1.1 ho.1.2.1 hdg (k p e R s m args below meth c H locs cells slots ls ho)
theorem xx_ishr {x y : Int32} (hdg : decode M.2.1 pc = .ok (.ishr, 1)) (k : xx_X G l M d c1 s1 (pc + 1) lv (.int (x >>> (y &&& 31)) :: rest) A Q) : xx_X G l M d c1 s1 pc lv (.int y :: .int x :: rest) A Q := by
  intro p e R s m args below meth c H locs cells slots ls ho
  exact lv_ishr ho.1.1 ho.1.2.1 hdg (k p e R s m args below meth c H locs cells slots ls ho)
theorem xx_idiv {x y : Int32} (hdg : decode M.2.1 pc = .ok (.idiv, 1)) (hne : ¬ y = 0) (k : xx_X G l M d c1 s1 (pc + 1) lv (.int (x / y) :: rest) A Q) : xx_X G l M d c1 s1 pc lv (.int y :: .int x :: rest) A Q := by
  intro p e R s m args below meth c H locs cells slots ls ho
  exact lv_idiv ho.1.1 ho.1.2.1 hdg hne (k p e R s m args below meth c H locs cells slots ls ho)
theorem xx_irem {x y : Int32} (hdg : decode M.2.1 pc = .ok (.irem, 1)) (hne : ¬ y = 0) (k : xx_X G l M d c1 s1 (pc + 1) lv (.int (x - x / y * y) :: rest) A Q) : xx_X G l M d c1 s1 pc lv (.int y :: .int x :: rest) A Q := by
  intro p e R s m args below meth c H locs cells slots ls ho
  exact lv_irem ho.1.1 ho.1.2.1 hdg hne (k p e R s m args below meth c H locs cells slots ls ho)
theorem xx_ineg {x : Int32} (hdg : decode M.2.1 pc = .ok (.ineg, 1)) (k : xx_X G l M d c1 s1 (pc + 1) lv (.int (-x) :: rest) A Q) : xx_X G l M d c1 s1 pc lv (.int x :: rest) A Q := by
  intro p e R s m args below meth c H locs cells slots ls ho
  exact lv_ineg ho.1.1 ho.1.2.1 hdg (k p e R s m args below meth c H locs cells slots ls ho)
theorem xx_ladd {x y : Int64} (hdg : decode M.2.1 pc = .ok (.ladd, 1)) (k : xx_X G l M d c1 s1 (pc + 1) lv (.long (x + y) :: rest) A Q) : xx_X G l M d c1 s1 pc lv (.long y :: .long x :: rest) A Q := by
  intro p e R s m args below meth c H locs cells slots ls ho
  exact lv_ladd ho.1.1 ho.1.2.1 hdg (k p e R s m args below meth c H locs cells slots ls ho)
theorem xx_lsub {x y : Int64} (hdg : decode M.2.1 pc = .ok (.lsub, 1)) (k : xx_X G l M d c1 s1 (pc + 1) lv (.long (x - y) :: rest) A Q) : xx_X G l M d c1 s1 pc lv (.long y :: .long x :: rest) A Q := by
  intro p e R s m args below meth c H locs cells slots ls ho
  exact lv_lsub ho.1.1 ho.1.2.1 hdg (k p e R s m args below meth c H locs cells slots ls ho)
theorem xx_lmul {x y : Int64} (hdg : decode M.2.1 pc = .ok (.lmul, 1)) (k : xx_X G l M d c1 s1 (pc + 1) lv (.long (x * y) :: rest) A Q) : xx_X G l M d c1 s1 pc lv (.long y :: .long x :: rest) A Q := by
  intro p e R s m args below meth c H locs cells slots ls ho
  exact lv_lmul ho.1.1 ho.1.2.1 hdg (k p e R s m args below meth c H locs cells slots ls ho)
theorem xx_land {x y : Int64} (hdg : decode M.2.1 pc = .ok (.land, 1)) (k : xx_X G l M d c1 s1 (pc + 1) lv (.long (x &&& y) :: rest) A Q) : xx_X G l M d c1 s1 pc lv (.long y :: .long x :: rest) A Q := by
  intro p e R s m args below meth c H locs cells slots ls ho
  exact lv_land ho.1.1 ho.1.2.1 hdg (k p e R s m args below meth c H locs cells slots ls ho)
theorem xx_lor {x y : Int64} (hdg : decode M.2.1 pc = .ok (.lor, 1)) (k : xx_X G l M d c1 s1 (pc + 1) lv (.long (x ||| y) :: rest) A Q) : xx_X G l M d c1 s1 pc lv (.long y :: .long x :: rest) A Q := by
  intro p e R s m args below meth c H locs cells slots ls ho
  exact lv_lor ho.1.1 ho.1.2.1 hdg (k p e R s m args below meth c H locs cells slots ls ho)
theorem xx_lxor {x y : Int64} (hdg : decode M.2.1 pc = .ok (.lxor, 1)) (k : xx_X G l M d c1 s1 (pc + 1) lv (.long (x ^^^ y) :: rest) A Q) : xx_X G l M d c1 s1 pc lv (.long y :: .long x :: rest) A Q := by
  intro p e R s m args below meth c H locs cells slots ls ho
  exact lv_lxor ho.1.1 ho.1.2.1 hdg (k p e R s m args below meth c H locs cells slots ls ho)
theorem xx_lneg {x : Int64} (hdg : decode M.2.1 pc = .ok (.lneg, 1)) (k : xx_X G l M d c1 s1 (pc + 1) lv (.long (-x) :: rest) A Q) : xx_X G l M d c1 s1 pc lv (.long x :: rest) A Q := by
  intro p e R s m args below meth c H locs cells slots ls ho
  exact lv_lneg ho.1.1 ho.1.2.1 hdg (k p e R s m args below meth c H locs cells slots ls ho)
theorem xx_i2l {x : Int32} (hdg : decode M.2.1 pc = .ok (.i2l, 1)) (k : xx_X G l M d c1 s1 (pc + 1) lv (.long x.toInt64 :: rest) A Q) : xx_X G l M d c1 s1 pc lv (.int x :: rest) A Q := by
  intro p e R s m args below meth c H locs cells slots ls ho
  exact lv_i2l ho.1.1 ho.1.2.1 hdg rfl (k p e R s m args below meth c H locs cells slots ls ho)
theorem xx_l2i {x : Int64} (hdg : decode M.2.1 pc = .ok (.l2i, 1)) (k : xx_X G l M d c1 s1 (pc + 1) lv (.int x.toInt32 :: rest) A Q) : xx_X G l M d c1 s1 pc lv (.long x :: rest) A Q := by
  intro p e R s m args below meth c H locs cells slots ls ho
  exact lv_l2i ho.1.1 ho.1.2.1 hdg rfl (k p e R s m args below meth c H locs cells slots ls ho)
theorem xx_lcmp {x y : Int64} (hdg : decode M.2.1 pc = .ok (.lcmp, 1)) (k : xx_X G l M d c1 s1 (pc + 1) lv (.int (lg_cmp x y) :: rest) A Q) : xx_X G l M d c1 s1 pc lv (.long y :: .long x :: rest) A Q := by
  intro p e R s m args below meth c H locs cells slots ls ho
  exact W.lcmp ho.1.1 ho.1.2.1 hdg (k p e R s m args below meth c H locs cells slots ls ho)
theorem xx_dup {va : Value} (hdg : decode M.2.1 pc = .ok (.dup, 1)) (hva : va.category = 1) (k : xx_X G l M d c1 s1 (pc + 1) lv (va :: va :: rest) A Q) : xx_X G l M d c1 s1 pc lv (va :: rest) A Q := by
  intro p e R s m args below meth c H locs cells slots ls ho
  exact lv_dup ho.1.1 ho.1.2.1 hdg hva (k p e R s m args below meth c H locs cells slots ls ho)
theorem xx_pop {va : Value} (hdg : decode M.2.1 pc = .ok (.pop, 1)) (hva : va.category = 1) (k : xx_X G l M d c1 s1 (pc + 1) lv rest A Q) : xx_X G l M d c1 s1 pc lv (va :: rest) A Q := by
  intro p e R s m args below meth c H locs cells slots ls ho
  exact lv_pop ho.1.1 ho.1.2.1 hdg hva (k p e R s m args below meth c H locs cells slots ls ho)
theorem xx_dup2_11 {va vb : Value} (hdg : decode M.2.1 pc = .ok (.dup2, 1)) (hva : va.category = 1) (hvb : vb.category = 1) (k : xx_X G l M d c1 s1 (pc + 1) lv (va :: vb :: va :: vb :: rest) A Q) : xx_X G l M d c1 s1 pc lv (va :: vb :: rest) A Q := by
  intro p e R s m args below meth c H locs cells slots ls ho
  exact lv_dup2_11 ho.1.1 ho.1.2.1 hdg hva hvb (k p e R s m args below meth c H locs cells slots ls ho)
theorem xx_dup_x2 {va vb vd : Value} (hdg : decode M.2.1 pc = .ok (.dup_x2, 1)) (hva : va.category = 1) (hvb : vb.category = 1) (hvd : vd.category = 1) (k : xx_X G l M d c1 s1 (pc + 1) lv (va :: vb :: vd :: va :: rest) A Q) : xx_X G l M d c1 s1 pc lv (va :: vb :: vd :: rest) A Q := by
  intro p e R s m args below meth c H locs cells slots ls ho
  exact lv_dup_x2 ho.1.1 ho.1.2.1 hdg hva hvb hvd (k p e R s m args below meth c H locs cells slots ls ho)
theorem xx_if_eq {x : Int32} {off : Int} {tgt : Nat} (hdg : decode M.2.1 pc = .ok (.ifCond .eq off, 3)) (ht : (pc : Int) + off = (tgt : Int)) (kt : x = 0 → xx_X G l M d c1 s1 tgt lv rest A Q) (kf : ¬ x = 0 → xx_X G l M d c1 s1 (pc + 3) lv rest A Q) : xx_X G l M d c1 s1 pc lv (.int x :: rest) A Q := by
  intro p e R s m args below meth c H locs cells slots ls ho
  exact lv_if_eq ho.1.1 ho.1.2.1 hdg ht (fun h => kt h p e R s m args below meth c H locs cells slots ls ho) (fun h => kf h p e R s m args below meth c H locs cells slots ls ho)
theorem xx_icmp_eq {x y : Int32} {off : Int} {tgt : Nat} (hdg : decode M.2.1 pc = .ok (.if_icmp .eq off, 3)) (ht : (pc : Int) + off = (tgt : Int)) (kt : x = y → xx_X G l M d c1 s1 tgt lv rest A Q) (kf : ¬ x = y → xx_X G l M d c1 s1 (pc + 3) lv rest A Q) : xx_X G l M d c1 s1 pc lv (.int y :: .int x :: rest) A Q := by
  intro p e R s m args below meth c H locs cells slots ls ho
  exact lv_icmp_eq ho.1.1 ho.1.2.1 hdg ht (fun h => kt h p e R s m args below meth c H locs cells slots ls ho) (fun h => kf h p e R s m args below meth c H locs cells slots ls ho)
theorem xx_if_ne {x : Int32} {off : Int} {tgt : Nat} (hdg : decode M.2.1 pc = .ok (.ifCond .ne off, 3)) (ht : (pc : Int) + off = (tgt : Int)) (kt : ¬ x = 0 → xx_X G l M d c1 s1 tgt lv rest A Q) (kf : x = 0 → xx_X G l M d c1 s1 (pc + 3) lv rest A Q) : xx_X G l M d c1 s1 pc lv (.int x :: rest) A Q := by
  intro p e R s m args below meth c H locs cells slots ls ho
  exact lv_if_ne ho.1.1 ho.1.2.1 hdg ht (fun h => kt h p e R s m args below meth c H locs cells slots ls ho) (fun h => kf h p e R s m args below meth c H locs cells slots ls ho)
theorem xx_icmp_ne {x y : Int32} {off : Int} {tgt : Nat} (hdg : decode M.2.1 pc = .ok (.if_icmp .ne off, 3)) (ht : (pc : Int) + off = (tgt : Int)) (kt : ¬ x = y → xx_X G l M d c1 s1 tgt lv rest A Q) (kf : x = y → xx_X G l M d c1 s1 (pc + 3) lv rest A Q) : xx_X G l M d c1 s1 pc lv (.int y :: .int x :: rest) A Q := by
  intro p e R s m args below meth c H locs cells slots ls ho
  exact lv_icmp_ne ho.1.1 ho.1.2.1 hdg ht (fun h => kt h p e R s m args below meth c H locs cells slots ls ho) (fun h => kf h p e R s m args below meth c H locs cells slots ls ho)
theorem xx_if_lt {x : Int32} {off : Int} {tgt : Nat} (hdg : decode M.2.1 pc = .ok (.ifCond .lt off, 3)) (ht : (pc : Int) + off = (tgt : Int)) (kt : x < 0 → xx_X G l M d c1 s1 tgt lv rest A Q) (kf : ¬ x < 0 → xx_X G l M d c1 s1 (pc + 3) lv rest A Q) : xx_X G l M d c1 s1 pc lv (.int x :: rest) A Q := by
  intro p e R s m args below meth c H locs cells slots ls ho
  exact lv_if_lt ho.1.1 ho.1.2.1 hdg ht (fun h => kt h p e R s m args below meth c H locs cells slots ls ho) (fun h => kf h p e R s m args below meth c H locs cells slots ls ho)
theorem xx_icmp_lt {x y : Int32} {off : Int} {tgt : Nat} (hdg : decode M.2.1 pc = .ok (.if_icmp .lt off, 3)) (ht : (pc : Int) + off = (tgt : Int)) (kt : x < y → xx_X G l M d c1 s1 tgt lv rest A Q) (kf : ¬ x < y → xx_X G l M d c1 s1 (pc + 3) lv rest A Q) : xx_X G l M d c1 s1 pc lv (.int y :: .int x :: rest) A Q := by
  intro p e R s m args below meth c H locs cells slots ls ho
  exact lv_icmp_lt ho.1.1 ho.1.2.1 hdg ht (fun h => kt h p e R s m args below meth c H locs cells slots ls ho) (fun h => kf h p e R s m args below meth c H locs cells slots ls ho)
theorem xx_if_ge {x : Int32} {off : Int} {tgt : Nat} (hdg : decode M.2.1 pc = .ok (.ifCond .ge off, 3)) (ht : (pc : Int) + off = (tgt : Int)) (kt : 0 ≤ x → xx_X G l M d c1 s1 tgt lv rest A Q) (kf : ¬ 0 ≤ x → xx_X G l M d c1 s1 (pc + 3) lv rest A Q) : xx_X G l M d c1 s1 pc lv (.int x :: rest) A Q := by
  intro p e R s m args below meth c H locs cells slots ls ho
  exact lv_if_ge ho.1.1 ho.1.2.1 hdg ht (fun h => kt h p e R s m args below meth c H locs cells slots ls ho) (fun h => kf h p e R s m args below meth c H locs cells slots ls ho)
theorem xx_icmp_ge {x y : Int32} {off : Int} {tgt : Nat} (hdg : decode M.2.1 pc = .ok (.if_icmp .ge off, 3)) (ht : (pc : Int) + off = (tgt : Int)) (kt : y ≤ x → xx_X G l M d c1 s1 tgt lv rest A Q) (kf : ¬ y ≤ x → xx_X G l M d c1 s1 (pc + 3) lv rest A Q) : xx_X G l M d c1 s1 pc lv (.int y :: .int x :: rest) A Q := by
  intro p e R s m args below meth c H locs cells slots ls ho
  exact lv_icmp_ge ho.1.1 ho.1.2.1 hdg ht (fun h => kt h p e R s m args below meth c H locs cells slots ls ho) (fun h => kf h p e R s m args below meth c H locs cells slots ls ho)
theorem xx_if_gt {x : Int32} {off : Int} {tgt : Nat} (hdg : decode M.2.1 pc = .ok (.ifCond .gt off, 3)) (ht : (pc : Int) + off = (tgt : Int)) (kt : 0 < x → xx_X G l M d c1 s1 tgt lv rest A Q) (kf : ¬ 0 < x → xx_X G l M d c1 s1 (pc + 3) lv rest A Q) : xx_X G l M d c1 s1 pc lv (.int x :: rest) A Q := by
  intro p e R s m args below meth c H locs cells slots ls ho
  exact lv_if_gt ho.1.1 ho.1.2.1 hdg ht (fun h => kt h p e R s m args below meth c H locs cells slots ls ho) (fun h => kf h p e R s m args below meth c H locs cells slots ls ho)
theorem xx_icmp_gt {x y : Int32} {off : Int} {tgt : Nat} (hdg : decode M.2.1 pc = .ok (.if_icmp .gt off, 3)) (ht : (pc : Int) + off = (tgt : Int)) (kt : y < x → xx_X G l M d c1 s1 tgt lv rest A Q) (kf : ¬ y < x → xx_X G l M d c1 s1 (pc + 3) lv rest A Q) : xx_X G l M d c1 s1 pc lv (.int y :: .int x :: rest) A Q := by
  intro p e R s m args below meth c H locs cells slots ls ho
  exact lv_icmp_gt ho.1.1 ho.1.2.1 hdg ht (fun h => kt h p e R s m args below meth c H locs cells slots ls ho) (fun h => kf h p e R s m args below meth c H locs cells slots ls ho)
theorem xx_if_le {x : Int32} {off : Int} {tgt : Nat} (hdg : decode M.2.1 pc = .ok (.ifCond .le off, 3)) (ht : (pc : Int) + off = (tgt : Int)) (kt : x ≤ 0 → xx_X G l M d c1 s1 tgt lv rest A Q) (kf : ¬ x ≤ 0 → xx_X G l M d c1 s1 (pc + 3) lv rest A Q) : xx_X G l M d c1 s1 pc lv (.int x :: rest) A Q := by
  intro p e R s m args below meth c H locs cells slots ls ho
  exact lv_if_le ho.1.1 ho.1.2.1 hdg ht (fun h => kt h p e R s m args below meth c H locs cells slots ls ho) (fun h => kf h p e R s m args below meth c H locs cells slots ls ho)
theorem xx_icmp_le {x y : Int32} {off : Int} {tgt : Nat} (hdg : decode M.2.1 pc = .ok (.if_icmp .le off, 3)) (ht : (pc : Int) + off = (tgt : Int)) (kt : x ≤ y → xx_X G l M d c1 s1 tgt lv rest A Q) (kf : ¬ x ≤ y → xx_X G l M d c1 s1 (pc + 3) lv rest A Q) : xx_X G l M d c1 s1 pc lv (.int y :: .int x :: rest) A Q := by
  intro p e R s m args below meth c H locs cells slots ls ho
  exact lv_icmp_le ho.1.1 ho.1.2.1 hdg ht (fun h => kt h p e R s m args below meth c H locs cells slots ls ho) (fun h => kf h p e R s m args below meth c H locs cells slots ls ho)
theorem xx_goto {off : Int} {tgt : Nat} (hdg : decode M.2.1 pc = .ok (.goto off, 3)) (ht : (pc : Int) + off = (tgt : Int)) (k : xx_X G l M d c1 s1 tgt lv rest A Q) : xx_X G l M d c1 s1 pc lv rest A Q := by
  intro p e R s m args below meth c H locs cells slots ls ho
  exact lv_goto ho.1.1 ho.1.2.1 hdg ht (k p e R s m args below meth c H locs cells slots ls ho)
theorem xx_ifnonnull {x : Nat} {off : Int} {tgt : Nat} (hdg : decode M.2.1 pc = .ok (.ifnonnull off, 3)) (ht : (pc : Int) + off = (tgt : Int)) (k : xx_X G l M d c1 s1 tgt lv rest A Q) : xx_X G l M d c1 s1 pc lv (.ref x :: rest) A Q := by
  intro p e R s m args below meth c H locs cells slots ls ho
  exact lv_ifnonnull ho.1.1 ho.1.2.1 hdg ht (k p e R s m args below meth c H locs cells slots ls ho)
theorem xx_ifnonnullN {off : Int} (hdg : decode M.2.1 pc = .ok (.ifnonnull off, 3)) (k : xx_X G l M d c1 s1 (pc + 3) lv rest A Q) : xx_X G l M d c1 s1 pc lv (.null :: rest) A Q := by
  intro p e R s m args below meth c H locs cells slots ls ho
  exact lv_ifnonnullN ho.1.1 ho.1.2.1 hdg (k p e R s m args below meth c H locs cells slots ls ho)
theorem xx_ifnull {x : Nat} {off : Int} (hdg : decode M.2.1 pc = .ok (.ifnull off, 3)) (k : xx_X G l M d c1 s1 (pc + 3) lv rest A Q) : xx_X G l M d c1 s1 pc lv (.ref x :: rest) A Q := by
  intro p e R s m args below meth c H locs cells slots ls ho
  exact lv_ifnull ho.1.1 ho.1.2.1 hdg (k p e R s m args below meth c H locs cells slots ls ho)
theorem xx_ifnullN {off : Int} {tgt : Nat} (hdg : decode M.2.1 pc = .ok (.ifnull off, 3)) (ht : (pc : Int) + off = (tgt : Int)) (k : xx_X G l M d c1 s1 tgt lv rest A Q) : xx_X G l M d c1 s1 pc lv (.null :: rest) A Q := by
  intro p e R s m args below meth c H locs cells slots ls ho
  exact lv_ifnullN ho.1.1 ho.1.2.1 hdg ht (k p e R s m args below meth c H locs cells slots ls ho)
theorem xx_tableOut {dflt lo hi : Int} {offs : Array Int} {len : Nat} {x : Int32} {tgt : Nat} (hdg : decode M.2.1 pc = .ok (.tableswitch dflt lo hi offs, len)) (h : x.toInt < lo ∨ hi < x.toInt) (ht : (pc : Int) + dflt = (tgt : Int)) (k : xx_X G l M d c1 s1 tgt lv rest A Q) : xx_X G l M d c1 s1 pc lv (.int x :: rest) A Q := by
  intro p e R s m args below meth c H locs cells slots ls ho
  exact lv_tableOut ho.1.1 ho.1.2.1 hdg h ht (k p e R s m args below meth c H locs cells slots ls ho)
theorem xx_tableIn {dflt lo hi : Int} {offs : Array Int} {len : Nat} {x : Int32} {off : Int} {tgt : Nat} (hdg : decode M.2.1 pc = .ok (.tableswitch dflt lo hi offs, len)) (h1 : ¬ x.toInt < lo) (h2 : ¬ hi < x.toInt) (hq : offs[(x.toInt - lo).toNat]? = some off) (ht : (pc : Int) + off = (tgt : Int)) (k : xx_X G l M d c1 s1 tgt lv rest A Q) : xx_X G l M d c1 s1 pc lv (.int x :: rest) A Q := by
  intro p e R s m args below meth c H locs cells slots ls ho
  exact lv_tableIn ho.1.1 ho.1.2.1 hdg h1 h2 hq ht (k p e R s m args below meth c H locs cells slots ls ho)
theorem xx_ldc {index : Nat} {v : Int32} (hdg : decode M.2.1 pc = .ok (.ldc index, 2)) (hw : Cond.constant M.1.cls index v ∈ lw_tbl) (k : xx_X G l M d c1 s1 (pc + 2) lv (.int v :: rest) A Q) : xx_X G l M d c1 s1 pc lv rest A Q := by
  intro p e R s m args below meth c H locs cells slots ls ho
  exact lv_ldc ho.1.1 ho.1.2.1 ho.1.2.2.2.2.2.2.1 (ho.2.1.1 _ hw rfl) hdg (k p e R s m args below meth c H locs cells slots ls ho)
theorem xx_ldcw {index : Nat} {v : Int32} (hdg : decode M.2.1 pc = .ok (.ldc_w index, 3)) (hw : Cond.constant M.1.cls index v ∈ lw_tbl) (k : xx_X G l M d c1 s1 (pc + 3) lv (.int v :: rest) A Q) : xx_X G l M d c1 s1 pc lv rest A Q := by
  intro p e R s m args below meth c H locs cells slots ls ho
  exact lv_ldcw ho.1.1 ho.1.2.1 ho.1.2.2.2.2.2.2.1 (ho.2.1.1 _ hw rfl) hdg (k p e R s m args below meth c H locs cells slots ls ho)
theorem xx_ldc2 {index : Nat} {v : Int64} (hdg : decode M.2.1 pc = .ok (.ldc2_w index, 3)) (hw : Cond.constantLong M.1.cls index v ∈ lw_tbl) (k : xx_X G l M d c1 s1 (pc + 3) lv (.long v :: rest) A Q) : xx_X G l M d c1 s1 pc lv rest A Q := by
  intro p e R s m args below meth c H locs cells slots ls ho
  exact lv_ldc2 ho.1.1 ho.1.2.1 ho.1.2.2.2.2.2.2.1 (ho.2.1.1 _ hw rfl) hdg (k p e R s m args below meth c H locs cells slots ls ho)
/-! returns -/
theorem xx_end {R : Room} {s : State} {below : List Frame} {t : State} {args : Array Value} {mc ms : Nat} (hc : mc ≤ R.cells) (hs : ms ≤ R.slots) (h : MQ below (fun _ _ o t => ∃ v B, o = .returned v ∧ Q (.inl v) B ∧ xx_R G B t.heap) args s mc ms (fun q => G.1.size ≤ q) t) : xx_Z G R s below Q t := by
  obtain ⟨o, h1, h2, ⟨v, B, h0, h3, h4⟩, L, ⟨-, h5, h6⟩, h7⟩ := h
  exact ⟨o, .inl v, B, L, h1, h2, h0, h3, h4, h5, h7, h6.mono hc hs⟩
theorem xx_Wmono {p : Program} {e : Env} {R : Room} {s : State} {m : MethodId} {args : Array Value} {below : List Frame} {meth : Method} {c : Code} {H : Heap} {locs : List Loc} {cells slots : Nat} {Q1 Q2 : State → Prop} {g : JFrame} (h : ∀ t, Q1 t → Q2 t) (k : W p l e R s m args below meth c H locs cells slots Q1 g) : W p l e R s m args below meth c H locs cells slots Q2 g := by
  intro T hT X
  obtain ⟨t, a, b⟩ := k T hT X
  exact ⟨t, a, h t b⟩
theorem xx_iret {x : Int32} (hdg : decode M.2.1 pc = .ok (.ireturn, 1)) (hr : M.2.2.2.1 = some .int) (hq : Q (.inl (some (.int x))) A) : xx_X G l M d c1 s1 pc lv [.int x] A Q := by
  intro p e R s m args below meth c H locs cells slots ls ho
  obtain ⟨h1, h2, h3, h4, h5, h6⟩ := ho
  have hlocks : meth.locks = false := h1.2.2.2.2.1
  exact xx_Wmono (fun t ht => xx_end (mc := cells) (ms := slots) (by omega) (by omega) ht) (W.iret (Qc := fun _ _ o t => ∃ v B, o = .returned v ∧ Q (.inl v) B ∧ xx_R G B t.heap) (free := fun q => G.1.size ≤ q) h1.1 h1.2.1 (h1.2.2.2.1.trans hr) (fun t ht _ => ⟨_, A, rfl, hq, by rw [ht]; exact h4⟩) h5 hdg)
theorem xx_lret {x : Int64} (hdg : decode M.2.1 pc = .ok (.lreturn, 1)) (hr : M.2.2.2.1 = some .long) (hq : Q (.inl (some (.long x))) A) : xx_X G l M d c1 s1 pc lv [.long x] A Q := by
  intro p e R s m args below meth c H locs cells slots ls ho
  obtain ⟨h1, h2, h3, h4, h5, h6⟩ := ho
  have hlocks : meth.locks = false := h1.2.2.2.2.1
  exact xx_Wmono (fun t ht => xx_end (mc := cells) (ms := slots) (by omega) (by omega) ht) (W.lret (Qc := fun _ _ o t => ∃ v B, o = .returned v ∧ Q (.inl v) B ∧ xx_R G B t.heap) (free := fun q => G.1.size ≤ q) h1.1 h1.2.1 (h1.2.2.2.1.trans hr) (fun t ht _ => ⟨_, A, rfl, hq, by rw [ht]; exact h4⟩) h5 hdg)
theorem xx_zret {x : Int32} (hdg : decode M.2.1 pc = .ok (.ireturn, 1)) (hr : M.2.2.2.1 = some .boolean) (hn : narrow .boolean (.int x) = .int x) (hq : Q (.inl (some (.int x))) A) : xx_X G l M d c1 s1 pc lv [.int x] A Q := by
  intro p e R s m args below meth c H locs cells slots ls ho
  obtain ⟨h1, h2, h3, h4, h5, h6⟩ := ho
  have hlocks : meth.locks = false := h1.2.2.2.2.1
  exact xx_Wmono (fun t ht => xx_end (mc := cells) (ms := slots) (by omega) (by omega) ht) (W.zret (Qc := fun _ _ o t => ∃ v B, o = .returned v ∧ Q (.inl v) B ∧ xx_R G B t.heap) (free := fun q => G.1.size ≤ q) h1.1 h1.2.1 (h1.2.2.2.1.trans hr) hn (fun t ht _ => ⟨_, A, rfl, hq, by rw [ht]; exact h4⟩) h5 hdg)
theorem xx_vret (hdg : decode M.2.1 pc = .ok (.return_, 1)) (hr : M.2.2.2.1 = none) (hq : Q (.inl none) A) : xx_X G l M d c1 s1 pc lv [] A Q := by
  intro p e R s m args below meth c H locs cells slots ls ho
  obtain ⟨h1, h2, h3, h4, h5, h6⟩ := ho
  have hlocks : meth.locks = false := h1.2.2.2.2.1
  exact xx_Wmono (fun t ht => xx_end (mc := cells) (ms := slots) (by omega) (by omega) ht) (W.vret (Qc := fun _ _ o t => ∃ v B, o = .returned v ∧ Q (.inl v) B ∧ xx_R G B t.heap) (free := fun q => G.1.size ≤ q) h1.1 h1.2.1 (h1.2.2.2.1.trans hr) (fun t ht _ => ⟨_, A, rfl, hq, by rw [ht]; exact h4⟩) h5 hdg)
theorem xx_aret {x : Nat} {rt : FieldType} (hdg : decode M.2.1 pc = .ok (.areturn, 1)) (hr : M.2.2.2.1 = some rt) (hrt : (∃ n, rt = .object n) ∨ ∃ t, rt = .array t) (hq : Q (.inl (some (.ref x))) A) : xx_X G l M d c1 s1 pc lv [.ref x] A Q := by
  intro p e R s m args below meth c H locs cells slots ls ho
  obtain ⟨h1, h2, h3, h4, h5, h6⟩ := ho
  have hlocks : meth.locks = false := h1.2.2.2.2.1
  exact xx_Wmono (fun t ht => xx_end (mc := cells) (ms := slots) (by omega) (by omega) ht) (W.aret (Qc := fun _ _ o t => ∃ v B, o = .returned v ∧ Q (.inl v) B ∧ xx_R G B t.heap) (free := fun q => G.1.size ≤ q) h1.1 h1.2.1 (h1.2.2.2.1.trans hr) hrt (Or.inr ⟨x, rfl⟩) (fun t ht _ => ⟨_, A, rfl, hq, by rw [ht]; exact h4⟩) h5 hdg)
end XS
