/-! ===== X: calls, by the callee's own walk; a callee returns or throws ===== -/
section XC
variable {G : xx_G} {l : Launch} {M N : xx_M} {d c1 s1 pc : Nat} {lv : List (Nat × Value)} {rest : List Value} {A : xx_H} {Q : Option Value ⊕ String → xx_H → Prop}
/-- the method's frame at pc, with something of the class E thrown over it -/
def xx_T (G : xx_G) (l : Launch) (M : xx_M) (d c1 s1 : Nat) (pc : Nat) (lv : List (Nat × Value)) (st : List Value) (E : String) (A : xx_H) (Q : Option Value ⊕ String → xx_H → Prop) : Prop :=
  ∀ (p : Program) (e : Env) (R : Room) (s : State) (m : MethodId) (args : Array Value) (below : List Frame) (meth : Method) (c : Code) (H : Heap) (locs : List Loc) (cells slots : Nat) (ls : Array Slot) (q : Addr) (ce : Cell),
    xx_O G l M d c1 s1 lv A p R s m args meth c H locs cells slots ls → H[q]? = some ce → ce.vm = .none → s.vm.findClass E = some ce.cls → vx_W p l e R s m args below meth c H locs cells slots (xx_Z G R s below Q) (F0 m pc ls st) q
/-- a method stands in the tables with the code that M tells -/
def xx_code (M : xx_M) (U : State) (mk : MethodId) : Prop := ∃ (meth : Method) (c : Code), U.methodNamed? M.1 = some mk ∧ U.vm.method? mk = some meth ∧ meth.code = some c ∧ c.code = M.2.1 ∧ c.maxLocals = M.2.2.1 ∧ meth.sig.returnType = M.2.2.2.1 ∧ meth.locks = false ∧ c.exceptionTable.toList.map (fun h => (h.startPc, h.endPc, h.handlerPc, h.catchType)) = M.2.2.2.2 ∧ parseMethodDescriptor M.1.desc = some meth.sig
/-- the word of the tables that tells a method's code -/
def xx_cw (M : xx_M) : Cond := match M.2.2.2.2 with
  | [] => .code M.1 M.2.1 M.2.2.1 M.2.2.2.1
  | q :: r => .codeWith M.1 M.2.1 M.2.2.1 M.2.2.2.1 (q :: r)
theorem xx_code_of {M : xx_M} {U : State} {args : Array Value} (h : (xx_cw M).before args U = true) : ∃ mk, xx_code M U mk := by
  obtain ⟨y, b, n, r, hh⟩ := M
  cases hh with
  | nil =>
    have h : (Cond.code y b n r).before args U = true := h
    obtain ⟨mk, hn⟩ := Cond.code_named h
    obtain ⟨meth, c, h1, h2, h3, h4, h5, h6, h7, h8⟩ := Cond.code_spec hn h
    exact ⟨mk, meth, c, hn, h1, h2, h3, h4, h5, h6, by rw [Array.isEmpty_iff.mp h7]; rfl, h8⟩
  | cons q r2 =>
    have h : (Cond.codeWith y b n r (q :: r2)).before args U = true := h
    obtain ⟨mk, meth, c, h0, h1, h2, h3, h4, h5, h6, h7, h8⟩ := Cond.codeWith_spec h
    exact ⟨mk, meth, c, h0, h1, h2, h3, h4, h6, h7, h5, h8⟩
theorem xx_weaken {tb : Tables} {e : Env} {f : Frame} {below : List Frame} {a b : State} (h : Steps tb e (f :: below) a b) : Steps tb e below a b := Steps.weaken (mid := [f]) h
/-- THE CALL, behind its linking: the callee's walk, then the caller's -/
theorem xx_into {d2 c2 s2 c3 s3 : Nat} {vs : List Value} {Q2 : Option Value ⊕ String → xx_H → Prop} (hpl : plainFor N.1 = true) (hcw : xx_cw N ∈ lw_tbl) (hgw : goodWord (xx_cw N) = true) (hlen : (lg_sl vs).length ≤ N.2.2.1)
    (hd : d2 + 1 ≤ d) (hw : (rest.map fun v => v.category).sum + N.2.2.1 ≤ 37) (hc : c2 + c3 ≤ c1) (hs : s2 + s3 ≤ s1)
    (hX : xx_X G l N d2 c2 s2 0 (lv_args 0 vs) [] A Q2)
    (kr : ∀ v B, Q2 (.inl v) B → xx_X G l M d c3 s3 (pc + 3) lv (v.toList ++ rest) B Q)
    (kt : ∀ E B, Q2 (.inr E) B → xx_T G l M d c3 s3 pc lv rest E B Q)
    {p : Program} {e : Env} {R : Room} {s : State} {m : MethodId} {args : Array Value} {below : List Frame} {meth : Method} {c : Code} {T : State} {locs : List Loc} {cells slots : Nat} {ls : Array Slot} {vm1 : Vm} {mk : MethodId} {ig : Instr} {st : List Value}
    (ho : xx_O G l M d c1 s1 lv A p R s m args meth c T.heap locs cells slots ls) (X1 : Stand p l e R s m args below meth c (T.setVm vm1) locs cells slots) (hnm : s.methodNamed? N.1 = some mk) (hdg : decode M.2.1 pc = .ok (ig, 3))
    (hst : ∀ target, (∀ acts, Steps p.tables e below (doInvoke e ((T.setVm vm1).setTop (F0 m pc ls rest)) acts mk vs.toArray).1 target) → Steps p.tables e below (T.setTop (F0 m pc ls st)) target) :
    ∃ t, Steps p.tables e below (T.setTop (F0 m pc ls st)) t ∧ xx_Z G R s below Q t := by
  obtain ⟨h1, h2, h3, h4, h5, h6⟩ := ho
  have hW1 : s.WarmedH (T.setVm vm1).vm := X1.warmed
  obtain ⟨s2', hs2⟩ : ∃ z, z = (T.setVm vm1).calling (F0 m pc ls rest) mk vs.toArray := ⟨_, rfl⟩
  have hvm : s2'.vm = (T.setVm vm1).vm := by rw [hs2]; rfl
  have hhp : s2'.heap = T.heap := by rw [hs2]; rfl
  have hW2 : s.WarmedH s2'.vm := by rw [hvm]; exact hW1
  have hword : ∀ w ∈ lw_tbl, goodWord w = true → w.before vs.toArray s2' = true := fun w hw hg => word_at hW2 (good_of_word hg) (h2.1 w hw hg)
  obtain ⟨mk2, methk, ck, n1, n2, n3, n4, n5, n6, n7, n8, n9⟩ := xx_code_of (hword _ hcw hgw)
  have hnm1 : (T.setVm vm1).methodNamed? N.1 = some mk := X1.named hnm
  have hnm2 : s2'.methodNamed? N.1 = some mk := by rw [hs2]; exact hnm1
  have hmk : mk2 = mk := Option.some.inj (n1.symm.trans hnm2)
  subst hmk
  have hm1 : (T.setVm vm1).vm.method? mk2 = some methk := by rw [← hvm]; exact n2
  have hpl1 : (T.setVm vm1).plainMethod mk2 := State.plainMethod.of_named hpl hnm1 hm1
  have hsz : ls.size = c.maxLocals := h6.1.trans h1.2.2.1.symm
  obtain ⟨Y, hinv⟩ := X1.into (g := F0 m pc ls rest) rfl hsz (by rw [h1.2.1]; exact hdg) (mk := mk2) (methk := methk) (ck := ck) vs.toArray (R' := { frames := d2, cells := c2, slots := s2, locals := 48 * d2 + 400 }) hm1 n3 n7 hpl1 (by show d2 + 1 ≤ R.frames; omega)
    (by show 2 * 0 + (rest.map fun v => v.category).sum + (ck.maxLocals + 11) + (48 * d2 + 400) ≤ R.locals; rw [n5]; omega) (by show cells + c2 ≤ R.cells; omega) (by show slots + s2 ≤ R.slots; omega)
  rw [← hs2] at Y
  rw [n5, lg_entry_eq] at Y hinv
  have hle := lv_entry vs hlen
  have hoY : xx_O G l N d2 c2 s2 (lv_args 0 vs) A p { frames := d2, cells := c2, slots := s2, locals := 48 * d2 + 400 } s2' mk2 vs.toArray methk ck T.heap [] 0 0 ((lg_sl vs ++ List.replicate (N.2.2.1 - (lg_sl vs).length) Slot.unset).toArray) := by
    refine ⟨⟨h1.1, n4, n5, n6, n7, n8, findClass_of_methodNamed n1, (name_of_methodNamed n1 n2).1⟩, ⟨hword, h2.2.1.warm hW2, h2.2.2.1, by rw [hhp]; exact h4.2.1⟩, ⟨Nat.le_refl _, Nat.le_refl _, by show 0 + c2 ≤ c2; omega, by show 0 + s2 ≤ s2; omega⟩, h4, fun q hq => (by cases hq), hle⟩
  obtain ⟨t, st1, o, r, B, L, g1, g2, g0, g3, g4, g5, g6, g7⟩ := hX p e { frames := d2, cells := c2, slots := s2, locals := 48 * d2 + 400 } s2' mk2 vs.toArray (.java (F0 m pc ls rest) :: below) methk ck T.heap [] 0 0 _ hoY (((T.setVm vm1).setTop (F0 m pc ls rest)).pushFrame (Frame.java (F0 mk2 0 ((lg_sl vs ++ List.replicate (N.2.2.1 - (lg_sl vs).length) Slot.unset).toArray) []))) rfl Y
  have hbig : ∀ target, Steps p.tables e below t target → Steps p.tables e below (T.setTop (F0 m pc ls st)) target := fun target hh => hst target fun acts => by
    rw [hinv acts]
    exact (xx_weaken st1).trans hh
  rw [hs2] at g5 g7
  cases r with
  | inl v =>
    have g0 : o = .returned v := g0
    subst g0
    obtain ⟨T2, X2, w1, w2, et⟩ := X1.outOf (g := F0 m pc ls rest) rfl (by rw [h1.2.1]; exact hdg) g2 g5 g7
    have eh : T2.heap = t.heap := by rw [et]; rfl
    have k2 := kr v B g3 p e R s m args below meth c t.heap (locs ++ L) (cells + c2) (slots + s2) ls ⟨h1, h2, ⟨h3.1, h3.2.1, by omega, by omega⟩, g4, fun q hq => (List.mem_append.mp hq).elim (h5 q) (g6 q), h6⟩ T2 eh X2
    obtain ⟨t2, a1, b1⟩ := k2
    exact ⟨t2, hbig t2 (by rw [et]; exact a1), b1⟩
  | inr E =>
    obtain ⟨q, ce, e0, e1, e2, e3⟩ := g0
    subst e0
    have e4 : s.vm.findClass E = some ce.cls := by rw [← hW2.alike.findClass]; exact e3
    obtain ⟨T2, X2, w1, w2, et⟩ := X1.outOfThrown (g := F0 m pc ls rest) rfl g2 g5 g7
    have eh : T2.heap = t.heap := by rw [et]; rfl
    have k2 := kt E B g3 p e R s m args below meth c t.heap (locs ++ L) (cells + c2) (slots + s2) ls q ce ⟨h1, h2, ⟨h3.1, h3.2.1, by omega, by omega⟩, g4, fun q hq => (List.mem_append.mp hq).elim (h5 q) (g6 q), h6⟩ e1 e2 e4 T2 eh X2
    obtain ⟨t2, a1, b1⟩ := k2
    exact ⟨t2, hbig t2 (by rw [et]; exact a1), b1⟩
/-- what every call asks: the callee's name is plain, its code stands in the tables, its arguments fit; room -/
def xx_pay (N : xx_M) (vs rest : List Value) (d d2 c1 c2 c3 s1 s2 s3 : Nat) : Prop :=
  (plainFor N.1 = true ∧ xx_cw N ∈ lw_tbl ∧ goodWord (xx_cw N) = true) ∧ (lg_sl vs).length ≤ N.2.2.1 ∧ d2 + 1 ≤ d ∧ (rest.map fun v => v.category).sum + N.2.2.1 ≤ 37 ∧ c2 + c3 ≤ c1 ∧ s2 + s3 ≤ s1
/-- invokestatic, of this method's own class or another one's -/
theorem xx_callS {index d2 c2 s2 c3 s3 : Nat} {vs : List Value} {Q2 : Option Value ⊕ String → xx_H → Prop} (hdg : decode M.2.1 pc = .ok (.invokestatic index, 3)) (hw1 : Cond.methodLink M.1.cls index N.1 ∈ lw_tbl) (hw2 : Cond.static N.1 ∈ lw_tbl) (hw3 : Cond.initialized N.1.cls ∈ lw_tbl) (hy : N.1.cls ≠ "java/lang/invoke/MethodHandle" ∧ N.1.cls ≠ "java/lang/invoke/VarHandle")
    (hn : (parseMethodDescriptor N.1.desc).map (fun d => d.parameters.length) = some vs.length) (hp : xx_pay N vs rest d d2 c1 c2 c3 s1 s2 s3) (hX : xx_X G l N d2 c2 s2 0 (lv_args 0 vs) [] A Q2)
    (kr : ∀ v B, Q2 (.inl v) B → xx_X G l M d c3 s3 (pc + 3) lv (v.toList ++ rest) B Q) (kt : ∀ E B, Q2 (.inr E) B → xx_T G l M d c3 s3 pc lv rest E B Q) : xx_X G l M d c1 s1 pc lv (vs.reverse ++ rest) A Q := by
  intro p e R s m args below meth c H locs cells slots ls ho T hT X
  subst hT
  obtain ⟨⟨p1, p2, p3⟩, p4, p5, p6, p7, p8⟩ := hp
  obtain ⟨mk, methM, cM, n1, n2, n3, n4, n5, n6, n7, n8, n9⟩ := xx_code_of (ho.2.1.1 _ p2 p3)
  have hstatic : methM.isStatic = true := Cond.static_spec n1 n2 (ho.2.1.1 _ hw2 rfl)
  obtain ⟨kP, hkP, -⟩ := className_of_methodNamed n1
  have hinitP : kP.init = .initialized := Cond.initialized_spec (findClass_of_methodNamed n1) hkP (ho.2.1.1 _ hw3 rfl)
  have hln : vs.length = methM.sig.parameters.length := by rw [n9] at hn; exact (Option.some.inj hn).symm
  obtain ⟨vm1, X1, hst⟩ := X.invokestatic ho.1.1 ho.1.2.2.2.2.2.2.1 (ho.2.1.1 _ hw1 rfl) n1 n2 hstatic hkP hinitP hy (g := F0 m pc ls (vs.reverse ++ rest)) rfl (argsL := vs) (rest := rest) hln rfl (by rw [ho.1.2.1]; exact hdg)
  exact xx_into p1 p2 p3 p4 p5 p6 p7 p8 hX kr kt ho X1 n1 hdg hst
theorem xx_callSN {index d2 c2 s2 c3 s3 : Nat} {host : String} {vs : List Value} {Q2 : Option Value ⊕ String → xx_H → Prop} (hdg : decode M.2.1 pc = .ok (.invokestatic index, 3)) (hw1 : Cond.methodLinkNest M.1.cls index N.1 host ∈ xx_nest) (hw2 : Cond.static N.1 ∈ lw_tbl) (hw3 : Cond.initialized N.1.cls ∈ lw_tbl) (hy : N.1.cls ≠ "java/lang/invoke/MethodHandle" ∧ N.1.cls ≠ "java/lang/invoke/VarHandle")
    (hn : (parseMethodDescriptor N.1.desc).map (fun d => d.parameters.length) = some vs.length) (hp : xx_pay N vs rest d d2 c1 c2 c3 s1 s2 s3) (hX : xx_X G l N d2 c2 s2 0 (lv_args 0 vs) [] A Q2)
    (kr : ∀ v B, Q2 (.inl v) B → xx_X G l M d c3 s3 (pc + 3) lv (v.toList ++ rest) B Q) (kt : ∀ E B, Q2 (.inr E) B → xx_T G l M d c3 s3 pc lv rest E B Q) : xx_X G l M d c1 s1 pc lv (vs.reverse ++ rest) A Q := by
  intro p e R s m args below meth c H locs cells slots ls ho T hT X
  subst hT
  obtain ⟨⟨p1, p2, p3⟩, p4, p5, p6, p7, p8⟩ := hp
  obtain ⟨mk, methM, cM, n1, n2, n3, n4, n5, n6, n7, n8, n9⟩ := xx_code_of (ho.2.1.1 _ p2 p3)
  have hstatic : methM.isStatic = true := Cond.static_spec n1 n2 (ho.2.1.1 _ hw2 rfl)
  obtain ⟨kP, hkP, -⟩ := className_of_methodNamed n1
  have hinitP : kP.init = .initialized := Cond.initialized_spec (findClass_of_methodNamed n1) hkP (ho.2.1.1 _ hw3 rfl)
  have hln : vs.length = methM.sig.parameters.length := by rw [n9] at hn; exact (Option.some.inj hn).symm
  obtain ⟨vm1, X1, hst⟩ := X.invokestaticNest ho.1.1 ho.1.2.2.2.2.2.2.1 (va_Nw.use rfl (ho.2.1.2.1.2.2.2.1 _ hw1)) n1 n2 hstatic hkP hinitP hy (g := F0 m pc ls (vs.reverse ++ rest)) rfl (argsL := vs) (rest := rest) hln rfl (by rw [ho.1.2.1]; exact hdg)
  exact xx_into p1 p2 p3 p4 p5 p6 p7 p8 hX kr kt ho X1 n1 hdg hst
/-- invokevirtual of a method of the object's own class -/
theorem xx_callV {index d2 c2 s2 c3 s3 b k : Nat} {fs : List Value} {T0 : u_T} {N0 : Nat} {vs : List Value} {Q2 : Option Value ⊕ String → xx_H → Prop} (hdg : decode M.2.1 pc = .ok (.invokevirtual index, 3)) (hw1 : Cond.methodLink M.1.cls index N.1 ∈ lw_tbl) (hw2 : Cond.instanceMethod N.1 ∈ lw_tbl) (hw3 : Cond.selects N.1.cls N.1 N.1 ∈ lw_tbl) (hk : xx_cl[k]? = some (N.1.cls, T0, N0)) (hy : N.1.cls ≠ "java/lang/invoke/MethodHandle" ∧ N.1.cls ≠ "java/lang/invoke/VarHandle")
    (hA : A.2 b = xx_o k fs) (hn : (parseMethodDescriptor N.1.desc).map (fun d => d.parameters.length) = some vs.length) (hp : xx_pay N (.ref b :: vs) rest d d2 c1 c2 c3 s1 s2 s3) (hX : xx_X G l N d2 c2 s2 0 (lv_args 0 (.ref b :: vs)) [] A Q2)
    (kr : ∀ v B, Q2 (.inl v) B → xx_X G l M d c3 s3 (pc + 3) lv (v.toList ++ rest) B Q) (kt : ∀ E B, Q2 (.inr E) B → xx_T G l M d c3 s3 pc lv rest E B Q) : xx_X G l M d c1 s1 pc lv (vs.reverse ++ .ref b :: rest) A Q := by
  intro p e R s m args below meth c H locs cells slots ls ho T hT X
  subst hT
  obtain ⟨⟨p1, p2, p3⟩, p4, p5, p6, p7, p8⟩ := hp
  obtain ⟨mk, methM, cM, n1, n2, n3, n4, n5, n6, n7, n8, n9⟩ := xx_code_of (ho.2.1.1 _ p2 p3)
  obtain ⟨mk9, meth9, n19, n29, hstM, habM⟩ := Cond.instanceMethod_spec (ho.2.1.1 _ hw2 rfl)
  cases Option.some.inj (n1.symm.trans n19)
  cases Option.some.inj (n2.symm.trans n29)
  obtain ⟨-, r, hr, cell, g1, g2, g3, -⟩ := xx_obj ho.2.2.2.1 hA
  have hcls := (ho.2.1.2.1.1 k _ hk).2.1
  obtain ⟨c9, r9, m9, q1, q2, q3, q4, kP, hkP, hkPi⟩ := Cond.selects_spec (ho.2.1.1 _ hw3 rfl)
  have hcc : c9 = cell.cls := by rw [g2]; exact Option.some.inj (q1.symm.trans hcls)
  subst hcc
  cases Option.some.inj ((State.methodFound?_of_named n1 hy).symm.trans q2)
  cases Option.some.inj (n1.symm.trans q3)
  have hselP : selectMethod e.platform s.vm cell.cls mk = .method mk := by rw [Launch.admits_selectMethod X.admits]; exact q4
  have hln : vs.length = methM.sig.parameters.length := by rw [n9] at hn; exact (Option.some.inj hn).symm
  obtain ⟨vm1, X1, hst⟩ := X.invokevirtual ho.1.1 ho.1.2.2.2.2.2.2.1 (ho.2.1.1 _ hw1 rfl) n1 n2 hstM hkP hkPi hy (a := b) (cell := cell) g1 (fun z h => by rw [g3] at h; cases h) hselP n2 habM hkP hkPi (g := F0 m pc ls (vs.reverse ++ .ref b :: rest)) rfl (argsL := vs) (rest := rest) hln rfl (by rw [ho.1.2.1]; exact hdg)
  exact xx_into p1 p2 p3 p4 p5 p6 p7 p8 hX kr kt ho X1 n1 hdg hst
/-- invokespecial of a constructor -/
theorem xx_callI {index d2 c2 s2 c3 s3 b : Nat} {vs : List Value} {Q2 : Option Value ⊕ String → xx_H → Prop} (hdg : decode M.2.1 pc = .ok (.invokespecial index, 3)) (hi : N.1.name = "<init>") (hr : N.2.2.2.1 = none) (hh : N.2.2.2.2 = []) (hw1 : Cond.methodLink M.1.cls index N.1 ∈ lw_tbl) (hw2 : Cond.instanceMethod N.1 ∈ lw_tbl) (hy : N.1.cls ≠ "java/lang/invoke/MethodHandle" ∧ N.1.cls ≠ "java/lang/invoke/VarHandle")
    (hn : (parseMethodDescriptor N.1.desc).map (fun d => d.parameters.length) = some vs.length) (hp : xx_pay N (.ref b :: vs) rest d d2 c1 c2 c3 s1 s2 s3) (hX : xx_X G l N d2 c2 s2 0 (lv_args 0 (.ref b :: vs)) [] A Q2)
    (kr : ∀ v B, Q2 (.inl v) B → xx_X G l M d c3 s3 (pc + 3) lv (v.toList ++ rest) B Q) (kt : ∀ E B, Q2 (.inr E) B → xx_T G l M d c3 s3 pc lv rest E B Q) : xx_X G l M d c1 s1 pc lv (vs.reverse ++ .ref b :: rest) A Q := by
  intro p e R s m args below meth c H locs cells slots ls ho T hT X
  subst hT
  obtain ⟨⟨p1, p2, p3⟩, p4, p5, p6, p7, p8⟩ := hp
  have hcode : (Cond.code N.1 N.2.1 N.2.2.1 none).before args s = true := by
    have h := ho.2.1.1 _ p2 p3
    unfold xx_cw at h
    rw [hh, hr] at h
    exact h
  have hpl : e.platform.magicAccessors = ({} : Platform).magicAccessors := by rw [X.admits.platform]
  have hlen : ∀ sig, parseMethodDescriptor N.1.desc = some sig → vs.length = sig.parameters.length := fun sig h => by rw [h] at hn; exact (Option.some.inj hn).symm
  obtain ⟨mk, methM, cM, kP, vm1, n1, -, -, -, -, -, -, -, hW1, hst⟩ := Steps.initColdArgs (e := e) X.here ho.1.1 X.warmed hpl ho.1.2.2.2.2.2.2.1 hi hy (ho.2.1.1 _ hw1 rfl) (ho.2.1.1 _ hw2 rfl) hcode (f := F0 m pc ls (vs.reverse ++ .ref b :: rest)) rfl hlen rfl (by rw [ho.1.2.1]; exact hdg)
  exact xx_into p1 p2 p3 p4 p5 p6 p7 p8 hX kr kt ho (X.noted hW1) n1 hdg hst
theorem xx_callIN {index d2 c2 s2 c3 s3 b : Nat} {host : String} {vs : List Value} {Q2 : Option Value ⊕ String → xx_H → Prop} (hdg : decode M.2.1 pc = .ok (.invokespecial index, 3)) (hi : N.1.name = "<init>") (hr : N.2.2.2.1 = none) (hh : N.2.2.2.2 = []) (hw1 : Cond.methodLinkNest M.1.cls index N.1 host ∈ xx_nest) (hw2 : Cond.instanceMethod N.1 ∈ lw_tbl) (hy : N.1.cls ≠ "java/lang/invoke/MethodHandle" ∧ N.1.cls ≠ "java/lang/invoke/VarHandle")
    (hn : (parseMethodDescriptor N.1.desc).map (fun d => d.parameters.length) = some vs.length) (hp : xx_pay N (.ref b :: vs) rest d d2 c1 c2 c3 s1 s2 s3) (hX : xx_X G l N d2 c2 s2 0 (lv_args 0 (.ref b :: vs)) [] A Q2)
    (kr : ∀ v B, Q2 (.inl v) B → xx_X G l M d c3 s3 (pc + 3) lv (v.toList ++ rest) B Q) (kt : ∀ E B, Q2 (.inr E) B → xx_T G l M d c3 s3 pc lv rest E B Q) : xx_X G l M d c1 s1 pc lv (vs.reverse ++ .ref b :: rest) A Q := by
  intro p e R s m args below meth c H locs cells slots ls ho T hT X
  subst hT
  obtain ⟨⟨p1, p2, p3⟩, p4, p5, p6, p7, p8⟩ := hp
  have hcode : (Cond.code N.1 N.2.1 N.2.2.1 none).before args s = true := by
    have h := ho.2.1.1 _ p2 p3
    unfold xx_cw at h
    rw [hh, hr] at h
    exact h
  have hpl : e.platform.magicAccessors = ({} : Platform).magicAccessors := by rw [X.admits.platform]
  have hlen : ∀ sig, parseMethodDescriptor N.1.desc = some sig → vs.length = sig.parameters.length := fun sig h => by rw [h] at hn; exact (Option.some.inj hn).symm
  obtain ⟨mk, methM, cM, kP, vm1, n1, -, -, -, -, -, -, -, hW1, hst⟩ := Steps.initColdArgsNest (e := e) X.here ho.1.1 X.warmed hpl ho.1.2.2.2.2.2.2.1 hi hy (va_Nw.use rfl (ho.2.1.2.1.2.2.2.1 _ hw1)) (ho.2.1.1 _ hw2 rfl) hcode (f := F0 m pc ls (vs.reverse ++ .ref b :: rest)) rfl hlen rfl (by rw [ho.1.2.1]; exact hdg)
  exact xx_into p1 p2 p3 p4 p5 p6 p7 p8 hX kr kt ho (X.noted hW1) n1 hdg hst
/-- Object's own constructor -/
theorem xx_obji {index b : Nat} (hdg : decode M.2.1 pc = .ok (.invokespecial index, 3)) (hw1 : Cond.methodLink M.1.cls index Lib.objectInit ∈ lw_tbl) (hw2 : Cond.instanceMethod Lib.objectInit ∈ lw_tbl) (hw3 : Cond.code Lib.objectInit ⟨#[0xb1]⟩ 1 none ∈ lw_tbl) (hd : 1 ≤ d) (hw : (rest.map fun v => v.category).sum ≤ 40)
    (kk : xx_X G l M d c1 s1 (pc + 3) lv rest A Q) : xx_X G l M d c1 s1 pc lv (.ref b :: rest) A Q := by
  intro p e R s m args below meth c H locs cells slots ls ho
  exact W.objInit ho.1.1 ho.1.2.1 ho.1.2.2.2.2.2.2.1 (ho.2.1.1 _ hw1 rfl) (ho.2.1.1 _ hw2 rfl) (ho.2.1.1 _ hw3 rfl) rfl (ho.2.2.2.2.2.1.trans ho.1.2.2.1.symm) rfl hdg (by have := ho.2.2.1.1; omega) (by have := ho.2.2.1.2.1; show 2 * 0 + (rest.map fun v => v.category).sum + 12 ≤ R.locals; omega) (kk p e R s m args below meth c H locs cells slots ls ho)
end XC
