/-! ===== X: an exception that a method's own table catches ===== -/
/-- the first row of the table that covers pc and takes E leads to hpc; rows ahead that cover it name a class that E is not -/
def xx_hit (own E : String) (pc hpc : Nat) : List (Nat × Nat × Nat × Nat) → Prop
  | [] => False
  | x :: r => ((x.1 ≤ pc ∧ pc < x.2.1) ∧ x.2.2.2 ≠ 0 ∧ x.2.2.1 = hpc ∧ Cond.classLink own x.2.2.2 E ∈ lw_tbl ∧ Cond.castable E E ∈ xx_nest) ∨ (¬ (x.1 ≤ pc ∧ pc < x.2.1) ∧ xx_hit own E pc hpc r) ∨
    ((x.1 ≤ pc ∧ pc < x.2.1) ∧ x.2.2.2 ≠ 0 ∧ (∃ nm, Cond.classLink own x.2.2.2 nm ∈ lw_tbl ∧ (E, nm) ∈ xx_ncs) ∧ xx_hit own E pc hpc r)
theorem xx_go {G : xx_G} {own E : String} {e : Env} {s : State} {args : Array Value} {f : JFrame} {a : Addr} {ce : Cell} {hpc : Nat} (hown : s.vm.findClass own = some f.method.cls) (hpl : e.platform.magicAccessors = ({} : Platform).magicAccessors) (hw : ∀ w ∈ lw_tbl, goodWord w = true → w.before args s = true) (hK : xx_K G s) (hcv : ce.vm = .none) (hcl : s.vm.findClass E = some ce.cls) :
    ∀ (L : List ExceptionTableEntry) (S : State), s.WarmedH S.vm → S.heap[a]? = some ce → xx_hit own E f.pc hpc (L.map (fun h => (h.startPc, h.endPc, h.handlerPc, h.catchType))) →
      ∃ vm2, s.WarmedH vm2 ∧ ∀ (Q : Handler → Pre) (X : CtlPost) (d : Bool) (acts : List Action), wp (findHandler.go f a L) Q X e d acts S ↔ Q (.found hpc) d acts (S.setVm vm2) := by
  have hobj : ∀ k, ce.vm ≠ .statics k := fun k h => by rw [hcv] at h; cases h
  obtain ⟨kE, hkE, -⟩ := Vm.findClass_spec hcl
  intro L
  induction L with
  | nil => intro S _ _ h; exact h.elim
  | cons x r ih =>
    intro S hW hcell h
    have hcov : (covers x f.pc = true ↔ (x.startPc ≤ f.pc ∧ f.pc < x.endPc)) := by simp [covers]
    rcases h with ⟨h1, h2, h3, h4, h5⟩ | ⟨h1, h2⟩ | ⟨h1, h2, ⟨nm, h3, h4⟩, h5⟩
    · have hx := hcov.mpr h1
      have h2 : x.catchType ≠ 0 := h2
      have h3 : x.handlerPc = hpc := h3
      obtain ⟨c2, hc2, hl⟩ := Cond.classLink_spec hown (hw _ h4 rfl) e.platform hpl
      obtain ⟨hg, hwm, hrd⟩ := State.classEntry (e := e) hW hl
      have hcc : c2 = ce.cls := Option.some.inj (hc2.symm.trans hcl)
      subst hcc
      obtain ⟨ha, ht⟩ := hg.op (op := VmOp.resolveClass f.method.cls x.catchType) rfl
      obtain ⟨k2, hk2, -⟩ := hwm.alike.2.2 _ _ hkE
      obtain ⟨c3, c4, hc3, hc4, hasg⟩ := Cond.castable_spec (args := #[]) (hK.2.2.2.1 _ h5)
      cases Option.some.inj (hc3.symm.trans hcl)
      cases Option.some.inj (hc4.symm.trans hcl)
      have hasg2 : (S.vm.noted f.method.cls x.catchType (.cls ce.cls)).assignable ce.cls ce.cls = true := by rw [hwm.alike.assignable]; exact hasg
      refine ⟨_, hwm, fun Q X d acts => ?_⟩
      simp only [covers] at hx
      simp [findHandler.go, hx, h2, ha, ht, hcell, hobj, hk2, hasg2, h3, VmOp.dirties, VmOp.acts]
    · obtain ⟨vm2, g1, g2⟩ := ih S hW hcell h2
      refine ⟨vm2, g1, fun Q X d acts => ?_⟩
      have hx : covers x f.pc = false := by
        cases hq : covers x f.pc with
        | false => rfl
        | true => exact absurd (hcov.mp hq) h1
      rw [W.findHandler_go_skip hx]
      exact g2 Q X d acts
    · have hx := hcov.mpr h1
      have h2 : x.catchType ≠ 0 := h2
      obtain ⟨c2, hc2, hl⟩ := Cond.classLink_spec hown (hw _ h3 rfl) e.platform hpl
      obtain ⟨hg, hwm, hrd⟩ := State.classEntry (e := e) hW hl
      obtain ⟨ha, ht⟩ := hg.op (op := VmOp.resolveClass f.method.cls x.catchType) rfl
      obtain ⟨k2, hk2, -⟩ := hwm.alike.2.2 _ _ hkE
      obtain ⟨kN, hkN, -⟩ := Vm.findClass_spec hc2
      obtain ⟨k3, hk3, -⟩ := hwm.alike.2.2 _ _ hkN
      obtain ⟨c3, c4, hc3, hc4, hasg⟩ := hK.2.2.2.2.2.2.2.1 _ h4
      cases Option.some.inj (hc3.symm.trans hcl)
      cases Option.some.inj (hc4.symm.trans hc2)
      have hasg2 : (S.vm.noted f.method.cls x.catchType (.cls c2)).assignable ce.cls c2 = false := by rw [hwm.alike.assignable]; exact hasg
      obtain ⟨vm2, g1, g2⟩ := ih (S.setVm (S.vm.noted f.method.cls x.catchType (.cls c2))) hwm hcell h5
      refine ⟨vm2, g1, fun Q X d acts => ?_⟩
      simp only [covers] at hx
      have g3 := g2 Q X d acts
      simp [findHandler.go, hx, h2, ha, ht, hcell, hobj, hk2, hk3, hasg2, VmOp.dirties, VmOp.acts]
      exact g3
theorem xx_stepc {e : Env} {S : State} {a : Addr} {f : JFrame} {r : List Frame} {pc : Nat} {vm2 : Vm} (hfind : ∀ (Q : Handler → Pre) (X : CtlPost) (d : Bool) (acts : List Action), wp (findHandler f a) Q X e d acts S ↔ Q (.found pc) d acts (S.setVm vm2)) :
    (stepThrowing e S a (.java f :: r)).1 = (S.setVm vm2).setFrames (.java { f with pc := pc, stack := [.ref a] } :: r) := by
  simp only [stepThrowing, searchFrame, vmDo]
  generalize hr : Sem.go _ e false [] S = res
  obtain ⟨as, rfl, ha⟩ := Sem.eq_ok_of hr (a := Handler.found pc) (s' := S.setVm vm2) (acts' := []) (by simp [hfind _ _ _ _])
  rfl
section XCT
variable {G : xx_G} {l : Launch} {M : xx_M} {d c1 s1 pc : Nat} {lv : List (Nat × Value)} {rest : List Value} {A : xx_H} {Q : Option Value ⊕ String → xx_H → Prop}
theorem xx_catch {E : String} {hpc : Nat} (hit : xx_hit M.1.cls E pc hpc M.2.2.2.2) (kk : ∀ q, xx_X G l M d c1 s1 hpc lv [.ref q] A Q) : xx_T G l M d c1 s1 pc lv rest E A Q := by
  intro p e R s m args below meth c H locs cells slots ls q ce ho hce hcv hcl T hT X
  have hpl : e.platform.magicAccessors = ({} : Platform).magicAccessors := by rw [X.admits.platform]
  have hit2 := hit
  rw [← ho.1.2.2.2.2.2.1] at hit2
  obtain ⟨vm2, hW2, hg⟩ := xx_go (e := e) (f := F0 m pc ls rest) (a := q) (hpc := hpc) ho.1.2.2.2.2.2.2.1 hpl ho.2.1.1 ho.2.1.2.1 hcv hcl c.exceptionTable.toList ((T.setTop (F0 m pc ls rest)).pushFrame (.throwing q)) X.warmed (by show T.heap[q]? = some ce; rw [hT]; exact hce) hit2
  have hfind : ∀ (Q : Handler → Pre) (X : CtlPost) (d : Bool) (acts : List Action), wp (findHandler (F0 m pc ls rest) q) Q X e d acts ((T.setTop (F0 m pc ls rest)).pushFrame (.throwing q)) ↔ Q (.found hpc) d acts (((T.setTop (F0 m pc ls rest)).pushFrame (.throwing q)).setVm vm2) := fun Q X9 d acts => by
    rw [W.findHandler_eq (meth := meth) (code := c) X.method' X.code]
    exact hg Q X9 d acts
  have X2 := X.noted hW2
  obtain ⟨t, a1, b1⟩ := kk q p e R s m args below meth c H locs cells slots ls ho (T.setVm vm2) hT X2
  refine ⟨t, ?_, b1⟩
  obtain ⟨hgo, hw⟩ := X.here.throwing (g := F0 m pc ls rest) q
  refine Steps.head hgo hw ?_
  rw [stepThread_throwing (frames_entered X.here.top _), xx_stepc hfind]
  obtain ⟨g0, hg0⟩ := Option.isSome_iff_exists.mp X.here.top
  obtain ⟨r, hr⟩ := State.topJava?_eq_some.mp hg0
  have hr2 : (T.setVm vm2).frames = .java g0 :: r := hr
  rw [State.setTop_of_frames _ hr2] at a1
  have e1 : ∀ (u : State) (F1 F2 : List Frame), ((u.setFrames F1).setVm vm2).setFrames F2 = (u.setVm vm2).setFrames F2 := fun u F1 F2 => by
    show (((u.setVm vm2).setFrames F1)).setFrames F2 = _
    rw [State.setFrames_setFrames]
  rw [hr, List.tail_cons, State.pushFrame, e1, State.setTop_of_frames _ hr, e1]
  exact a1
end XCT
