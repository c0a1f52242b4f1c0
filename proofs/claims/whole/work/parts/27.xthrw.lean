/-! ===== X: a throw whose text stands behind the 255th place; what a throw leaves ===== -/
section XTW
variable {G : xx_G} {l : Launch} {M : xx_M} {d c1 s1 pc : Nat} {lv : List (Nat × Value)} {rest : List Value} {A : xx_H} {Q : Option Value ⊕ String → xx_H → Prop}
theorem xx_throwSW {cls text : String} {ik is ic : Nat} (hw : xx_thw M.1.cls cls ik ic) (hs : (M.1.cls, is, text) ∈ xx_strs) (hh : M.2.2.2.2 = [])
    (d0 : decode M.2.1 pc = .ok (.new ik, 3)) (d3 : decode M.2.1 (pc + 3) = .ok (.dup, 1)) (d4 : decode M.2.1 (pc + 4) = .ok (.ldc_w is, 3)) (d6 : decode M.2.1 (pc + 7) = .ok (.invokespecial ic, 3)) (d9 : decode M.2.1 (pc + 10) = .ok (.athrow, 1))
    (hd : 6 ≤ d) (hr : (rest.map fun v => v.category).sum ≤ 40) (hq : ∀ n, A.1 ≤ n → Q (.inr cls) (n, A.2)) : xx_X G l M d (c1 + 1) (s1 + 6) pc lv rest A Q := by
  intro p e R s m args below meth c H locs cells slots ls ho T hT X
  obtain ⟨h1, h2, h3, h4, h5, h6⟩ := ho
  obtain ⟨sa, hsa⟩ := h2.2.1.2.2.2.2.2.2.1 _ hs
  have hgood := hw.2
  have hbef : ∀ w ∈ Cond.classLink M.1.cls ik cls :: Cond.initialized cls :: vx_atS M.1.cls ic cls xx_up3, w.before args s = true := fun w hm => (hgood w hm).elim (fun h => h2.1 w h.1 h.2) (fun h => va_Nw.use (xx_nest_tab w h) (h2.2.1.2.2.2.1 w h))
  have hot : ∀ w ∈ Cond.classLink M.1.cls ik cls :: Cond.initialized cls :: vx_atS M.1.cls ic cls xx_up3, vx_ot w = true := fun w hm => by
    unfold vx_ot
    rcases hgood w hm with h | h
    · rw [h.2, Bool.or_true]
    · rw [xx_nest_tab w h, Bool.true_or]
  have htab : c.exceptionTable.toList = [] := by
    have h := h1.2.2.2.2.2.1
    rw [hh] at h
    exact List.map_eq_nil_iff.mp h
  have hU : vx_Zq Bundle.tN "UNASSIGNED_STACK" Bundle.steD (fun q => G.1.size ≤ q) s H := vx_Zq.kept h2.2.1.2.2.2.2.2.2.2.2.1 (fun a ha hna => h4.2.2.1 a ha)
  have hN : vx_Zq Bundle.tN "SUPPRESSED_SENTINEL" Bundle.listD (fun q => G.1.size ≤ q) s H := vx_Zq.kept h2.2.1.2.2.2.2.2.2.2.2.2.1 (fun a ha hna => h4.2.2.1 a ha)
  have hs0 : s.heap.size ≤ H.size := by rw [← hT]; exact X.same.2.1
  have hkeep : ∀ a : Nat, a < s.heap.size → ¬ G.1.size ≤ a → H[a]? = s.heap[a]? := by
    intro a ha hna
    have hf := (vx_frame (s := s) (locs := locs) (U := T) (k := cells) (n := slots) X.same).2 a ha (fun z hz e => hna (by rw [← e]; exact h5 z hz))
    rw [← hT]; exact hf
  have hkeep2 : ∀ a : Nat, a < H.size → ¬ G.1.size ≤ a → s.heap[a]? = H[a]? := fun a _ hna => (hkeep a (by have := h2.2.2.2; omega) hna).symm
  have hU0 : vx_Zq Bundle.tN "UNASSIGNED_STACK" Bundle.steD (fun q => G.1.size ≤ q) s s.heap := vx_Zq.kept hU hkeep2
  have hN0 : vx_Zq Bundle.tN "SUPPRESSED_SENTINEL" Bundle.listD (fun q => G.1.size ≤ q) s s.heap := vx_Zq.kept hN hkeep2
  have hmain := vx_throwSW (p := p) (l := l) (e := e) (R := R) (s := s) (m := m) (args := args) (below := below) (meth := meth) (c := c) (H := H) (locs := locs) (cells := cells) (slots := slots) (ls := ls) (rest := rest) (Qc := fun _ _ _ _ => False) (XC := fun E s2 t => E = cls ∧ H.size ≤ t.heap.size ∧ ∀ q : Nat, q < H.size → t.heap[q]? = H[q]?) (free := fun q => G.1.size ≤ q) (mc := cells + 1) (ms := slots + 6)
    h1.1 h1.2.1 h2.2.2.1 h1.2.2.2.2.2.2.1 hw.1.1 hw.1.2 (hbef _ List.mem_cons_self) (hbef _ (List.mem_cons_of_mem _ List.mem_cons_self)) hsa (fun w hm => hbef w (List.mem_cons_of_mem _ (List.mem_cons_of_mem _ hm))) hot hU0 hN0 ⟨hs0, hkeep, h5⟩ (h6.1.trans h1.2.2.1.symm)
    d0 d3 d4 d6 d9 (by rw [htab]; intro x hx; cases hx) (by show 2 + 3 < R.frames; omega) (by show _ + (13 * (2 + 1) + 43) ≤ R.locals; omega) (by omega) (by omega) h1.2.2.2.2.1 (fun t _ a1 a2 => ⟨rfl, a1, a2⟩) h5 (Nat.le_refl _) (Nat.le_refl _)
  obtain ⟨t, st, o, b1, b2, b3⟩ := hmain T hT X
  rcases b3 with ⟨hf, -⟩ | ⟨q, ho2, E, ce, L, ⟨hE, z1, z2⟩, hce, hcv, hcl, hW, hsame, hL⟩
  · exact hf.elim
  · subst hE
    exact ⟨t, st, o, .inr E, (t.heap.size, A.2), L, b1, b2, ⟨q, ce, ho2, hce, hcv, hcl⟩, hq _ (by rw [← h4.1]; exact z1), xx_aft h4 z1 z2, hW, hL, hsame.mono (by omega) (by omega)⟩
end XTW
/-- thrown, and what was pictured is as it was -/
def xx_th (E : String) (A : xx_H) (r : Option Value ⊕ String) (B : xx_H) : Prop := r = .inr E ∧ A.1 ≤ B.1 ∧ B.2 = A.2
/-- answered, and what was pictured is as it was -/
def xx_rt (v : Option Value) (A : xx_H) (r : Option Value ⊕ String) (B : xx_H) : Prop := r = .inl v ∧ A.1 ≤ B.1 ∧ B.2 = A.2
