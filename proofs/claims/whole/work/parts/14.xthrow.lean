/-! ===== X: what is thrown, passed on, caught ===== -/
abbrev xx_up3 : List String := ["java/lang/RuntimeException", "java/lang/Exception"]
section XT
variable {G : xx_G} {l : Launch} {M : xx_M} {d c1 s1 pc : Nat} {lv : List (Nat × Value)} {rest : List Value} {A : xx_H} {Q : Option Value ⊕ String → xx_H → Prop}
/-- the words of a throw out of the class that is told -/
def xx_thw (own cls : String) (ik ic : Nat) : Prop := (Bundle.fit cls = true ∧ ∀ n ∈ xx_up3, Bundle.fit n = true) ∧ ∀ w ∈ Cond.classLink own ik cls :: Cond.initialized cls :: vx_atS own ic cls xx_up3, (w ∈ lw_tbl ∧ goodWord w = true) ∨ w ∈ xx_nest
theorem xx_aft {H : Heap} {t : State} (h : xx_R G A H) (z : H.size ≤ t.heap.size) (o : ∀ q : Nat, q < H.size → t.heap[q]? = H[q]?) : xx_R G (t.heap.size, A.2) t.heap := by
  refine ⟨rfl, Nat.le_trans h.2.1 z, fun q hq => (o q (Nat.lt_of_lt_of_le hq h.2.1)).trans (h.2.2.1 q hq), fun a => ?_⟩
  by_cases h0 : (A.2 a).1 = 0
  · exact Or.inl h0
  · exact (h.2.2.2 a).kept (o a ((h.2.2.2 a).lt h0))
/-- new; dup; ldc; invokespecial; athrow -/
theorem xx_throwS {cls text : String} {ik is ic : Nat} (hw : xx_thw M.1.cls cls ik ic) (hs : (M.1.cls, is, text) ∈ xx_strs) (hh : M.2.2.2.2 = [])
    (d0 : decode M.2.1 pc = .ok (.new ik, 3)) (d3 : decode M.2.1 (pc + 3) = .ok (.dup, 1)) (d4 : decode M.2.1 (pc + 4) = .ok (.ldc is, 2)) (d6 : decode M.2.1 (pc + 6) = .ok (.invokespecial ic, 3)) (d9 : decode M.2.1 (pc + 9) = .ok (.athrow, 1))
    (hd : 6 ≤ d) (hr : (rest.map fun v => v.category).sum ≤ 40) (hq : ∀ n, A.1 ≤ n → Q (.inr cls) (n, A.2)) : xx_X G l M d (c1 + 1) (s1 + 6) pc lv rest A Q := by
  intro p e R s m args below meth c H locs cells slots ls ho T hT X
  obtain ⟨h1, h2, h3, h4, h5, h6⟩ := ho
  obtain ⟨sa, hsa⟩ := h2.2.1.2.2.2.2.2.2.1 _ hs
  have hgood := hw.2
  have hbef : ∀ w ∈ Cond.classLink M.1.cls ik cls :: Cond.initialized cls :: vx_atS M.1.cls ic cls xx_up3, w.before args s = true := fun w hm => (hgood w hm).elim (fun h => h2.1 w h.1 h.2) (fun h => va_Nw.use (xx_nest_tab w h) (h2.2.1.2.2.2.1 w h))
  have hot : ∀ w ∈ Cond.classLink M.1.cls ik cls :: Cond.initialized cls :: vx_atS M.1.cls ic cls xx_up3, vx_ot w = true := fun w hm => by
    unfold vx_ot
    rcases hgood w hm with h | h
    · rw [h.2, Bool.or_true]
    · rw [xx_nest_tab w h, Bool.true_or]
  have htab : c.exceptionTable.toList = [] := by
    have h := h1.2.2.2.2.2.1
    rw [hh] at h
    exact List.map_eq_nil_iff.mp h
  have hU : vx_Zq Bundle.tN "UNASSIGNED_STACK" Bundle.steD (fun q => G.1.size ≤ q) s H := vx_Zq.kept h2.2.1.2.2.2.2.2.2.2.2.1 (fun a ha hna => h4.2.2.1 a ha)
  have hN : vx_Zq Bundle.tN "SUPPRESSED_SENTINEL" Bundle.listD (fun q => G.1.size ≤ q) s H := vx_Zq.kept h2.2.1.2.2.2.2.2.2.2.2.2.1 (fun a ha hna => h4.2.2.1 a ha)
  have hs0 : s.heap.size ≤ H.size := by rw [← hT]; exact X.same.2.1
  have hkeep : ∀ a : Nat, a < s.heap.size → ¬ G.1.size ≤ a → H[a]? = s.heap[a]? := by
    intro a ha hna
    have hf := (vx_frame (s := s) (locs := locs) (U := T) (k := cells) (n := slots) X.same).2 a ha (fun z hz e => hna (by rw [← e]; exact h5 z hz))
    rw [← hT]; exact hf
  have hkeep2 : ∀ a : Nat, a < H.size → ¬ G.1.size ≤ a → s.heap[a]? = H[a]? := fun a _ hna => (hkeep a (by have := h2.2.2.2; omega) hna).symm
  have hU0 : vx_Zq Bundle.tN "UNASSIGNED_STACK" Bundle.steD (fun q => G.1.size ≤ q) s s.heap := vx_Zq.kept hU hkeep2
  have hN0 : vx_Zq Bundle.tN "SUPPRESSED_SENTINEL" Bundle.listD (fun q => G.1.size ≤ q) s s.heap := vx_Zq.kept hN hkeep2
  have hmain := vx_throwS (p := p) (l := l) (e := e) (R := R) (s := s) (m := m) (args := args) (below := below) (meth := meth) (c := c) (H := H) (locs := locs) (cells := cells) (slots := slots) (ls := ls) (rest := rest) (Qc := fun _ _ _ _ => False) (XC := fun E s2 t => E = cls ∧ H.size ≤ t.heap.size ∧ ∀ q : Nat, q < H.size → t.heap[q]? = H[q]?) (free := fun q => G.1.size ≤ q) (mc := cells + 1) (ms := slots + 6)
    h1.1 h1.2.1 h2.2.2.1 h1.2.2.2.2.2.2.1 hw.1.1 hw.1.2 (hbef _ List.mem_cons_self) (hbef _ (List.mem_cons_of_mem _ List.mem_cons_self)) hsa (fun w hm => hbef w (List.mem_cons_of_mem _ (List.mem_cons_of_mem _ hm))) hot hU0 hN0 ⟨hs0, hkeep, h5⟩ (h6.1.trans h1.2.2.1.symm)
    d0 d3 d4 d6 d9 (by rw [htab]; intro x hx; cases hx) (by show 2 + 3 < R.frames; omega) (by show _ + (13 * (2 + 1) + 43) ≤ R.locals; omega) (by omega) (by omega) h1.2.2.2.2.1 (fun t _ a1 a2 => ⟨rfl, a1, a2⟩) h5 (Nat.le_refl _) (Nat.le_refl _)
  obtain ⟨t, st, o, b1, b2, b3⟩ := hmain T hT X
  rcases b3 with ⟨hf, -⟩ | ⟨q, ho2, E, ce, L, ⟨hE, z1, z2⟩, hce, hcv, hcl, hW, hsame, hL⟩
  · exact hf.elim
  · subst hE
    exact ⟨t, st, o, .inr E, (t.heap.size, A.2), L, b1, b2, ⟨q, ce, ho2, hce, hcv, hcl⟩, hq _ (by rw [← h4.1]; exact z1), xx_aft h4 z1 z2, hW, hL, hsame.mono (by omega) (by omega)⟩
/-- nothing here catches it -/
theorem xx_out {E : String} {st : List Value} (hh : M.2.2.2.2 = []) (hq : Q (.inr E) A) : xx_T G l M d c1 s1 pc lv st E A Q := by
  intro p e R s m args below meth c H locs cells slots ls q ce ho hce hcv hcl T hT X
  obtain ⟨h1, h2, h3, h4, h5, h6⟩ := ho
  have htab : c.exceptionTable.toList = [] := by
    have h := h1.2.2.2.2.2.1
    rw [hh] at h
    exact List.map_eq_nil_iff.mp h
  obtain ⟨st1, hrun, hend, hW, hsm⟩ := X.leaveThrown q (g := F0 m pc ls st) rfl rfl rfl (by rw [htab]; intro x hx; cases hx) h1.2.2.2.2.1
  have hhp : (T.setFrames (.throwing q :: below)).heap = H := hT
  exact ⟨_, st1, .threw q, .inr E, A, locs, hrun, hend, ⟨q, ce, rfl, by rw [hhp]; exact hce, hcv, hcl⟩, hq, by rw [hhp]; exact h4, hW, h5, hsm.mono (by omega) (by omega)⟩
end XT
theorem xx_thw_ise : xx_thw RX8 R_ise 144 148 := ⟨⟨by decide +kernel, by decide +kernel⟩, by decide +kernel⟩
theorem xx_thw_ioe : xx_thw RX8 R_ioe 149 153 := ⟨⟨by decide +kernel, by decide +kernel⟩, by decide +kernel⟩
theorem xx_thw_iae : xx_thw RX8 R_iae 102 106 := ⟨⟨by decide +kernel, by decide +kernel⟩, by decide +kernel⟩
