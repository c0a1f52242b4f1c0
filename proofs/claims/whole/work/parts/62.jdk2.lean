/-! ===== System.arraycopy of ints, Math.abs of a long ===== -/
set_option maxRecDepth 100000 in
theorem wq_ac_l : Cond.methodLink RX0 20 arraycopyName ∈ lw_tbl := List.mem_of_getElem? (i := 1081) rfl
set_option maxRecDepth 100000 in
theorem wq_ac_n : Cond.native arraycopyName ∈ lw_tbl := List.mem_of_getElem? (i := 634) rfl
set_option maxRecDepth 100000 in
theorem wq_ac_s : Cond.static arraycopyName ∈ lw_tbl := List.mem_of_getElem? (i := 633) rfl
set_option maxRecDepth 100000 in
theorem wq_ac_i : Cond.initialized "java/lang/System" ∈ lw_tbl := List.mem_of_getElem? (i := 89) rfl
section XAC
variable {G : xx_G} {l : Launch} {M : xx_M} {d c1 s1 pc : Nat} {lv : List (Nat × Value)} {rest : List Value} {A : xx_H} {Q : Option Value ⊕ String → xx_H → Prop}
theorem xx_acopy {index : Nat} {a0 a n0 n1 : Nat} {f g : Nat → Int32} {sp dp n : Int32} (hdg : decode M.2.1 pc = .ok (.invokestatic index, 3)) (hlk : Cond.methodLink M.1.cls index arraycopyName ∈ lw_tbl) (hd : 1 ≤ d) (hr : (rest.map fun v => v.category).sum ≤ 40) (hA0 : A.2 a0 = xx_i n0 f) (hA1 : A.2 a = xx_i n1 g)
    (h1 : ¬ sp < 0) (h2 : ¬ dp < 0) (h3 : ¬ n < 0) (h4 : sp.toNatClampNeg + n.toNatClampNeg ≤ n0) (h5 : dp.toNatClampNeg + n.toNatClampNeg ≤ n1)
    (kk : xx_X G l M d c1 s1 (pc + 3) lv rest (xx_up A a (xx_i n1 (va_cpy f g sp.toNatClampNeg dp.toNatClampNeg n.toNatClampNeg))) Q) : xx_X G l M d c1 s1 pc lv (.int n :: .int dp :: .ref a :: .int sp :: .ref a0 :: rest) A Q := by
  intro p e R s m args below meth c H locs cells slots ls ho T hT X
  have nn : ∀ z : Int32, ¬ z < 0 → z.toInt = (z.toNatClampNeg : Int) := by
    intro z hz
    have hz0 : (0 : Int) ≤ z.toInt := by
      have := Int32.not_lt.mp hz
      simpa using Int32.le_iff_toInt_le.mp this
    show z.toInt = ((z.toInt.toNat : Nat) : Int)
    omega
  obtain ⟨hb0, hc0⟩ := xx_arr ho.2.2.2.1 hA0 (by decide)
  obtain ⟨hb1, hc1⟩ := xx_arr ho.2.2.2.1 hA1 (by decide)
  have hK1 := (ho.2.1.2.1.2.1 1 (by decide)).1
  obtain ⟨h1o, h2o, h3o, h4o, h5o, h6o⟩ := ho
  obtain ⟨-, k0, hk0, cm0, hkk0⟩ := hK1 n0 (fun j => .int (f j))
  obtain ⟨-, k1, hk1, cm1, hkk1⟩ := hK1 n1 (fun j => .int (g j))
  have hsz : ls.size = c.maxLocals := h6o.1.trans h1o.2.2.1.symm
  have hnw : nativeFrameWords "java/lang/System" "arraycopy" 5 ≤ 100 := by decide +kernel
  have hloc : 2 * 0 + (rest.map fun v => v.category).sum + (nativeFrameWords "java/lang/System" "arraycopy" 5 + 11) ≤ R.locals := by omega
  obtain ⟨vm', X', step⟩ := X.arraycopy h1o.1 h1o.2.2.2.2.2.2.1 (h2o.1 _ hlk rfl) (h2o.1 _ wq_ac_n rfl) (h2o.1 _ wq_ac_s rfl) (h2o.1 _ wq_ac_i rfl) (src := a0) (dst := a) (cs := arrV (G.2.2 1) n0 (fun j => .int (f j))) (cd := arrV (G.2.2 1) n1 (fun j => .int (g j))) (srcPos := sp) (destPos := dp) (n := n) (by rw [hT]; exact hc0) (by rw [hT]; exact hc1)
    (fun _ h => by cases h) (fun _ h => by cases h) (fun h => by cases h) (fun h => by cases h) hk0 hk1 hkk0 hkk1 (by decide) h1 h2 h3
    (by rw [nn sp h1, nn n h3]; show ¬ _ > ((arrV (G.2.2 1) n0 (fun j => .int (f j))).slots.size : Int); rw [arrV_size]; omega)
    (by rw [nn dp h2, nn n h3]; show ¬ _ > ((arrV (G.2.2 1) n1 (fun j => .int (g j))).slots.size : Int); rw [arrV_size]; omega)
    (fun vm₁ _ i hi => by
      have e : (arrV (G.2.2 1) n0 (fun j => .int (f j))).slots.getD (sp.toNatClampNeg + i) .null = .int (f (sp.toNatClampNeg + i)) := by
        rw [Array.getD_eq_getD_getElem?, arrV_read _ _ (by omega)]
        rfl
      refine ⟨?_, ?_⟩
      · rw [e]
        rfl
      · rw [e]
        exact trivial)
    (g := F0 m pc ls (.int n :: .int dp :: .ref a :: .int sp :: .ref a0 :: rest)) rfl (by rw [hsz]) (rest := rest) rfl (by rw [h1o.2.1]; exact hdg) (by omega) hloc
  have e1 : copied (arrV (G.2.2 1) n0 (fun j => .int (f j))) (arrV (G.2.2 1) n1 (fun j => .int (g j))) sp dp n = arrV (G.2.2 1) n1 (fun j => .int (va_cpy f g sp.toNatClampNeg dp.toNatClampNeg n.toNatClampNeg j)) := va_copied (fun z => .int z) (G.2.2 1) (G.2.2 1) f g h4
  rw [e1] at X' step
  have hl : a < H.size := (Array.getElem?_eq_some_iff.mp hc1).1
  generalize hcell : arrV (G.2.2 1) n1 (fun j => .int (va_cpy f g sp.toNatClampNeg dp.toNatClampNeg n.toNatClampNeg j)) = cell at X' step
  have hheap : ((T.setVm vm').setCell a cell).heap = H.setIfInBounds a cell := by rw [← hT]; rfl
  have oq : ∀ q : Nat, q ≠ a → (H.setIfInBounds a cell)[q]? = H[q]? := fun q hq => by simp [Array.getElem?_setIfInBounds, Ne.symm hq]
  have hat : (H.setIfInBounds a cell)[a]? = some (arrV (G.2.2 1) n1 (fun j => .int (va_cpy f g sp.toNatClampNeg dp.toNatClampNeg n.toNatClampNeg j))) := by rw [hcell]; simp [Array.getElem?_setIfInBounds, hl]
  obtain ⟨t, a1, b1⟩ := kk p e R s m args below meth c (H.setIfInBounds a cell) _ cells slots ls ⟨h1o, h2o, h3o, h4o.set hb1 (by simp) oq (xx_at_a (by decide) hb1 hat), fun q hq => by
      rcases List.mem_append.mp hq with h | h
      · exact h5o q h
      · obtain ⟨z, -, hz⟩ := List.mem_map.mp h
        rw [← hz]
        exact hb1, h6o⟩ _ hheap X'
  exact ⟨t, step t a1, b1⟩
end XAC
