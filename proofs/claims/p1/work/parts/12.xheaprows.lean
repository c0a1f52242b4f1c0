/-! ===== X: the rows that read and write the heap ===== -/
theorem xx_at_o {G : xx_G} {a k : Nat} {r : vw_C} {fs : List Value} {H : Heap} (hb : G.1.size ≤ a) (hr : xx_cl[k]? = some r) (h : t_OB a (G.2.1.1 k) r.2.2 (G.2.1.2 k) H (vp_V fs)) : xx_at G a (xx_o k fs) H := by
  have e : 100 + k - 100 = k := by omega
  refine Or.inr (Or.inr (Or.inr ⟨Nat.le_add_right 100 k, hb, r, ?_, ?_⟩))
  · show xx_cl[100 + k - 100]? = some r
    rw [e]; exact hr
  · show t_OB a (G.2.1.1 (100 + k - 100)) r.2.2 (G.2.1.2 (100 + k - 100)) H (vp_V fs)
    rw [e]; exact h
theorem xx_at_a {G : xx_G} {a k n : Nat} {f : Nat → Value} {H : Heap} (hk : k ∈ xx_ks) (hb : G.1.size ≤ a) (h : H[a]? = some (arrV (G.2.2 k) n f)) : xx_at G a (k, n, f) H := Or.inr (Or.inr (Or.inl ⟨hk, hb, h⟩))
/-- a class of the list: its number, name, fields, their types; its words are among the tables' -/
def xx_cls (k : Nat) (C : String) (T : u_T) (N : Nat) (ty : Nat → FieldType) : Prop :=
  xx_cl[k]? = some (C, T, N) ∧ (∀ w ∈ u_ws C T N, w ∈ lw_tbl ∧ goodWord w = true) ∧ (∀ j, j < N → parseFieldDescriptor (T j).2.2.1 = some (ty j)) ∧ (∀ a, a < N → ∀ b, b < N → a ≠ b → (T a).2.1 ≠ (T b).2.1) ∧ (∀ j, j < N → (T j).1 = C)
section XH
variable {G : xx_G} {l : Launch} {M : xx_M} {d c1 s1 pc : Nat} {lv : List (Nat × Value)} {rest : List Value} {A : xx_H} {Q : Option Value ⊕ String → xx_H → Prop}
variable {k N : Nat} {C : String} {T : u_T} {ty : Nat → FieldType}
theorem xx_words {p : Program} {R : Room} {s : State} {m : MethodId} {args : Array Value} {meth : Method} {c : Code} {H : Heap} {locs : List Loc} {cells slots : Nat} {ls : Array Slot} (ho : xx_O G l M d c1 s1 lv A p R s m args meth c H locs cells slots ls) : ∀ w ∈ lw_tbl.filter goodWord, w.before args s = true :=
  fun w hw => ho.2.1.1 w (List.mem_filter.mp hw).1 (List.mem_filter.mp hw).2
theorem xx_cin (hc : xx_cls k C T N ty) : ∀ w ∈ u_ws C T N, w ∈ lw_tbl.filter goodWord := fun w hw => List.mem_filter.mpr (hc.2.1 w hw)
theorem xx_va {s : State} (h : xx_K G s) : va_K G.2.1 xx_cl [] s := ⟨h.1, fun k q h => by simp at h⟩
theorem xx_obj {H : Heap} {a k : Nat} {fs : List Value} (h : xx_R G A H) (hA : A.2 a = xx_o k fs) : G.1.size ≤ a ∧ ∃ r : vw_C, xx_cl[k]? = some r ∧ t_OB a (G.2.1.1 k) r.2.2 (G.2.1.2 k) H (vp_V fs) := by
  have h1 := h.2.2.2 a
  rw [hA] at h1
  exact h1.obj
theorem xx_arr {H : Heap} {a k n : Nat} {f : Nat → Value} (h : xx_R G A H) (hA : A.2 a = (k, n, f)) (hk : k ∈ xx_ks) : G.1.size ≤ a ∧ H[a]? = some (arrV (G.2.2 k) n f) := by
  have h1 := h.2.2.2 a
  rw [hA] at h1
  exact h1.arr hk
theorem xx_get (hc : xx_cls k C T N ty) {a index j : Nat} {fs : List Value} {v : Value} (hdg : decode M.2.1 pc = .ok (.getfield index, 3)) (hw : Cond.fieldLink M.1.cls index C (T j).2.1 (T j).2.2.1 ∈ lw_tbl) (hj : j < N) (hA : A.2 a = xx_o k fs) (hv : fs[j]? = some v)
    (kk : xx_X G l M d c1 s1 (pc + 3) lv (v :: rest) A Q) : xx_X G l M d c1 s1 pc lv (.ref a :: rest) A Q := by
  intro p e R s m args below meth c H locs cells slots ls ho
  have hts := xx_words ho
  have hown := ho.1.2.2.2.2.2.2.1
  obtain ⟨hb, r, hr, hO⟩ := xx_obj ho.2.2.2.1 hA
  have hP : va_P G.2.1 xx_cl [(a, .inr (k, fs))] H := fun q x hx => by
    match q, hx with
    | 0, hx => cases hx; exact ⟨r, hr, hO⟩
    | q + 1, hx => simp at hx
  exact va_get (D := G.2.1) (cl := xx_cl) (tys := []) (ws := [(a, .inr (k, fs))]) ho.1.1 ho.1.2.1 hts (xx_cin hc) hown (xx_va ho.2.1.2.1) hP 0 rfl hc.1 j hj (ho.2.1.1 _ hw rfl) (fun x hx => by rw [hc.2.2.2.2 j hj] at hx; exact hx) hv hdg (kk p e R s m args below meth c H locs cells slots ls ho)
theorem xx_put (hc : xx_cls k C T N ty) {a index j : Nat} {fs : List Value} {v : Value} (hdg : decode M.2.1 pc = .ok (.putfield index, 3)) (hw : Cond.fieldLink M.1.cls index C (T j).2.1 (T j).2.2.1 ∈ lw_tbl) (hj : j < N) (hfin : (T j).2.2.2 = false) (hn : narrow (ty j) v = v) (hfit : fits (ty j) v = true) (hA : A.2 a = xx_o k fs) (hl : j < fs.length)
    (kk : xx_X G l M d c1 s1 (pc + 3) lv rest (xx_up A a (xx_o k (fs.set j v))) Q) : xx_X G l M d c1 s1 pc lv (v :: .ref a :: rest) A Q := by
  intro p e R s m args below meth c H locs cells slots ls ho
  have hts := xx_words ho
  have hown := ho.1.2.2.2.2.2.2.1
  have hin := xx_cin hc
  obtain ⟨hb, r, hr, cell, q1, q2, q3, q4⟩ := xx_obj ho.2.2.2.1 hA
  have hr2 : r = (C, T, N) := Option.some.inj (hr.symm.trans hc.1)
  subst hr2
  have hK := xx_va ho.2.1.2.1
  have hap := va_apart (own := C) hts hin ty hc.2.2.1 hc.2.2.2.1 hK hc.1
  obtain ⟨hS, hfc, kC, hkC, hkind⟩ := hK.1 k _ hc.1
  obtain ⟨cf, kf, fi, f, hi, hsl⟩ := hS j hj
  have hlay := hts _ (hin _ (u_in_lay hj))
  unfold u_lay at hlay
  rw [if_neg (by rw [hfin]; decide)] at hlay
  have hst := (u_facts hfc hkC (u_lays hts hin hj) hi).1
  have h6 := u_store hfc hkC hkind hlay hi (hc.2.2.1 j hj) hn hfit
  have hi2 := hi
  rw [hc.2.2.2.2 j hj] at hi2
  refine W.putK ho.1.1 ho.1.2.1 (f := f) ⟨hown, ho.2.1.1 _ hw rfl, ⟨_, _, _, hi2⟩, hst⟩ (by rw [q2]; exact h6) q1 q3 (by rw [hsl]; exact k2_hasslot (q4 j hj)) rfl rfl hdg fun H1 e1 e2 e3 => ?_
  obtain ⟨h1, h2, h3, h4, h5, h7⟩ := ho
  rw [hsl] at e1 ⊢
  refine kk p e R s m args below meth c H1 _ cells slots ls ⟨h1, h2, h3, h4.set hb e2 e3 (xx_at_o hb hc.1 (t_OB.to (V := updV (vp_V fs) j v) ⟨_, e1, q2, q3, t_set q4 hap hj v⟩ (fun i _ => vp_updV_set hl v i))), ?_, h7⟩
  intro q hq
  rcases List.mem_append.mp hq with hq | hq
  · exact h5 q hq
  · rw [List.mem_singleton.mp hq]; exact hb
theorem xx_putF (hc : xx_cls k C T N ty) {a index j : Nat} {fs : List Value} {v : Value} (hdg : decode M.2.1 pc = .ok (.putfield index, 3)) (hw : Cond.fieldLink M.1.cls index C (T j).2.1 (T j).2.2.1 ∈ lw_tbl) (hj : j < N) (hfin : (T j).2.2.2 = true) (hnm : M.1.name = "<init>") (hC : C = M.1.cls) (hn : narrow (ty j) v = v) (hfit : fits (ty j) v = true) (hA : A.2 a = xx_o k fs) (hl : j < fs.length)
    (kk : xx_X G l M d c1 s1 (pc + 3) lv rest (xx_up A a (xx_o k (fs.set j v))) Q) : xx_X G l M d c1 s1 pc lv (v :: .ref a :: rest) A Q := by
  intro p e R s m args below meth c H locs cells slots ls ho
  have hts := xx_words ho
  have hown := ho.1.2.2.2.2.2.2.1
  have hin := xx_cin hc
  obtain ⟨hb, r, hr, cell, q1, q2, q3, q4⟩ := xx_obj ho.2.2.2.1 hA
  have hr2 : r = (C, T, N) := Option.some.inj (hr.symm.trans hc.1)
  subst hr2
  have hK := xx_va ho.2.1.2.1
  have hap := va_apart (own := C) hts hin ty hc.2.2.1 hc.2.2.2.1 hK hc.1
  obtain ⟨hS, hfc, kC, hkC, hkind⟩ := hK.1 k _ hc.1
  obtain ⟨cf, kf, fi, f, hi, hsl⟩ := hS j hj
  have hlay := hts _ (hin _ (u_in_lay hj))
  unfold u_lay at hlay
  rw [if_pos hfin] at hlay
  have hst := (u_facts hfc hkC (u_lays hts hin hj) hi).1
  have hcf : m.cls = cf := by
    obtain ⟨_, _, c9, _, _, _, -, -, hf9, -, -, -, hown2, -⟩ := Cond.laysFinal_spec hlay
    have e1 : c9 = cf := by have := hi.symm.trans hf9; simp at this; exact this.1.symm
    rw [hc.2.2.2.2 j hj, hC] at hown2
    rw [← e1]; exact Option.some.inj (hown.symm.trans hown2)
  have h6 := u_fits hfc hkC hkind (Or.inr hlay) hi (hc.2.2.1 j hj) hn hfit
  have hi2 := hi
  rw [hc.2.2.2.2 j hj] at hi2
  refine W.putFinK ho.1.1 ho.1.2.1 hown (ho.2.1.1 _ hw rfl) hi2 hst hcf (ho.1.2.2.2.2.2.2.2.trans hnm) (by rw [q2]; exact h6) q1 q3 (by rw [hsl]; exact k2_hasslot (q4 j hj)) rfl rfl hdg fun H1 e1 e2 e3 => ?_
  obtain ⟨h1, h2, h3, h4, h5, h7⟩ := ho
  rw [hsl] at e1 ⊢
  refine kk p e R s m args below meth c H1 _ cells slots ls ⟨h1, h2, h3, h4.set hb e2 e3 (xx_at_o hb hc.1 (t_OB.to (V := updV (vp_V fs) j v) ⟨_, e1, q2, q3, t_set q4 hap hj v⟩ (fun i _ => vp_updV_set hl v i))), ?_, h7⟩
  intro q hq
  rcases List.mem_append.mp hq with hq | hq
  · exact h5 q hq
  · rw [List.mem_singleton.mp hq]; exact hb
theorem xx_new (hc : xx_cls k C T N ty) {index : Nat} {fs : List Value} (hdg : decode M.2.1 pc = .ok (.new index, 3)) (hw1 : Cond.classLink M.1.cls index C ∈ lw_tbl) (hw2 : Cond.instantiable C N ∈ lw_tbl) (hw3 : Cond.initialized C ∈ lw_tbl) (hfs : ∀ j, j < N → defaultValue (ty j) = vp_V fs j)
    (kk : xx_X G l M d c1 s1 (pc + 3) lv (.ref A.1 :: rest) (xx_push A (xx_o k fs)) Q) : xx_X G l M d (c1 + 1) (s1 + N) pc lv rest A Q := by
  intro p e R s m args below meth c H locs cells slots ls ho
  have hts := xx_words ho
  have hown := ho.1.2.2.2.2.2.2.1
  have hK := xx_va ho.2.1.2.1
  have hKn := hK.1 k _ hc.1
  obtain ⟨h1, h2, h3, h4, h5, h7⟩ := ho
  refine W.newcK h1.1 h1.2.1 hown (h2.1 _ hw1 rfl) (h2.1 _ hw2 rfl) (h2.1 _ hw3 rfl) rfl hdg (by omega) (by omega) hKn.2.1 h4.1 fun H1 kC hkC e1 z1 o1 => ?_
  exact kk p e R s m args below meth c H1 locs (cells + 1) (slots + N) ls ⟨h1, h2, ⟨h3.1, h3.2.1, by omega, by omega⟩, h4.new z1 o1 (xx_at_o h4.base hc.1 ((u_born ty hts (xx_cin hc) hKn hkC e1 hc.2.2.1).to hfs)), h5, h7⟩
/-- the arrays of a primitive type -/
theorem xx_newa {kd : Nat} {atype : ArrayType} {n : Int32} {N : Nat} {z : Value} (hdg : decode M.2.1 pc = .ok (.newarray atype, 2)) (hk : kd ∈ xx_ks) (hty : xx_ty kd = newarray.typeOf atype) (hp : ∀ C, newarray.typeOf atype ≠ .object C) (hw : Cond.arrayClass (newarray.typeOf atype) ∈ lw_tbl) (hz : defaultValue (newarray.typeOf atype) = z) (hn : ¬ n < 0) (hN : n.toNatClampNeg = N) (hby : N * componentBytes (newarray.typeOf atype) ≤ 536870912)
    (kk : xx_X G l M d c1 s1 (pc + 2) lv (.ref A.1 :: rest) (xx_push A (kd, N, fun _ => z)) Q) : xx_X G l M d (c1 + 1) (s1 + N) pc lv (.int n :: rest) A Q := by
  intro p e R s m args below meth c H locs cells slots ls ho
  obtain ⟨h1, h2, h3, h4, h5, h7⟩ := ho
  refine va_newaK h1.1 h1.2.1 (h2.1 _ hw rfl) rfl hdg rfl hn hN hby (by omega) (by omega) h4.1 fun H1 cA e1 z1 o1 hAr hNm => ?_
  have hra := (h2.2.1.2.1 kd hk).2
  have hcA : cA = G.2.2 kd := by
    rw [hty] at hra
    generalize newarray.typeOf atype = t at hra hp hNm
    cases t <;> first | exact absurd rfl (hp _) | exact Option.some.inj (hNm.symm.trans hra)
  subst hcA
  rw [hz] at e1
  exact kk p e R s m args below meth c H1 locs (cells + 1) (slots + N) ls ⟨h1, h2, ⟨h3.1, h3.2.1, by omega, by omega⟩, h4.new z1 o1 (xx_at_a hk h4.base e1), h5, h7⟩
/-- the arrays of one of the classes -/
theorem xx_anew {kd : Nat} {C : String} {index : Nat} {n : Int32} {N : Nat} (hdg : decode M.2.1 pc = .ok (.anewarray index, 3)) (hk : kd ∈ xx_ks) (hty : xx_ty kd = .object C) (hao : C ∈ xx_aos) (hw : Cond.classLink M.1.cls index C ∈ lw_tbl) (hn : ¬ n < 0) (hN : n.toNatClampNeg = N) (hby : N * 4 ≤ 536870912)
    (kk : xx_X G l M d c1 s1 (pc + 3) lv (.ref A.1 :: rest) (xx_push A (kd, N, fun _ => .null)) Q) : xx_X G l M d (c1 + 1) (s1 + N) pc lv (.int n :: rest) A Q := by
  intro p e R s m args below meth c H locs cells slots ls ho
  obtain ⟨h1, h2, h3, h4, h5, h7⟩ := ho
  subst hN
  refine W.anew h1.1 h1.2.1 h1.2.2.2.2.2.2.1 (h2.1 _ hw rfl) (va_AO.use (h2.2.1.2.2.2.2.1 C hao)) rfl hdg rfl hn hby (by omega) (by omega) fun cA kA comp f1 f2 f3 f4 => ?_
  have hra := (h2.2.1.2.1 kd hk).2
  rw [hty] at hra
  obtain ⟨kA2, comp2, -, -, -, g4⟩ := hra
  have hcA : cA = G.2.2 kd := Option.some.inj (f1.symm.trans g4)
  subst hcA
  have hz := h4.1
  have e1 : (H.push ({ cls := G.2.2 kd, slots := Array.replicate n.toNatClampNeg .null, vm := .none } : Cell))[A.1]? = some (arrV (G.2.2 kd) n.toNatClampNeg (fun _ => .null)) := by
    rw [← arrV_new, ← hz]; simp
  have r := kk p e R s m args below meth c (H.push ({ cls := G.2.2 kd, slots := Array.replicate n.toNatClampNeg .null, vm := .none } : Cell)) locs (cells + 1) (slots + n.toNatClampNeg) ls ⟨h1, h2, ⟨h3.1, h3.2.1, by omega, by omega⟩, h4.new (by simp [hz]) (fun q hq => by rw [Array.getElem?_push, if_neg (by omega)]) (xx_at_a hk h4.base e1), h5, h7⟩
  rw [hz]
  exact r
theorem xx_ain {n : Nat} {i : Int32} {cA : ClassId} {f : Nat → Value} (hin : vp_in i n) : ¬ (i < 0 ∨ (arrV cA n f).slots.size ≤ i.toNatClampNeg) := by rw [arrV_size]; exact hin
theorem xx_alt {n : Nat} {i : Int32} (hin : vp_in i n) : i.toNatClampNeg < n := Nat.not_le.mp fun q => hin (Or.inr q)
theorem xx_iald {a n : Nat} {f : Nat → Int32} {i : Int32} (hdg : decode M.2.1 pc = .ok (.iaload, 1)) (hA : A.2 a = xx_i n f) (hin : vp_in i n) (kk : xx_X G l M d c1 s1 (pc + 1) lv (.int (f i.toNatClampNeg) :: rest) A Q) : xx_X G l M d c1 s1 pc lv (.int i :: .ref a :: rest) A Q := by
  intro p e R s m args below meth c H locs cells slots ls ho
  obtain ⟨hb, hc⟩ := xx_arr ho.2.2.2.1 hA (by decide)
  exact W.iald (v := .int (f i.toNatClampNeg)) ho.1.1 ho.1.2.1 hc ((ho.2.1.2.1.2.1 1 (by decide)).1 _ _) (fun h => by cases h) (xx_ain hin) (arrV_read _ _ (xx_alt hin)) rfl rfl hdg (kk p e R s m args below meth c H locs cells slots ls ho)
theorem xx_lald {a n : Nat} {f : Nat → Int64} {i : Int32} (hdg : decode M.2.1 pc = .ok (.laload, 1)) (hA : A.2 a = xx_l n f) (hin : vp_in i n) (kk : xx_X G l M d c1 s1 (pc + 1) lv (.long (f i.toNatClampNeg) :: rest) A Q) : xx_X G l M d c1 s1 pc lv (.int i :: .ref a :: rest) A Q := by
  intro p e R s m args below meth c H locs cells slots ls ho
  obtain ⟨hb, hc⟩ := xx_arr ho.2.2.2.1 hA (by decide)
  exact W.lald (v := .long (f i.toNatClampNeg)) ho.1.1 ho.1.2.1 hc ((ho.2.1.2.1.2.1 3 (by decide)).1 _ _) (fun h => by cases h) (xx_ain hin) (arrV_read _ _ (xx_alt hin)) rfl rfl hdg (kk p e R s m args below meth c H locs cells slots ls ho)
theorem xx_zald {a n : Nat} {f : Nat → Int32} {i : Int32} (hdg : decode M.2.1 pc = .ok (.baload, 1)) (hA : A.2 a = xx_z n f) (hin : vp_in i n) (kk : xx_X G l M d c1 s1 (pc + 1) lv (.int (f i.toNatClampNeg) :: rest) A Q) : xx_X G l M d c1 s1 pc lv (.int i :: .ref a :: rest) A Q := by
  intro p e R s m args below meth c H locs cells slots ls ho
  obtain ⟨hb, hc⟩ := xx_arr ho.2.2.2.1 hA (by decide)
  exact W.zald (v := .int (f i.toNatClampNeg)) ho.1.1 ho.1.2.1 hc ((ho.2.1.2.1.2.1 4 (by decide)).1 _ _) (fun h => by cases h) (xx_ain hin) (arrV_read _ _ (xx_alt hin)) rfl rfl hdg (kk p e R s m args below meth c H locs cells slots ls ho)
/-- a reference out of an array of references -/
theorem xx_aald {kd a b n : Nat} {f : Nat → Option Nat} {i : Int32} (hdg : decode M.2.1 pc = .ok (.aaload, 1)) (hk : kd ∈ xx_ks) (hr : (xx_ty kd).isReference = true) (hA : A.2 a = xx_r kd n f) (hin : vp_in i n) (hf : f i.toNatClampNeg = some b) (kk : xx_X G l M d c1 s1 (pc + 1) lv (.ref b :: rest) A Q) : xx_X G l M d c1 s1 pc lv (.int i :: .ref a :: rest) A Q := by
  intro p e R s m args below meth c H locs cells slots ls ho
  obtain ⟨hb, hc⟩ := xx_arr ho.2.2.2.1 hA hk
  exact W.aald (v := .ref b) ho.1.1 ho.1.2.1 hc ((ho.2.1.2.1.2.1 kd hk).1 _ _) hr (fun h => by cases h) (xx_ain hin) (by rw [arrV_read _ _ (xx_alt hin), hf]; rfl) rfl rfl hdg (kk p e R s m args below meth c H locs cells slots ls ho)
theorem xx_alen {kd a n : Nat} {f : Nat → Value} {v : Int32} (hdg : decode M.2.1 pc = .ok (.arraylength, 1)) (hk : kd ∈ xx_ks) (hA : A.2 a = (kd, n, f)) (hv : Int32.ofNat n = v) (kk : xx_X G l M d c1 s1 (pc + 1) lv (.int v :: rest) A Q) : xx_X G l M d c1 s1 pc lv (.ref a :: rest) A Q := by
  intro p e R s m args below meth c H locs cells slots ls ho
  obtain ⟨hb, hc⟩ := xx_arr ho.2.2.2.1 hA hk
  subst hv
  exact W.alen (n := Int32.ofNat n) ho.1.1 ho.1.2.1 hc ((ho.2.1.2.1.2.1 kd hk).1 _ _) (by rw [arrV_size] <;> rfl) rfl rfl hdg (kk p e R s m args below meth c H locs cells slots ls ho)
theorem xx_scr {H : Heap} {a n : Nat} {f : Nat → Int32} {s : State} (h : xx_R G A H) (hK : xx_K G s) (hA : A.2 a = xx_s n f) : ∃ cell : Cell, H[a]? = some cell ∧ s.isArrayOf cell .int ∧ cell.vm ≠ .unknown ∧ cell.slots.size = n ∧ ∀ j, j < n → cell.slots[j]? = some (.int (f j)) := by
  have h1 := h.2.2.2 a
  rw [hA] at h1
  obtain ⟨cell, g1, g2, g3, g4, g5, g6⟩ := h1.scr
  refine ⟨cell, g1, ⟨g4, ?_⟩, g3, g5, g6⟩
  rw [g2]
  exact (hK.2.2.1 0 (fun _ => .null)).2
theorem xx_sald {a n : Nat} {f : Nat → Int32} {i : Int32} (hdg : decode M.2.1 pc = .ok (.iaload, 1)) (hA : A.2 a = xx_s n f) (hin : vp_in i n) (kk : xx_X G l M d c1 s1 (pc + 1) lv (.int (f i.toNatClampNeg) :: rest) A Q) : xx_X G l M d c1 s1 pc lv (.int i :: .ref a :: rest) A Q := by
  intro p e R s m args below meth c H locs cells slots ls ho
  obtain ⟨cell, g1, g2, g3, g5, g6⟩ := xx_scr ho.2.2.2.1 ho.2.1.2.1 hA
  exact W.iald (v := .int (f i.toNatClampNeg)) ho.1.1 ho.1.2.1 g1 g2 g3 (by rw [g5]; exact hin) (g6 _ (xx_alt hin)) rfl rfl hdg (kk p e R s m args below meth c H locs cells slots ls ho)
theorem xx_slen {a n : Nat} {f : Nat → Int32} {v : Int32} (hdg : decode M.2.1 pc = .ok (.arraylength, 1)) (hA : A.2 a = xx_s n f) (hv : Int32.ofNat n = v) (kk : xx_X G l M d c1 s1 (pc + 1) lv (.int v :: rest) A Q) : xx_X G l M d c1 s1 pc lv (.ref a :: rest) A Q := by
  intro p e R s m args below meth c H locs cells slots ls ho
  obtain ⟨cell, g1, g2, g3, g5, g6⟩ := xx_scr ho.2.2.2.1 ho.2.1.2.1 hA
  subst hv
  exact W.alen (n := Int32.ofNat n) ho.1.1 ho.1.2.1 g1 g2 (by rw [g5] <;> rfl) rfl rfl hdg (kk p e R s m args below meth c H locs cells slots ls ho)
theorem xx_lc {H : Heap} {locs : List Loc} {a j : Nat} (h5 : ∀ q ∈ locs, G.1.size ≤ q.base) (hb : G.1.size ≤ a) : ∀ q ∈ locs ++ [⟨a, j⟩], G.1.size ≤ q.base := by
  intro q hq
  rcases List.mem_append.mp hq with hq | hq
  · exact h5 q hq
  · rw [List.mem_singleton.mp hq]; exact hb
theorem xx_iast {a n : Nat} {f : Nat → Int32} {i x : Int32} (hdg : decode M.2.1 pc = .ok (.iastore, 1)) (hA : A.2 a = xx_i n f) (hin : vp_in i n) (kk : xx_X G l M d c1 s1 (pc + 1) lv rest (xx_up A a (xx_i n (upd f i.toNatClampNeg x))) Q) : xx_X G l M d c1 s1 pc lv (.int x :: .int i :: .ref a :: rest) A Q := by
  intro p e R s m args below meth c H locs cells slots ls ho
  obtain ⟨hb, hc⟩ := xx_arr ho.2.2.2.1 hA (by decide)
  refine W.iast ho.1.1 ho.1.2.1 hc ((ho.2.1.2.1.2.1 1 (by decide)).1 _ _) (fun h => by cases h) (xx_ain hin) rfl rfl hdg fun H1 e1 e2 e3 => ?_
  obtain ⟨h1, h2, h3, h4, h5, h7⟩ := ho
  refine kk p e R s m args below meth c H1 _ cells slots ls ⟨h1, h2, h3, h4.set hb e2 e3 (xx_at_a (by decide) hb ?_), xx_lc (H := H) h5 hb, h7⟩
  rw [e1, arrV_store]
  congr 2
  funext q
  by_cases hq : q = i.toNatClampNeg
  · subst hq; simp [updV, upd]
  · simp [updV, upd, hq]
theorem xx_last {a n : Nat} {f : Nat → Int64} {i : Int32} {x : Int64} (hdg : decode M.2.1 pc = .ok (.lastore, 1)) (hA : A.2 a = xx_l n f) (hin : vp_in i n) (kk : xx_X G l M d c1 s1 (pc + 1) lv rest (xx_up A a (xx_l n (vp_updL f i.toNatClampNeg x))) Q) : xx_X G l M d c1 s1 pc lv (.long x :: .int i :: .ref a :: rest) A Q := by
  intro p e R s m args below meth c H locs cells slots ls ho
  obtain ⟨hb, hc⟩ := xx_arr ho.2.2.2.1 hA (by decide)
  refine W.last ho.1.1 ho.1.2.1 hc ((ho.2.1.2.1.2.1 3 (by decide)).1 _ _) (fun h => by cases h) (xx_ain hin) rfl rfl hdg fun H1 e1 e2 e3 => ?_
  obtain ⟨h1, h2, h3, h4, h5, h7⟩ := ho
  refine kk p e R s m args below meth c H1 _ cells slots ls ⟨h1, h2, h3, h4.set hb e2 e3 (xx_at_a (by decide) hb ?_), xx_lc (H := H) h5 hb, h7⟩
  rw [e1, arrV_store]
  congr 2
  funext q
  by_cases hq : q = i.toNatClampNeg
  · subst hq; simp [updV, vp_updL]
  · simp [updV, vp_updL, hq]
theorem xx_zast {a n : Nat} {f : Nat → Int32} {i x : Int32} (hdg : decode M.2.1 pc = .ok (.bastore, 1)) (hA : A.2 a = xx_z n f) (hin : vp_in i n) (kk : xx_X G l M d c1 s1 (pc + 1) lv rest (xx_up A a (xx_z n (upd f i.toNatClampNeg (vp_nar .boolean x)))) Q) : xx_X G l M d c1 s1 pc lv (.int x :: .int i :: .ref a :: rest) A Q := by
  intro p e R s m args below meth c H locs cells slots ls ho
  obtain ⟨hb, hc⟩ := xx_arr ho.2.2.2.1 hA (by decide)
  refine W.zast ho.1.1 ho.1.2.1 hc ((ho.2.1.2.1.2.1 4 (by decide)).1 _ _) (fun h => by cases h) (xx_ain hin) rfl rfl hdg fun H1 e1 e2 e3 => ?_
  obtain ⟨h1, h2, h3, h4, h5, h7⟩ := ho
  refine kk p e R s m args below meth c H1 _ cells slots ls ⟨h1, h2, h3, h4.set hb e2 e3 (xx_at_a (by decide) hb ?_), xx_lc (H := H) h5 hb, h7⟩
  rw [e1, arrV_store]
  congr 2
  funext q
  by_cases hq : q = i.toNatClampNeg
  · subst hq
    simp [updV, upd, vp_nar]
    try rfl
  · simp [updV, upd, hq]
/-- an object of class k into an array of its kind -/
theorem xx_aast {a b n : Nat} {f : Nat → Option Nat} {fs : List Value} {i : Int32} (hc : xx_cls k C T N ty) (hdg : decode M.2.1 pc = .ok (.aastore, 1)) (hk : 10 + k ∈ xx_ks) (hty : xx_ty (10 + k) = .object C) (hA : A.2 a = xx_r (10 + k) n f) (hB : A.2 b = xx_o k fs) (hin : vp_in i n) (kk : xx_X G l M d c1 s1 (pc + 1) lv rest (xx_up A a (xx_r (10 + k) n (va_up f i.toNatClampNeg (some b)))) Q) : xx_X G l M d c1 s1 pc lv (.ref b :: .int i :: .ref a :: rest) A Q := by
  intro p e R s m args below meth c H locs cells slots ls ho
  obtain ⟨hb, hcl⟩ := xx_arr ho.2.2.2.1 hA hk
  obtain ⟨-, r, hr, cellV, g1, g2, g3, -⟩ := xx_obj ho.2.2.2.1 hB
  have hcls := (ho.2.1.2.1.1 k _ hc.1).2
  have hra := (ho.2.1.2.1.2.1 (10 + k) hk).2
  rw [hty] at hra
  obtain ⟨kA, comp, k1, k2, k3, -⟩ := hra
  have hcomp : comp = G.2.1.1 k := Option.some.inj (k3.symm.trans hcls.1)
  subst hcomp
  obtain ⟨kC, hkC, -⟩ := hcls.2
  refine W.aast ho.1.1 ho.1.2.1 hcl (fun q h => by cases h) (fun h => by cases h) k1 k2 rfl hkC ⟨fun q => hin (Or.inl q), by rw [arrV_size]; exact xx_alt hin⟩ g1 (fun q h => by rw [g3] at h; cases h) (by rw [g2]; exact hkC) (by rw [g2]; exact va_assign hcls) rfl rfl hdg fun H1 e1 e2 e3 => ?_
  obtain ⟨h1, h2, h3, h4, h5, h7⟩ := ho
  refine kk p e R s m args below meth c H1 _ cells slots ls ⟨h1, h2, h3, h4.set hb e2 e3 (xx_at_a hk hb ?_), xx_lc (H := H) h5 hb, h7⟩
  rw [e1, arrV_store]
  congr 2
  funext q
  by_cases hq : q = i.toNatClampNeg
  · subst hq; simp [updV, va_up, va_rf]
  · simp [updV, va_up, hq]
end XH
