/-! ===== X: fresh names for heaps; small turns ===== -/
section XG
variable {G : xx_G} {l : Launch} {M : xx_M} {d c1 s1 pc : Nat} {lv : List (Nat × Value)} {st : List Value} {A : xx_H} {Q : Option Value ⊕ String → xx_H → Prop}
theorem xx_gu {a : Nat} {c : xx_C} (k : ∀ B : xx_H, B.1 = A.1 → B.2 a = c → (∀ q, q ≠ a → B.2 q = A.2 q) → xx_X G l M d c1 s1 pc lv st B Q) : xx_X G l M d c1 s1 pc lv st (xx_up A a c) Q :=
  k _ rfl (xx_up_s A a c) (fun q h => xx_up_n h)
theorem xx_gp {c : xx_C} (k : ∀ B : xx_H, B.1 = A.1 + 1 → B.2 A.1 = c → (∀ q, q ≠ A.1 → B.2 q = A.2 q) → xx_X G l M d c1 s1 pc lv st B Q) : xx_X G l M d c1 s1 pc lv st (xx_push A c) Q :=
  k _ rfl (xx_push_s A c) (fun q h => xx_push_n h)
theorem xx_gg {N K : Nat} (k : ∀ B : xx_H, B.1 = A.1 + 1 + N → B.2 A.1 = xx_r 5 N (fun j => some (A.1 + 1 + j)) → (∀ j, j < N → B.2 (A.1 + 1 + j) = xx_i K (fun _ => 0)) → (∀ q, q < A.1 → B.2 q = A.2 q) → xx_X G l M d c1 s1 pc lv st B Q) : xx_X G l M d c1 s1 pc lv st (xx_grid A N K) Q := by
  refine k _ rfl (if_pos rfl) (fun j hj => ?_) (fun q h => ?_)
  · show (if A.1 + 1 + j = A.1 then _ else if A.1 < A.1 + 1 + j ∧ A.1 + 1 + j < A.1 + 1 + N then _ else _) = _
    rw [if_neg (by omega), if_pos (by omega)]
  · show (if q = A.1 then _ else if A.1 < q ∧ q < A.1 + 1 + N then _ else _) = _
    rw [if_neg (by omega), if_neg (by omega)]
/-- what is pictured lies below the heap's end -/
theorem xx_wf (k : (∀ a, (A.2 a).1 ≠ 0 → a < A.1) → xx_X G l M d c1 s1 pc lv st A Q) : xx_X G l M d c1 s1 pc lv st A Q := by
  intro p e R s m args below meth c H locs cells slots ls ho
  exact k (fun a h => ho.2.2.2.1.free h) p e R s m args below meth c H locs cells slots ls ho
theorem xx_cst {st2 : List Value} (h : st = st2) (k : xx_X G l M d c1 s1 pc lv st2 A Q) : xx_X G l M d c1 s1 pc lv st A Q := h ▸ k
theorem xx_clv {lv2 : List (Nat × Value)} (h : lv = lv2) (k : xx_X G l M d c1 s1 pc lv2 st A Q) : xx_X G l M d c1 s1 pc lv st A Q := h ▸ k
theorem xx_cpc {pc2 : Nat} (h : pc = pc2) (k : xx_X G l M d c1 s1 pc2 lv st A Q) : xx_X G l M d c1 s1 pc lv st A Q := h ▸ k
variable {rest : List Value}
theorem xx_lushr {x : Int64} {y : Int32} (hdg : decode M.2.1 pc = .ok (.lushr, 1)) (k : xx_X G l M d c1 s1 (pc + 1) lv (.long (x.toUInt64 >>> (y.toInt64.toUInt64 &&& Int64.toUInt64 63)).toInt64 :: rest) A Q) : xx_X G l M d c1 s1 pc lv (.int y :: .long x :: rest) A Q := by
  intro p e R s m args below meth c H locs cells slots ls ho
  exact lv_lushr ho.1.1 ho.1.2.1 hdg rfl (k p e R s m args below meth c H locs cells slots ls ho)
theorem xx_lshl {x : Int64} {y : Int32} (hdg : decode M.2.1 pc = .ok (.lshl, 1)) (k : xx_X G l M d c1 s1 (pc + 1) lv (.long (x <<< (y.toInt64 &&& 63)) :: rest) A Q) : xx_X G l M d c1 s1 pc lv (.int y :: .long x :: rest) A Q := by
  intro p e R s m args below meth c H locs cells slots ls ho
  exact lv_lshl ho.1.1 ho.1.2.1 hdg rfl (k p e R s m args below meth c H locs cells slots ls ho)
theorem xx_lshr {x : Int64} {y : Int32} (hdg : decode M.2.1 pc = .ok (.lshr, 1)) (k : xx_X G l M d c1 s1 (pc + 1) lv (.long (x >>> (y.toInt64 &&& 63)) :: rest) A Q) : xx_X G l M d c1 s1 pc lv (.int y :: .long x :: rest) A Q := by
  intro p e R s m args below meth c H locs cells slots ls ho
  exact lv_lshr ho.1.1 ho.1.2.1 hdg rfl (k p e R s m args below meth c H locs cells slots ls ho)
theorem xx_iushr {x y : Int32} (hdg : decode M.2.1 pc = .ok (.iushr, 1)) (k : xx_X G l M d c1 s1 (pc + 1) lv (.int (x.toUInt32 >>> (y.toUInt32 &&& Int32.toUInt32 31)).toInt32 :: rest) A Q) : xx_X G l M d c1 s1 pc lv (.int y :: .int x :: rest) A Q := by
  intro p e R s m args below meth c H locs cells slots ls ho
  exact lv_iushr ho.1.1 ho.1.2.1 hdg rfl (k p e R s m args below meth c H locs cells slots ls ho)
theorem xx_ldiv {x y : Int64} (hdg : decode M.2.1 pc = .ok (.ldiv, 1)) (hne : ¬ y = 0) (k : xx_X G l M d c1 s1 (pc + 1) lv (.long (x / y) :: rest) A Q) : xx_X G l M d c1 s1 pc lv (.long y :: .long x :: rest) A Q := by
  intro p e R s m args below meth c H locs cells slots ls ho
  exact lv_ldiv ho.1.1 ho.1.2.1 hdg hne (k p e R s m args below meth c H locs cells slots ls ho)
theorem xx_lrem {x y : Int64} (hdg : decode M.2.1 pc = .ok (.lrem, 1)) (hne : ¬ y = 0) (k : xx_X G l M d c1 s1 (pc + 1) lv (.long (x - x / y * y) :: rest) A Q) : xx_X G l M d c1 s1 pc lv (.long y :: .long x :: rest) A Q := by
  intro p e R s m args below meth c H locs cells slots ls ho
  exact lv_lrem ho.1.1 ho.1.2.1 hdg hne (k p e R s m args below meth c H locs cells slots ls ho)
/-- the words of Math's max, min, abs -/
def xx_mth (own : String) (index : Nat) (y : MethodName) (b : ByteArray) (n : Nat) : Prop := Cond.methodLink own index y ∈ lw_tbl ∧ Cond.static y ∈ lw_tbl ∧ Cond.initialized "java/lang/Math" ∈ lw_tbl ∧ Cond.code y b n (some .int) ∈ lw_tbl
theorem xx_mmax {index : Nat} {x y : Int32} (hdg : decode M.2.1 pc = .ok (.invokestatic index, 3)) (hw : xx_mth M.1.cls index Lib.Math.max.name Lib.Math.max.code 2) (hd : 1 ≤ d) (hr : (rest.map fun v => v.category).sum ≤ 40) (k : xx_X G l M d c1 s1 (pc + 3) lv (.int (if x < y then y else x) :: rest) A Q) : xx_X G l M d c1 s1 pc lv (.int y :: .int x :: rest) A Q := by
  intro p e R s m args below meth c H locs cells slots ls ho
  have h3 := ho.2.2.1
  exact va_mmax ho.1.1 ho.1.2.1 (ho.1.2.2.1.trans ho.2.2.2.2.2.1.symm) ho.1.2.2.2.2.2.2.1 (ho.2.1.1 _ hw.1 rfl) (ho.2.1.1 _ hw.2.1 rfl) (ho.2.1.1 _ hw.2.2.1 rfl) (ho.2.1.1 _ hw.2.2.2 rfl) (by omega) (by omega) (by omega) (by omega) hdg (k p e R s m args below meth c H locs cells slots ls ho)
theorem xx_mmin {index : Nat} {x y : Int32} (hdg : decode M.2.1 pc = .ok (.invokestatic index, 3)) (hw : xx_mth M.1.cls index Lib.Math.min.name Lib.Math.min.code 2) (hd : 1 ≤ d) (hr : (rest.map fun v => v.category).sum ≤ 40) (k : xx_X G l M d c1 s1 (pc + 3) lv (.int (if y < x then y else x) :: rest) A Q) : xx_X G l M d c1 s1 pc lv (.int y :: .int x :: rest) A Q := by
  intro p e R s m args below meth c H locs cells slots ls ho
  have h3 := ho.2.2.1
  exact va_mmin ho.1.1 ho.1.2.1 (ho.1.2.2.1.trans ho.2.2.2.2.2.1.symm) ho.1.2.2.2.2.2.2.1 (ho.2.1.1 _ hw.1 rfl) (ho.2.1.1 _ hw.2.1 rfl) (ho.2.1.1 _ hw.2.2.1 rfl) (ho.2.1.1 _ hw.2.2.2 rfl) (by omega) (by omega) (by omega) (by omega) hdg (k p e R s m args below meth c H locs cells slots ls ho)
theorem xx_mabs {index : Nat} {x : Int32} (hdg : decode M.2.1 pc = .ok (.invokestatic index, 3)) (hw : xx_mth M.1.cls index Lib.Math.abs.name Lib.Math.abs.code 1) (hd : 1 ≤ d) (hr : (rest.map fun v => v.category).sum ≤ 40) (k : xx_X G l M d c1 s1 (pc + 3) lv (.int (if 0 ≤ x then x else 0 - x) :: rest) A Q) : xx_X G l M d c1 s1 pc lv (.int x :: rest) A Q := by
  intro p e R s m args below meth c H locs cells slots ls ho
  have h3 := ho.2.2.1
  exact va_mabs ho.1.1 ho.1.2.1 (ho.1.2.2.1.trans ho.2.2.2.2.2.1.symm) ho.1.2.2.2.2.2.2.1 (ho.2.1.1 _ hw.1 rfl) (ho.2.1.1 _ hw.2.1 rfl) (ho.2.1.1 _ hw.2.2.1 rfl) (ho.2.1.1 _ hw.2.2.2 rfl) (by omega) (by omega) (by omega) (by omega) hdg (k p e R s m args below meth c H locs cells slots ls ho)
end XG
